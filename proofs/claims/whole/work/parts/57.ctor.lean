theorem ac_int : Cond.arrayClass .int ∈ zT := zChk_ok (ps := [169]) (ws := [Cond.arrayClass .int]) (by decide +kernel) _ (.head _)
theorem ac_boolean : Cond.arrayClass .boolean ∈ zT := zChk_ok (ps := [189]) (ws := [Cond.arrayClass .boolean]) (by decide +kernel) _ (.head _)
theorem ac_long : Cond.arrayClass .long ∈ zT := zChk_ok (ps := [210]) (ws := [Cond.arrayClass .long]) (by decide +kernel) _ (.head _)
theorem nwL_7 : zNw RL 7 4 := have h : zChk [84, 85, 71] [Cond.classLink RL 7 RX4, Cond.instantiable RX4 7, Cond.initialized RX4] = true := by decide +kernel
  ⟨(RX4, TX4, 7), rfl, zChk_ok h _ (.head _), zChk_ok h _ (.tail _ (.head _)), zChk_ok h _ (.tail _ (.tail _ (.head _)))⟩
theorem nwX4_7 : zNw RX4 7 1 := have h : zChk [92, 93, 72] [Cond.classLink RX4 7 RX1, Cond.instantiable RX1 14, Cond.initialized RX1] = true := by decide +kernel
  ⟨(RX1, TX1, 14), rfl, zChk_ok h _ (.head _), zChk_ok h _ (.tail _ (.head _)), zChk_ok h _ (.tail _ (.tail _ (.head _)))⟩
theorem nwX4_19 : zNw RX4 19 0 := have h : zChk [170, 171, 73] [Cond.classLink RX4 19 RX0, Cond.instantiable RX0 3, Cond.initialized RX0] = true := by decide +kernel
  ⟨(RX0, TX0, 3), rfl, zChk_ok h _ (.head _), zChk_ok h _ (.tail _ (.head _)), zChk_ok h _ (.tail _ (.tail _ (.head _)))⟩
theorem nwX0_9 : zNw RX0 9 1 := have h : zChk [176, 93, 72] [Cond.classLink RX0 9 RX1, Cond.instantiable RX1 14, Cond.initialized RX1] = true := by decide +kernel
  ⟨(RX1, TX1, 14), rfl, zChk_ok h _ (.head _), zChk_ok h _ (.tail _ (.head _)), zChk_ok h _ (.tail _ (.tail _ (.head _)))⟩
theorem nwX4_26 : zNw RX4 26 2 := have h : zChk [190, 192, 74] [Cond.classLink RX4 26 RX2, Cond.instantiable RX2 3, Cond.initialized RX2] = true := by decide +kernel
  ⟨(RX2, TX2, 3), rfl, zChk_ok h _ (.head _), zChk_ok h _ (.tail _ (.head _)), zChk_ok h _ (.tail _ (.tail _ (.head _)))⟩
theorem nwX4_33 : zNw RX4 33 3 := have h : zChk [211, 212, 75] [Cond.classLink RX4 33 RX3, Cond.instantiable RX3 6, Cond.initialized RX3] = true := by decide +kernel
  ⟨(RX3, TX3, 6), rfl, zChk_ok h _ (.head _), zChk_ok h _ (.tail _ (.head _)), zChk_ok h _ (.tail _ (.tail _ (.head _)))⟩
theorem nwL_10 : zNw RL 10 5 := have h : zChk [1017, 1018, 76] [Cond.classLink RL 10 RX5, Cond.instantiable RX5 41, Cond.initialized RX5] = true := by decide +kernel
  ⟨(RX5, TX5, 41), rfl, zChk_ok h _ (.head _), zChk_ok h _ (.tail _ (.head _)), zChk_ok h _ (.tail _ (.tail _ (.head _)))⟩
theorem nwX5_8 : zNw RX5 8 5 := have h : zChk [1277, 1018, 76] [Cond.classLink RX5 8 RX5, Cond.instantiable RX5 41, Cond.initialized RX5] = true := by decide +kernel
  ⟨(RX5, TX5, 41), rfl, zChk_ok h _ (.head _), zChk_ok h _ (.tail _ (.head _)), zChk_ok h _ (.tail _ (.tail _ (.head _)))⟩
theorem cl_sh : Cond.classLink RX4 26 RX2 ∈ zT := zChk_ok (ps := [190]) (ws := [Cond.classLink RX4 26 RX2]) (by decide +kernel) _ (.head _)
theorem cl_jj : Cond.classLink RX5 19 "[[J" ∈ zT ∧ Cond.arrayClass .long ∈ zT := ⟨zChk_ok (ps := [1023]) (ws := [Cond.classLink RX5 19 "[[J"]) (by decide +kernel) _ (.head _), ac_long⟩
theorem obX4 : Cond.methodLink RX4 1 objectInit ∈ zT ∧ Cond.instanceMethod objectInit ∈ zT ∧ Cond.code objectInit ⟨#[0xb1]⟩ 1 none ∈ zT := have h : zChk [89, 90, 91] [Cond.methodLink RX4 1 objectInit, Cond.instanceMethod objectInit, Cond.code objectInit ⟨#[0xb1]⟩ 1 none] = true := by decide +kernel
  ⟨zChk_ok h _ (.head _), zChk_ok h _ (.tail _ (.head _)), zChk_ok h _ (.tail _ (.tail _ (.head _)))⟩
theorem obX1 : Cond.methodLink RX1 3 objectInit ∈ zT ∧ Cond.instanceMethod objectInit ∈ zT ∧ Cond.code objectInit ⟨#[0xb1]⟩ 1 none ∈ zT := have h : zChk [97, 90, 91] [Cond.methodLink RX1 3 objectInit, Cond.instanceMethod objectInit, Cond.code objectInit ⟨#[0xb1]⟩ 1 none] = true := by decide +kernel
  ⟨zChk_ok h _ (.head _), zChk_ok h _ (.tail _ (.head _)), zChk_ok h _ (.tail _ (.tail _ (.head _)))⟩
theorem obX0 : Cond.methodLink RX0 3 objectInit ∈ zT ∧ Cond.instanceMethod objectInit ∈ zT ∧ Cond.code objectInit ⟨#[0xb1]⟩ 1 none ∈ zT := have h : zChk [175, 90, 91] [Cond.methodLink RX0 3 objectInit, Cond.instanceMethod objectInit, Cond.code objectInit ⟨#[0xb1]⟩ 1 none] = true := by decide +kernel
  ⟨zChk_ok h _ (.head _), zChk_ok h _ (.tail _ (.head _)), zChk_ok h _ (.tail _ (.tail _ (.head _)))⟩
theorem obX2 : Cond.methodLink RX2 3 objectInit ∈ zT ∧ Cond.instanceMethod objectInit ∈ zT ∧ Cond.code objectInit ⟨#[0xb1]⟩ 1 none ∈ zT := have h : zChk [196, 90, 91] [Cond.methodLink RX2 3 objectInit, Cond.instanceMethod objectInit, Cond.code objectInit ⟨#[0xb1]⟩ 1 none] = true := by decide +kernel
  ⟨zChk_ok h _ (.head _), zChk_ok h _ (.tail _ (.head _)), zChk_ok h _ (.tail _ (.tail _ (.head _)))⟩
theorem obX3 : Cond.methodLink RX3 3 objectInit ∈ zT ∧ Cond.instanceMethod objectInit ∈ zT ∧ Cond.code objectInit ⟨#[0xb1]⟩ 1 none ∈ zT := have h : zChk [216, 90, 91] [Cond.methodLink RX3 3 objectInit, Cond.instanceMethod objectInit, Cond.code objectInit ⟨#[0xb1]⟩ 1 none] = true := by decide +kernel
  ⟨zChk_ok h _ (.head _), zChk_ok h _ (.tail _ (.head _)), zChk_ok h _ (.tail _ (.tail _ (.head _)))⟩
theorem obX5 : Cond.methodLink RX5 1 objectInit ∈ zT ∧ Cond.instanceMethod objectInit ∈ zT ∧ Cond.code objectInit ⟨#[0xb1]⟩ 1 none ∈ zT := have h : zChk [1022, 90, 91] [Cond.methodLink RX5 1 objectInit, Cond.instanceMethod objectInit, Cond.code objectInit ⟨#[0xb1]⟩ 1 none] = true := by decide +kernel
  ⟨zChk_ok h _ (.head _), zChk_ok h _ (.tail _ (.head _)), zChk_ok h _ (.tail _ (.tail _ (.head _)))⟩
def fs0X0 : List Value := [.null, .null, .null]
def fs0X1 : List Value := [.int 0, .null, .null, .null, .null, .int 0, .int 0, .int 0, .int 0, .int 0, .null, .null, .null, .null]
def fs0X2 : List Value := [.int 0, .int 0, .null]
def fs0X3 : List Value := [.null, .int 0, .int 0, .int 0, .int 0, .int 0]
def fs0X4 : List Value := [.null, .null, .null, .null, .null, .null, .int 0]
def fs0X5 : List Value := [.null, .null, .null, .null, .null, .null, .null, .int 0, .null, .int 0, .null, .null, .null, .null, .int 0, .int 0, .int 0, .int 0, .null, .null, .null, .null, .int 0, .null, .null, .int 0, .int 0, .int 0, .int 0, .int 0, .null, .int 0, .int 0, .int 0, .null, .null, .int 0, .int 0, .int 0, .null, .int 0]
def σ0 : Ln := fun f => if f = 0 then (fun _ => 8) else if f = 8 then (fun _ => 1) else fun _ => 0
def τ0 : Ln := fun _ _ => 0
def ε0 : El := fun _ _ => 0
theorem z_cs {D : zD} {B : Nat} {X : zX} {cs ss a b : Nat} {Q : zQ} {pc : Nat} {L : List (Option Value)} {st : List Value} {h : zH} {sz : Nat} (h1 : cs = a) (h2 : ss = b) (k : Z D B X a b Q pc L st h sz) : Z D B X cs ss Q pc L st h sz := by
  subst h1
  subst h2
  exact k
theorem z_sz {D : zD} {B : Nat} {X : zX} {cs ss a : Nat} {Q : zQ} {pc : Nat} {L : List (Option Value)} {st : List Value} {h : zH} {sz : Nat} (h1 : sz = a) (k : Z D B X cs ss Q pc L st h a) : Z D B X cs ss Q pc L st h sz := by
  subst h1
  exact k
set_option maxRecDepth 20000 in
set_option maxHeartbeats 4000000 in
theorem c_I1 {D : zD} {B : Nat} {h : zH} {p : Nat} (ho : h p = some (zO 1 fs0X1)) (hB : B ≤ p) : zM D B xX1_init [.ref p] h (p + 1) (fun r h1 z1 => r = none ∧ LnAt h1 p σ0 ∧ Upd h h1 p 9 ∧ z1 = p + 9) := by
  have hU : Upd h h p 9 := Upd.rf
  refine zM.of (by decide) rfl (n := 0) ?_
  show Z D B xX1_init 0 0 _ 0 [some (.ref p)] [] h (p + 1)
  refine z_aload_n (pc := 0) (zk0 kX1_init_0) rfl ?_
  refine z_objInit (pc := 1) (zk1 kX1_init_0) obX1 rfl rfl ?_
  refine z_aload_n (pc := 4) (zk2 kX1_init_0) rfl ?_
  refine z_bipush (pc := 5) (zk3 kX1_init_0) (v := 8) (by decide) ?_
  refine z_putf (pc := 7) (zk4 kX1_init_0) flX1_9 ho hB rfl rfl (Nat.le_of_ble_eq_true rfl) ?_
  show Z D B xX1_init 0 0 _ 10 [some (.ref p)] [] (zup h p (zO 1 [.int 8, .null, .null, .null, .null, .int 0, .int 0, .int 0, .int 0, .int 0, .null, .null, .null, .null])) (p + 1)
  have hU_1 : Upd h (zup h p (zO 1 [.int 8, .null, .null, .null, .null, .int 0, .int 0, .int 0, .int 0, .int 0, .null, .null, .null, .null])) p 1 := Upd.one
  have hn_3 : (zup h p (zO 1 [.int 8, .null, .null, .null, .null, .int 0, .int 0, .int 0, .int 0, .int 0, .null, .null, .null, .null])) p = some (zO 1 [.int 8, .null, .null, .null, .null, .int 0, .int 0, .int 0, .int 0, .int 0, .null, .null, .null, .null]) := zup_s
  generalize zup h p (zO 1 [.int 8, .null, .null, .null, .null, .int 0, .int 0, .int 0, .int 0, .int 0, .null, .null, .null, .null]) = g_2 at hU_1 hn_3 ⊢
  replace hU := hU.tr hU_1 (by omega) (by omega)
  replace ho := hn_3; clear hn_3
  refine z_aload_n (pc := 10) (zk5 kX1_init_0) rfl ?_
  refine z_bipush (pc := 11) (zk6 kX1_init_0) (v := 12) (by decide) ?_
  refine z_newa (pc := 13) (kd := 0) (N := 12) (a0 := (12, .inl (fun _ => 0))) (zk7 kX1_init_0) ac_int (fun _ => rfl) (fun _ => rfl) (by decide) (by decide) rfl rfl rfl (fun _ => ?_)
  have hU_5 : Upd g_2 (zup g_2 (p + 1) (zI 12 (fun _ => 0))) (p + 1) 1 := Upd.one
  have hn_7 : (zup g_2 (p + 1) (zI 12 (fun _ => 0))) (p + 1) = some (zI 12 (fun _ => 0)) := zup_s
  generalize zup g_2 (p + 1) (zI 12 (fun _ => 0)) = g_6 at hU_5 hn_7 ⊢
  replace ho := (hU_5 _ (by omega)).trans ho
  replace hU := hU.tr hU_5 (by omega) (by omega)
  have c_4 := hn_7; clear hn_7
  refine z_sz (a := (p + 2)) rfl ?_
  show Z D B xX1_init 1 12 _ 15 [some (.ref p)] [.ref (p + 1), .ref p] g_6 (p + 2)
  refine z_putF (pc := 15) (zk8 kX1_init_0) flX1_15 rfl rfl ho hB rfl rfl (Nat.le_of_ble_eq_true rfl) ?_
  show Z D B xX1_init 1 12 _ 18 [some (.ref p)] [] (zup g_6 p (zO 1 [.int 8, .ref (p + 1), .null, .null, .null, .int 0, .int 0, .int 0, .int 0, .int 0, .null, .null, .null, .null])) (p + 2)
  have hU_8 : Upd g_6 (zup g_6 p (zO 1 [.int 8, .ref (p + 1), .null, .null, .null, .int 0, .int 0, .int 0, .int 0, .int 0, .null, .null, .null, .null])) p 1 := Upd.one
  have hn_10 : (zup g_6 p (zO 1 [.int 8, .ref (p + 1), .null, .null, .null, .int 0, .int 0, .int 0, .int 0, .int 0, .null, .null, .null, .null])) p = some (zO 1 [.int 8, .ref (p + 1), .null, .null, .null, .int 0, .int 0, .int 0, .int 0, .int 0, .null, .null, .null, .null]) := zup_s
  generalize zup g_6 p (zO 1 [.int 8, .ref (p + 1), .null, .null, .null, .int 0, .int 0, .int 0, .int 0, .int 0, .null, .null, .null, .null]) = g_9 at hU_8 hn_10 ⊢
  replace c_4 := (hU_8 _ (by omega)).trans c_4
  replace hU := hU.tr hU_8 (by omega) (by omega)
  replace ho := hn_10; clear hn_10
  refine z_aload_n (pc := 18) (zk9 kX1_init_0) rfl ?_
  refine z_bipush (pc := 19) (zk10 kX1_init_0) (v := 12) (by decide) ?_
  refine z_newa (pc := 21) (kd := 0) (N := 12) (a0 := (12, .inl (fun _ => 0))) (zk11 kX1_init_0) ac_int (fun _ => rfl) (fun _ => rfl) (by decide) (by decide) rfl rfl rfl (fun _ => ?_)
  have hU_12 : Upd g_9 (zup g_9 (p + 2) (zI 12 (fun _ => 0))) (p + 2) 1 := Upd.one
  have hn_14 : (zup g_9 (p + 2) (zI 12 (fun _ => 0))) (p + 2) = some (zI 12 (fun _ => 0)) := zup_s
  generalize zup g_9 (p + 2) (zI 12 (fun _ => 0)) = g_13 at hU_12 hn_14 ⊢
  replace ho := (hU_12 _ (by omega)).trans ho
  replace c_4 := (hU_12 _ (by omega)).trans c_4
  replace hU := hU.tr hU_12 (by omega) (by omega)
  have c_11 := hn_14; clear hn_14
  refine z_sz (a := (p + 3)) rfl ?_
  show Z D B xX1_init 2 24 _ 23 [some (.ref p)] [.ref (p + 2), .ref p] g_13 (p + 3)
  refine z_putF (pc := 23) (zk12 kX1_init_0) flX1_19 rfl rfl ho hB rfl rfl (Nat.le_of_ble_eq_true rfl) ?_
  show Z D B xX1_init 2 24 _ 26 [some (.ref p)] [] (zup g_13 p (zO 1 [.int 8, .ref (p + 1), .ref (p + 2), .null, .null, .int 0, .int 0, .int 0, .int 0, .int 0, .null, .null, .null, .null])) (p + 3)
  have hU_15 : Upd g_13 (zup g_13 p (zO 1 [.int 8, .ref (p + 1), .ref (p + 2), .null, .null, .int 0, .int 0, .int 0, .int 0, .int 0, .null, .null, .null, .null])) p 1 := Upd.one
  have hn_17 : (zup g_13 p (zO 1 [.int 8, .ref (p + 1), .ref (p + 2), .null, .null, .int 0, .int 0, .int 0, .int 0, .int 0, .null, .null, .null, .null])) p = some (zO 1 [.int 8, .ref (p + 1), .ref (p + 2), .null, .null, .int 0, .int 0, .int 0, .int 0, .int 0, .null, .null, .null, .null]) := zup_s
  generalize zup g_13 p (zO 1 [.int 8, .ref (p + 1), .ref (p + 2), .null, .null, .int 0, .int 0, .int 0, .int 0, .int 0, .null, .null, .null, .null]) = g_16 at hU_15 hn_17 ⊢
  replace c_4 := (hU_15 _ (by omega)).trans c_4
  replace c_11 := (hU_15 _ (by omega)).trans c_11
  replace hU := hU.tr hU_15 (by omega) (by omega)
  replace ho := hn_17; clear hn_17
  refine z_aload_n (pc := 26) (zk13 kX1_init_0) rfl ?_
  refine z_bipush (pc := 27) (zk14 kX1_init_0) (v := 12) (by decide) ?_
  refine z_newa (pc := 29) (kd := 0) (N := 12) (a0 := (12, .inl (fun _ => 0))) (zk15 kX1_init_0) ac_int (fun _ => rfl) (fun _ => rfl) (by decide) (by decide) rfl rfl rfl (fun _ => ?_)
  have hU_19 : Upd g_16 (zup g_16 (p + 3) (zI 12 (fun _ => 0))) (p + 3) 1 := Upd.one
  have hn_21 : (zup g_16 (p + 3) (zI 12 (fun _ => 0))) (p + 3) = some (zI 12 (fun _ => 0)) := zup_s
  generalize zup g_16 (p + 3) (zI 12 (fun _ => 0)) = g_20 at hU_19 hn_21 ⊢
  replace ho := (hU_19 _ (by omega)).trans ho
  replace c_4 := (hU_19 _ (by omega)).trans c_4
  replace c_11 := (hU_19 _ (by omega)).trans c_11
  replace hU := hU.tr hU_19 (by omega) (by omega)
  have c_18 := hn_21; clear hn_21
  refine z_sz (a := (p + 4)) rfl ?_
  show Z D B xX1_init 3 36 _ 31 [some (.ref p)] [.ref (p + 3), .ref p] g_20 (p + 4)
  refine z_putF (pc := 31) (zk0 kX1_init_1) flX1_22 rfl rfl ho hB rfl rfl (Nat.le_of_ble_eq_true rfl) ?_
  show Z D B xX1_init 3 36 _ 34 [some (.ref p)] [] (zup g_20 p (zO 1 [.int 8, .ref (p + 1), .ref (p + 2), .ref (p + 3), .null, .int 0, .int 0, .int 0, .int 0, .int 0, .null, .null, .null, .null])) (p + 4)
  have hU_22 : Upd g_20 (zup g_20 p (zO 1 [.int 8, .ref (p + 1), .ref (p + 2), .ref (p + 3), .null, .int 0, .int 0, .int 0, .int 0, .int 0, .null, .null, .null, .null])) p 1 := Upd.one
  have hn_24 : (zup g_20 p (zO 1 [.int 8, .ref (p + 1), .ref (p + 2), .ref (p + 3), .null, .int 0, .int 0, .int 0, .int 0, .int 0, .null, .null, .null, .null])) p = some (zO 1 [.int 8, .ref (p + 1), .ref (p + 2), .ref (p + 3), .null, .int 0, .int 0, .int 0, .int 0, .int 0, .null, .null, .null, .null]) := zup_s
  generalize zup g_20 p (zO 1 [.int 8, .ref (p + 1), .ref (p + 2), .ref (p + 3), .null, .int 0, .int 0, .int 0, .int 0, .int 0, .null, .null, .null, .null]) = g_23 at hU_22 hn_24 ⊢
  replace c_4 := (hU_22 _ (by omega)).trans c_4
  replace c_11 := (hU_22 _ (by omega)).trans c_11
  replace c_18 := (hU_22 _ (by omega)).trans c_18
  replace hU := hU.tr hU_22 (by omega) (by omega)
  replace ho := hn_24; clear hn_24
  refine z_aload_n (pc := 34) (zk1 kX1_init_1) rfl ?_
  refine z_bipush (pc := 35) (zk2 kX1_init_1) (v := 12) (by decide) ?_
  refine z_newa (pc := 37) (kd := 0) (N := 12) (a0 := (12, .inl (fun _ => 0))) (zk3 kX1_init_1) ac_int (fun _ => rfl) (fun _ => rfl) (by decide) (by decide) rfl rfl rfl (fun _ => ?_)
  have hU_26 : Upd g_23 (zup g_23 (p + 4) (zI 12 (fun _ => 0))) (p + 4) 1 := Upd.one
  have hn_28 : (zup g_23 (p + 4) (zI 12 (fun _ => 0))) (p + 4) = some (zI 12 (fun _ => 0)) := zup_s
  generalize zup g_23 (p + 4) (zI 12 (fun _ => 0)) = g_27 at hU_26 hn_28 ⊢
  replace ho := (hU_26 _ (by omega)).trans ho
  replace c_4 := (hU_26 _ (by omega)).trans c_4
  replace c_11 := (hU_26 _ (by omega)).trans c_11
  replace c_18 := (hU_26 _ (by omega)).trans c_18
  replace hU := hU.tr hU_26 (by omega) (by omega)
  have c_25 := hn_28; clear hn_28
  refine z_sz (a := (p + 5)) rfl ?_
  show Z D B xX1_init 4 48 _ 39 [some (.ref p)] [.ref (p + 4), .ref p] g_27 (p + 5)
  refine z_putF (pc := 39) (zk4 kX1_init_1) flX1_25 rfl rfl ho hB rfl rfl (Nat.le_of_ble_eq_true rfl) ?_
  show Z D B xX1_init 4 48 _ 42 [some (.ref p)] [] (zup g_27 p (zO 1 [.int 8, .ref (p + 1), .ref (p + 2), .ref (p + 3), .ref (p + 4), .int 0, .int 0, .int 0, .int 0, .int 0, .null, .null, .null, .null])) (p + 5)
  have hU_29 : Upd g_27 (zup g_27 p (zO 1 [.int 8, .ref (p + 1), .ref (p + 2), .ref (p + 3), .ref (p + 4), .int 0, .int 0, .int 0, .int 0, .int 0, .null, .null, .null, .null])) p 1 := Upd.one
  have hn_31 : (zup g_27 p (zO 1 [.int 8, .ref (p + 1), .ref (p + 2), .ref (p + 3), .ref (p + 4), .int 0, .int 0, .int 0, .int 0, .int 0, .null, .null, .null, .null])) p = some (zO 1 [.int 8, .ref (p + 1), .ref (p + 2), .ref (p + 3), .ref (p + 4), .int 0, .int 0, .int 0, .int 0, .int 0, .null, .null, .null, .null]) := zup_s
  generalize zup g_27 p (zO 1 [.int 8, .ref (p + 1), .ref (p + 2), .ref (p + 3), .ref (p + 4), .int 0, .int 0, .int 0, .int 0, .int 0, .null, .null, .null, .null]) = g_30 at hU_29 hn_31 ⊢
  replace c_4 := (hU_29 _ (by omega)).trans c_4
  replace c_11 := (hU_29 _ (by omega)).trans c_11
  replace c_18 := (hU_29 _ (by omega)).trans c_18
  replace c_25 := (hU_29 _ (by omega)).trans c_25
  replace hU := hU.tr hU_29 (by omega) (by omega)
  replace ho := hn_31; clear hn_31
  refine z_aload_n (pc := 42) (zk5 kX1_init_1) rfl ?_
  refine z_iconst (pc := 43) (zk6 kX1_init_1) (v := 0) (by decide) ?_
  refine z_putf (pc := 44) (zk7 kX1_init_1) flX1_28 ho hB rfl rfl (Nat.le_of_ble_eq_true rfl) ?_
  show Z D B xX1_init 4 48 _ 47 [some (.ref p)] [] (zup g_30 p (zO 1 [.int 8, .ref (p + 1), .ref (p + 2), .ref (p + 3), .ref (p + 4), .int 0, .int 0, .int 0, .int 0, .int 0, .null, .null, .null, .null])) (p + 5)
  have hU_32 : Upd g_30 (zup g_30 p (zO 1 [.int 8, .ref (p + 1), .ref (p + 2), .ref (p + 3), .ref (p + 4), .int 0, .int 0, .int 0, .int 0, .int 0, .null, .null, .null, .null])) p 1 := Upd.one
  have hn_34 : (zup g_30 p (zO 1 [.int 8, .ref (p + 1), .ref (p + 2), .ref (p + 3), .ref (p + 4), .int 0, .int 0, .int 0, .int 0, .int 0, .null, .null, .null, .null])) p = some (zO 1 [.int 8, .ref (p + 1), .ref (p + 2), .ref (p + 3), .ref (p + 4), .int 0, .int 0, .int 0, .int 0, .int 0, .null, .null, .null, .null]) := zup_s
  generalize zup g_30 p (zO 1 [.int 8, .ref (p + 1), .ref (p + 2), .ref (p + 3), .ref (p + 4), .int 0, .int 0, .int 0, .int 0, .int 0, .null, .null, .null, .null]) = g_33 at hU_32 hn_34 ⊢
  replace c_4 := (hU_32 _ (by omega)).trans c_4
  replace c_11 := (hU_32 _ (by omega)).trans c_11
  replace c_18 := (hU_32 _ (by omega)).trans c_18
  replace c_25 := (hU_32 _ (by omega)).trans c_25
  replace hU := hU.tr hU_32 (by omega) (by omega)
  replace ho := hn_34; clear hn_34
  refine z_aload_n (pc := 47) (zk8 kX1_init_1) rfl ?_
  refine z_iconst (pc := 48) (zk9 kX1_init_1) (v := 0) (by decide) ?_
  refine z_putf (pc := 49) (zk10 kX1_init_1) flX1_31 ho hB (by decide) (by decide) (Nat.le_of_ble_eq_true rfl) ?_
  show Z D B xX1_init 4 48 _ 52 [some (.ref p)] [] (zup g_33 p (zO 1 [.int 8, .ref (p + 1), .ref (p + 2), .ref (p + 3), .ref (p + 4), .int 0, .int 0, .int 0, .int 0, .int 0, .null, .null, .null, .null])) (p + 5)
  have hU_35 : Upd g_33 (zup g_33 p (zO 1 [.int 8, .ref (p + 1), .ref (p + 2), .ref (p + 3), .ref (p + 4), .int 0, .int 0, .int 0, .int 0, .int 0, .null, .null, .null, .null])) p 1 := Upd.one
  have hn_37 : (zup g_33 p (zO 1 [.int 8, .ref (p + 1), .ref (p + 2), .ref (p + 3), .ref (p + 4), .int 0, .int 0, .int 0, .int 0, .int 0, .null, .null, .null, .null])) p = some (zO 1 [.int 8, .ref (p + 1), .ref (p + 2), .ref (p + 3), .ref (p + 4), .int 0, .int 0, .int 0, .int 0, .int 0, .null, .null, .null, .null]) := zup_s
  generalize zup g_33 p (zO 1 [.int 8, .ref (p + 1), .ref (p + 2), .ref (p + 3), .ref (p + 4), .int 0, .int 0, .int 0, .int 0, .int 0, .null, .null, .null, .null]) = g_36 at hU_35 hn_37 ⊢
  replace c_4 := (hU_35 _ (by omega)).trans c_4
  replace c_11 := (hU_35 _ (by omega)).trans c_11
  replace c_18 := (hU_35 _ (by omega)).trans c_18
  replace c_25 := (hU_35 _ (by omega)).trans c_25
  replace hU := hU.tr hU_35 (by omega) (by omega)
  replace ho := hn_37; clear hn_37
  refine z_aload_n (pc := 52) (zk11 kX1_init_1) rfl ?_
  refine z_iconst (pc := 53) (zk12 kX1_init_1) (v := 0) (by decide) ?_
  refine z_putf (pc := 54) (zk13 kX1_init_1) flX1_35 ho hB rfl rfl (Nat.le_of_ble_eq_true rfl) ?_
  show Z D B xX1_init 4 48 _ 57 [some (.ref p)] [] (zup g_36 p (zO 1 [.int 8, .ref (p + 1), .ref (p + 2), .ref (p + 3), .ref (p + 4), .int 0, .int 0, .int 0, .int 0, .int 0, .null, .null, .null, .null])) (p + 5)
  have hU_38 : Upd g_36 (zup g_36 p (zO 1 [.int 8, .ref (p + 1), .ref (p + 2), .ref (p + 3), .ref (p + 4), .int 0, .int 0, .int 0, .int 0, .int 0, .null, .null, .null, .null])) p 1 := Upd.one
  have hn_40 : (zup g_36 p (zO 1 [.int 8, .ref (p + 1), .ref (p + 2), .ref (p + 3), .ref (p + 4), .int 0, .int 0, .int 0, .int 0, .int 0, .null, .null, .null, .null])) p = some (zO 1 [.int 8, .ref (p + 1), .ref (p + 2), .ref (p + 3), .ref (p + 4), .int 0, .int 0, .int 0, .int 0, .int 0, .null, .null, .null, .null]) := zup_s
  generalize zup g_36 p (zO 1 [.int 8, .ref (p + 1), .ref (p + 2), .ref (p + 3), .ref (p + 4), .int 0, .int 0, .int 0, .int 0, .int 0, .null, .null, .null, .null]) = g_39 at hU_38 hn_40 ⊢
  replace c_4 := (hU_38 _ (by omega)).trans c_4
  replace c_11 := (hU_38 _ (by omega)).trans c_11
  replace c_18 := (hU_38 _ (by omega)).trans c_18
  replace c_25 := (hU_38 _ (by omega)).trans c_25
  replace hU := hU.tr hU_38 (by omega) (by omega)
  replace ho := hn_40; clear hn_40
  refine z_aload_n (pc := 57) (zk14 kX1_init_1) rfl ?_
  refine z_iconst (pc := 58) (zk15 kX1_init_1) (v := 1) (by decide) ?_
  refine z_putf (pc := 59) (zk0 kX1_init_2) flX1_38 ho hB rfl rfl (Nat.le_of_ble_eq_true rfl) ?_
  show Z D B xX1_init 4 48 _ 62 [some (.ref p)] [] (zup g_39 p (zO 1 [.int 8, .ref (p + 1), .ref (p + 2), .ref (p + 3), .ref (p + 4), .int 0, .int 0, .int 0, .int 1, .int 0, .null, .null, .null, .null])) (p + 5)
  have hU_41 : Upd g_39 (zup g_39 p (zO 1 [.int 8, .ref (p + 1), .ref (p + 2), .ref (p + 3), .ref (p + 4), .int 0, .int 0, .int 0, .int 1, .int 0, .null, .null, .null, .null])) p 1 := Upd.one
  have hn_43 : (zup g_39 p (zO 1 [.int 8, .ref (p + 1), .ref (p + 2), .ref (p + 3), .ref (p + 4), .int 0, .int 0, .int 0, .int 1, .int 0, .null, .null, .null, .null])) p = some (zO 1 [.int 8, .ref (p + 1), .ref (p + 2), .ref (p + 3), .ref (p + 4), .int 0, .int 0, .int 0, .int 1, .int 0, .null, .null, .null, .null]) := zup_s
  generalize zup g_39 p (zO 1 [.int 8, .ref (p + 1), .ref (p + 2), .ref (p + 3), .ref (p + 4), .int 0, .int 0, .int 0, .int 1, .int 0, .null, .null, .null, .null]) = g_42 at hU_41 hn_43 ⊢
  replace c_4 := (hU_41 _ (by omega)).trans c_4
  replace c_11 := (hU_41 _ (by omega)).trans c_11
  replace c_18 := (hU_41 _ (by omega)).trans c_18
  replace c_25 := (hU_41 _ (by omega)).trans c_25
  replace hU := hU.tr hU_41 (by omega) (by omega)
  replace ho := hn_43; clear hn_43
  refine z_aload_n (pc := 62) (zk1 kX1_init_2) rfl ?_
  refine z_iconst (pc := 63) (zk2 kX1_init_2) (v := 0) (by decide) ?_
  refine z_putf (pc := 64) (zk3 kX1_init_2) flX1_41 ho hB rfl rfl (Nat.le_of_ble_eq_true rfl) ?_
  show Z D B xX1_init 4 48 _ 67 [some (.ref p)] [] (zup g_42 p (zO 1 [.int 8, .ref (p + 1), .ref (p + 2), .ref (p + 3), .ref (p + 4), .int 0, .int 0, .int 0, .int 1, .int 0, .null, .null, .null, .null])) (p + 5)
  have hU_44 : Upd g_42 (zup g_42 p (zO 1 [.int 8, .ref (p + 1), .ref (p + 2), .ref (p + 3), .ref (p + 4), .int 0, .int 0, .int 0, .int 1, .int 0, .null, .null, .null, .null])) p 1 := Upd.one
  have hn_46 : (zup g_42 p (zO 1 [.int 8, .ref (p + 1), .ref (p + 2), .ref (p + 3), .ref (p + 4), .int 0, .int 0, .int 0, .int 1, .int 0, .null, .null, .null, .null])) p = some (zO 1 [.int 8, .ref (p + 1), .ref (p + 2), .ref (p + 3), .ref (p + 4), .int 0, .int 0, .int 0, .int 1, .int 0, .null, .null, .null, .null]) := zup_s
  generalize zup g_42 p (zO 1 [.int 8, .ref (p + 1), .ref (p + 2), .ref (p + 3), .ref (p + 4), .int 0, .int 0, .int 0, .int 1, .int 0, .null, .null, .null, .null]) = g_45 at hU_44 hn_46 ⊢
  replace c_4 := (hU_44 _ (by omega)).trans c_4
  replace c_11 := (hU_44 _ (by omega)).trans c_11
  replace c_18 := (hU_44 _ (by omega)).trans c_18
  replace c_25 := (hU_44 _ (by omega)).trans c_25
  replace hU := hU.tr hU_44 (by omega) (by omega)
  replace ho := hn_46; clear hn_46
  refine z_aload_n (pc := 67) (zk4 kX1_init_2) rfl ?_
  refine z_bipush (pc := 68) (zk5 kX1_init_2) (v := 8) (by decide) ?_
  refine z_newa (pc := 70) (kd := 0) (N := 8) (a0 := (8, .inl (fun _ => 0))) (zk6 kX1_init_2) ac_int (fun _ => rfl) (fun _ => rfl) (by decide) (by decide) rfl rfl rfl (fun _ => ?_)
  have hU_48 : Upd g_45 (zup g_45 (p + 5) (zI 8 (fun _ => 0))) (p + 5) 1 := Upd.one
  have hn_50 : (zup g_45 (p + 5) (zI 8 (fun _ => 0))) (p + 5) = some (zI 8 (fun _ => 0)) := zup_s
  generalize zup g_45 (p + 5) (zI 8 (fun _ => 0)) = g_49 at hU_48 hn_50 ⊢
  replace ho := (hU_48 _ (by omega)).trans ho
  replace c_4 := (hU_48 _ (by omega)).trans c_4
  replace c_11 := (hU_48 _ (by omega)).trans c_11
  replace c_18 := (hU_48 _ (by omega)).trans c_18
  replace c_25 := (hU_48 _ (by omega)).trans c_25
  replace hU := hU.tr hU_48 (by omega) (by omega)
  have c_47 := hn_50; clear hn_50
  refine z_sz (a := (p + 6)) rfl ?_
  show Z D B xX1_init 5 56 _ 72 [some (.ref p)] [.ref (p + 5), .ref p] g_49 (p + 6)
  refine z_putF (pc := 72) (zk7 kX1_init_2) flX1_44 rfl rfl ho hB rfl rfl (Nat.le_of_ble_eq_true rfl) ?_
  show Z D B xX1_init 5 56 _ 75 [some (.ref p)] [] (zup g_49 p (zO 1 [.int 8, .ref (p + 1), .ref (p + 2), .ref (p + 3), .ref (p + 4), .int 0, .int 0, .int 0, .int 1, .int 0, .ref (p + 5), .null, .null, .null])) (p + 6)
  have hU_51 : Upd g_49 (zup g_49 p (zO 1 [.int 8, .ref (p + 1), .ref (p + 2), .ref (p + 3), .ref (p + 4), .int 0, .int 0, .int 0, .int 1, .int 0, .ref (p + 5), .null, .null, .null])) p 1 := Upd.one
  have hn_53 : (zup g_49 p (zO 1 [.int 8, .ref (p + 1), .ref (p + 2), .ref (p + 3), .ref (p + 4), .int 0, .int 0, .int 0, .int 1, .int 0, .ref (p + 5), .null, .null, .null])) p = some (zO 1 [.int 8, .ref (p + 1), .ref (p + 2), .ref (p + 3), .ref (p + 4), .int 0, .int 0, .int 0, .int 1, .int 0, .ref (p + 5), .null, .null, .null]) := zup_s
  generalize zup g_49 p (zO 1 [.int 8, .ref (p + 1), .ref (p + 2), .ref (p + 3), .ref (p + 4), .int 0, .int 0, .int 0, .int 1, .int 0, .ref (p + 5), .null, .null, .null]) = g_52 at hU_51 hn_53 ⊢
  replace c_4 := (hU_51 _ (by omega)).trans c_4
  replace c_11 := (hU_51 _ (by omega)).trans c_11
  replace c_18 := (hU_51 _ (by omega)).trans c_18
  replace c_25 := (hU_51 _ (by omega)).trans c_25
  replace c_47 := (hU_51 _ (by omega)).trans c_47
  replace hU := hU.tr hU_51 (by omega) (by omega)
  replace ho := hn_53; clear hn_53
  refine z_aload_n (pc := 75) (zk8 kX1_init_2) rfl ?_
  refine z_bipush (pc := 76) (zk9 kX1_init_2) (v := 8) (by decide) ?_
  refine z_newa (pc := 78) (kd := 0) (N := 8) (a0 := (8, .inl (fun _ => 0))) (zk10 kX1_init_2) ac_int (fun _ => rfl) (fun _ => rfl) (by decide) (by decide) rfl rfl rfl (fun _ => ?_)
  have hU_55 : Upd g_52 (zup g_52 (p + 6) (zI 8 (fun _ => 0))) (p + 6) 1 := Upd.one
  have hn_57 : (zup g_52 (p + 6) (zI 8 (fun _ => 0))) (p + 6) = some (zI 8 (fun _ => 0)) := zup_s
  generalize zup g_52 (p + 6) (zI 8 (fun _ => 0)) = g_56 at hU_55 hn_57 ⊢
  replace ho := (hU_55 _ (by omega)).trans ho
  replace c_4 := (hU_55 _ (by omega)).trans c_4
  replace c_11 := (hU_55 _ (by omega)).trans c_11
  replace c_18 := (hU_55 _ (by omega)).trans c_18
  replace c_25 := (hU_55 _ (by omega)).trans c_25
  replace c_47 := (hU_55 _ (by omega)).trans c_47
  replace hU := hU.tr hU_55 (by omega) (by omega)
  have c_54 := hn_57; clear hn_57
  refine z_sz (a := (p + 7)) rfl ?_
  show Z D B xX1_init 6 64 _ 80 [some (.ref p)] [.ref (p + 6), .ref p] g_56 (p + 7)
  refine z_putF (pc := 80) (zk11 kX1_init_2) flX1_47 rfl rfl ho hB rfl rfl (Nat.le_of_ble_eq_true rfl) ?_
  show Z D B xX1_init 6 64 _ 83 [some (.ref p)] [] (zup g_56 p (zO 1 [.int 8, .ref (p + 1), .ref (p + 2), .ref (p + 3), .ref (p + 4), .int 0, .int 0, .int 0, .int 1, .int 0, .ref (p + 5), .ref (p + 6), .null, .null])) (p + 7)
  have hU_58 : Upd g_56 (zup g_56 p (zO 1 [.int 8, .ref (p + 1), .ref (p + 2), .ref (p + 3), .ref (p + 4), .int 0, .int 0, .int 0, .int 1, .int 0, .ref (p + 5), .ref (p + 6), .null, .null])) p 1 := Upd.one
  have hn_60 : (zup g_56 p (zO 1 [.int 8, .ref (p + 1), .ref (p + 2), .ref (p + 3), .ref (p + 4), .int 0, .int 0, .int 0, .int 1, .int 0, .ref (p + 5), .ref (p + 6), .null, .null])) p = some (zO 1 [.int 8, .ref (p + 1), .ref (p + 2), .ref (p + 3), .ref (p + 4), .int 0, .int 0, .int 0, .int 1, .int 0, .ref (p + 5), .ref (p + 6), .null, .null]) := zup_s
  generalize zup g_56 p (zO 1 [.int 8, .ref (p + 1), .ref (p + 2), .ref (p + 3), .ref (p + 4), .int 0, .int 0, .int 0, .int 1, .int 0, .ref (p + 5), .ref (p + 6), .null, .null]) = g_59 at hU_58 hn_60 ⊢
  replace c_4 := (hU_58 _ (by omega)).trans c_4
  replace c_11 := (hU_58 _ (by omega)).trans c_11
  replace c_18 := (hU_58 _ (by omega)).trans c_18
  replace c_25 := (hU_58 _ (by omega)).trans c_25
  replace c_47 := (hU_58 _ (by omega)).trans c_47
  replace c_54 := (hU_58 _ (by omega)).trans c_54
  replace hU := hU.tr hU_58 (by omega) (by omega)
  replace ho := hn_60; clear hn_60
  refine z_aload_n (pc := 83) (zk12 kX1_init_2) rfl ?_
  refine z_bipush (pc := 84) (zk13 kX1_init_2) (v := 8) (by decide) ?_
  refine z_newa (pc := 86) (kd := 0) (N := 8) (a0 := (8, .inl (fun _ => 0))) (zk14 kX1_init_2) ac_int (fun _ => rfl) (fun _ => rfl) (by decide) (by decide) rfl rfl rfl (fun _ => ?_)
  have hU_62 : Upd g_59 (zup g_59 (p + 7) (zI 8 (fun _ => 0))) (p + 7) 1 := Upd.one
  have hn_64 : (zup g_59 (p + 7) (zI 8 (fun _ => 0))) (p + 7) = some (zI 8 (fun _ => 0)) := zup_s
  generalize zup g_59 (p + 7) (zI 8 (fun _ => 0)) = g_63 at hU_62 hn_64 ⊢
  replace ho := (hU_62 _ (by omega)).trans ho
  replace c_4 := (hU_62 _ (by omega)).trans c_4
  replace c_11 := (hU_62 _ (by omega)).trans c_11
  replace c_18 := (hU_62 _ (by omega)).trans c_18
  replace c_25 := (hU_62 _ (by omega)).trans c_25
  replace c_47 := (hU_62 _ (by omega)).trans c_47
  replace c_54 := (hU_62 _ (by omega)).trans c_54
  replace hU := hU.tr hU_62 (by omega) (by omega)
  have c_61 := hn_64; clear hn_64
  refine z_sz (a := (p + 8)) rfl ?_
  show Z D B xX1_init 7 72 _ 88 [some (.ref p)] [.ref (p + 7), .ref p] g_63 (p + 8)
  refine z_putF (pc := 88) (zk15 kX1_init_2) flX1_50 rfl rfl ho hB rfl rfl (Nat.le_of_ble_eq_true rfl) ?_
  show Z D B xX1_init 7 72 _ 91 [some (.ref p)] [] (zup g_63 p (zO 1 [.int 8, .ref (p + 1), .ref (p + 2), .ref (p + 3), .ref (p + 4), .int 0, .int 0, .int 0, .int 1, .int 0, .ref (p + 5), .ref (p + 6), .ref (p + 7), .null])) (p + 8)
  have hU_65 : Upd g_63 (zup g_63 p (zO 1 [.int 8, .ref (p + 1), .ref (p + 2), .ref (p + 3), .ref (p + 4), .int 0, .int 0, .int 0, .int 1, .int 0, .ref (p + 5), .ref (p + 6), .ref (p + 7), .null])) p 1 := Upd.one
  have hn_67 : (zup g_63 p (zO 1 [.int 8, .ref (p + 1), .ref (p + 2), .ref (p + 3), .ref (p + 4), .int 0, .int 0, .int 0, .int 1, .int 0, .ref (p + 5), .ref (p + 6), .ref (p + 7), .null])) p = some (zO 1 [.int 8, .ref (p + 1), .ref (p + 2), .ref (p + 3), .ref (p + 4), .int 0, .int 0, .int 0, .int 1, .int 0, .ref (p + 5), .ref (p + 6), .ref (p + 7), .null]) := zup_s
  generalize zup g_63 p (zO 1 [.int 8, .ref (p + 1), .ref (p + 2), .ref (p + 3), .ref (p + 4), .int 0, .int 0, .int 0, .int 1, .int 0, .ref (p + 5), .ref (p + 6), .ref (p + 7), .null]) = g_66 at hU_65 hn_67 ⊢
  replace c_4 := (hU_65 _ (by omega)).trans c_4
  replace c_11 := (hU_65 _ (by omega)).trans c_11
  replace c_18 := (hU_65 _ (by omega)).trans c_18
  replace c_25 := (hU_65 _ (by omega)).trans c_25
  replace c_47 := (hU_65 _ (by omega)).trans c_47
  replace c_54 := (hU_65 _ (by omega)).trans c_54
  replace c_61 := (hU_65 _ (by omega)).trans c_61
  replace hU := hU.tr hU_65 (by omega) (by omega)
  replace ho := hn_67; clear hn_67
  refine z_aload_n (pc := 91) (zk0 kX1_init_3) rfl ?_
  refine z_bipush (pc := 92) (zk1 kX1_init_3) (v := 8) (by decide) ?_
  refine z_newa (pc := 94) (kd := 0) (N := 8) (a0 := (8, .inl (fun _ => 0))) (zk2 kX1_init_3) ac_int (fun _ => rfl) (fun _ => rfl) (by decide) (by decide) rfl rfl rfl (fun _ => ?_)
  have hU_69 : Upd g_66 (zup g_66 (p + 8) (zI 8 (fun _ => 0))) (p + 8) 1 := Upd.one
  have hn_71 : (zup g_66 (p + 8) (zI 8 (fun _ => 0))) (p + 8) = some (zI 8 (fun _ => 0)) := zup_s
  generalize zup g_66 (p + 8) (zI 8 (fun _ => 0)) = g_70 at hU_69 hn_71 ⊢
  replace ho := (hU_69 _ (by omega)).trans ho
  replace c_4 := (hU_69 _ (by omega)).trans c_4
  replace c_11 := (hU_69 _ (by omega)).trans c_11
  replace c_18 := (hU_69 _ (by omega)).trans c_18
  replace c_25 := (hU_69 _ (by omega)).trans c_25
  replace c_47 := (hU_69 _ (by omega)).trans c_47
  replace c_54 := (hU_69 _ (by omega)).trans c_54
  replace c_61 := (hU_69 _ (by omega)).trans c_61
  replace hU := hU.tr hU_69 (by omega) (by omega)
  have c_68 := hn_71; clear hn_71
  refine z_sz (a := (p + 9)) rfl ?_
  show Z D B xX1_init 8 80 _ 96 [some (.ref p)] [.ref (p + 8), .ref p] g_70 (p + 9)
  refine z_putF (pc := 96) (zk3 kX1_init_3) flX1_53 rfl rfl ho hB rfl rfl (Nat.le_of_ble_eq_true rfl) ?_
  show Z D B xX1_init 8 80 _ 99 [some (.ref p)] [] (zup g_70 p (zO 1 [.int 8, .ref (p + 1), .ref (p + 2), .ref (p + 3), .ref (p + 4), .int 0, .int 0, .int 0, .int 1, .int 0, .ref (p + 5), .ref (p + 6), .ref (p + 7), .ref (p + 8)])) (p + 9)
  have hU_72 : Upd g_70 (zup g_70 p (zO 1 [.int 8, .ref (p + 1), .ref (p + 2), .ref (p + 3), .ref (p + 4), .int 0, .int 0, .int 0, .int 1, .int 0, .ref (p + 5), .ref (p + 6), .ref (p + 7), .ref (p + 8)])) p 1 := Upd.one
  have hn_74 : (zup g_70 p (zO 1 [.int 8, .ref (p + 1), .ref (p + 2), .ref (p + 3), .ref (p + 4), .int 0, .int 0, .int 0, .int 1, .int 0, .ref (p + 5), .ref (p + 6), .ref (p + 7), .ref (p + 8)])) p = some (zO 1 [.int 8, .ref (p + 1), .ref (p + 2), .ref (p + 3), .ref (p + 4), .int 0, .int 0, .int 0, .int 1, .int 0, .ref (p + 5), .ref (p + 6), .ref (p + 7), .ref (p + 8)]) := zup_s
  generalize zup g_70 p (zO 1 [.int 8, .ref (p + 1), .ref (p + 2), .ref (p + 3), .ref (p + 4), .int 0, .int 0, .int 0, .int 1, .int 0, .ref (p + 5), .ref (p + 6), .ref (p + 7), .ref (p + 8)]) = g_73 at hU_72 hn_74 ⊢
  replace c_4 := (hU_72 _ (by omega)).trans c_4
  replace c_11 := (hU_72 _ (by omega)).trans c_11
  replace c_18 := (hU_72 _ (by omega)).trans c_18
  replace c_25 := (hU_72 _ (by omega)).trans c_25
  replace c_47 := (hU_72 _ (by omega)).trans c_47
  replace c_54 := (hU_72 _ (by omega)).trans c_54
  replace c_61 := (hU_72 _ (by omega)).trans c_61
  replace c_68 := (hU_72 _ (by omega)).trans c_68
  replace hU := hU.tr hU_72 (by omega) (by omega)
  replace ho := hn_74; clear hn_74
  exact z_vret (pc := 99) (zk4 kX1_init_3) rfl (Nat.le_of_ble_eq_true rfl) (Nat.le_of_ble_eq_true rfl) ⟨rfl, ⟨ho, c_4, c_11, c_18, c_25, c_47, c_54, c_61, c_68⟩, hU, rfl⟩
set_option maxRecDepth 20000 in
set_option maxHeartbeats 4000000 in
theorem c_I2 {D : zD} {B : Nat} {h : zH} {p : Nat} (ho : h p = some (zO 2 fs0X2)) (hB : B ≤ p) : zM D B xX2_init [.ref p] h (p + 1) (fun r h1 z1 => r = none ∧ ShAt h1 p (-1) 0 (fun _ => 0) ∧ Upd h h1 p 2 ∧ z1 = p + 2) := by
  have hU : Upd h h p 2 := Upd.rf
  refine zM.of (by decide) rfl (n := 0) ?_
  show Z D B xX2_init 0 0 _ 0 [some (.ref p)] [] h (p + 1)
  refine z_aload_n (pc := 0) (zk0 kX2_init_0) rfl ?_
  refine z_objInit (pc := 1) (zk1 kX2_init_0) obX2 rfl rfl ?_
  refine z_aload_n (pc := 4) (zk2 kX2_init_0) rfl ?_
  refine z_iconst (pc := 5) (zk3 kX2_init_0) (v := (-1)) (by decide) ?_
  refine z_putf (pc := 6) (zk4 kX2_init_0) flX2_9 ho hB rfl rfl (Nat.le_of_ble_eq_true rfl) ?_
  show Z D B xX2_init 0 0 _ 9 [some (.ref p)] [] (zup h p (zO 2 [.int (-1), .int 0, .null])) (p + 1)
  have hU_1 : Upd h (zup h p (zO 2 [.int (-1), .int 0, .null])) p 1 := Upd.one
  have hn_3 : (zup h p (zO 2 [.int (-1), .int 0, .null])) p = some (zO 2 [.int (-1), .int 0, .null]) := zup_s
  generalize zup h p (zO 2 [.int (-1), .int 0, .null]) = g_2 at hU_1 hn_3 ⊢
  replace hU := hU.tr hU_1 (by omega) (by omega)
  replace ho := hn_3; clear hn_3
  refine z_aload_n (pc := 9) (zk5 kX2_init_0) rfl ?_
  refine z_iconst (pc := 10) (zk6 kX2_init_0) (v := 0) (by decide) ?_
  refine z_putf (pc := 11) (zk7 kX2_init_0) flX2_15 ho hB rfl rfl (Nat.le_of_ble_eq_true rfl) ?_
  show Z D B xX2_init 0 0 _ 14 [some (.ref p)] [] (zup g_2 p (zO 2 [.int (-1), .int 0, .null])) (p + 1)
  have hU_4 : Upd g_2 (zup g_2 p (zO 2 [.int (-1), .int 0, .null])) p 1 := Upd.one
  have hn_6 : (zup g_2 p (zO 2 [.int (-1), .int 0, .null])) p = some (zO 2 [.int (-1), .int 0, .null]) := zup_s
  generalize zup g_2 p (zO 2 [.int (-1), .int 0, .null]) = g_5 at hU_4 hn_6 ⊢
  replace hU := hU.tr hU_4 (by omega) (by omega)
  replace ho := hn_6; clear hn_6
  refine z_aload_n (pc := 14) (zk8 kX2_init_0) rfl ?_
  refine z_bipush (pc := 15) (zk9 kX2_init_0) (v := 40) (by decide) ?_
  refine z_newa (pc := 17) (kd := 1) (N := 40) (a0 := (40, .inr (.inl (fun _ => 0)))) (zk10 kX2_init_0) ac_long (fun _ => rfl) (fun _ => rfl) (by decide) (by decide) rfl rfl rfl (fun _ => ?_)
  have hU_8 : Upd g_5 (zup g_5 (p + 1) (zJ 40 (fun _ => 0))) (p + 1) 1 := Upd.one
  have hn_10 : (zup g_5 (p + 1) (zJ 40 (fun _ => 0))) (p + 1) = some (zJ 40 (fun _ => 0)) := zup_s
  generalize zup g_5 (p + 1) (zJ 40 (fun _ => 0)) = g_9 at hU_8 hn_10 ⊢
  replace ho := (hU_8 _ (by omega)).trans ho
  replace hU := hU.tr hU_8 (by omega) (by omega)
  have c_7 := hn_10; clear hn_10
  refine z_sz (a := (p + 2)) rfl ?_
  show Z D B xX2_init 1 40 _ 19 [some (.ref p)] [.ref (p + 1), .ref p] g_9 (p + 2)
  refine z_putF (pc := 19) (zk11 kX2_init_0) flX2_18 rfl rfl ho hB rfl rfl (Nat.le_of_ble_eq_true rfl) ?_
  show Z D B xX2_init 1 40 _ 22 [some (.ref p)] [] (zup g_9 p (zO 2 [.int (-1), .int 0, .ref (p + 1)])) (p + 2)
  have hU_11 : Upd g_9 (zup g_9 p (zO 2 [.int (-1), .int 0, .ref (p + 1)])) p 1 := Upd.one
  have hn_13 : (zup g_9 p (zO 2 [.int (-1), .int 0, .ref (p + 1)])) p = some (zO 2 [.int (-1), .int 0, .ref (p + 1)]) := zup_s
  generalize zup g_9 p (zO 2 [.int (-1), .int 0, .ref (p + 1)]) = g_12 at hU_11 hn_13 ⊢
  replace c_7 := (hU_11 _ (by omega)).trans c_7
  replace hU := hU.tr hU_11 (by omega) (by omega)
  replace ho := hn_13; clear hn_13
  exact z_vret (pc := 22) (zk12 kX2_init_0) rfl (Nat.le_of_ble_eq_true rfl) (Nat.le_of_ble_eq_true rfl) ⟨rfl, ⟨ho, c_7⟩, hU, rfl⟩
def ω0 : Ln := fun f => if f = 12 then (fun _ => -1) else fun _ => 0
set_option maxRecDepth 20000 in
set_option maxHeartbeats 4000000 in
theorem c_I3 {D : zD} {B : Nat} {h : zH} {p : Nat} (ho : h p = some (zO 3 fs0X3)) (hB : B ≤ p) : zM D B xX3_init [.ref p] h (p + 1) (fun r h1 z1 => r = none ∧ TaAt h1 p τ0 ω0 ∧ Upd h h1 p 2 ∧ z1 = p + 2) := by
  have hU : Upd h h p 2 := Upd.rf
  refine zM.of (by decide) rfl (n := 0) ?_
  show Z D B xX3_init 0 0 _ 0 [some (.ref p)] [] h (p + 1)
  refine z_aload_n (pc := 0) (zk0 kX3_init_0) rfl ?_
  refine z_objInit (pc := 1) (zk1 kX3_init_0) obX3 rfl rfl ?_
  refine z_aload_n (pc := 4) (zk2 kX3_init_0) rfl ?_
  refine z_sipush (pc := 5) (zk3 kX3_init_0) (v := 250) (by decide) ?_
  refine z_newa (pc := 8) (kd := 0) (N := 250) (a0 := (250, .inl (fun _ => 0))) (zk4 kX3_init_0) ac_int (fun _ => rfl) (fun _ => rfl) (by decide) (by decide) rfl rfl rfl (fun _ => ?_)
  have hU_2 : Upd h (zup h (p + 1) (zI 250 (fun _ => 0))) (p + 1) 1 := Upd.one
  have hn_4 : (zup h (p + 1) (zI 250 (fun _ => 0))) (p + 1) = some (zI 250 (fun _ => 0)) := zup_s
  generalize zup h (p + 1) (zI 250 (fun _ => 0)) = g_3 at hU_2 hn_4 ⊢
  replace ho := (hU_2 _ (by omega)).trans ho
  replace hU := hU.tr hU_2 (by omega) (by omega)
  have c_1 := hn_4; clear hn_4
  refine z_sz (a := (p + 2)) rfl ?_
  show Z D B xX3_init 1 250 _ 10 [some (.ref p)] [.ref (p + 1), .ref p] g_3 (p + 2)
  refine z_putF (pc := 10) (zk5 kX3_init_0) flX3_9 rfl rfl ho hB rfl rfl (Nat.le_of_ble_eq_true rfl) ?_
  show Z D B xX3_init 1 250 _ 13 [some (.ref p)] [] (zup g_3 p (zO 3 [.ref (p + 1), .int 0, .int 0, .int 0, .int 0, .int 0])) (p + 2)
  have hU_5 : Upd g_3 (zup g_3 p (zO 3 [.ref (p + 1), .int 0, .int 0, .int 0, .int 0, .int 0])) p 1 := Upd.one
  have hn_7 : (zup g_3 p (zO 3 [.ref (p + 1), .int 0, .int 0, .int 0, .int 0, .int 0])) p = some (zO 3 [.ref (p + 1), .int 0, .int 0, .int 0, .int 0, .int 0]) := zup_s
  generalize zup g_3 p (zO 3 [.ref (p + 1), .int 0, .int 0, .int 0, .int 0, .int 0]) = g_6 at hU_5 hn_7 ⊢
  replace c_1 := (hU_5 _ (by omega)).trans c_1
  replace hU := hU.tr hU_5 (by omega) (by omega)
  replace ho := hn_7; clear hn_7
  refine z_aload_n (pc := 13) (zk6 kX3_init_0) rfl ?_
  refine z_iconst (pc := 14) (zk7 kX3_init_0) (v := 0) (by decide) ?_
  refine z_putf (pc := 15) (zk8 kX3_init_0) flX3_15 ho hB rfl rfl (Nat.le_of_ble_eq_true rfl) ?_
  show Z D B xX3_init 1 250 _ 18 [some (.ref p)] [] (zup g_6 p (zO 3 [.ref (p + 1), .int 0, .int 0, .int 0, .int 0, .int 0])) (p + 2)
  have hU_8 : Upd g_6 (zup g_6 p (zO 3 [.ref (p + 1), .int 0, .int 0, .int 0, .int 0, .int 0])) p 1 := Upd.one
  have hn_10 : (zup g_6 p (zO 3 [.ref (p + 1), .int 0, .int 0, .int 0, .int 0, .int 0])) p = some (zO 3 [.ref (p + 1), .int 0, .int 0, .int 0, .int 0, .int 0]) := zup_s
  generalize zup g_6 p (zO 3 [.ref (p + 1), .int 0, .int 0, .int 0, .int 0, .int 0]) = g_9 at hU_8 hn_10 ⊢
  replace c_1 := (hU_8 _ (by omega)).trans c_1
  replace hU := hU.tr hU_8 (by omega) (by omega)
  replace ho := hn_10; clear hn_10
  refine z_aload_n (pc := 18) (zk9 kX3_init_0) rfl ?_
  refine z_iconst (pc := 19) (zk10 kX3_init_0) (v := 0) (by decide) ?_
  refine z_putf (pc := 20) (zk11 kX3_init_0) flX3_19 ho hB rfl rfl (Nat.le_of_ble_eq_true rfl) ?_
  show Z D B xX3_init 1 250 _ 23 [some (.ref p)] [] (zup g_9 p (zO 3 [.ref (p + 1), .int 0, .int 0, .int 0, .int 0, .int 0])) (p + 2)
  have hU_11 : Upd g_9 (zup g_9 p (zO 3 [.ref (p + 1), .int 0, .int 0, .int 0, .int 0, .int 0])) p 1 := Upd.one
  have hn_13 : (zup g_9 p (zO 3 [.ref (p + 1), .int 0, .int 0, .int 0, .int 0, .int 0])) p = some (zO 3 [.ref (p + 1), .int 0, .int 0, .int 0, .int 0, .int 0]) := zup_s
  generalize zup g_9 p (zO 3 [.ref (p + 1), .int 0, .int 0, .int 0, .int 0, .int 0]) = g_12 at hU_11 hn_13 ⊢
  replace c_1 := (hU_11 _ (by omega)).trans c_1
  replace hU := hU.tr hU_11 (by omega) (by omega)
  replace ho := hn_13; clear hn_13
  refine z_aload_n (pc := 23) (zk12 kX3_init_0) rfl ?_
  refine z_iconst (pc := 24) (zk13 kX3_init_0) (v := 0) (by decide) ?_
  refine z_putf (pc := 25) (zk14 kX3_init_0) flX3_22 ho hB rfl rfl (Nat.le_of_ble_eq_true rfl) ?_
  show Z D B xX3_init 1 250 _ 28 [some (.ref p)] [] (zup g_12 p (zO 3 [.ref (p + 1), .int 0, .int 0, .int 0, .int 0, .int 0])) (p + 2)
  have hU_14 : Upd g_12 (zup g_12 p (zO 3 [.ref (p + 1), .int 0, .int 0, .int 0, .int 0, .int 0])) p 1 := Upd.one
  have hn_16 : (zup g_12 p (zO 3 [.ref (p + 1), .int 0, .int 0, .int 0, .int 0, .int 0])) p = some (zO 3 [.ref (p + 1), .int 0, .int 0, .int 0, .int 0, .int 0]) := zup_s
  generalize zup g_12 p (zO 3 [.ref (p + 1), .int 0, .int 0, .int 0, .int 0, .int 0]) = g_15 at hU_14 hn_16 ⊢
  replace c_1 := (hU_14 _ (by omega)).trans c_1
  replace hU := hU.tr hU_14 (by omega) (by omega)
  replace ho := hn_16; clear hn_16
  refine z_aload_n (pc := 28) (zk15 kX3_init_0) rfl ?_
  refine z_iconst (pc := 29) (zk0 kX3_init_1) (v := 0) (by decide) ?_
  refine z_putf (pc := 30) (zk1 kX3_init_1) flX3_25 ho hB rfl rfl (Nat.le_of_ble_eq_true rfl) ?_
  show Z D B xX3_init 1 250 _ 33 [some (.ref p)] [] (zup g_15 p (zO 3 [.ref (p + 1), .int 0, .int 0, .int 0, .int 0, .int 0])) (p + 2)
  have hU_17 : Upd g_15 (zup g_15 p (zO 3 [.ref (p + 1), .int 0, .int 0, .int 0, .int 0, .int 0])) p 1 := Upd.one
  have hn_19 : (zup g_15 p (zO 3 [.ref (p + 1), .int 0, .int 0, .int 0, .int 0, .int 0])) p = some (zO 3 [.ref (p + 1), .int 0, .int 0, .int 0, .int 0, .int 0]) := zup_s
  generalize zup g_15 p (zO 3 [.ref (p + 1), .int 0, .int 0, .int 0, .int 0, .int 0]) = g_18 at hU_17 hn_19 ⊢
  replace c_1 := (hU_17 _ (by omega)).trans c_1
  replace hU := hU.tr hU_17 (by omega) (by omega)
  replace ho := hn_19; clear hn_19
  refine z_aload_n (pc := 33) (zk2 kX3_init_1) rfl ?_
  refine z_iconst (pc := 34) (zk3 kX3_init_1) (v := (-1)) (by decide) ?_
  refine z_putf (pc := 35) (zk4 kX3_init_1) flX3_28 ho hB rfl rfl (Nat.le_of_ble_eq_true rfl) ?_
  show Z D B xX3_init 1 250 _ 38 [some (.ref p)] [] (zup g_18 p (zO 3 [.ref (p + 1), .int 0, .int 0, .int 0, .int 0, .int (-1)])) (p + 2)
  have hU_20 : Upd g_18 (zup g_18 p (zO 3 [.ref (p + 1), .int 0, .int 0, .int 0, .int 0, .int (-1)])) p 1 := Upd.one
  have hn_22 : (zup g_18 p (zO 3 [.ref (p + 1), .int 0, .int 0, .int 0, .int 0, .int (-1)])) p = some (zO 3 [.ref (p + 1), .int 0, .int 0, .int 0, .int 0, .int (-1)]) := zup_s
  generalize zup g_18 p (zO 3 [.ref (p + 1), .int 0, .int 0, .int 0, .int 0, .int (-1)]) = g_21 at hU_20 hn_22 ⊢
  replace c_1 := (hU_20 _ (by omega)).trans c_1
  replace hU := hU.tr hU_20 (by omega) (by omega)
  replace ho := hn_22; clear hn_22
  exact z_vret (pc := 38) (zk5 kX3_init_1) rfl (Nat.le_of_ble_eq_true rfl) (Nat.le_of_ble_eq_true rfl) ⟨rfl, ⟨ho, c_1⟩, hU, rfl⟩
set_option maxRecDepth 20000 in
set_option maxHeartbeats 4000000 in
theorem c_I0 {D : zD} {B : Nat} {h : zH} {p : Nat} (ho : h p = some (zO 0 fs0X0)) (hB : B ≤ p) : zM D B xX0_init [.ref p] h (p + 1) (fun r h1 z1 => r = none ∧ GuAt h1 p (fun _ => 0) (fun _ => 0) ∧ LnAt h1 (p + 1) σ0 ∧ Upd h h1 p 12 ∧ z1 = p + 12) := by
  have hU : Upd h h p 12 := Upd.rf
  refine zM.of (by decide) rfl (n := 0) ?_
  show Z D B xX0_init 0 0 _ 0 [some (.ref p)] [] h (p + 1)
  refine z_aload_n (pc := 0) (zk0 kX0_init_0) rfl ?_
  refine z_objInit (pc := 1) (zk1 kX0_init_0) obX0 rfl rfl ?_
  refine z_aload_n (pc := 4) (zk2 kX0_init_0) rfl ?_
  refine z_new (pc := 5) (ci := 1) (N := 14) (fs := fs0X1) (zk3 kX0_init_0) nwX0_9 rfl (by decide) rfl rfl (fun _ => ?_)
  have hU_2 : Upd h (zup h (p + 1) (zO 1 fs0X1)) (p + 1) 1 := Upd.one
  have hn_4 : (zup h (p + 1) (zO 1 fs0X1)) (p + 1) = some (zO 1 fs0X1) := zup_s
  generalize zup h (p + 1) (zO 1 fs0X1) = g_3 at hU_2 hn_4 ⊢
  replace ho := (hU_2 _ (by omega)).trans ho
  replace hU := hU.tr hU_2 (by omega) (by omega)
  have c_1 := hn_4; clear hn_4
  refine z_sz (a := (p + 2)) rfl ?_
  show Z D B xX0_init 1 14 _ 8 [some (.ref p)] [.ref (p + 1), .ref p] g_3 (p + 2)
  refine z_dup (pc := 8) (zk4 kX0_init_0) rfl ?_
  refine z_callIN (pc := 9) (st := [.ref (p + 1), .ref p]) (zk5 kX0_init_0) lkX0_11 iiX1_init (c_I1 (p := (p + 1)) c_1 (by omega)) rfl rfl rfl (fun r_ g_5 z_ q_6 => ?_) rfl
  obtain ⟨er_, r_8, hU_7, ez_⟩ := q_6
  rw [er_, ez_]
  clear er_ ez_
  replace ho := (hU_7 _ (by omega)).trans ho
  replace hU := hU.tr hU_7 (by omega) (by omega)
  refine z_sz (a := (p + 10)) (by omega) ?_
  show Z D B xX0_init 9 94 _ 12 [some (.ref p)] [.ref (p + 1), .ref p] g_5 (p + 10)
  refine z_putF (pc := 12) (zk6 kX0_init_0) flX0_12 rfl rfl ho hB rfl rfl (Nat.le_of_ble_eq_true rfl) ?_
  show Z D B xX0_init 9 94 _ 15 [some (.ref p)] [] (zup g_5 p (zO 0 [.ref (p + 1), .null, .null])) (p + 10)
  have hU_9 : Upd g_5 (zup g_5 p (zO 0 [.ref (p + 1), .null, .null])) p 1 := Upd.one
  have hn_11 : (zup g_5 p (zO 0 [.ref (p + 1), .null, .null])) p = some (zO 0 [.ref (p + 1), .null, .null]) := zup_s
  generalize zup g_5 p (zO 0 [.ref (p + 1), .null, .null]) = g_10 at hU_9 hn_11 ⊢
  replace r_8 := LnAt.fr r_8 hU_9 (by omega)
  replace hU := hU.tr hU_9 (by omega) (by omega)
  replace ho := hn_11; clear hn_11
  refine z_aload_n (pc := 15) (zk7 kX0_init_0) rfl ?_
  refine z_bipush (pc := 16) (zk8 kX0_init_0) (v := 41) (by decide) ?_
  refine z_newa (pc := 18) (kd := 2) (N := 41) (a0 := (41, .inl (fun _ => 0))) (zk9 kX0_init_0) ac_boolean (fun _ => rfl) (fun _ => rfl) (by decide) (by decide) rfl rfl rfl (fun _ => ?_)
  have hU_13 : Upd g_10 (zup g_10 (p + 10) (zBo 41 (fun _ => 0))) (p + 10) 1 := Upd.one
  have hn_15 : (zup g_10 (p + 10) (zBo 41 (fun _ => 0))) (p + 10) = some (zBo 41 (fun _ => 0)) := zup_s
  generalize zup g_10 (p + 10) (zBo 41 (fun _ => 0)) = g_14 at hU_13 hn_15 ⊢
  replace ho := (hU_13 _ (by omega)).trans ho
  replace r_8 := LnAt.fr r_8 hU_13 (by omega)
  replace hU := hU.tr hU_13 (by omega) (by omega)
  have c_12 := hn_15; clear hn_15
  refine z_sz (a := (p + 11)) rfl ?_
  show Z D B xX0_init 10 135 _ 20 [some (.ref p)] [.ref (p + 10), .ref p] g_14 (p + 11)
  refine z_putF (pc := 20) (zk10 kX0_init_0) flX0_18 rfl rfl ho hB rfl rfl (Nat.le_of_ble_eq_true rfl) ?_
  show Z D B xX0_init 10 135 _ 23 [some (.ref p)] [] (zup g_14 p (zO 0 [.ref (p + 1), .ref (p + 10), .null])) (p + 11)
  have hU_16 : Upd g_14 (zup g_14 p (zO 0 [.ref (p + 1), .ref (p + 10), .null])) p 1 := Upd.one
  have hn_18 : (zup g_14 p (zO 0 [.ref (p + 1), .ref (p + 10), .null])) p = some (zO 0 [.ref (p + 1), .ref (p + 10), .null]) := zup_s
  generalize zup g_14 p (zO 0 [.ref (p + 1), .ref (p + 10), .null]) = g_17 at hU_16 hn_18 ⊢
  replace r_8 := LnAt.fr r_8 hU_16 (by omega)
  replace c_12 := (hU_16 _ (by omega)).trans c_12
  replace hU := hU.tr hU_16 (by omega) (by omega)
  replace ho := hn_18; clear hn_18
  refine z_aload_n (pc := 23) (zk11 kX0_init_0) rfl ?_
  refine z_bipush (pc := 24) (zk12 kX0_init_0) (v := 41) (by decide) ?_
  refine z_newa (pc := 26) (kd := 0) (N := 41) (a0 := (41, .inl (fun _ => 0))) (zk13 kX0_init_0) ac_int (fun _ => rfl) (fun _ => rfl) (by decide) (by decide) rfl rfl rfl (fun _ => ?_)
  have hU_20 : Upd g_17 (zup g_17 (p + 11) (zI 41 (fun _ => 0))) (p + 11) 1 := Upd.one
  have hn_22 : (zup g_17 (p + 11) (zI 41 (fun _ => 0))) (p + 11) = some (zI 41 (fun _ => 0)) := zup_s
  generalize zup g_17 (p + 11) (zI 41 (fun _ => 0)) = g_21 at hU_20 hn_22 ⊢
  replace ho := (hU_20 _ (by omega)).trans ho
  replace r_8 := LnAt.fr r_8 hU_20 (by omega)
  replace c_12 := (hU_20 _ (by omega)).trans c_12
  replace hU := hU.tr hU_20 (by omega) (by omega)
  have c_19 := hn_22; clear hn_22
  refine z_sz (a := (p + 12)) rfl ?_
  show Z D B xX0_init 11 176 _ 28 [some (.ref p)] [.ref (p + 11), .ref p] g_21 (p + 12)
  refine z_putF (pc := 28) (zk14 kX0_init_0) flX0_22 rfl rfl ho hB rfl rfl (Nat.le_of_ble_eq_true rfl) ?_
  show Z D B xX0_init 11 176 _ 31 [some (.ref p)] [] (zup g_21 p (zO 0 [.ref (p + 1), .ref (p + 10), .ref (p + 11)])) (p + 12)
  have hU_23 : Upd g_21 (zup g_21 p (zO 0 [.ref (p + 1), .ref (p + 10), .ref (p + 11)])) p 1 := Upd.one
  have hn_25 : (zup g_21 p (zO 0 [.ref (p + 1), .ref (p + 10), .ref (p + 11)])) p = some (zO 0 [.ref (p + 1), .ref (p + 10), .ref (p + 11)]) := zup_s
  generalize zup g_21 p (zO 0 [.ref (p + 1), .ref (p + 10), .ref (p + 11)]) = g_24 at hU_23 hn_25 ⊢
  replace r_8 := LnAt.fr r_8 hU_23 (by omega)
  replace c_12 := (hU_23 _ (by omega)).trans c_12
  replace c_19 := (hU_23 _ (by omega)).trans c_19
  replace hU := hU.tr hU_23 (by omega) (by omega)
  replace ho := hn_25; clear hn_25
  exact z_vret (pc := 31) (zk15 kX0_init_0) rfl (Nat.le_of_ble_eq_true rfl) (Nat.le_of_ble_eq_true rfl) ⟨rfl, ⟨ho, c_12, c_19⟩, r_8, hU, rfl⟩
