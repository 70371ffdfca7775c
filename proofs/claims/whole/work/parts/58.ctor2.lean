theorem shf {p i : Nat} {f : Nat → Option Nat} (hf : ∀ j, f j = if j < i then some (p + 32 + 2 * j) else none) (k : Nat) (hk : k = i) (a : Nat) (ha : a = p + 32 + 2 * i) : va_up f k (some a) = fun j => if j < i + 1 then some (p + 32 + 2 * j) else none := by
  subst hk
  subst ha
  funext j
  unfold va_up
  by_cases c : j = k
  · subst c; simp
  · have : j < k + 1 ↔ j < k := by omega
    simp [c, hf, this]
theorem held_z (s : Nat) : heldF τ0 s = -1 ∧ sizeF τ0 s = 0 := by simp [heldF, sizeF, τ0]
set_option maxRecDepth 20000 in
set_option maxHeartbeats 8000000 in
theorem c_I4 {D : zD} {B : Nat} {h : zH} {p : Nat} (ho : h p = some (zO 4 fs0X4)) (hB : B ≤ p) : zM D B xX4_init [.ref p] h (p + 1) (fun r h1 z1 => r = none ∧ XoAt h1 p 0 (rfo τ0) ∧ LnAt h1 (p + 1) σ0 ∧ XR h1 p σ0 τ0 ε0 ∧ Upd h h1 p 51 ∧ z1 = p + 51) := by
  have hU : Upd h h p 51 := Upd.rf
  refine zM.of (by decide) rfl (n := 1) ?_
  show Z D B xX4_init 0 0 _ 0 [some (.ref p), none] [] h (p + 1)
  refine z_aload_n (pc := 0) (zk0 kX4_init_0) rfl ?_
  refine z_objInit (pc := 1) (zk1 kX4_init_0) obX4 rfl rfl ?_
  refine z_aload_n (pc := 4) (zk2 kX4_init_0) rfl ?_
  refine z_new (pc := 5) (ci := 1) (N := 14) (fs := fs0X1) (zk3 kX4_init_0) nwX4_7 rfl (by decide) rfl rfl (fun _ => ?_)
  have hU_2 : Upd h (zup h (p + 1) (zO 1 fs0X1)) (p + 1) 1 := Upd.one
  have hn_4 : (zup h (p + 1) (zO 1 fs0X1)) (p + 1) = some (zO 1 fs0X1) := zup_s
  generalize zup h (p + 1) (zO 1 fs0X1) = g_3 at hU_2 hn_4 ⊢
  replace ho := (hU_2 _ (by omega)).trans ho
  replace hU := hU.tr hU_2 (by omega) (by omega)
  have c_1 := hn_4; clear hn_4
  refine z_sz (a := (p + 2)) rfl ?_
  show Z D B xX4_init 1 14 _ 8 [some (.ref p), none] [.ref (p + 1), .ref p] g_3 (p + 2)
  refine z_dup (pc := 8) (zk4 kX4_init_0) rfl ?_
  refine z_callIN (pc := 9) (st := [.ref (p + 1), .ref p]) (zk5 kX4_init_0) lkX4_9 iiX1_init (c_I1 (p := (p + 1)) c_1 (by omega)) rfl rfl rfl (fun r_ g_5 z_ q_6 => ?_) rfl
  obtain ⟨er_, r_8, hU_7, ez_⟩ := q_6
  rw [er_, ez_]
  clear er_ ez_
  replace ho := (hU_7 _ (by omega)).trans ho
  replace hU := hU.tr hU_7 (by omega) (by omega)
  refine z_sz (a := (p + 10)) (by omega) ?_
  show Z D B xX4_init 9 94 _ 12 [some (.ref p), none] [.ref (p + 1), .ref p] g_5 (p + 10)
  refine z_putF (pc := 12) (zk6 kX4_init_0) flX4_10 rfl rfl ho hB rfl rfl (Nat.le_of_ble_eq_true rfl) ?_
  show Z D B xX4_init 9 94 _ 15 [some (.ref p), none] [] (zup g_5 p (zO 4 [.ref (p + 1), .null, .null, .null, .null, .null, .int 0])) (p + 10)
  have hU_9 : Upd g_5 (zup g_5 p (zO 4 [.ref (p + 1), .null, .null, .null, .null, .null, .int 0])) p 1 := Upd.one
  have hn_11 : (zup g_5 p (zO 4 [.ref (p + 1), .null, .null, .null, .null, .null, .int 0])) p = some (zO 4 [.ref (p + 1), .null, .null, .null, .null, .null, .int 0]) := zup_s
  generalize zup g_5 p (zO 4 [.ref (p + 1), .null, .null, .null, .null, .null, .int 0]) = g_10 at hU_9 hn_11 ⊢
  replace r_8 := LnAt.fr r_8 hU_9 (by omega)
  replace hU := hU.tr hU_9 (by omega) (by omega)
  replace ho := hn_11; clear hn_11
  refine z_aload_n (pc := 15) (zk7 kX4_init_0) rfl ?_
  refine z_new (pc := 16) (ci := 1) (N := 14) (fs := fs0X1) (zk8 kX4_init_0) nwX4_7 rfl (by decide) rfl rfl (fun _ => ?_)
  have hU_13 : Upd g_10 (zup g_10 (p + 10) (zO 1 fs0X1)) (p + 10) 1 := Upd.one
  have hn_15 : (zup g_10 (p + 10) (zO 1 fs0X1)) (p + 10) = some (zO 1 fs0X1) := zup_s
  generalize zup g_10 (p + 10) (zO 1 fs0X1) = g_14 at hU_13 hn_15 ⊢
  replace ho := (hU_13 _ (by omega)).trans ho
  replace r_8 := LnAt.fr r_8 hU_13 (by omega)
  replace hU := hU.tr hU_13 (by omega) (by omega)
  have c_12 := hn_15; clear hn_15
  refine z_sz (a := (p + 11)) rfl ?_
  show Z D B xX4_init 10 108 _ 19 [some (.ref p), none] [.ref (p + 10), .ref p] g_14 (p + 11)
  refine z_dup (pc := 19) (zk9 kX4_init_0) rfl ?_
  refine z_callIN (pc := 20) (st := [.ref (p + 10), .ref p]) (zk10 kX4_init_0) lkX4_9 iiX1_init (c_I1 (p := (p + 10)) c_12 (by omega)) rfl rfl rfl (fun r_ g_16 z_ q_17 => ?_) rfl
  obtain ⟨er_, r_19, hU_18, ez_⟩ := q_17
  rw [er_, ez_]
  clear er_ ez_
  replace ho := (hU_18 _ (by omega)).trans ho
  replace r_8 := LnAt.fr r_8 hU_18 (by omega)
  replace hU := hU.tr hU_18 (by omega) (by omega)
  refine z_sz (a := (p + 19)) (by omega) ?_
  show Z D B xX4_init 18 188 _ 23 [some (.ref p), none] [.ref (p + 10), .ref p] g_16 (p + 19)
  refine z_putF (pc := 23) (zk11 kX4_init_0) flX4_16 rfl rfl ho hB rfl rfl (Nat.le_of_ble_eq_true rfl) ?_
  show Z D B xX4_init 18 188 _ 26 [some (.ref p), none] [] (zup g_16 p (zO 4 [.ref (p + 1), .ref (p + 10), .null, .null, .null, .null, .int 0])) (p + 19)
  have hU_20 : Upd g_16 (zup g_16 p (zO 4 [.ref (p + 1), .ref (p + 10), .null, .null, .null, .null, .int 0])) p 1 := Upd.one
  have hn_22 : (zup g_16 p (zO 4 [.ref (p + 1), .ref (p + 10), .null, .null, .null, .null, .int 0])) p = some (zO 4 [.ref (p + 1), .ref (p + 10), .null, .null, .null, .null, .int 0]) := zup_s
  generalize zup g_16 p (zO 4 [.ref (p + 1), .ref (p + 10), .null, .null, .null, .null, .int 0]) = g_21 at hU_20 hn_22 ⊢
  replace r_8 := LnAt.fr r_8 hU_20 (by omega)
  replace r_19 := LnAt.fr r_19 hU_20 (by omega)
  replace hU := hU.tr hU_20 (by omega) (by omega)
  replace ho := hn_22; clear hn_22
  refine z_aload_n (pc := 26) (zk12 kX4_init_0) rfl ?_
  refine z_new (pc := 27) (ci := 0) (N := 3) (fs := fs0X0) (zk13 kX4_init_0) nwX4_19 rfl (by decide) rfl rfl (fun _ => ?_)
  have hU_24 : Upd g_21 (zup g_21 (p + 19) (zO 0 fs0X0)) (p + 19) 1 := Upd.one
  have hn_26 : (zup g_21 (p + 19) (zO 0 fs0X0)) (p + 19) = some (zO 0 fs0X0) := zup_s
  generalize zup g_21 (p + 19) (zO 0 fs0X0) = g_25 at hU_24 hn_26 ⊢
  replace ho := (hU_24 _ (by omega)).trans ho
  replace r_8 := LnAt.fr r_8 hU_24 (by omega)
  replace r_19 := LnAt.fr r_19 hU_24 (by omega)
  replace hU := hU.tr hU_24 (by omega) (by omega)
  have c_23 := hn_26; clear hn_26
  refine z_sz (a := (p + 20)) rfl ?_
  show Z D B xX4_init 19 191 _ 30 [some (.ref p), none] [.ref (p + 19), .ref p] g_25 (p + 20)
  refine z_dup (pc := 30) (zk14 kX4_init_0) rfl ?_
  refine z_callIN (pc := 31) (st := [.ref (p + 19), .ref p]) (zk15 kX4_init_0) lkX4_21 iiX0_init (c_I0 (p := (p + 19)) c_23 (by omega)) rfl rfl rfl (fun r_ g_27 z_ q_28 => ?_) rfl
  obtain ⟨er_, r_30, r_31, hU_29, ez_⟩ := q_28
  rw [er_, ez_]
  clear er_ ez_
  replace ho := (hU_29 _ (by omega)).trans ho
  replace r_8 := LnAt.fr r_8 hU_29 (by omega)
  replace r_19 := LnAt.fr r_19 hU_29 (by omega)
  replace hU := hU.tr hU_29 (by omega) (by omega)
  refine z_sz (a := (p + 31)) (by omega) ?_
  show Z D B xX4_init 30 367 _ 34 [some (.ref p), none] [.ref (p + 19), .ref p] g_27 (p + 31)
  refine z_putF (pc := 34) (zk0 kX4_init_1) flX4_22 rfl rfl ho hB rfl rfl (Nat.le_of_ble_eq_true rfl) ?_
  show Z D B xX4_init 30 367 _ 37 [some (.ref p), none] [] (zup g_27 p (zO 4 [.ref (p + 1), .ref (p + 10), .ref (p + 19), .null, .null, .null, .int 0])) (p + 31)
  have hU_32 : Upd g_27 (zup g_27 p (zO 4 [.ref (p + 1), .ref (p + 10), .ref (p + 19), .null, .null, .null, .int 0])) p 1 := Upd.one
  have hn_34 : (zup g_27 p (zO 4 [.ref (p + 1), .ref (p + 10), .ref (p + 19), .null, .null, .null, .int 0])) p = some (zO 4 [.ref (p + 1), .ref (p + 10), .ref (p + 19), .null, .null, .null, .int 0]) := zup_s
  generalize zup g_27 p (zO 4 [.ref (p + 1), .ref (p + 10), .ref (p + 19), .null, .null, .null, .int 0]) = g_33 at hU_32 hn_34 ⊢
  replace r_8 := LnAt.fr r_8 hU_32 (by omega)
  replace r_19 := LnAt.fr r_19 hU_32 (by omega)
  replace r_30 := GuAt.fr r_30 hU_32 (by omega)
  replace r_31 := LnAt.fr r_31 hU_32 (by omega)
  replace hU := hU.tr hU_32 (by omega) (by omega)
  replace ho := hn_34; clear hn_34
  refine z_aload_n (pc := 37) (zk1 kX4_init_1) rfl ?_
  refine z_bipush (pc := 38) (zk2 kX4_init_1) (v := 8) (by decide) ?_
  refine z_anew (pc := 40) (N := 8) (zk3 kX4_init_1) cl_sh (by decide) (by decide) rfl rfl rfl (fun _ => ?_)
  have hU_35 : Upd g_33 (zup g_33 (p + 31) (zRf 3 8 (fun _ => none))) (p + 31) 1 := Upd.one
  have hn_37 : (zup g_33 (p + 31) (zRf 3 8 (fun _ => none))) (p + 31) = some (zRf 3 8 (fun _ => none)) := zup_s
  generalize zup g_33 (p + 31) (zRf 3 8 (fun _ => none)) = g_36 at hU_35 hn_37 ⊢
  replace ho := (hU_35 _ (by omega)).trans ho
  replace r_8 := LnAt.fr r_8 hU_35 (by omega)
  replace r_19 := LnAt.fr r_19 hU_35 (by omega)
  replace r_30 := GuAt.fr r_30 hU_35 (by omega)
  replace r_31 := LnAt.fr r_31 hU_35 (by omega)
  replace hU := hU.tr hU_35 (by omega) (by omega)
  have hsh := hn_37; clear hn_37
  refine z_sz (a := (p + 32)) rfl ?_
  show Z D B xX4_init 31 375 _ 43 [some (.ref p), none] [.ref (p + 31), .ref p] g_36 (p + 32)
  refine z_putF (pc := 43) (zk4 kX4_init_1) flX4_28 rfl rfl ho hB rfl rfl (Nat.le_of_ble_eq_true rfl) ?_
  show Z D B xX4_init 31 375 _ 46 [some (.ref p), none] [] (zup g_36 p (zO 4 [.ref (p + 1), .ref (p + 10), .ref (p + 19), .ref (p + 31), .null, .null, .int 0])) (p + 32)
  have hU_38 : Upd g_36 (zup g_36 p (zO 4 [.ref (p + 1), .ref (p + 10), .ref (p + 19), .ref (p + 31), .null, .null, .int 0])) p 1 := Upd.one
  have hn_40 : (zup g_36 p (zO 4 [.ref (p + 1), .ref (p + 10), .ref (p + 19), .ref (p + 31), .null, .null, .int 0])) p = some (zO 4 [.ref (p + 1), .ref (p + 10), .ref (p + 19), .ref (p + 31), .null, .null, .int 0]) := zup_s
  generalize zup g_36 p (zO 4 [.ref (p + 1), .ref (p + 10), .ref (p + 19), .ref (p + 31), .null, .null, .int 0]) = g_39 at hU_38 hn_40 ⊢
  replace r_8 := LnAt.fr r_8 hU_38 (by omega)
  replace r_19 := LnAt.fr r_19 hU_38 (by omega)
  replace r_30 := GuAt.fr r_30 hU_38 (by omega)
  replace r_31 := LnAt.fr r_31 hU_38 (by omega)
  replace hsh := (hU_38 _ (by omega)).trans hsh
  replace hU := hU.tr hU_38 (by omega) (by omega)
  replace ho := hn_40; clear hn_40
  refine z_iconst (pc := 46) (zk5 kX4_init_1) (v := 0) (by decide) ?_
  refine z_istore_n (pc := 47) (zk6 kX4_init_1) rfl rfl ?_
  show Z D B xX4_init 31 375 _ 48 [some (.ref p), some (.int 0)] [] g_39 (p + 32)
  refine z_iload_n (pc := 48) (zk7 kX4_init_1) rfl ?_
  refine z_bipush (pc := 49) (zk8 kX4_init_1) (v := 8) (by decide) ?_
  refine z_icmp_ge (pc := 51) (zk9 kX4_init_1) (tgt := 73) (by decide) (fun q => absurd q (by decide)) (fun _ => ?_)
  refine z_aload_n (pc := 54) (zk10 kX4_init_1) rfl ?_
  refine z_getf (pc := 55) (zk11 kX4_init_1) flX4_28 ho (v := .ref (p + 31)) rfl ?_
  refine z_iload_n (pc := 58) (zk12 kX4_init_1) rfl ?_
  refine z_new (pc := 59) (ci := 2) (N := 3) (fs := fs0X2) (zk13 kX4_init_1) nwX4_26 rfl (by decide) rfl rfl (fun _ => ?_)
  have hU_42 : Upd g_39 (zup g_39 (p + 32) (zO 2 fs0X2)) (p + 32) 1 := Upd.one
  have hn_44 : (zup g_39 (p + 32) (zO 2 fs0X2)) (p + 32) = some (zO 2 fs0X2) := zup_s
  generalize zup g_39 (p + 32) (zO 2 fs0X2) = g_43 at hU_42 hn_44 ⊢
  replace ho := (hU_42 _ (by omega)).trans ho
  replace r_8 := LnAt.fr r_8 hU_42 (by omega)
  replace r_19 := LnAt.fr r_19 hU_42 (by omega)
  replace r_30 := GuAt.fr r_30 hU_42 (by omega)
  replace r_31 := LnAt.fr r_31 hU_42 (by omega)
  replace hsh := (hU_42 _ (by omega)).trans hsh
  replace hU := hU.tr hU_42 (by omega) (by omega)
  have c_41 := hn_44; clear hn_44
  refine z_sz (a := (p + 33)) rfl ?_
  show Z D B xX4_init 32 378 _ 62 [some (.ref p), some (.int 0)] [.ref (p + 32), .int 0, .ref (p + 31)] g_43 (p + 33)
  refine z_dup (pc := 62) (zk14 kX4_init_1) rfl ?_
  refine z_callIN (pc := 63) (st := [.ref (p + 32), .int 0, .ref (p + 31)]) (zk15 kX4_init_1) lkX4_32 iiX2_init (c_I2 (p := (p + 32)) c_41 (by omega)) rfl rfl rfl (fun r_ g_45 z_ q_46 => ?_) rfl
  obtain ⟨er_, r_48, hU_47, ez_⟩ := q_46
  rw [er_, ez_]
  clear er_ ez_
  replace ho := (hU_47 _ (by omega)).trans ho
  replace r_8 := LnAt.fr r_8 hU_47 (by omega)
  replace r_19 := LnAt.fr r_19 hU_47 (by omega)
  replace r_30 := GuAt.fr r_30 hU_47 (by omega)
  replace r_31 := LnAt.fr r_31 hU_47 (by omega)
  replace hsh := (hU_47 _ (by omega)).trans hsh
  replace hU := hU.tr hU_47 (by omega) (by omega)
  refine z_sz (a := (p + 34)) (by omega) ?_
  show Z D B xX4_init 33 418 _ 66 [some (.ref p), some (.int 0)] [.ref (p + 32), .int 0, .ref (p + 31)] g_45 (p + 34)
  refine z_aast3 (pc := 66) (zk0 kX4_init_2) hsh r_48.1 (by omega) (vp_in_nI (n := 0) (N := 8) (by decide) (by decide)) ?_
  rw [shf (p := p) (i := 0) (fun j => by simp) _ (by decide) _ (by omega)]
  have hU_49 : Upd g_45 (zup g_45 (p + 31) (zRf 3 8 (fun j => if j < 1 then some (p + 32 + 2 * j) else none))) (p + 31) 1 := Upd.one
  have hn_51 : (zup g_45 (p + 31) (zRf 3 8 (fun j => if j < 1 then some (p + 32 + 2 * j) else none))) (p + 31) = some (zRf 3 8 (fun j => if j < 1 then some (p + 32 + 2 * j) else none)) := zup_s
  generalize zup g_45 (p + 31) (zRf 3 8 (fun j => if j < 1 then some (p + 32 + 2 * j) else none)) = g_50 at hU_49 hn_51 ⊢
  replace ho := (hU_49 _ (by omega)).trans ho
  replace r_8 := LnAt.fr r_8 hU_49 (by omega)
  replace r_19 := LnAt.fr r_19 hU_49 (by omega)
  replace r_30 := GuAt.fr r_30 hU_49 (by omega)
  replace r_31 := LnAt.fr r_31 hU_49 (by omega)
  replace r_48 := ShAt.fr r_48 hU_49 (by omega)
  replace hU := hU.tr hU_49 (by omega) (by omega)
  replace hsh := hn_51; clear hn_51
  refine z_iinc (pc := 67) (zk1 kX4_init_2) (v := 1) rfl (by decide) rfl rfl ?_
  show Z D B xX4_init 33 418 _ 70 [some (.ref p), some (.int 1)] [] g_50 (p + 34)
  refine z_goto (pc := 70) (zk2 kX4_init_2) (tgt := 48) (by decide) ?_
  refine z_iload_n (pc := 48) (zk7 kX4_init_1) rfl ?_
  refine z_bipush (pc := 49) (zk8 kX4_init_1) (v := 8) (by decide) ?_
  refine z_icmp_ge (pc := 51) (zk9 kX4_init_1) (tgt := 73) (by decide) (fun q => absurd q (by decide)) (fun _ => ?_)
  refine z_aload_n (pc := 54) (zk10 kX4_init_1) rfl ?_
  refine z_getf (pc := 55) (zk11 kX4_init_1) flX4_28 ho (v := .ref (p + 31)) rfl ?_
  refine z_iload_n (pc := 58) (zk12 kX4_init_1) rfl ?_
  refine z_new (pc := 59) (ci := 2) (N := 3) (fs := fs0X2) (zk13 kX4_init_1) nwX4_26 rfl (by decide) rfl rfl (fun _ => ?_)
  have hU_53 : Upd g_50 (zup g_50 (p + 34) (zO 2 fs0X2)) (p + 34) 1 := Upd.one
  have hn_55 : (zup g_50 (p + 34) (zO 2 fs0X2)) (p + 34) = some (zO 2 fs0X2) := zup_s
  generalize zup g_50 (p + 34) (zO 2 fs0X2) = g_54 at hU_53 hn_55 ⊢
  replace ho := (hU_53 _ (by omega)).trans ho
  replace r_8 := LnAt.fr r_8 hU_53 (by omega)
  replace r_19 := LnAt.fr r_19 hU_53 (by omega)
  replace r_30 := GuAt.fr r_30 hU_53 (by omega)
  replace r_31 := LnAt.fr r_31 hU_53 (by omega)
  replace hsh := (hU_53 _ (by omega)).trans hsh
  replace r_48 := ShAt.fr r_48 hU_53 (by omega)
  replace hU := hU.tr hU_53 (by omega) (by omega)
  have c_52 := hn_55; clear hn_55
  refine z_sz (a := (p + 35)) rfl ?_
  show Z D B xX4_init 34 421 _ 62 [some (.ref p), some (.int 1)] [.ref (p + 34), .int 1, .ref (p + 31)] g_54 (p + 35)
  refine z_dup (pc := 62) (zk14 kX4_init_1) rfl ?_
  refine z_callIN (pc := 63) (st := [.ref (p + 34), .int 1, .ref (p + 31)]) (zk15 kX4_init_1) lkX4_32 iiX2_init (c_I2 (p := (p + 34)) c_52 (by omega)) rfl rfl rfl (fun r_ g_56 z_ q_57 => ?_) rfl
  obtain ⟨er_, r_59, hU_58, ez_⟩ := q_57
  rw [er_, ez_]
  clear er_ ez_
  replace ho := (hU_58 _ (by omega)).trans ho
  replace r_8 := LnAt.fr r_8 hU_58 (by omega)
  replace r_19 := LnAt.fr r_19 hU_58 (by omega)
  replace r_30 := GuAt.fr r_30 hU_58 (by omega)
  replace r_31 := LnAt.fr r_31 hU_58 (by omega)
  replace hsh := (hU_58 _ (by omega)).trans hsh
  replace r_48 := ShAt.fr r_48 hU_58 (by omega)
  replace hU := hU.tr hU_58 (by omega) (by omega)
  refine z_sz (a := (p + 36)) (by omega) ?_
  show Z D B xX4_init 35 461 _ 66 [some (.ref p), some (.int 1)] [.ref (p + 34), .int 1, .ref (p + 31)] g_56 (p + 36)
  refine z_aast3 (pc := 66) (zk0 kX4_init_2) hsh r_59.1 (by omega) (vp_in_nI (n := 1) (N := 8) (by decide) (by decide)) ?_
  rw [shf (p := p) (i := 1) (fun j => rfl) _ (by decide) _ (by omega)]
  have hU_60 : Upd g_56 (zup g_56 (p + 31) (zRf 3 8 (fun j => if j < 2 then some (p + 32 + 2 * j) else none))) (p + 31) 1 := Upd.one
  have hn_62 : (zup g_56 (p + 31) (zRf 3 8 (fun j => if j < 2 then some (p + 32 + 2 * j) else none))) (p + 31) = some (zRf 3 8 (fun j => if j < 2 then some (p + 32 + 2 * j) else none)) := zup_s
  generalize zup g_56 (p + 31) (zRf 3 8 (fun j => if j < 2 then some (p + 32 + 2 * j) else none)) = g_61 at hU_60 hn_62 ⊢
  replace ho := (hU_60 _ (by omega)).trans ho
  replace r_8 := LnAt.fr r_8 hU_60 (by omega)
  replace r_19 := LnAt.fr r_19 hU_60 (by omega)
  replace r_30 := GuAt.fr r_30 hU_60 (by omega)
  replace r_31 := LnAt.fr r_31 hU_60 (by omega)
  replace r_48 := ShAt.fr r_48 hU_60 (by omega)
  replace r_59 := ShAt.fr r_59 hU_60 (by omega)
  replace hU := hU.tr hU_60 (by omega) (by omega)
  replace hsh := hn_62; clear hn_62
  refine z_iinc (pc := 67) (zk1 kX4_init_2) (v := 2) rfl (by decide) rfl rfl ?_
  show Z D B xX4_init 35 461 _ 70 [some (.ref p), some (.int 2)] [] g_61 (p + 36)
  refine z_goto (pc := 70) (zk2 kX4_init_2) (tgt := 48) (by decide) ?_
  refine z_iload_n (pc := 48) (zk7 kX4_init_1) rfl ?_
  refine z_bipush (pc := 49) (zk8 kX4_init_1) (v := 8) (by decide) ?_
  refine z_icmp_ge (pc := 51) (zk9 kX4_init_1) (tgt := 73) (by decide) (fun q => absurd q (by decide)) (fun _ => ?_)
  refine z_aload_n (pc := 54) (zk10 kX4_init_1) rfl ?_
  refine z_getf (pc := 55) (zk11 kX4_init_1) flX4_28 ho (v := .ref (p + 31)) rfl ?_
  refine z_iload_n (pc := 58) (zk12 kX4_init_1) rfl ?_
  refine z_new (pc := 59) (ci := 2) (N := 3) (fs := fs0X2) (zk13 kX4_init_1) nwX4_26 rfl (by decide) rfl rfl (fun _ => ?_)
  have hU_64 : Upd g_61 (zup g_61 (p + 36) (zO 2 fs0X2)) (p + 36) 1 := Upd.one
  have hn_66 : (zup g_61 (p + 36) (zO 2 fs0X2)) (p + 36) = some (zO 2 fs0X2) := zup_s
  generalize zup g_61 (p + 36) (zO 2 fs0X2) = g_65 at hU_64 hn_66 ⊢
  replace ho := (hU_64 _ (by omega)).trans ho
  replace r_8 := LnAt.fr r_8 hU_64 (by omega)
  replace r_19 := LnAt.fr r_19 hU_64 (by omega)
  replace r_30 := GuAt.fr r_30 hU_64 (by omega)
  replace r_31 := LnAt.fr r_31 hU_64 (by omega)
  replace hsh := (hU_64 _ (by omega)).trans hsh
  replace r_48 := ShAt.fr r_48 hU_64 (by omega)
  replace r_59 := ShAt.fr r_59 hU_64 (by omega)
  replace hU := hU.tr hU_64 (by omega) (by omega)
  have c_63 := hn_66; clear hn_66
  refine z_sz (a := (p + 37)) rfl ?_
  show Z D B xX4_init 36 464 _ 62 [some (.ref p), some (.int 2)] [.ref (p + 36), .int 2, .ref (p + 31)] g_65 (p + 37)
  refine z_dup (pc := 62) (zk14 kX4_init_1) rfl ?_
  refine z_callIN (pc := 63) (st := [.ref (p + 36), .int 2, .ref (p + 31)]) (zk15 kX4_init_1) lkX4_32 iiX2_init (c_I2 (p := (p + 36)) c_63 (by omega)) rfl rfl rfl (fun r_ g_67 z_ q_68 => ?_) rfl
  obtain ⟨er_, r_70, hU_69, ez_⟩ := q_68
  rw [er_, ez_]
  clear er_ ez_
  replace ho := (hU_69 _ (by omega)).trans ho
  replace r_8 := LnAt.fr r_8 hU_69 (by omega)
  replace r_19 := LnAt.fr r_19 hU_69 (by omega)
  replace r_30 := GuAt.fr r_30 hU_69 (by omega)
  replace r_31 := LnAt.fr r_31 hU_69 (by omega)
  replace hsh := (hU_69 _ (by omega)).trans hsh
  replace r_48 := ShAt.fr r_48 hU_69 (by omega)
  replace r_59 := ShAt.fr r_59 hU_69 (by omega)
  replace hU := hU.tr hU_69 (by omega) (by omega)
  refine z_sz (a := (p + 38)) (by omega) ?_
  show Z D B xX4_init 37 504 _ 66 [some (.ref p), some (.int 2)] [.ref (p + 36), .int 2, .ref (p + 31)] g_67 (p + 38)
  refine z_aast3 (pc := 66) (zk0 kX4_init_2) hsh r_70.1 (by omega) (vp_in_nI (n := 2) (N := 8) (by decide) (by decide)) ?_
  rw [shf (p := p) (i := 2) (fun j => rfl) _ (by decide) _ (by omega)]
  have hU_71 : Upd g_67 (zup g_67 (p + 31) (zRf 3 8 (fun j => if j < 3 then some (p + 32 + 2 * j) else none))) (p + 31) 1 := Upd.one
  have hn_73 : (zup g_67 (p + 31) (zRf 3 8 (fun j => if j < 3 then some (p + 32 + 2 * j) else none))) (p + 31) = some (zRf 3 8 (fun j => if j < 3 then some (p + 32 + 2 * j) else none)) := zup_s
  generalize zup g_67 (p + 31) (zRf 3 8 (fun j => if j < 3 then some (p + 32 + 2 * j) else none)) = g_72 at hU_71 hn_73 ⊢
  replace ho := (hU_71 _ (by omega)).trans ho
  replace r_8 := LnAt.fr r_8 hU_71 (by omega)
  replace r_19 := LnAt.fr r_19 hU_71 (by omega)
  replace r_30 := GuAt.fr r_30 hU_71 (by omega)
  replace r_31 := LnAt.fr r_31 hU_71 (by omega)
  replace r_48 := ShAt.fr r_48 hU_71 (by omega)
  replace r_59 := ShAt.fr r_59 hU_71 (by omega)
  replace r_70 := ShAt.fr r_70 hU_71 (by omega)
  replace hU := hU.tr hU_71 (by omega) (by omega)
  replace hsh := hn_73; clear hn_73
  refine z_iinc (pc := 67) (zk1 kX4_init_2) (v := 3) rfl (by decide) rfl rfl ?_
  show Z D B xX4_init 37 504 _ 70 [some (.ref p), some (.int 3)] [] g_72 (p + 38)
  refine z_goto (pc := 70) (zk2 kX4_init_2) (tgt := 48) (by decide) ?_
  refine z_iload_n (pc := 48) (zk7 kX4_init_1) rfl ?_
  refine z_bipush (pc := 49) (zk8 kX4_init_1) (v := 8) (by decide) ?_
  refine z_icmp_ge (pc := 51) (zk9 kX4_init_1) (tgt := 73) (by decide) (fun q => absurd q (by decide)) (fun _ => ?_)
  refine z_aload_n (pc := 54) (zk10 kX4_init_1) rfl ?_
  refine z_getf (pc := 55) (zk11 kX4_init_1) flX4_28 ho (v := .ref (p + 31)) rfl ?_
  refine z_iload_n (pc := 58) (zk12 kX4_init_1) rfl ?_
  refine z_new (pc := 59) (ci := 2) (N := 3) (fs := fs0X2) (zk13 kX4_init_1) nwX4_26 rfl (by decide) rfl rfl (fun _ => ?_)
  have hU_75 : Upd g_72 (zup g_72 (p + 38) (zO 2 fs0X2)) (p + 38) 1 := Upd.one
  have hn_77 : (zup g_72 (p + 38) (zO 2 fs0X2)) (p + 38) = some (zO 2 fs0X2) := zup_s
  generalize zup g_72 (p + 38) (zO 2 fs0X2) = g_76 at hU_75 hn_77 ⊢
  replace ho := (hU_75 _ (by omega)).trans ho
  replace r_8 := LnAt.fr r_8 hU_75 (by omega)
  replace r_19 := LnAt.fr r_19 hU_75 (by omega)
  replace r_30 := GuAt.fr r_30 hU_75 (by omega)
  replace r_31 := LnAt.fr r_31 hU_75 (by omega)
  replace hsh := (hU_75 _ (by omega)).trans hsh
  replace r_48 := ShAt.fr r_48 hU_75 (by omega)
  replace r_59 := ShAt.fr r_59 hU_75 (by omega)
  replace r_70 := ShAt.fr r_70 hU_75 (by omega)
  replace hU := hU.tr hU_75 (by omega) (by omega)
  have c_74 := hn_77; clear hn_77
  refine z_sz (a := (p + 39)) rfl ?_
  show Z D B xX4_init 38 507 _ 62 [some (.ref p), some (.int 3)] [.ref (p + 38), .int 3, .ref (p + 31)] g_76 (p + 39)
  refine z_dup (pc := 62) (zk14 kX4_init_1) rfl ?_
  refine z_callIN (pc := 63) (st := [.ref (p + 38), .int 3, .ref (p + 31)]) (zk15 kX4_init_1) lkX4_32 iiX2_init (c_I2 (p := (p + 38)) c_74 (by omega)) rfl rfl rfl (fun r_ g_78 z_ q_79 => ?_) rfl
  obtain ⟨er_, r_81, hU_80, ez_⟩ := q_79
  rw [er_, ez_]
  clear er_ ez_
  replace ho := (hU_80 _ (by omega)).trans ho
  replace r_8 := LnAt.fr r_8 hU_80 (by omega)
  replace r_19 := LnAt.fr r_19 hU_80 (by omega)
  replace r_30 := GuAt.fr r_30 hU_80 (by omega)
  replace r_31 := LnAt.fr r_31 hU_80 (by omega)
  replace hsh := (hU_80 _ (by omega)).trans hsh
  replace r_48 := ShAt.fr r_48 hU_80 (by omega)
  replace r_59 := ShAt.fr r_59 hU_80 (by omega)
  replace r_70 := ShAt.fr r_70 hU_80 (by omega)
  replace hU := hU.tr hU_80 (by omega) (by omega)
  refine z_sz (a := (p + 40)) (by omega) ?_
  show Z D B xX4_init 39 547 _ 66 [some (.ref p), some (.int 3)] [.ref (p + 38), .int 3, .ref (p + 31)] g_78 (p + 40)
  refine z_aast3 (pc := 66) (zk0 kX4_init_2) hsh r_81.1 (by omega) (vp_in_nI (n := 3) (N := 8) (by decide) (by decide)) ?_
  rw [shf (p := p) (i := 3) (fun j => rfl) _ (by decide) _ (by omega)]
  have hU_82 : Upd g_78 (zup g_78 (p + 31) (zRf 3 8 (fun j => if j < 4 then some (p + 32 + 2 * j) else none))) (p + 31) 1 := Upd.one
  have hn_84 : (zup g_78 (p + 31) (zRf 3 8 (fun j => if j < 4 then some (p + 32 + 2 * j) else none))) (p + 31) = some (zRf 3 8 (fun j => if j < 4 then some (p + 32 + 2 * j) else none)) := zup_s
  generalize zup g_78 (p + 31) (zRf 3 8 (fun j => if j < 4 then some (p + 32 + 2 * j) else none)) = g_83 at hU_82 hn_84 ⊢
  replace ho := (hU_82 _ (by omega)).trans ho
  replace r_8 := LnAt.fr r_8 hU_82 (by omega)
  replace r_19 := LnAt.fr r_19 hU_82 (by omega)
  replace r_30 := GuAt.fr r_30 hU_82 (by omega)
  replace r_31 := LnAt.fr r_31 hU_82 (by omega)
  replace r_48 := ShAt.fr r_48 hU_82 (by omega)
  replace r_59 := ShAt.fr r_59 hU_82 (by omega)
  replace r_70 := ShAt.fr r_70 hU_82 (by omega)
  replace r_81 := ShAt.fr r_81 hU_82 (by omega)
  replace hU := hU.tr hU_82 (by omega) (by omega)
  replace hsh := hn_84; clear hn_84
  refine z_iinc (pc := 67) (zk1 kX4_init_2) (v := 4) rfl (by decide) rfl rfl ?_
  show Z D B xX4_init 39 547 _ 70 [some (.ref p), some (.int 4)] [] g_83 (p + 40)
  refine z_goto (pc := 70) (zk2 kX4_init_2) (tgt := 48) (by decide) ?_
  refine z_iload_n (pc := 48) (zk7 kX4_init_1) rfl ?_
  refine z_bipush (pc := 49) (zk8 kX4_init_1) (v := 8) (by decide) ?_
  refine z_icmp_ge (pc := 51) (zk9 kX4_init_1) (tgt := 73) (by decide) (fun q => absurd q (by decide)) (fun _ => ?_)
  refine z_aload_n (pc := 54) (zk10 kX4_init_1) rfl ?_
  refine z_getf (pc := 55) (zk11 kX4_init_1) flX4_28 ho (v := .ref (p + 31)) rfl ?_
  refine z_iload_n (pc := 58) (zk12 kX4_init_1) rfl ?_
  refine z_new (pc := 59) (ci := 2) (N := 3) (fs := fs0X2) (zk13 kX4_init_1) nwX4_26 rfl (by decide) rfl rfl (fun _ => ?_)
  have hU_86 : Upd g_83 (zup g_83 (p + 40) (zO 2 fs0X2)) (p + 40) 1 := Upd.one
  have hn_88 : (zup g_83 (p + 40) (zO 2 fs0X2)) (p + 40) = some (zO 2 fs0X2) := zup_s
  generalize zup g_83 (p + 40) (zO 2 fs0X2) = g_87 at hU_86 hn_88 ⊢
  replace ho := (hU_86 _ (by omega)).trans ho
  replace r_8 := LnAt.fr r_8 hU_86 (by omega)
  replace r_19 := LnAt.fr r_19 hU_86 (by omega)
  replace r_30 := GuAt.fr r_30 hU_86 (by omega)
  replace r_31 := LnAt.fr r_31 hU_86 (by omega)
  replace hsh := (hU_86 _ (by omega)).trans hsh
  replace r_48 := ShAt.fr r_48 hU_86 (by omega)
  replace r_59 := ShAt.fr r_59 hU_86 (by omega)
  replace r_70 := ShAt.fr r_70 hU_86 (by omega)
  replace r_81 := ShAt.fr r_81 hU_86 (by omega)
  replace hU := hU.tr hU_86 (by omega) (by omega)
  have c_85 := hn_88; clear hn_88
  refine z_sz (a := (p + 41)) rfl ?_
  show Z D B xX4_init 40 550 _ 62 [some (.ref p), some (.int 4)] [.ref (p + 40), .int 4, .ref (p + 31)] g_87 (p + 41)
  refine z_dup (pc := 62) (zk14 kX4_init_1) rfl ?_
  refine z_callIN (pc := 63) (st := [.ref (p + 40), .int 4, .ref (p + 31)]) (zk15 kX4_init_1) lkX4_32 iiX2_init (c_I2 (p := (p + 40)) c_85 (by omega)) rfl rfl rfl (fun r_ g_89 z_ q_90 => ?_) rfl
  obtain ⟨er_, r_92, hU_91, ez_⟩ := q_90
  rw [er_, ez_]
  clear er_ ez_
  replace ho := (hU_91 _ (by omega)).trans ho
  replace r_8 := LnAt.fr r_8 hU_91 (by omega)
  replace r_19 := LnAt.fr r_19 hU_91 (by omega)
  replace r_30 := GuAt.fr r_30 hU_91 (by omega)
  replace r_31 := LnAt.fr r_31 hU_91 (by omega)
  replace hsh := (hU_91 _ (by omega)).trans hsh
  replace r_48 := ShAt.fr r_48 hU_91 (by omega)
  replace r_59 := ShAt.fr r_59 hU_91 (by omega)
  replace r_70 := ShAt.fr r_70 hU_91 (by omega)
  replace r_81 := ShAt.fr r_81 hU_91 (by omega)
  replace hU := hU.tr hU_91 (by omega) (by omega)
  refine z_sz (a := (p + 42)) (by omega) ?_
  show Z D B xX4_init 41 590 _ 66 [some (.ref p), some (.int 4)] [.ref (p + 40), .int 4, .ref (p + 31)] g_89 (p + 42)
  refine z_aast3 (pc := 66) (zk0 kX4_init_2) hsh r_92.1 (by omega) (vp_in_nI (n := 4) (N := 8) (by decide) (by decide)) ?_
  rw [shf (p := p) (i := 4) (fun j => rfl) _ (by decide) _ (by omega)]
  have hU_93 : Upd g_89 (zup g_89 (p + 31) (zRf 3 8 (fun j => if j < 5 then some (p + 32 + 2 * j) else none))) (p + 31) 1 := Upd.one
  have hn_95 : (zup g_89 (p + 31) (zRf 3 8 (fun j => if j < 5 then some (p + 32 + 2 * j) else none))) (p + 31) = some (zRf 3 8 (fun j => if j < 5 then some (p + 32 + 2 * j) else none)) := zup_s
  generalize zup g_89 (p + 31) (zRf 3 8 (fun j => if j < 5 then some (p + 32 + 2 * j) else none)) = g_94 at hU_93 hn_95 ⊢
  replace ho := (hU_93 _ (by omega)).trans ho
  replace r_8 := LnAt.fr r_8 hU_93 (by omega)
  replace r_19 := LnAt.fr r_19 hU_93 (by omega)
  replace r_30 := GuAt.fr r_30 hU_93 (by omega)
  replace r_31 := LnAt.fr r_31 hU_93 (by omega)
  replace r_48 := ShAt.fr r_48 hU_93 (by omega)
  replace r_59 := ShAt.fr r_59 hU_93 (by omega)
  replace r_70 := ShAt.fr r_70 hU_93 (by omega)
  replace r_81 := ShAt.fr r_81 hU_93 (by omega)
  replace r_92 := ShAt.fr r_92 hU_93 (by omega)
  replace hU := hU.tr hU_93 (by omega) (by omega)
  replace hsh := hn_95; clear hn_95
  refine z_iinc (pc := 67) (zk1 kX4_init_2) (v := 5) rfl (by decide) rfl rfl ?_
  show Z D B xX4_init 41 590 _ 70 [some (.ref p), some (.int 5)] [] g_94 (p + 42)
  refine z_goto (pc := 70) (zk2 kX4_init_2) (tgt := 48) (by decide) ?_
  refine z_iload_n (pc := 48) (zk7 kX4_init_1) rfl ?_
  refine z_bipush (pc := 49) (zk8 kX4_init_1) (v := 8) (by decide) ?_
  refine z_icmp_ge (pc := 51) (zk9 kX4_init_1) (tgt := 73) (by decide) (fun q => absurd q (by decide)) (fun _ => ?_)
  refine z_aload_n (pc := 54) (zk10 kX4_init_1) rfl ?_
  refine z_getf (pc := 55) (zk11 kX4_init_1) flX4_28 ho (v := .ref (p + 31)) rfl ?_
  refine z_iload_n (pc := 58) (zk12 kX4_init_1) rfl ?_
  refine z_new (pc := 59) (ci := 2) (N := 3) (fs := fs0X2) (zk13 kX4_init_1) nwX4_26 rfl (by decide) rfl rfl (fun _ => ?_)
  have hU_97 : Upd g_94 (zup g_94 (p + 42) (zO 2 fs0X2)) (p + 42) 1 := Upd.one
  have hn_99 : (zup g_94 (p + 42) (zO 2 fs0X2)) (p + 42) = some (zO 2 fs0X2) := zup_s
  generalize zup g_94 (p + 42) (zO 2 fs0X2) = g_98 at hU_97 hn_99 ⊢
  replace ho := (hU_97 _ (by omega)).trans ho
  replace r_8 := LnAt.fr r_8 hU_97 (by omega)
  replace r_19 := LnAt.fr r_19 hU_97 (by omega)
  replace r_30 := GuAt.fr r_30 hU_97 (by omega)
  replace r_31 := LnAt.fr r_31 hU_97 (by omega)
  replace hsh := (hU_97 _ (by omega)).trans hsh
  replace r_48 := ShAt.fr r_48 hU_97 (by omega)
  replace r_59 := ShAt.fr r_59 hU_97 (by omega)
  replace r_70 := ShAt.fr r_70 hU_97 (by omega)
  replace r_81 := ShAt.fr r_81 hU_97 (by omega)
  replace r_92 := ShAt.fr r_92 hU_97 (by omega)
  replace hU := hU.tr hU_97 (by omega) (by omega)
  have c_96 := hn_99; clear hn_99
  refine z_sz (a := (p + 43)) rfl ?_
  show Z D B xX4_init 42 593 _ 62 [some (.ref p), some (.int 5)] [.ref (p + 42), .int 5, .ref (p + 31)] g_98 (p + 43)
  refine z_dup (pc := 62) (zk14 kX4_init_1) rfl ?_
  refine z_callIN (pc := 63) (st := [.ref (p + 42), .int 5, .ref (p + 31)]) (zk15 kX4_init_1) lkX4_32 iiX2_init (c_I2 (p := (p + 42)) c_96 (by omega)) rfl rfl rfl (fun r_ g_100 z_ q_101 => ?_) rfl
  obtain ⟨er_, r_103, hU_102, ez_⟩ := q_101
  rw [er_, ez_]
  clear er_ ez_
  replace ho := (hU_102 _ (by omega)).trans ho
  replace r_8 := LnAt.fr r_8 hU_102 (by omega)
  replace r_19 := LnAt.fr r_19 hU_102 (by omega)
  replace r_30 := GuAt.fr r_30 hU_102 (by omega)
  replace r_31 := LnAt.fr r_31 hU_102 (by omega)
  replace hsh := (hU_102 _ (by omega)).trans hsh
  replace r_48 := ShAt.fr r_48 hU_102 (by omega)
  replace r_59 := ShAt.fr r_59 hU_102 (by omega)
  replace r_70 := ShAt.fr r_70 hU_102 (by omega)
  replace r_81 := ShAt.fr r_81 hU_102 (by omega)
  replace r_92 := ShAt.fr r_92 hU_102 (by omega)
  replace hU := hU.tr hU_102 (by omega) (by omega)
  refine z_sz (a := (p + 44)) (by omega) ?_
  show Z D B xX4_init 43 633 _ 66 [some (.ref p), some (.int 5)] [.ref (p + 42), .int 5, .ref (p + 31)] g_100 (p + 44)
  refine z_aast3 (pc := 66) (zk0 kX4_init_2) hsh r_103.1 (by omega) (vp_in_nI (n := 5) (N := 8) (by decide) (by decide)) ?_
  rw [shf (p := p) (i := 5) (fun j => rfl) _ (by decide) _ (by omega)]
  have hU_104 : Upd g_100 (zup g_100 (p + 31) (zRf 3 8 (fun j => if j < 6 then some (p + 32 + 2 * j) else none))) (p + 31) 1 := Upd.one
  have hn_106 : (zup g_100 (p + 31) (zRf 3 8 (fun j => if j < 6 then some (p + 32 + 2 * j) else none))) (p + 31) = some (zRf 3 8 (fun j => if j < 6 then some (p + 32 + 2 * j) else none)) := zup_s
  generalize zup g_100 (p + 31) (zRf 3 8 (fun j => if j < 6 then some (p + 32 + 2 * j) else none)) = g_105 at hU_104 hn_106 ⊢
  replace ho := (hU_104 _ (by omega)).trans ho
  replace r_8 := LnAt.fr r_8 hU_104 (by omega)
  replace r_19 := LnAt.fr r_19 hU_104 (by omega)
  replace r_30 := GuAt.fr r_30 hU_104 (by omega)
  replace r_31 := LnAt.fr r_31 hU_104 (by omega)
  replace r_48 := ShAt.fr r_48 hU_104 (by omega)
  replace r_59 := ShAt.fr r_59 hU_104 (by omega)
  replace r_70 := ShAt.fr r_70 hU_104 (by omega)
  replace r_81 := ShAt.fr r_81 hU_104 (by omega)
  replace r_92 := ShAt.fr r_92 hU_104 (by omega)
  replace r_103 := ShAt.fr r_103 hU_104 (by omega)
  replace hU := hU.tr hU_104 (by omega) (by omega)
  replace hsh := hn_106; clear hn_106
  refine z_iinc (pc := 67) (zk1 kX4_init_2) (v := 6) rfl (by decide) rfl rfl ?_
  show Z D B xX4_init 43 633 _ 70 [some (.ref p), some (.int 6)] [] g_105 (p + 44)
  refine z_goto (pc := 70) (zk2 kX4_init_2) (tgt := 48) (by decide) ?_
  refine z_iload_n (pc := 48) (zk7 kX4_init_1) rfl ?_
  refine z_bipush (pc := 49) (zk8 kX4_init_1) (v := 8) (by decide) ?_
  refine z_icmp_ge (pc := 51) (zk9 kX4_init_1) (tgt := 73) (by decide) (fun q => absurd q (by decide)) (fun _ => ?_)
  refine z_aload_n (pc := 54) (zk10 kX4_init_1) rfl ?_
  refine z_getf (pc := 55) (zk11 kX4_init_1) flX4_28 ho (v := .ref (p + 31)) rfl ?_
  refine z_iload_n (pc := 58) (zk12 kX4_init_1) rfl ?_
  refine z_new (pc := 59) (ci := 2) (N := 3) (fs := fs0X2) (zk13 kX4_init_1) nwX4_26 rfl (by decide) rfl rfl (fun _ => ?_)
  have hU_108 : Upd g_105 (zup g_105 (p + 44) (zO 2 fs0X2)) (p + 44) 1 := Upd.one
  have hn_110 : (zup g_105 (p + 44) (zO 2 fs0X2)) (p + 44) = some (zO 2 fs0X2) := zup_s
  generalize zup g_105 (p + 44) (zO 2 fs0X2) = g_109 at hU_108 hn_110 ⊢
  replace ho := (hU_108 _ (by omega)).trans ho
  replace r_8 := LnAt.fr r_8 hU_108 (by omega)
  replace r_19 := LnAt.fr r_19 hU_108 (by omega)
  replace r_30 := GuAt.fr r_30 hU_108 (by omega)
  replace r_31 := LnAt.fr r_31 hU_108 (by omega)
  replace hsh := (hU_108 _ (by omega)).trans hsh
  replace r_48 := ShAt.fr r_48 hU_108 (by omega)
  replace r_59 := ShAt.fr r_59 hU_108 (by omega)
  replace r_70 := ShAt.fr r_70 hU_108 (by omega)
  replace r_81 := ShAt.fr r_81 hU_108 (by omega)
  replace r_92 := ShAt.fr r_92 hU_108 (by omega)
  replace r_103 := ShAt.fr r_103 hU_108 (by omega)
  replace hU := hU.tr hU_108 (by omega) (by omega)
  have c_107 := hn_110; clear hn_110
  refine z_sz (a := (p + 45)) rfl ?_
  show Z D B xX4_init 44 636 _ 62 [some (.ref p), some (.int 6)] [.ref (p + 44), .int 6, .ref (p + 31)] g_109 (p + 45)
  refine z_dup (pc := 62) (zk14 kX4_init_1) rfl ?_
  refine z_callIN (pc := 63) (st := [.ref (p + 44), .int 6, .ref (p + 31)]) (zk15 kX4_init_1) lkX4_32 iiX2_init (c_I2 (p := (p + 44)) c_107 (by omega)) rfl rfl rfl (fun r_ g_111 z_ q_112 => ?_) rfl
  obtain ⟨er_, r_114, hU_113, ez_⟩ := q_112
  rw [er_, ez_]
  clear er_ ez_
  replace ho := (hU_113 _ (by omega)).trans ho
  replace r_8 := LnAt.fr r_8 hU_113 (by omega)
  replace r_19 := LnAt.fr r_19 hU_113 (by omega)
  replace r_30 := GuAt.fr r_30 hU_113 (by omega)
  replace r_31 := LnAt.fr r_31 hU_113 (by omega)
  replace hsh := (hU_113 _ (by omega)).trans hsh
  replace r_48 := ShAt.fr r_48 hU_113 (by omega)
  replace r_59 := ShAt.fr r_59 hU_113 (by omega)
  replace r_70 := ShAt.fr r_70 hU_113 (by omega)
  replace r_81 := ShAt.fr r_81 hU_113 (by omega)
  replace r_92 := ShAt.fr r_92 hU_113 (by omega)
  replace r_103 := ShAt.fr r_103 hU_113 (by omega)
  replace hU := hU.tr hU_113 (by omega) (by omega)
  refine z_sz (a := (p + 46)) (by omega) ?_
  show Z D B xX4_init 45 676 _ 66 [some (.ref p), some (.int 6)] [.ref (p + 44), .int 6, .ref (p + 31)] g_111 (p + 46)
  refine z_aast3 (pc := 66) (zk0 kX4_init_2) hsh r_114.1 (by omega) (vp_in_nI (n := 6) (N := 8) (by decide) (by decide)) ?_
  rw [shf (p := p) (i := 6) (fun j => rfl) _ (by decide) _ (by omega)]
  have hU_115 : Upd g_111 (zup g_111 (p + 31) (zRf 3 8 (fun j => if j < 7 then some (p + 32 + 2 * j) else none))) (p + 31) 1 := Upd.one
  have hn_117 : (zup g_111 (p + 31) (zRf 3 8 (fun j => if j < 7 then some (p + 32 + 2 * j) else none))) (p + 31) = some (zRf 3 8 (fun j => if j < 7 then some (p + 32 + 2 * j) else none)) := zup_s
  generalize zup g_111 (p + 31) (zRf 3 8 (fun j => if j < 7 then some (p + 32 + 2 * j) else none)) = g_116 at hU_115 hn_117 ⊢
  replace ho := (hU_115 _ (by omega)).trans ho
  replace r_8 := LnAt.fr r_8 hU_115 (by omega)
  replace r_19 := LnAt.fr r_19 hU_115 (by omega)
  replace r_30 := GuAt.fr r_30 hU_115 (by omega)
  replace r_31 := LnAt.fr r_31 hU_115 (by omega)
  replace r_48 := ShAt.fr r_48 hU_115 (by omega)
  replace r_59 := ShAt.fr r_59 hU_115 (by omega)
  replace r_70 := ShAt.fr r_70 hU_115 (by omega)
  replace r_81 := ShAt.fr r_81 hU_115 (by omega)
  replace r_92 := ShAt.fr r_92 hU_115 (by omega)
  replace r_103 := ShAt.fr r_103 hU_115 (by omega)
  replace r_114 := ShAt.fr r_114 hU_115 (by omega)
  replace hU := hU.tr hU_115 (by omega) (by omega)
  replace hsh := hn_117; clear hn_117
  refine z_iinc (pc := 67) (zk1 kX4_init_2) (v := 7) rfl (by decide) rfl rfl ?_
  show Z D B xX4_init 45 676 _ 70 [some (.ref p), some (.int 7)] [] g_116 (p + 46)
  refine z_goto (pc := 70) (zk2 kX4_init_2) (tgt := 48) (by decide) ?_
  refine z_iload_n (pc := 48) (zk7 kX4_init_1) rfl ?_
  refine z_bipush (pc := 49) (zk8 kX4_init_1) (v := 8) (by decide) ?_
  refine z_icmp_ge (pc := 51) (zk9 kX4_init_1) (tgt := 73) (by decide) (fun q => absurd q (by decide)) (fun _ => ?_)
  refine z_aload_n (pc := 54) (zk10 kX4_init_1) rfl ?_
  refine z_getf (pc := 55) (zk11 kX4_init_1) flX4_28 ho (v := .ref (p + 31)) rfl ?_
  refine z_iload_n (pc := 58) (zk12 kX4_init_1) rfl ?_
  refine z_new (pc := 59) (ci := 2) (N := 3) (fs := fs0X2) (zk13 kX4_init_1) nwX4_26 rfl (by decide) rfl rfl (fun _ => ?_)
  have hU_119 : Upd g_116 (zup g_116 (p + 46) (zO 2 fs0X2)) (p + 46) 1 := Upd.one
  have hn_121 : (zup g_116 (p + 46) (zO 2 fs0X2)) (p + 46) = some (zO 2 fs0X2) := zup_s
  generalize zup g_116 (p + 46) (zO 2 fs0X2) = g_120 at hU_119 hn_121 ⊢
  replace ho := (hU_119 _ (by omega)).trans ho
  replace r_8 := LnAt.fr r_8 hU_119 (by omega)
  replace r_19 := LnAt.fr r_19 hU_119 (by omega)
  replace r_30 := GuAt.fr r_30 hU_119 (by omega)
  replace r_31 := LnAt.fr r_31 hU_119 (by omega)
  replace hsh := (hU_119 _ (by omega)).trans hsh
  replace r_48 := ShAt.fr r_48 hU_119 (by omega)
  replace r_59 := ShAt.fr r_59 hU_119 (by omega)
  replace r_70 := ShAt.fr r_70 hU_119 (by omega)
  replace r_81 := ShAt.fr r_81 hU_119 (by omega)
  replace r_92 := ShAt.fr r_92 hU_119 (by omega)
  replace r_103 := ShAt.fr r_103 hU_119 (by omega)
  replace r_114 := ShAt.fr r_114 hU_119 (by omega)
  replace hU := hU.tr hU_119 (by omega) (by omega)
  have c_118 := hn_121; clear hn_121
  refine z_sz (a := (p + 47)) rfl ?_
  show Z D B xX4_init 46 679 _ 62 [some (.ref p), some (.int 7)] [.ref (p + 46), .int 7, .ref (p + 31)] g_120 (p + 47)
  refine z_dup (pc := 62) (zk14 kX4_init_1) rfl ?_
  refine z_callIN (pc := 63) (st := [.ref (p + 46), .int 7, .ref (p + 31)]) (zk15 kX4_init_1) lkX4_32 iiX2_init (c_I2 (p := (p + 46)) c_118 (by omega)) rfl rfl rfl (fun r_ g_122 z_ q_123 => ?_) rfl
  obtain ⟨er_, r_125, hU_124, ez_⟩ := q_123
  rw [er_, ez_]
  clear er_ ez_
  replace ho := (hU_124 _ (by omega)).trans ho
  replace r_8 := LnAt.fr r_8 hU_124 (by omega)
  replace r_19 := LnAt.fr r_19 hU_124 (by omega)
  replace r_30 := GuAt.fr r_30 hU_124 (by omega)
  replace r_31 := LnAt.fr r_31 hU_124 (by omega)
  replace hsh := (hU_124 _ (by omega)).trans hsh
  replace r_48 := ShAt.fr r_48 hU_124 (by omega)
  replace r_59 := ShAt.fr r_59 hU_124 (by omega)
  replace r_70 := ShAt.fr r_70 hU_124 (by omega)
  replace r_81 := ShAt.fr r_81 hU_124 (by omega)
  replace r_92 := ShAt.fr r_92 hU_124 (by omega)
  replace r_103 := ShAt.fr r_103 hU_124 (by omega)
  replace r_114 := ShAt.fr r_114 hU_124 (by omega)
  replace hU := hU.tr hU_124 (by omega) (by omega)
  refine z_sz (a := (p + 48)) (by omega) ?_
  show Z D B xX4_init 47 719 _ 66 [some (.ref p), some (.int 7)] [.ref (p + 46), .int 7, .ref (p + 31)] g_122 (p + 48)
  refine z_aast3 (pc := 66) (zk0 kX4_init_2) hsh r_125.1 (by omega) (vp_in_nI (n := 7) (N := 8) (by decide) (by decide)) ?_
  rw [shf (p := p) (i := 7) (fun j => rfl) _ (by decide) _ (by omega)]
  have hU_126 : Upd g_122 (zup g_122 (p + 31) (zRf 3 8 (fun j => if j < 8 then some (p + 32 + 2 * j) else none))) (p + 31) 1 := Upd.one
  have hn_128 : (zup g_122 (p + 31) (zRf 3 8 (fun j => if j < 8 then some (p + 32 + 2 * j) else none))) (p + 31) = some (zRf 3 8 (fun j => if j < 8 then some (p + 32 + 2 * j) else none)) := zup_s
  generalize zup g_122 (p + 31) (zRf 3 8 (fun j => if j < 8 then some (p + 32 + 2 * j) else none)) = g_127 at hU_126 hn_128 ⊢
  replace ho := (hU_126 _ (by omega)).trans ho
  replace r_8 := LnAt.fr r_8 hU_126 (by omega)
  replace r_19 := LnAt.fr r_19 hU_126 (by omega)
  replace r_30 := GuAt.fr r_30 hU_126 (by omega)
  replace r_31 := LnAt.fr r_31 hU_126 (by omega)
  replace r_48 := ShAt.fr r_48 hU_126 (by omega)
  replace r_59 := ShAt.fr r_59 hU_126 (by omega)
  replace r_70 := ShAt.fr r_70 hU_126 (by omega)
  replace r_81 := ShAt.fr r_81 hU_126 (by omega)
  replace r_92 := ShAt.fr r_92 hU_126 (by omega)
  replace r_103 := ShAt.fr r_103 hU_126 (by omega)
  replace r_114 := ShAt.fr r_114 hU_126 (by omega)
  replace r_125 := ShAt.fr r_125 hU_126 (by omega)
  replace hU := hU.tr hU_126 (by omega) (by omega)
  replace hsh := hn_128; clear hn_128
  refine z_iinc (pc := 67) (zk1 kX4_init_2) (v := 8) rfl (by decide) rfl rfl ?_
  show Z D B xX4_init 47 719 _ 70 [some (.ref p), some (.int 8)] [] g_127 (p + 48)
  refine z_goto (pc := 70) (zk2 kX4_init_2) (tgt := 48) (by decide) ?_
  refine z_iload_n (pc := 48) (zk7 kX4_init_1) rfl ?_
  refine z_bipush (pc := 49) (zk8 kX4_init_1) (v := 8) (by decide) ?_
  refine z_icmp_ge (pc := 51) (zk9 kX4_init_1) (tgt := 73) (by decide) (fun _ => ?_) (fun q => absurd (by decide) q)
  refine z_aload_n (pc := 73) (zk3 kX4_init_2) rfl ?_
  refine z_new (pc := 74) (ci := 3) (N := 6) (fs := fs0X3) (zk4 kX4_init_2) nwX4_33 rfl (by decide) rfl rfl (fun _ => ?_)
  have hU_130 : Upd g_127 (zup g_127 (p + 48) (zO 3 fs0X3)) (p + 48) 1 := Upd.one
  have hn_132 : (zup g_127 (p + 48) (zO 3 fs0X3)) (p + 48) = some (zO 3 fs0X3) := zup_s
  generalize zup g_127 (p + 48) (zO 3 fs0X3) = g_131 at hU_130 hn_132 ⊢
  replace ho := (hU_130 _ (by omega)).trans ho
  replace r_8 := LnAt.fr r_8 hU_130 (by omega)
  replace r_19 := LnAt.fr r_19 hU_130 (by omega)
  replace r_30 := GuAt.fr r_30 hU_130 (by omega)
  replace r_31 := LnAt.fr r_31 hU_130 (by omega)
  replace hsh := (hU_130 _ (by omega)).trans hsh
  replace r_48 := ShAt.fr r_48 hU_130 (by omega)
  replace r_59 := ShAt.fr r_59 hU_130 (by omega)
  replace r_70 := ShAt.fr r_70 hU_130 (by omega)
  replace r_81 := ShAt.fr r_81 hU_130 (by omega)
  replace r_92 := ShAt.fr r_92 hU_130 (by omega)
  replace r_103 := ShAt.fr r_103 hU_130 (by omega)
  replace r_114 := ShAt.fr r_114 hU_130 (by omega)
  replace r_125 := ShAt.fr r_125 hU_130 (by omega)
  replace hU := hU.tr hU_130 (by omega) (by omega)
  have c_129 := hn_132; clear hn_132
  refine z_sz (a := (p + 49)) rfl ?_
  show Z D B xX4_init 48 725 _ 77 [some (.ref p), some (.int 8)] [.ref (p + 48), .ref p] g_131 (p + 49)
  refine z_dup (pc := 77) (zk5 kX4_init_2) rfl ?_
  refine z_callIN (pc := 78) (st := [.ref (p + 48), .ref p]) (zk6 kX4_init_2) lkX4_35 iiX3_init (c_I3 (p := (p + 48)) c_129 (by omega)) rfl rfl rfl (fun r_ g_133 z_ q_134 => ?_) rfl
  obtain ⟨er_, r_136, hU_135, ez_⟩ := q_134
  rw [er_, ez_]
  clear er_ ez_
  replace ho := (hU_135 _ (by omega)).trans ho
  replace r_8 := LnAt.fr r_8 hU_135 (by omega)
  replace r_19 := LnAt.fr r_19 hU_135 (by omega)
  replace r_30 := GuAt.fr r_30 hU_135 (by omega)
  replace r_31 := LnAt.fr r_31 hU_135 (by omega)
  replace hsh := (hU_135 _ (by omega)).trans hsh
  replace r_48 := ShAt.fr r_48 hU_135 (by omega)
  replace r_59 := ShAt.fr r_59 hU_135 (by omega)
  replace r_70 := ShAt.fr r_70 hU_135 (by omega)
  replace r_81 := ShAt.fr r_81 hU_135 (by omega)
  replace r_92 := ShAt.fr r_92 hU_135 (by omega)
  replace r_103 := ShAt.fr r_103 hU_135 (by omega)
  replace r_114 := ShAt.fr r_114 hU_135 (by omega)
  replace r_125 := ShAt.fr r_125 hU_135 (by omega)
  replace hU := hU.tr hU_135 (by omega) (by omega)
  refine z_sz (a := (p + 50)) (by omega) ?_
  show Z D B xX4_init 49 975 _ 81 [some (.ref p), some (.int 8)] [.ref (p + 48), .ref p] g_133 (p + 50)
  refine z_putF (pc := 81) (zk7 kX4_init_2) flX4_36 rfl rfl ho hB rfl rfl (Nat.le_of_ble_eq_true rfl) ?_
  show Z D B xX4_init 49 975 _ 84 [some (.ref p), some (.int 8)] [] (zup g_133 p (zO 4 [.ref (p + 1), .ref (p + 10), .ref (p + 19), .ref (p + 31), .ref (p + 48), .null, .int 0])) (p + 50)
  have hU_137 : Upd g_133 (zup g_133 p (zO 4 [.ref (p + 1), .ref (p + 10), .ref (p + 19), .ref (p + 31), .ref (p + 48), .null, .int 0])) p 1 := Upd.one
  have hn_139 : (zup g_133 p (zO 4 [.ref (p + 1), .ref (p + 10), .ref (p + 19), .ref (p + 31), .ref (p + 48), .null, .int 0])) p = some (zO 4 [.ref (p + 1), .ref (p + 10), .ref (p + 19), .ref (p + 31), .ref (p + 48), .null, .int 0]) := zup_s
  generalize zup g_133 p (zO 4 [.ref (p + 1), .ref (p + 10), .ref (p + 19), .ref (p + 31), .ref (p + 48), .null, .int 0]) = g_138 at hU_137 hn_139 ⊢
  replace r_8 := LnAt.fr r_8 hU_137 (by omega)
  replace r_19 := LnAt.fr r_19 hU_137 (by omega)
  replace r_30 := GuAt.fr r_30 hU_137 (by omega)
  replace r_31 := LnAt.fr r_31 hU_137 (by omega)
  replace hsh := (hU_137 _ (by omega)).trans hsh
  replace r_48 := ShAt.fr r_48 hU_137 (by omega)
  replace r_59 := ShAt.fr r_59 hU_137 (by omega)
  replace r_70 := ShAt.fr r_70 hU_137 (by omega)
  replace r_81 := ShAt.fr r_81 hU_137 (by omega)
  replace r_92 := ShAt.fr r_92 hU_137 (by omega)
  replace r_103 := ShAt.fr r_103 hU_137 (by omega)
  replace r_114 := ShAt.fr r_114 hU_137 (by omega)
  replace r_125 := ShAt.fr r_125 hU_137 (by omega)
  replace r_136 := TaAt.fr r_136 hU_137 (by omega)
  replace hU := hU.tr hU_137 (by omega) (by omega)
  replace ho := hn_139; clear hn_139
  refine z_aload_n (pc := 84) (zk8 kX4_init_2) rfl ?_
  refine z_iconst (pc := 85) (zk9 kX4_init_2) (v := 5) (by decide) ?_
  refine z_newa (pc := 86) (kd := 0) (N := 5) (a0 := (5, .inl (fun _ => 0))) (zk10 kX4_init_2) ac_int (fun _ => rfl) (fun _ => rfl) (by decide) (by decide) rfl rfl rfl (fun _ => ?_)
  have hU_141 : Upd g_138 (zup g_138 (p + 50) (zI 5 (fun _ => 0))) (p + 50) 1 := Upd.one
  have hn_143 : (zup g_138 (p + 50) (zI 5 (fun _ => 0))) (p + 50) = some (zI 5 (fun _ => 0)) := zup_s
  generalize zup g_138 (p + 50) (zI 5 (fun _ => 0)) = g_142 at hU_141 hn_143 ⊢
  replace ho := (hU_141 _ (by omega)).trans ho
  replace r_8 := LnAt.fr r_8 hU_141 (by omega)
  replace r_19 := LnAt.fr r_19 hU_141 (by omega)
  replace r_30 := GuAt.fr r_30 hU_141 (by omega)
  replace r_31 := LnAt.fr r_31 hU_141 (by omega)
  replace hsh := (hU_141 _ (by omega)).trans hsh
  replace r_48 := ShAt.fr r_48 hU_141 (by omega)
  replace r_59 := ShAt.fr r_59 hU_141 (by omega)
  replace r_70 := ShAt.fr r_70 hU_141 (by omega)
  replace r_81 := ShAt.fr r_81 hU_141 (by omega)
  replace r_92 := ShAt.fr r_92 hU_141 (by omega)
  replace r_103 := ShAt.fr r_103 hU_141 (by omega)
  replace r_114 := ShAt.fr r_114 hU_141 (by omega)
  replace r_125 := ShAt.fr r_125 hU_141 (by omega)
  replace r_136 := TaAt.fr r_136 hU_141 (by omega)
  replace hU := hU.tr hU_141 (by omega) (by omega)
  have c_140 := hn_143; clear hn_143
  refine z_sz (a := (p + 51)) rfl ?_
  show Z D B xX4_init 50 980 _ 88 [some (.ref p), some (.int 8)] [.ref (p + 50), .ref p] g_142 (p + 51)
  refine z_putF (pc := 88) (zk11 kX4_init_2) flX4_40 rfl rfl ho hB rfl rfl (Nat.le_of_ble_eq_true rfl) ?_
  show Z D B xX4_init 50 980 _ 91 [some (.ref p), some (.int 8)] [] (zup g_142 p (zO 4 [.ref (p + 1), .ref (p + 10), .ref (p + 19), .ref (p + 31), .ref (p + 48), .ref (p + 50), .int 0])) (p + 51)
  have hU_144 : Upd g_142 (zup g_142 p (zO 4 [.ref (p + 1), .ref (p + 10), .ref (p + 19), .ref (p + 31), .ref (p + 48), .ref (p + 50), .int 0])) p 1 := Upd.one
  have hn_146 : (zup g_142 p (zO 4 [.ref (p + 1), .ref (p + 10), .ref (p + 19), .ref (p + 31), .ref (p + 48), .ref (p + 50), .int 0])) p = some (zO 4 [.ref (p + 1), .ref (p + 10), .ref (p + 19), .ref (p + 31), .ref (p + 48), .ref (p + 50), .int 0]) := zup_s
  generalize zup g_142 p (zO 4 [.ref (p + 1), .ref (p + 10), .ref (p + 19), .ref (p + 31), .ref (p + 48), .ref (p + 50), .int 0]) = g_145 at hU_144 hn_146 ⊢
  replace r_8 := LnAt.fr r_8 hU_144 (by omega)
  replace r_19 := LnAt.fr r_19 hU_144 (by omega)
  replace r_30 := GuAt.fr r_30 hU_144 (by omega)
  replace r_31 := LnAt.fr r_31 hU_144 (by omega)
  replace hsh := (hU_144 _ (by omega)).trans hsh
  replace r_48 := ShAt.fr r_48 hU_144 (by omega)
  replace r_59 := ShAt.fr r_59 hU_144 (by omega)
  replace r_70 := ShAt.fr r_70 hU_144 (by omega)
  replace r_81 := ShAt.fr r_81 hU_144 (by omega)
  replace r_92 := ShAt.fr r_92 hU_144 (by omega)
  replace r_103 := ShAt.fr r_103 hU_144 (by omega)
  replace r_114 := ShAt.fr r_114 hU_144 (by omega)
  replace r_125 := ShAt.fr r_125 hU_144 (by omega)
  replace r_136 := TaAt.fr r_136 hU_144 (by omega)
  replace c_140 := (hU_144 _ (by omega)).trans c_140
  replace hU := hU.tr hU_144 (by omega) (by omega)
  replace ho := hn_146; clear hn_146
  refine z_aload_n (pc := 91) (zk12 kX4_init_2) rfl ?_
  refine z_iconst (pc := 92) (zk13 kX4_init_2) (v := 0) (by decide) ?_
  refine z_putf (pc := 93) (zk14 kX4_init_2) flX4_44 ho hB (by decide) (by decide) (Nat.le_of_ble_eq_true rfl) ?_
  show Z D B xX4_init 50 980 _ 96 [some (.ref p), some (.int 8)] [] (zup g_145 p (zO 4 [.ref (p + 1), .ref (p + 10), .ref (p + 19), .ref (p + 31), .ref (p + 48), .ref (p + 50), .int 0])) (p + 51)
  have hU_147 : Upd g_145 (zup g_145 p (zO 4 [.ref (p + 1), .ref (p + 10), .ref (p + 19), .ref (p + 31), .ref (p + 48), .ref (p + 50), .int 0])) p 1 := Upd.one
  have hn_149 : (zup g_145 p (zO 4 [.ref (p + 1), .ref (p + 10), .ref (p + 19), .ref (p + 31), .ref (p + 48), .ref (p + 50), .int 0])) p = some (zO 4 [.ref (p + 1), .ref (p + 10), .ref (p + 19), .ref (p + 31), .ref (p + 48), .ref (p + 50), .int 0]) := zup_s
  generalize zup g_145 p (zO 4 [.ref (p + 1), .ref (p + 10), .ref (p + 19), .ref (p + 31), .ref (p + 48), .ref (p + 50), .int 0]) = g_148 at hU_147 hn_149 ⊢
  replace r_8 := LnAt.fr r_8 hU_147 (by omega)
  replace r_19 := LnAt.fr r_19 hU_147 (by omega)
  replace r_30 := GuAt.fr r_30 hU_147 (by omega)
  replace r_31 := LnAt.fr r_31 hU_147 (by omega)
  replace hsh := (hU_147 _ (by omega)).trans hsh
  replace r_48 := ShAt.fr r_48 hU_147 (by omega)
  replace r_59 := ShAt.fr r_59 hU_147 (by omega)
  replace r_70 := ShAt.fr r_70 hU_147 (by omega)
  replace r_81 := ShAt.fr r_81 hU_147 (by omega)
  replace r_92 := ShAt.fr r_92 hU_147 (by omega)
  replace r_103 := ShAt.fr r_103 hU_147 (by omega)
  replace r_114 := ShAt.fr r_114 hU_147 (by omega)
  replace r_125 := ShAt.fr r_125 hU_147 (by omega)
  replace r_136 := TaAt.fr r_136 hU_147 (by omega)
  replace c_140 := (hU_147 _ (by omega)).trans c_140
  replace hU := hU.tr hU_147 (by omega) (by omega)
  replace ho := hn_149; clear hn_149
  exact z_vret (pc := 96) (zk15 kX4_init_2) rfl (Nat.le_of_ble_eq_true rfl) (Nat.le_of_ble_eq_true rfl) ⟨rfl, ⟨ho, hsh, c_140⟩, r_8, ⟨r_19, ⟨_, _, _, r_30, r_31⟩, (fun s hs => by
        rw [(held_z s).1, (held_z s).2]
        rcases (show s = 0 ∨ s = 1 ∨ s = 2 ∨ s = 3 ∨ s = 4 ∨ s = 5 ∨ s = 6 ∨ s = 7 by omega) with rfl | rfl | rfl | rfl | rfl | rfl | rfl | rfl
        · exact r_48
        · exact r_59
        · exact r_70
        · exact r_81
        · exact r_92
        · exact r_103
        · exact r_114
        · exact r_125), _, r_136⟩, hU, rfl⟩
set_option maxRecDepth 20000 in
set_option maxHeartbeats 8000000 in
theorem c_I5 {D : zD} {B : Nat} {h : zH} {p : Nat} (ho : h p = some (zO 5 fs0X5)) (hB : B ≤ p) : zM D B xX5_init [.ref p] h (p + 1) (fun r h1 z1 => r = none ∧ MoAt h1 p σ0 τ0 τ0 ε0 (fun _ => 0) none none ∧ Upd h h1 p 29 ∧ z1 = p + 29) := by
  have hU : Upd h h p 29 := Upd.rf
  refine zM.of (by decide) rfl (n := 0) ?_
  show Z D B xX5_init 0 0 _ 0 [some (.ref p)] [] h (p + 1)
  refine z_aload_n (pc := 0) (zk0 kX5_init_0) rfl ?_
  refine z_objInit (pc := 1) (zk1 kX5_init_0) obX5 rfl rfl ?_
  refine z_aload_n (pc := 4) (zk2 kX5_init_0) rfl ?_
  refine z_bipush (pc := 5) (zk3 kX5_init_0) (v := 8) (by decide) ?_
  refine z_newa (pc := 7) (kd := 0) (N := 8) (a0 := (8, .inl (fun _ => 0))) (zk4 kX5_init_0) ac_int (fun _ => rfl) (fun _ => rfl) (by decide) (by decide) rfl rfl rfl (fun _ => ?_)
  have hU_2 : Upd h (zup h (p + 1) (zI 8 (fun _ => 0))) (p + 1) 1 := Upd.one
  have hn_4 : (zup h (p + 1) (zI 8 (fun _ => 0))) (p + 1) = some (zI 8 (fun _ => 0)) := zup_s
  generalize zup h (p + 1) (zI 8 (fun _ => 0)) = g_3 at hU_2 hn_4 ⊢
  replace ho := (hU_2 _ (by omega)).trans ho
  replace hU := hU.tr hU_2 (by omega) (by omega)
  have c_1 := hn_4; clear hn_4
  refine z_sz (a := (p + 2)) rfl ?_
  show Z D B xX5_init 1 8 _ 9 [some (.ref p)] [.ref (p + 1), .ref p] g_3 (p + 2)
  refine z_putF (pc := 9) (zk5 kX5_init_0) flX5_7 rfl rfl ho hB rfl rfl (Nat.le_of_ble_eq_true rfl) ?_
  show Z D B xX5_init 1 8 _ 12 [some (.ref p)] [] (zup g_3 p (zO 5 [.ref (p + 1), .null, .null, .null, .null, .null, .null, .int 0, .null, .int 0, .null, .null, .null, .null, .int 0, .int 0, .int 0, .int 0, .null, .null, .null, .null, .int 0, .null, .null, .int 0, .int 0, .int 0, .int 0, .int 0, .null, .int 0, .int 0, .int 0, .null, .null, .int 0, .int 0, .int 0, .null, .int 0])) (p + 2)
  have hU_5 : Upd g_3 (zup g_3 p (zO 5 [.ref (p + 1), .null, .null, .null, .null, .null, .null, .int 0, .null, .int 0, .null, .null, .null, .null, .int 0, .int 0, .int 0, .int 0, .null, .null, .null, .null, .int 0, .null, .null, .int 0, .int 0, .int 0, .int 0, .int 0, .null, .int 0, .int 0, .int 0, .null, .null, .int 0, .int 0, .int 0, .null, .int 0])) p 1 := Upd.one
  have hn_7 : (zup g_3 p (zO 5 [.ref (p + 1), .null, .null, .null, .null, .null, .null, .int 0, .null, .int 0, .null, .null, .null, .null, .int 0, .int 0, .int 0, .int 0, .null, .null, .null, .null, .int 0, .null, .null, .int 0, .int 0, .int 0, .int 0, .int 0, .null, .int 0, .int 0, .int 0, .null, .null, .int 0, .int 0, .int 0, .null, .int 0])) p = some (zO 5 [.ref (p + 1), .null, .null, .null, .null, .null, .null, .int 0, .null, .int 0, .null, .null, .null, .null, .int 0, .int 0, .int 0, .int 0, .null, .null, .null, .null, .int 0, .null, .null, .int 0, .int 0, .int 0, .int 0, .int 0, .null, .int 0, .int 0, .int 0, .null, .null, .int 0, .int 0, .int 0, .null, .int 0]) := zup_s
  generalize zup g_3 p (zO 5 [.ref (p + 1), .null, .null, .null, .null, .null, .null, .int 0, .null, .int 0, .null, .null, .null, .null, .int 0, .int 0, .int 0, .int 0, .null, .null, .null, .null, .int 0, .null, .null, .int 0, .int 0, .int 0, .int 0, .int 0, .null, .int 0, .int 0, .int 0, .null, .null, .int 0, .int 0, .int 0, .null, .int 0]) = g_6 at hU_5 hn_7 ⊢
  replace c_1 := (hU_5 _ (by omega)).trans c_1
  replace hU := hU.tr hU_5 (by omega) (by omega)
  replace ho := hn_7; clear hn_7
  refine z_aload_n (pc := 12) (zk6 kX5_init_0) rfl ?_
  refine z_bipush (pc := 13) (zk7 kX5_init_0) (v := 8) (by decide) ?_
  refine z_newa (pc := 15) (kd := 0) (N := 8) (a0 := (8, .inl (fun _ => 0))) (zk8 kX5_init_0) ac_int (fun _ => rfl) (fun _ => rfl) (by decide) (by decide) rfl rfl rfl (fun _ => ?_)
  have hU_9 : Upd g_6 (zup g_6 (p + 2) (zI 8 (fun _ => 0))) (p + 2) 1 := Upd.one
  have hn_11 : (zup g_6 (p + 2) (zI 8 (fun _ => 0))) (p + 2) = some (zI 8 (fun _ => 0)) := zup_s
  generalize zup g_6 (p + 2) (zI 8 (fun _ => 0)) = g_10 at hU_9 hn_11 ⊢
  replace ho := (hU_9 _ (by omega)).trans ho
  replace c_1 := (hU_9 _ (by omega)).trans c_1
  replace hU := hU.tr hU_9 (by omega) (by omega)
  have c_8 := hn_11; clear hn_11
  refine z_sz (a := (p + 3)) rfl ?_
  show Z D B xX5_init 2 16 _ 17 [some (.ref p)] [.ref (p + 2), .ref p] g_10 (p + 3)
  refine z_putF (pc := 17) (zk9 kX5_init_0) flX5_13 rfl rfl ho hB rfl rfl (Nat.le_of_ble_eq_true rfl) ?_
  show Z D B xX5_init 2 16 _ 20 [some (.ref p)] [] (zup g_10 p (zO 5 [.ref (p + 1), .ref (p + 2), .null, .null, .null, .null, .null, .int 0, .null, .int 0, .null, .null, .null, .null, .int 0, .int 0, .int 0, .int 0, .null, .null, .null, .null, .int 0, .null, .null, .int 0, .int 0, .int 0, .int 0, .int 0, .null, .int 0, .int 0, .int 0, .null, .null, .int 0, .int 0, .int 0, .null, .int 0])) (p + 3)
  have hU_12 : Upd g_10 (zup g_10 p (zO 5 [.ref (p + 1), .ref (p + 2), .null, .null, .null, .null, .null, .int 0, .null, .int 0, .null, .null, .null, .null, .int 0, .int 0, .int 0, .int 0, .null, .null, .null, .null, .int 0, .null, .null, .int 0, .int 0, .int 0, .int 0, .int 0, .null, .int 0, .int 0, .int 0, .null, .null, .int 0, .int 0, .int 0, .null, .int 0])) p 1 := Upd.one
  have hn_14 : (zup g_10 p (zO 5 [.ref (p + 1), .ref (p + 2), .null, .null, .null, .null, .null, .int 0, .null, .int 0, .null, .null, .null, .null, .int 0, .int 0, .int 0, .int 0, .null, .null, .null, .null, .int 0, .null, .null, .int 0, .int 0, .int 0, .int 0, .int 0, .null, .int 0, .int 0, .int 0, .null, .null, .int 0, .int 0, .int 0, .null, .int 0])) p = some (zO 5 [.ref (p + 1), .ref (p + 2), .null, .null, .null, .null, .null, .int 0, .null, .int 0, .null, .null, .null, .null, .int 0, .int 0, .int 0, .int 0, .null, .null, .null, .null, .int 0, .null, .null, .int 0, .int 0, .int 0, .int 0, .int 0, .null, .int 0, .int 0, .int 0, .null, .null, .int 0, .int 0, .int 0, .null, .int 0]) := zup_s
  generalize zup g_10 p (zO 5 [.ref (p + 1), .ref (p + 2), .null, .null, .null, .null, .null, .int 0, .null, .int 0, .null, .null, .null, .null, .int 0, .int 0, .int 0, .int 0, .null, .null, .null, .null, .int 0, .null, .null, .int 0, .int 0, .int 0, .int 0, .int 0, .null, .int 0, .int 0, .int 0, .null, .null, .int 0, .int 0, .int 0, .null, .int 0]) = g_13 at hU_12 hn_14 ⊢
  replace c_1 := (hU_12 _ (by omega)).trans c_1
  replace c_8 := (hU_12 _ (by omega)).trans c_8
  replace hU := hU.tr hU_12 (by omega) (by omega)
  replace ho := hn_14; clear hn_14
  refine z_aload_n (pc := 20) (zk10 kX5_init_0) rfl ?_
  refine z_bipush (pc := 21) (zk11 kX5_init_0) (v := 8) (by decide) ?_
  refine z_newa (pc := 23) (kd := 0) (N := 8) (a0 := (8, .inl (fun _ => 0))) (zk12 kX5_init_0) ac_int (fun _ => rfl) (fun _ => rfl) (by decide) (by decide) rfl rfl rfl (fun _ => ?_)
  have hU_16 : Upd g_13 (zup g_13 (p + 3) (zI 8 (fun _ => 0))) (p + 3) 1 := Upd.one
  have hn_18 : (zup g_13 (p + 3) (zI 8 (fun _ => 0))) (p + 3) = some (zI 8 (fun _ => 0)) := zup_s
  generalize zup g_13 (p + 3) (zI 8 (fun _ => 0)) = g_17 at hU_16 hn_18 ⊢
  replace ho := (hU_16 _ (by omega)).trans ho
  replace c_1 := (hU_16 _ (by omega)).trans c_1
  replace c_8 := (hU_16 _ (by omega)).trans c_8
  replace hU := hU.tr hU_16 (by omega) (by omega)
  have c_15 := hn_18; clear hn_18
  refine z_sz (a := (p + 4)) rfl ?_
  show Z D B xX5_init 3 24 _ 25 [some (.ref p)] [.ref (p + 3), .ref p] g_17 (p + 4)
  refine z_putF (pc := 25) (zk13 kX5_init_0) flX5_16 rfl rfl ho hB rfl rfl (Nat.le_of_ble_eq_true rfl) ?_
  show Z D B xX5_init 3 24 _ 28 [some (.ref p)] [] (zup g_17 p (zO 5 [.ref (p + 1), .ref (p + 2), .ref (p + 3), .null, .null, .null, .null, .int 0, .null, .int 0, .null, .null, .null, .null, .int 0, .int 0, .int 0, .int 0, .null, .null, .null, .null, .int 0, .null, .null, .int 0, .int 0, .int 0, .int 0, .int 0, .null, .int 0, .int 0, .int 0, .null, .null, .int 0, .int 0, .int 0, .null, .int 0])) (p + 4)
  have hU_19 : Upd g_17 (zup g_17 p (zO 5 [.ref (p + 1), .ref (p + 2), .ref (p + 3), .null, .null, .null, .null, .int 0, .null, .int 0, .null, .null, .null, .null, .int 0, .int 0, .int 0, .int 0, .null, .null, .null, .null, .int 0, .null, .null, .int 0, .int 0, .int 0, .int 0, .int 0, .null, .int 0, .int 0, .int 0, .null, .null, .int 0, .int 0, .int 0, .null, .int 0])) p 1 := Upd.one
  have hn_21 : (zup g_17 p (zO 5 [.ref (p + 1), .ref (p + 2), .ref (p + 3), .null, .null, .null, .null, .int 0, .null, .int 0, .null, .null, .null, .null, .int 0, .int 0, .int 0, .int 0, .null, .null, .null, .null, .int 0, .null, .null, .int 0, .int 0, .int 0, .int 0, .int 0, .null, .int 0, .int 0, .int 0, .null, .null, .int 0, .int 0, .int 0, .null, .int 0])) p = some (zO 5 [.ref (p + 1), .ref (p + 2), .ref (p + 3), .null, .null, .null, .null, .int 0, .null, .int 0, .null, .null, .null, .null, .int 0, .int 0, .int 0, .int 0, .null, .null, .null, .null, .int 0, .null, .null, .int 0, .int 0, .int 0, .int 0, .int 0, .null, .int 0, .int 0, .int 0, .null, .null, .int 0, .int 0, .int 0, .null, .int 0]) := zup_s
  generalize zup g_17 p (zO 5 [.ref (p + 1), .ref (p + 2), .ref (p + 3), .null, .null, .null, .null, .int 0, .null, .int 0, .null, .null, .null, .null, .int 0, .int 0, .int 0, .int 0, .null, .null, .null, .null, .int 0, .null, .null, .int 0, .int 0, .int 0, .int 0, .int 0, .null, .int 0, .int 0, .int 0, .null, .null, .int 0, .int 0, .int 0, .null, .int 0]) = g_20 at hU_19 hn_21 ⊢
  replace c_1 := (hU_19 _ (by omega)).trans c_1
  replace c_8 := (hU_19 _ (by omega)).trans c_8
  replace c_15 := (hU_19 _ (by omega)).trans c_15
  replace hU := hU.tr hU_19 (by omega) (by omega)
  replace ho := hn_21; clear hn_21
  refine z_aload_n (pc := 28) (zk14 kX5_init_0) rfl ?_
  refine z_bipush (pc := 29) (zk15 kX5_init_0) (v := 8) (by decide) ?_
  refine z_bipush (pc := 31) (zk0 kX5_init_1) (v := 40) (by decide) ?_
  refine z_mna (pc := 33) (N := 8) (M := 40) (zk1 kX5_init_1) cl_jj (by decide) (by decide) (by decide) (by decide) rfl rfl rfl rfl (fun _ => ?_)
  have hU_22 : Upd g_20 (zMn g_20 (p + 4) 8 40) (p + 4) 9 := fun q hq => by unfold zMn; rw [if_neg (by omega), if_neg (by omega)]
  have hrr : (zMn g_20 (p + 4) 8 40) (p + 4) = some (zRf 4 8 (fun i => if i < 8 then some ((p + 4) + 1 + i) else none)) := if_pos rfl
  have hrows : ∀ s, s < 8 → (zMn g_20 (p + 4) 8 40) ((p + 4) + 1 + s) = some (zJ 40 (fun _ => 0)) := fun s hs => by unfold zMn; rw [if_neg (by omega), if_pos (by omega)]
  generalize zMn g_20 (p + 4) 8 40 = g_23 at hU_22 hrr hrows ⊢
  replace ho := (hU_22 _ (by omega)).trans ho
  replace c_1 := (hU_22 _ (by omega)).trans c_1
  replace c_8 := (hU_22 _ (by omega)).trans c_8
  replace c_15 := (hU_22 _ (by omega)).trans c_15
  replace hU := hU.tr hU_22 (by omega) (by omega)
  refine z_sz (a := (p + 13)) rfl ?_
  show Z D B xX5_init 12 352 _ 37 [some (.ref p)] [.ref (p + 4), .ref p] g_23 (p + 13)
  refine z_putF (pc := 37) (zk2 kX5_init_1) flX5_21 rfl rfl ho hB rfl rfl (Nat.le_of_ble_eq_true rfl) ?_
  show Z D B xX5_init 12 352 _ 40 [some (.ref p)] [] (zup g_23 p (zO 5 [.ref (p + 1), .ref (p + 2), .ref (p + 3), .ref (p + 4), .null, .null, .null, .int 0, .null, .int 0, .null, .null, .null, .null, .int 0, .int 0, .int 0, .int 0, .null, .null, .null, .null, .int 0, .null, .null, .int 0, .int 0, .int 0, .int 0, .int 0, .null, .int 0, .int 0, .int 0, .null, .null, .int 0, .int 0, .int 0, .null, .int 0])) (p + 13)
  have hU_24 : Upd g_23 (zup g_23 p (zO 5 [.ref (p + 1), .ref (p + 2), .ref (p + 3), .ref (p + 4), .null, .null, .null, .int 0, .null, .int 0, .null, .null, .null, .null, .int 0, .int 0, .int 0, .int 0, .null, .null, .null, .null, .int 0, .null, .null, .int 0, .int 0, .int 0, .int 0, .int 0, .null, .int 0, .int 0, .int 0, .null, .null, .int 0, .int 0, .int 0, .null, .int 0])) p 1 := Upd.one
  have hn_26 : (zup g_23 p (zO 5 [.ref (p + 1), .ref (p + 2), .ref (p + 3), .ref (p + 4), .null, .null, .null, .int 0, .null, .int 0, .null, .null, .null, .null, .int 0, .int 0, .int 0, .int 0, .null, .null, .null, .null, .int 0, .null, .null, .int 0, .int 0, .int 0, .int 0, .int 0, .null, .int 0, .int 0, .int 0, .null, .null, .int 0, .int 0, .int 0, .null, .int 0])) p = some (zO 5 [.ref (p + 1), .ref (p + 2), .ref (p + 3), .ref (p + 4), .null, .null, .null, .int 0, .null, .int 0, .null, .null, .null, .null, .int 0, .int 0, .int 0, .int 0, .null, .null, .null, .null, .int 0, .null, .null, .int 0, .int 0, .int 0, .int 0, .int 0, .null, .int 0, .int 0, .int 0, .null, .null, .int 0, .int 0, .int 0, .null, .int 0]) := zup_s
  generalize zup g_23 p (zO 5 [.ref (p + 1), .ref (p + 2), .ref (p + 3), .ref (p + 4), .null, .null, .null, .int 0, .null, .int 0, .null, .null, .null, .null, .int 0, .int 0, .int 0, .int 0, .null, .null, .null, .null, .int 0, .null, .null, .int 0, .int 0, .int 0, .int 0, .int 0, .null, .int 0, .int 0, .int 0, .null, .null, .int 0, .int 0, .int 0, .null, .int 0]) = g_25 at hU_24 hn_26 ⊢
  replace c_1 := (hU_24 _ (by omega)).trans c_1
  replace c_8 := (hU_24 _ (by omega)).trans c_8
  replace c_15 := (hU_24 _ (by omega)).trans c_15
  replace hrr := (hU_24 _ (by omega)).trans hrr
  replace hrows := fun s (hs : s < 8) => (hU_24 _ (by omega)).trans (hrows s hs)
  replace hU := hU.tr hU_24 (by omega) (by omega)
  replace ho := hn_26; clear hn_26
  refine z_aload_n (pc := 40) (zk3 kX5_init_1) rfl ?_
  refine z_bipush (pc := 41) (zk4 kX5_init_1) (v := 40) (by decide) ?_
  refine z_newa (pc := 43) (kd := 1) (N := 40) (a0 := (40, .inr (.inl (fun _ => 0)))) (zk5 kX5_init_1) ac_long (fun _ => rfl) (fun _ => rfl) (by decide) (by decide) rfl rfl rfl (fun _ => ?_)
  have hU_28 : Upd g_25 (zup g_25 (p + 13) (zJ 40 (fun _ => 0))) (p + 13) 1 := Upd.one
  have hn_30 : (zup g_25 (p + 13) (zJ 40 (fun _ => 0))) (p + 13) = some (zJ 40 (fun _ => 0)) := zup_s
  generalize zup g_25 (p + 13) (zJ 40 (fun _ => 0)) = g_29 at hU_28 hn_30 ⊢
  replace ho := (hU_28 _ (by omega)).trans ho
  replace c_1 := (hU_28 _ (by omega)).trans c_1
  replace c_8 := (hU_28 _ (by omega)).trans c_8
  replace c_15 := (hU_28 _ (by omega)).trans c_15
  replace hrr := (hU_28 _ (by omega)).trans hrr
  replace hrows := fun s (hs : s < 8) => (hU_28 _ (by omega)).trans (hrows s hs)
  replace hU := hU.tr hU_28 (by omega) (by omega)
  have c_27 := hn_30; clear hn_30
  refine z_sz (a := (p + 14)) rfl ?_
  show Z D B xX5_init 13 392 _ 45 [some (.ref p)] [.ref (p + 13), .ref p] g_29 (p + 14)
  refine z_putF (pc := 45) (zk6 kX5_init_1) flX5_24 rfl rfl ho hB rfl rfl (Nat.le_of_ble_eq_true rfl) ?_
  show Z D B xX5_init 13 392 _ 48 [some (.ref p)] [] (zup g_29 p (zO 5 [.ref (p + 1), .ref (p + 2), .ref (p + 3), .ref (p + 4), .ref (p + 13), .null, .null, .int 0, .null, .int 0, .null, .null, .null, .null, .int 0, .int 0, .int 0, .int 0, .null, .null, .null, .null, .int 0, .null, .null, .int 0, .int 0, .int 0, .int 0, .int 0, .null, .int 0, .int 0, .int 0, .null, .null, .int 0, .int 0, .int 0, .null, .int 0])) (p + 14)
  have hU_31 : Upd g_29 (zup g_29 p (zO 5 [.ref (p + 1), .ref (p + 2), .ref (p + 3), .ref (p + 4), .ref (p + 13), .null, .null, .int 0, .null, .int 0, .null, .null, .null, .null, .int 0, .int 0, .int 0, .int 0, .null, .null, .null, .null, .int 0, .null, .null, .int 0, .int 0, .int 0, .int 0, .int 0, .null, .int 0, .int 0, .int 0, .null, .null, .int 0, .int 0, .int 0, .null, .int 0])) p 1 := Upd.one
  have hn_33 : (zup g_29 p (zO 5 [.ref (p + 1), .ref (p + 2), .ref (p + 3), .ref (p + 4), .ref (p + 13), .null, .null, .int 0, .null, .int 0, .null, .null, .null, .null, .int 0, .int 0, .int 0, .int 0, .null, .null, .null, .null, .int 0, .null, .null, .int 0, .int 0, .int 0, .int 0, .int 0, .null, .int 0, .int 0, .int 0, .null, .null, .int 0, .int 0, .int 0, .null, .int 0])) p = some (zO 5 [.ref (p + 1), .ref (p + 2), .ref (p + 3), .ref (p + 4), .ref (p + 13), .null, .null, .int 0, .null, .int 0, .null, .null, .null, .null, .int 0, .int 0, .int 0, .int 0, .null, .null, .null, .null, .int 0, .null, .null, .int 0, .int 0, .int 0, .int 0, .int 0, .null, .int 0, .int 0, .int 0, .null, .null, .int 0, .int 0, .int 0, .null, .int 0]) := zup_s
  generalize zup g_29 p (zO 5 [.ref (p + 1), .ref (p + 2), .ref (p + 3), .ref (p + 4), .ref (p + 13), .null, .null, .int 0, .null, .int 0, .null, .null, .null, .null, .int 0, .int 0, .int 0, .int 0, .null, .null, .null, .null, .int 0, .null, .null, .int 0, .int 0, .int 0, .int 0, .int 0, .null, .int 0, .int 0, .int 0, .null, .null, .int 0, .int 0, .int 0, .null, .int 0]) = g_32 at hU_31 hn_33 ⊢
  replace c_1 := (hU_31 _ (by omega)).trans c_1
  replace c_8 := (hU_31 _ (by omega)).trans c_8
  replace c_15 := (hU_31 _ (by omega)).trans c_15
  replace hrr := (hU_31 _ (by omega)).trans hrr
  replace hrows := fun s (hs : s < 8) => (hU_31 _ (by omega)).trans (hrows s hs)
  replace c_27 := (hU_31 _ (by omega)).trans c_27
  replace hU := hU.tr hU_31 (by omega) (by omega)
  replace ho := hn_33; clear hn_33
  refine z_aload_n (pc := 48) (zk7 kX5_init_1) rfl ?_
  refine z_bipush (pc := 49) (zk8 kX5_init_1) (v := 8) (by decide) ?_
  refine z_newa (pc := 51) (kd := 0) (N := 8) (a0 := (8, .inl (fun _ => 0))) (zk9 kX5_init_1) ac_int (fun _ => rfl) (fun _ => rfl) (by decide) (by decide) rfl rfl rfl (fun _ => ?_)
  have hU_35 : Upd g_32 (zup g_32 (p + 14) (zI 8 (fun _ => 0))) (p + 14) 1 := Upd.one
  have hn_37 : (zup g_32 (p + 14) (zI 8 (fun _ => 0))) (p + 14) = some (zI 8 (fun _ => 0)) := zup_s
  generalize zup g_32 (p + 14) (zI 8 (fun _ => 0)) = g_36 at hU_35 hn_37 ⊢
  replace ho := (hU_35 _ (by omega)).trans ho
  replace c_1 := (hU_35 _ (by omega)).trans c_1
  replace c_8 := (hU_35 _ (by omega)).trans c_8
  replace c_15 := (hU_35 _ (by omega)).trans c_15
  replace hrr := (hU_35 _ (by omega)).trans hrr
  replace hrows := fun s (hs : s < 8) => (hU_35 _ (by omega)).trans (hrows s hs)
  replace c_27 := (hU_35 _ (by omega)).trans c_27
  replace hU := hU.tr hU_35 (by omega) (by omega)
  have c_34 := hn_37; clear hn_37
  refine z_sz (a := (p + 15)) rfl ?_
  show Z D B xX5_init 14 400 _ 53 [some (.ref p)] [.ref (p + 14), .ref p] g_36 (p + 15)
  refine z_putF (pc := 53) (zk10 kX5_init_1) flX5_28 rfl rfl ho hB rfl rfl (Nat.le_of_ble_eq_true rfl) ?_
  show Z D B xX5_init 14 400 _ 56 [some (.ref p)] [] (zup g_36 p (zO 5 [.ref (p + 1), .ref (p + 2), .ref (p + 3), .ref (p + 4), .ref (p + 13), .ref (p + 14), .null, .int 0, .null, .int 0, .null, .null, .null, .null, .int 0, .int 0, .int 0, .int 0, .null, .null, .null, .null, .int 0, .null, .null, .int 0, .int 0, .int 0, .int 0, .int 0, .null, .int 0, .int 0, .int 0, .null, .null, .int 0, .int 0, .int 0, .null, .int 0])) (p + 15)
  have hU_38 : Upd g_36 (zup g_36 p (zO 5 [.ref (p + 1), .ref (p + 2), .ref (p + 3), .ref (p + 4), .ref (p + 13), .ref (p + 14), .null, .int 0, .null, .int 0, .null, .null, .null, .null, .int 0, .int 0, .int 0, .int 0, .null, .null, .null, .null, .int 0, .null, .null, .int 0, .int 0, .int 0, .int 0, .int 0, .null, .int 0, .int 0, .int 0, .null, .null, .int 0, .int 0, .int 0, .null, .int 0])) p 1 := Upd.one
  have hn_40 : (zup g_36 p (zO 5 [.ref (p + 1), .ref (p + 2), .ref (p + 3), .ref (p + 4), .ref (p + 13), .ref (p + 14), .null, .int 0, .null, .int 0, .null, .null, .null, .null, .int 0, .int 0, .int 0, .int 0, .null, .null, .null, .null, .int 0, .null, .null, .int 0, .int 0, .int 0, .int 0, .int 0, .null, .int 0, .int 0, .int 0, .null, .null, .int 0, .int 0, .int 0, .null, .int 0])) p = some (zO 5 [.ref (p + 1), .ref (p + 2), .ref (p + 3), .ref (p + 4), .ref (p + 13), .ref (p + 14), .null, .int 0, .null, .int 0, .null, .null, .null, .null, .int 0, .int 0, .int 0, .int 0, .null, .null, .null, .null, .int 0, .null, .null, .int 0, .int 0, .int 0, .int 0, .int 0, .null, .int 0, .int 0, .int 0, .null, .null, .int 0, .int 0, .int 0, .null, .int 0]) := zup_s
  generalize zup g_36 p (zO 5 [.ref (p + 1), .ref (p + 2), .ref (p + 3), .ref (p + 4), .ref (p + 13), .ref (p + 14), .null, .int 0, .null, .int 0, .null, .null, .null, .null, .int 0, .int 0, .int 0, .int 0, .null, .null, .null, .null, .int 0, .null, .null, .int 0, .int 0, .int 0, .int 0, .int 0, .null, .int 0, .int 0, .int 0, .null, .null, .int 0, .int 0, .int 0, .null, .int 0]) = g_39 at hU_38 hn_40 ⊢
  replace c_1 := (hU_38 _ (by omega)).trans c_1
  replace c_8 := (hU_38 _ (by omega)).trans c_8
  replace c_15 := (hU_38 _ (by omega)).trans c_15
  replace hrr := (hU_38 _ (by omega)).trans hrr
  replace hrows := fun s (hs : s < 8) => (hU_38 _ (by omega)).trans (hrows s hs)
  replace c_27 := (hU_38 _ (by omega)).trans c_27
  replace c_34 := (hU_38 _ (by omega)).trans c_34
  replace hU := hU.tr hU_38 (by omega) (by omega)
  replace ho := hn_40; clear hn_40
  refine z_aload_n (pc := 56) (zk11 kX5_init_1) rfl ?_
  refine z_sipush (pc := 57) (zk12 kX5_init_1) (v := 250) (by decide) ?_
  refine z_newa (pc := 60) (kd := 0) (N := 250) (a0 := (250, .inl (fun _ => 0))) (zk13 kX5_init_1) ac_int (fun _ => rfl) (fun _ => rfl) (by decide) (by decide) rfl rfl rfl (fun _ => ?_)
  have hU_42 : Upd g_39 (zup g_39 (p + 15) (zI 250 (fun _ => 0))) (p + 15) 1 := Upd.one
  have hn_44 : (zup g_39 (p + 15) (zI 250 (fun _ => 0))) (p + 15) = some (zI 250 (fun _ => 0)) := zup_s
  generalize zup g_39 (p + 15) (zI 250 (fun _ => 0)) = g_43 at hU_42 hn_44 ⊢
  replace ho := (hU_42 _ (by omega)).trans ho
  replace c_1 := (hU_42 _ (by omega)).trans c_1
  replace c_8 := (hU_42 _ (by omega)).trans c_8
  replace c_15 := (hU_42 _ (by omega)).trans c_15
  replace hrr := (hU_42 _ (by omega)).trans hrr
  replace hrows := fun s (hs : s < 8) => (hU_42 _ (by omega)).trans (hrows s hs)
  replace c_27 := (hU_42 _ (by omega)).trans c_27
  replace c_34 := (hU_42 _ (by omega)).trans c_34
  replace hU := hU.tr hU_42 (by omega) (by omega)
  have c_41 := hn_44; clear hn_44
  refine z_sz (a := (p + 16)) rfl ?_
  show Z D B xX5_init 15 650 _ 62 [some (.ref p)] [.ref (p + 15), .ref p] g_43 (p + 16)
  refine z_putF (pc := 62) (zk14 kX5_init_1) flX5_31 rfl rfl ho hB rfl rfl (Nat.le_of_ble_eq_true rfl) ?_
  show Z D B xX5_init 15 650 _ 65 [some (.ref p)] [] (zup g_43 p (zO 5 [.ref (p + 1), .ref (p + 2), .ref (p + 3), .ref (p + 4), .ref (p + 13), .ref (p + 14), .ref (p + 15), .int 0, .null, .int 0, .null, .null, .null, .null, .int 0, .int 0, .int 0, .int 0, .null, .null, .null, .null, .int 0, .null, .null, .int 0, .int 0, .int 0, .int 0, .int 0, .null, .int 0, .int 0, .int 0, .null, .null, .int 0, .int 0, .int 0, .null, .int 0])) (p + 16)
  have hU_45 : Upd g_43 (zup g_43 p (zO 5 [.ref (p + 1), .ref (p + 2), .ref (p + 3), .ref (p + 4), .ref (p + 13), .ref (p + 14), .ref (p + 15), .int 0, .null, .int 0, .null, .null, .null, .null, .int 0, .int 0, .int 0, .int 0, .null, .null, .null, .null, .int 0, .null, .null, .int 0, .int 0, .int 0, .int 0, .int 0, .null, .int 0, .int 0, .int 0, .null, .null, .int 0, .int 0, .int 0, .null, .int 0])) p 1 := Upd.one
  have hn_47 : (zup g_43 p (zO 5 [.ref (p + 1), .ref (p + 2), .ref (p + 3), .ref (p + 4), .ref (p + 13), .ref (p + 14), .ref (p + 15), .int 0, .null, .int 0, .null, .null, .null, .null, .int 0, .int 0, .int 0, .int 0, .null, .null, .null, .null, .int 0, .null, .null, .int 0, .int 0, .int 0, .int 0, .int 0, .null, .int 0, .int 0, .int 0, .null, .null, .int 0, .int 0, .int 0, .null, .int 0])) p = some (zO 5 [.ref (p + 1), .ref (p + 2), .ref (p + 3), .ref (p + 4), .ref (p + 13), .ref (p + 14), .ref (p + 15), .int 0, .null, .int 0, .null, .null, .null, .null, .int 0, .int 0, .int 0, .int 0, .null, .null, .null, .null, .int 0, .null, .null, .int 0, .int 0, .int 0, .int 0, .int 0, .null, .int 0, .int 0, .int 0, .null, .null, .int 0, .int 0, .int 0, .null, .int 0]) := zup_s
  generalize zup g_43 p (zO 5 [.ref (p + 1), .ref (p + 2), .ref (p + 3), .ref (p + 4), .ref (p + 13), .ref (p + 14), .ref (p + 15), .int 0, .null, .int 0, .null, .null, .null, .null, .int 0, .int 0, .int 0, .int 0, .null, .null, .null, .null, .int 0, .null, .null, .int 0, .int 0, .int 0, .int 0, .int 0, .null, .int 0, .int 0, .int 0, .null, .null, .int 0, .int 0, .int 0, .null, .int 0]) = g_46 at hU_45 hn_47 ⊢
  replace c_1 := (hU_45 _ (by omega)).trans c_1
  replace c_8 := (hU_45 _ (by omega)).trans c_8
  replace c_15 := (hU_45 _ (by omega)).trans c_15
  replace hrr := (hU_45 _ (by omega)).trans hrr
  replace hrows := fun s (hs : s < 8) => (hU_45 _ (by omega)).trans (hrows s hs)
  replace c_27 := (hU_45 _ (by omega)).trans c_27
  replace c_34 := (hU_45 _ (by omega)).trans c_34
  replace c_41 := (hU_45 _ (by omega)).trans c_41
  replace hU := hU.tr hU_45 (by omega) (by omega)
  replace ho := hn_47; clear hn_47
  refine z_aload_n (pc := 65) (zk15 kX5_init_1) rfl ?_
  refine z_bipush (pc := 66) (zk0 kX5_init_2) (v := 8) (by decide) ?_
  refine z_newa (pc := 68) (kd := 0) (N := 8) (a0 := (8, .inl (fun _ => 0))) (zk1 kX5_init_2) ac_int (fun _ => rfl) (fun _ => rfl) (by decide) (by decide) rfl rfl rfl (fun _ => ?_)
  have hU_49 : Upd g_46 (zup g_46 (p + 16) (zI 8 (fun _ => 0))) (p + 16) 1 := Upd.one
  have hn_51 : (zup g_46 (p + 16) (zI 8 (fun _ => 0))) (p + 16) = some (zI 8 (fun _ => 0)) := zup_s
  generalize zup g_46 (p + 16) (zI 8 (fun _ => 0)) = g_50 at hU_49 hn_51 ⊢
  replace ho := (hU_49 _ (by omega)).trans ho
  replace c_1 := (hU_49 _ (by omega)).trans c_1
  replace c_8 := (hU_49 _ (by omega)).trans c_8
  replace c_15 := (hU_49 _ (by omega)).trans c_15
  replace hrr := (hU_49 _ (by omega)).trans hrr
  replace hrows := fun s (hs : s < 8) => (hU_49 _ (by omega)).trans (hrows s hs)
  replace c_27 := (hU_49 _ (by omega)).trans c_27
  replace c_34 := (hU_49 _ (by omega)).trans c_34
  replace c_41 := (hU_49 _ (by omega)).trans c_41
  replace hU := hU.tr hU_49 (by omega) (by omega)
  have c_48 := hn_51; clear hn_51
  refine z_sz (a := (p + 17)) rfl ?_
  show Z D B xX5_init 16 658 _ 70 [some (.ref p)] [.ref (p + 16), .ref p] g_50 (p + 17)
  refine z_putF (pc := 70) (zk2 kX5_init_2) flX5_34 rfl rfl ho hB rfl rfl (Nat.le_of_ble_eq_true rfl) ?_
  show Z D B xX5_init 16 658 _ 73 [some (.ref p)] [] (zup g_50 p (zO 5 [.ref (p + 1), .ref (p + 2), .ref (p + 3), .ref (p + 4), .ref (p + 13), .ref (p + 14), .ref (p + 15), .int 0, .ref (p + 16), .int 0, .null, .null, .null, .null, .int 0, .int 0, .int 0, .int 0, .null, .null, .null, .null, .int 0, .null, .null, .int 0, .int 0, .int 0, .int 0, .int 0, .null, .int 0, .int 0, .int 0, .null, .null, .int 0, .int 0, .int 0, .null, .int 0])) (p + 17)
  have hU_52 : Upd g_50 (zup g_50 p (zO 5 [.ref (p + 1), .ref (p + 2), .ref (p + 3), .ref (p + 4), .ref (p + 13), .ref (p + 14), .ref (p + 15), .int 0, .ref (p + 16), .int 0, .null, .null, .null, .null, .int 0, .int 0, .int 0, .int 0, .null, .null, .null, .null, .int 0, .null, .null, .int 0, .int 0, .int 0, .int 0, .int 0, .null, .int 0, .int 0, .int 0, .null, .null, .int 0, .int 0, .int 0, .null, .int 0])) p 1 := Upd.one
  have hn_54 : (zup g_50 p (zO 5 [.ref (p + 1), .ref (p + 2), .ref (p + 3), .ref (p + 4), .ref (p + 13), .ref (p + 14), .ref (p + 15), .int 0, .ref (p + 16), .int 0, .null, .null, .null, .null, .int 0, .int 0, .int 0, .int 0, .null, .null, .null, .null, .int 0, .null, .null, .int 0, .int 0, .int 0, .int 0, .int 0, .null, .int 0, .int 0, .int 0, .null, .null, .int 0, .int 0, .int 0, .null, .int 0])) p = some (zO 5 [.ref (p + 1), .ref (p + 2), .ref (p + 3), .ref (p + 4), .ref (p + 13), .ref (p + 14), .ref (p + 15), .int 0, .ref (p + 16), .int 0, .null, .null, .null, .null, .int 0, .int 0, .int 0, .int 0, .null, .null, .null, .null, .int 0, .null, .null, .int 0, .int 0, .int 0, .int 0, .int 0, .null, .int 0, .int 0, .int 0, .null, .null, .int 0, .int 0, .int 0, .null, .int 0]) := zup_s
  generalize zup g_50 p (zO 5 [.ref (p + 1), .ref (p + 2), .ref (p + 3), .ref (p + 4), .ref (p + 13), .ref (p + 14), .ref (p + 15), .int 0, .ref (p + 16), .int 0, .null, .null, .null, .null, .int 0, .int 0, .int 0, .int 0, .null, .null, .null, .null, .int 0, .null, .null, .int 0, .int 0, .int 0, .int 0, .int 0, .null, .int 0, .int 0, .int 0, .null, .null, .int 0, .int 0, .int 0, .null, .int 0]) = g_53 at hU_52 hn_54 ⊢
  replace c_1 := (hU_52 _ (by omega)).trans c_1
  replace c_8 := (hU_52 _ (by omega)).trans c_8
  replace c_15 := (hU_52 _ (by omega)).trans c_15
  replace hrr := (hU_52 _ (by omega)).trans hrr
  replace hrows := fun s (hs : s < 8) => (hU_52 _ (by omega)).trans (hrows s hs)
  replace c_27 := (hU_52 _ (by omega)).trans c_27
  replace c_34 := (hU_52 _ (by omega)).trans c_34
  replace c_41 := (hU_52 _ (by omega)).trans c_41
  replace c_48 := (hU_52 _ (by omega)).trans c_48
  replace hU := hU.tr hU_52 (by omega) (by omega)
  replace ho := hn_54; clear hn_54
  refine z_aload_n (pc := 73) (zk3 kX5_init_2) rfl ?_
  refine z_bipush (pc := 74) (zk4 kX5_init_2) (v := 8) (by decide) ?_
  refine z_putf (pc := 76) (zk5 kX5_init_2) flX5_37 ho hB rfl rfl (Nat.le_of_ble_eq_true rfl) ?_
  show Z D B xX5_init 16 658 _ 79 [some (.ref p)] [] (zup g_53 p (zO 5 [.ref (p + 1), .ref (p + 2), .ref (p + 3), .ref (p + 4), .ref (p + 13), .ref (p + 14), .ref (p + 15), .int 0, .ref (p + 16), .int 8, .null, .null, .null, .null, .int 0, .int 0, .int 0, .int 0, .null, .null, .null, .null, .int 0, .null, .null, .int 0, .int 0, .int 0, .int 0, .int 0, .null, .int 0, .int 0, .int 0, .null, .null, .int 0, .int 0, .int 0, .null, .int 0])) (p + 17)
  have hU_55 : Upd g_53 (zup g_53 p (zO 5 [.ref (p + 1), .ref (p + 2), .ref (p + 3), .ref (p + 4), .ref (p + 13), .ref (p + 14), .ref (p + 15), .int 0, .ref (p + 16), .int 8, .null, .null, .null, .null, .int 0, .int 0, .int 0, .int 0, .null, .null, .null, .null, .int 0, .null, .null, .int 0, .int 0, .int 0, .int 0, .int 0, .null, .int 0, .int 0, .int 0, .null, .null, .int 0, .int 0, .int 0, .null, .int 0])) p 1 := Upd.one
  have hn_57 : (zup g_53 p (zO 5 [.ref (p + 1), .ref (p + 2), .ref (p + 3), .ref (p + 4), .ref (p + 13), .ref (p + 14), .ref (p + 15), .int 0, .ref (p + 16), .int 8, .null, .null, .null, .null, .int 0, .int 0, .int 0, .int 0, .null, .null, .null, .null, .int 0, .null, .null, .int 0, .int 0, .int 0, .int 0, .int 0, .null, .int 0, .int 0, .int 0, .null, .null, .int 0, .int 0, .int 0, .null, .int 0])) p = some (zO 5 [.ref (p + 1), .ref (p + 2), .ref (p + 3), .ref (p + 4), .ref (p + 13), .ref (p + 14), .ref (p + 15), .int 0, .ref (p + 16), .int 8, .null, .null, .null, .null, .int 0, .int 0, .int 0, .int 0, .null, .null, .null, .null, .int 0, .null, .null, .int 0, .int 0, .int 0, .int 0, .int 0, .null, .int 0, .int 0, .int 0, .null, .null, .int 0, .int 0, .int 0, .null, .int 0]) := zup_s
  generalize zup g_53 p (zO 5 [.ref (p + 1), .ref (p + 2), .ref (p + 3), .ref (p + 4), .ref (p + 13), .ref (p + 14), .ref (p + 15), .int 0, .ref (p + 16), .int 8, .null, .null, .null, .null, .int 0, .int 0, .int 0, .int 0, .null, .null, .null, .null, .int 0, .null, .null, .int 0, .int 0, .int 0, .int 0, .int 0, .null, .int 0, .int 0, .int 0, .null, .null, .int 0, .int 0, .int 0, .null, .int 0]) = g_56 at hU_55 hn_57 ⊢
  replace c_1 := (hU_55 _ (by omega)).trans c_1
  replace c_8 := (hU_55 _ (by omega)).trans c_8
  replace c_15 := (hU_55 _ (by omega)).trans c_15
  replace hrr := (hU_55 _ (by omega)).trans hrr
  replace hrows := fun s (hs : s < 8) => (hU_55 _ (by omega)).trans (hrows s hs)
  replace c_27 := (hU_55 _ (by omega)).trans c_27
  replace c_34 := (hU_55 _ (by omega)).trans c_34
  replace c_41 := (hU_55 _ (by omega)).trans c_41
  replace c_48 := (hU_55 _ (by omega)).trans c_48
  replace hU := hU.tr hU_55 (by omega) (by omega)
  replace ho := hn_57; clear hn_57
  refine z_aload_n (pc := 79) (zk6 kX5_init_2) rfl ?_
  refine z_bipush (pc := 80) (zk7 kX5_init_2) (v := 12) (by decide) ?_
  refine z_newa (pc := 82) (kd := 0) (N := 12) (a0 := (12, .inl (fun _ => 0))) (zk8 kX5_init_2) ac_int (fun _ => rfl) (fun _ => rfl) (by decide) (by decide) rfl rfl rfl (fun _ => ?_)
  have hU_59 : Upd g_56 (zup g_56 (p + 17) (zI 12 (fun _ => 0))) (p + 17) 1 := Upd.one
  have hn_61 : (zup g_56 (p + 17) (zI 12 (fun _ => 0))) (p + 17) = some (zI 12 (fun _ => 0)) := zup_s
  generalize zup g_56 (p + 17) (zI 12 (fun _ => 0)) = g_60 at hU_59 hn_61 ⊢
  replace ho := (hU_59 _ (by omega)).trans ho
  replace c_1 := (hU_59 _ (by omega)).trans c_1
  replace c_8 := (hU_59 _ (by omega)).trans c_8
  replace c_15 := (hU_59 _ (by omega)).trans c_15
  replace hrr := (hU_59 _ (by omega)).trans hrr
  replace hrows := fun s (hs : s < 8) => (hU_59 _ (by omega)).trans (hrows s hs)
  replace c_27 := (hU_59 _ (by omega)).trans c_27
  replace c_34 := (hU_59 _ (by omega)).trans c_34
  replace c_41 := (hU_59 _ (by omega)).trans c_41
  replace c_48 := (hU_59 _ (by omega)).trans c_48
  replace hU := hU.tr hU_59 (by omega) (by omega)
  have c_58 := hn_61; clear hn_61
  refine z_sz (a := (p + 18)) rfl ?_
  show Z D B xX5_init 17 670 _ 84 [some (.ref p)] [.ref (p + 17), .ref p] g_60 (p + 18)
  refine z_putF (pc := 84) (zk9 kX5_init_2) flX5_41 rfl rfl ho hB rfl rfl (Nat.le_of_ble_eq_true rfl) ?_
  show Z D B xX5_init 17 670 _ 87 [some (.ref p)] [] (zup g_60 p (zO 5 [.ref (p + 1), .ref (p + 2), .ref (p + 3), .ref (p + 4), .ref (p + 13), .ref (p + 14), .ref (p + 15), .int 0, .ref (p + 16), .int 8, .ref (p + 17), .null, .null, .null, .int 0, .int 0, .int 0, .int 0, .null, .null, .null, .null, .int 0, .null, .null, .int 0, .int 0, .int 0, .int 0, .int 0, .null, .int 0, .int 0, .int 0, .null, .null, .int 0, .int 0, .int 0, .null, .int 0])) (p + 18)
  have hU_62 : Upd g_60 (zup g_60 p (zO 5 [.ref (p + 1), .ref (p + 2), .ref (p + 3), .ref (p + 4), .ref (p + 13), .ref (p + 14), .ref (p + 15), .int 0, .ref (p + 16), .int 8, .ref (p + 17), .null, .null, .null, .int 0, .int 0, .int 0, .int 0, .null, .null, .null, .null, .int 0, .null, .null, .int 0, .int 0, .int 0, .int 0, .int 0, .null, .int 0, .int 0, .int 0, .null, .null, .int 0, .int 0, .int 0, .null, .int 0])) p 1 := Upd.one
  have hn_64 : (zup g_60 p (zO 5 [.ref (p + 1), .ref (p + 2), .ref (p + 3), .ref (p + 4), .ref (p + 13), .ref (p + 14), .ref (p + 15), .int 0, .ref (p + 16), .int 8, .ref (p + 17), .null, .null, .null, .int 0, .int 0, .int 0, .int 0, .null, .null, .null, .null, .int 0, .null, .null, .int 0, .int 0, .int 0, .int 0, .int 0, .null, .int 0, .int 0, .int 0, .null, .null, .int 0, .int 0, .int 0, .null, .int 0])) p = some (zO 5 [.ref (p + 1), .ref (p + 2), .ref (p + 3), .ref (p + 4), .ref (p + 13), .ref (p + 14), .ref (p + 15), .int 0, .ref (p + 16), .int 8, .ref (p + 17), .null, .null, .null, .int 0, .int 0, .int 0, .int 0, .null, .null, .null, .null, .int 0, .null, .null, .int 0, .int 0, .int 0, .int 0, .int 0, .null, .int 0, .int 0, .int 0, .null, .null, .int 0, .int 0, .int 0, .null, .int 0]) := zup_s
  generalize zup g_60 p (zO 5 [.ref (p + 1), .ref (p + 2), .ref (p + 3), .ref (p + 4), .ref (p + 13), .ref (p + 14), .ref (p + 15), .int 0, .ref (p + 16), .int 8, .ref (p + 17), .null, .null, .null, .int 0, .int 0, .int 0, .int 0, .null, .null, .null, .null, .int 0, .null, .null, .int 0, .int 0, .int 0, .int 0, .int 0, .null, .int 0, .int 0, .int 0, .null, .null, .int 0, .int 0, .int 0, .null, .int 0]) = g_63 at hU_62 hn_64 ⊢
  replace c_1 := (hU_62 _ (by omega)).trans c_1
  replace c_8 := (hU_62 _ (by omega)).trans c_8
  replace c_15 := (hU_62 _ (by omega)).trans c_15
  replace hrr := (hU_62 _ (by omega)).trans hrr
  replace hrows := fun s (hs : s < 8) => (hU_62 _ (by omega)).trans (hrows s hs)
  replace c_27 := (hU_62 _ (by omega)).trans c_27
  replace c_34 := (hU_62 _ (by omega)).trans c_34
  replace c_41 := (hU_62 _ (by omega)).trans c_41
  replace c_48 := (hU_62 _ (by omega)).trans c_48
  replace c_58 := (hU_62 _ (by omega)).trans c_58
  replace hU := hU.tr hU_62 (by omega) (by omega)
  replace ho := hn_64; clear hn_64
  refine z_aload_n (pc := 87) (zk10 kX5_init_2) rfl ?_
  refine z_bipush (pc := 88) (zk11 kX5_init_2) (v := 12) (by decide) ?_
  refine z_newa (pc := 90) (kd := 0) (N := 12) (a0 := (12, .inl (fun _ => 0))) (zk12 kX5_init_2) ac_int (fun _ => rfl) (fun _ => rfl) (by decide) (by decide) rfl rfl rfl (fun _ => ?_)
  have hU_66 : Upd g_63 (zup g_63 (p + 18) (zI 12 (fun _ => 0))) (p + 18) 1 := Upd.one
  have hn_68 : (zup g_63 (p + 18) (zI 12 (fun _ => 0))) (p + 18) = some (zI 12 (fun _ => 0)) := zup_s
  generalize zup g_63 (p + 18) (zI 12 (fun _ => 0)) = g_67 at hU_66 hn_68 ⊢
  replace ho := (hU_66 _ (by omega)).trans ho
  replace c_1 := (hU_66 _ (by omega)).trans c_1
  replace c_8 := (hU_66 _ (by omega)).trans c_8
  replace c_15 := (hU_66 _ (by omega)).trans c_15
  replace hrr := (hU_66 _ (by omega)).trans hrr
  replace hrows := fun s (hs : s < 8) => (hU_66 _ (by omega)).trans (hrows s hs)
  replace c_27 := (hU_66 _ (by omega)).trans c_27
  replace c_34 := (hU_66 _ (by omega)).trans c_34
  replace c_41 := (hU_66 _ (by omega)).trans c_41
  replace c_48 := (hU_66 _ (by omega)).trans c_48
  replace c_58 := (hU_66 _ (by omega)).trans c_58
  replace hU := hU.tr hU_66 (by omega) (by omega)
  have c_65 := hn_68; clear hn_68
  refine z_sz (a := (p + 19)) rfl ?_
  show Z D B xX5_init 18 682 _ 92 [some (.ref p)] [.ref (p + 18), .ref p] g_67 (p + 19)
  refine z_putF (pc := 92) (zk13 kX5_init_2) flX5_44 rfl rfl ho hB rfl rfl (Nat.le_of_ble_eq_true rfl) ?_
  show Z D B xX5_init 18 682 _ 95 [some (.ref p)] [] (zup g_67 p (zO 5 [.ref (p + 1), .ref (p + 2), .ref (p + 3), .ref (p + 4), .ref (p + 13), .ref (p + 14), .ref (p + 15), .int 0, .ref (p + 16), .int 8, .ref (p + 17), .ref (p + 18), .null, .null, .int 0, .int 0, .int 0, .int 0, .null, .null, .null, .null, .int 0, .null, .null, .int 0, .int 0, .int 0, .int 0, .int 0, .null, .int 0, .int 0, .int 0, .null, .null, .int 0, .int 0, .int 0, .null, .int 0])) (p + 19)
  have hU_69 : Upd g_67 (zup g_67 p (zO 5 [.ref (p + 1), .ref (p + 2), .ref (p + 3), .ref (p + 4), .ref (p + 13), .ref (p + 14), .ref (p + 15), .int 0, .ref (p + 16), .int 8, .ref (p + 17), .ref (p + 18), .null, .null, .int 0, .int 0, .int 0, .int 0, .null, .null, .null, .null, .int 0, .null, .null, .int 0, .int 0, .int 0, .int 0, .int 0, .null, .int 0, .int 0, .int 0, .null, .null, .int 0, .int 0, .int 0, .null, .int 0])) p 1 := Upd.one
  have hn_71 : (zup g_67 p (zO 5 [.ref (p + 1), .ref (p + 2), .ref (p + 3), .ref (p + 4), .ref (p + 13), .ref (p + 14), .ref (p + 15), .int 0, .ref (p + 16), .int 8, .ref (p + 17), .ref (p + 18), .null, .null, .int 0, .int 0, .int 0, .int 0, .null, .null, .null, .null, .int 0, .null, .null, .int 0, .int 0, .int 0, .int 0, .int 0, .null, .int 0, .int 0, .int 0, .null, .null, .int 0, .int 0, .int 0, .null, .int 0])) p = some (zO 5 [.ref (p + 1), .ref (p + 2), .ref (p + 3), .ref (p + 4), .ref (p + 13), .ref (p + 14), .ref (p + 15), .int 0, .ref (p + 16), .int 8, .ref (p + 17), .ref (p + 18), .null, .null, .int 0, .int 0, .int 0, .int 0, .null, .null, .null, .null, .int 0, .null, .null, .int 0, .int 0, .int 0, .int 0, .int 0, .null, .int 0, .int 0, .int 0, .null, .null, .int 0, .int 0, .int 0, .null, .int 0]) := zup_s
  generalize zup g_67 p (zO 5 [.ref (p + 1), .ref (p + 2), .ref (p + 3), .ref (p + 4), .ref (p + 13), .ref (p + 14), .ref (p + 15), .int 0, .ref (p + 16), .int 8, .ref (p + 17), .ref (p + 18), .null, .null, .int 0, .int 0, .int 0, .int 0, .null, .null, .null, .null, .int 0, .null, .null, .int 0, .int 0, .int 0, .int 0, .int 0, .null, .int 0, .int 0, .int 0, .null, .null, .int 0, .int 0, .int 0, .null, .int 0]) = g_70 at hU_69 hn_71 ⊢
  replace c_1 := (hU_69 _ (by omega)).trans c_1
  replace c_8 := (hU_69 _ (by omega)).trans c_8
  replace c_15 := (hU_69 _ (by omega)).trans c_15
  replace hrr := (hU_69 _ (by omega)).trans hrr
  replace hrows := fun s (hs : s < 8) => (hU_69 _ (by omega)).trans (hrows s hs)
  replace c_27 := (hU_69 _ (by omega)).trans c_27
  replace c_34 := (hU_69 _ (by omega)).trans c_34
  replace c_41 := (hU_69 _ (by omega)).trans c_41
  replace c_48 := (hU_69 _ (by omega)).trans c_48
  replace c_58 := (hU_69 _ (by omega)).trans c_58
  replace c_65 := (hU_69 _ (by omega)).trans c_65
  replace hU := hU.tr hU_69 (by omega) (by omega)
  replace ho := hn_71; clear hn_71
  refine z_aload_n (pc := 95) (zk14 kX5_init_2) rfl ?_
  refine z_bipush (pc := 96) (zk15 kX5_init_2) (v := 12) (by decide) ?_
  refine z_newa (pc := 98) (kd := 0) (N := 12) (a0 := (12, .inl (fun _ => 0))) (zk0 kX5_init_3) ac_int (fun _ => rfl) (fun _ => rfl) (by decide) (by decide) rfl rfl rfl (fun _ => ?_)
  have hU_73 : Upd g_70 (zup g_70 (p + 19) (zI 12 (fun _ => 0))) (p + 19) 1 := Upd.one
  have hn_75 : (zup g_70 (p + 19) (zI 12 (fun _ => 0))) (p + 19) = some (zI 12 (fun _ => 0)) := zup_s
  generalize zup g_70 (p + 19) (zI 12 (fun _ => 0)) = g_74 at hU_73 hn_75 ⊢
  replace ho := (hU_73 _ (by omega)).trans ho
  replace c_1 := (hU_73 _ (by omega)).trans c_1
  replace c_8 := (hU_73 _ (by omega)).trans c_8
  replace c_15 := (hU_73 _ (by omega)).trans c_15
  replace hrr := (hU_73 _ (by omega)).trans hrr
  replace hrows := fun s (hs : s < 8) => (hU_73 _ (by omega)).trans (hrows s hs)
  replace c_27 := (hU_73 _ (by omega)).trans c_27
  replace c_34 := (hU_73 _ (by omega)).trans c_34
  replace c_41 := (hU_73 _ (by omega)).trans c_41
  replace c_48 := (hU_73 _ (by omega)).trans c_48
  replace c_58 := (hU_73 _ (by omega)).trans c_58
  replace c_65 := (hU_73 _ (by omega)).trans c_65
  replace hU := hU.tr hU_73 (by omega) (by omega)
  have c_72 := hn_75; clear hn_75
  refine z_sz (a := (p + 20)) rfl ?_
  show Z D B xX5_init 19 694 _ 100 [some (.ref p)] [.ref (p + 19), .ref p] g_74 (p + 20)
  refine z_putF (pc := 100) (zk1 kX5_init_3) flX5_47 rfl rfl ho hB rfl rfl (Nat.le_of_ble_eq_true rfl) ?_
  show Z D B xX5_init 19 694 _ 103 [some (.ref p)] [] (zup g_74 p (zO 5 [.ref (p + 1), .ref (p + 2), .ref (p + 3), .ref (p + 4), .ref (p + 13), .ref (p + 14), .ref (p + 15), .int 0, .ref (p + 16), .int 8, .ref (p + 17), .ref (p + 18), .ref (p + 19), .null, .int 0, .int 0, .int 0, .int 0, .null, .null, .null, .null, .int 0, .null, .null, .int 0, .int 0, .int 0, .int 0, .int 0, .null, .int 0, .int 0, .int 0, .null, .null, .int 0, .int 0, .int 0, .null, .int 0])) (p + 20)
  have hU_76 : Upd g_74 (zup g_74 p (zO 5 [.ref (p + 1), .ref (p + 2), .ref (p + 3), .ref (p + 4), .ref (p + 13), .ref (p + 14), .ref (p + 15), .int 0, .ref (p + 16), .int 8, .ref (p + 17), .ref (p + 18), .ref (p + 19), .null, .int 0, .int 0, .int 0, .int 0, .null, .null, .null, .null, .int 0, .null, .null, .int 0, .int 0, .int 0, .int 0, .int 0, .null, .int 0, .int 0, .int 0, .null, .null, .int 0, .int 0, .int 0, .null, .int 0])) p 1 := Upd.one
  have hn_78 : (zup g_74 p (zO 5 [.ref (p + 1), .ref (p + 2), .ref (p + 3), .ref (p + 4), .ref (p + 13), .ref (p + 14), .ref (p + 15), .int 0, .ref (p + 16), .int 8, .ref (p + 17), .ref (p + 18), .ref (p + 19), .null, .int 0, .int 0, .int 0, .int 0, .null, .null, .null, .null, .int 0, .null, .null, .int 0, .int 0, .int 0, .int 0, .int 0, .null, .int 0, .int 0, .int 0, .null, .null, .int 0, .int 0, .int 0, .null, .int 0])) p = some (zO 5 [.ref (p + 1), .ref (p + 2), .ref (p + 3), .ref (p + 4), .ref (p + 13), .ref (p + 14), .ref (p + 15), .int 0, .ref (p + 16), .int 8, .ref (p + 17), .ref (p + 18), .ref (p + 19), .null, .int 0, .int 0, .int 0, .int 0, .null, .null, .null, .null, .int 0, .null, .null, .int 0, .int 0, .int 0, .int 0, .int 0, .null, .int 0, .int 0, .int 0, .null, .null, .int 0, .int 0, .int 0, .null, .int 0]) := zup_s
  generalize zup g_74 p (zO 5 [.ref (p + 1), .ref (p + 2), .ref (p + 3), .ref (p + 4), .ref (p + 13), .ref (p + 14), .ref (p + 15), .int 0, .ref (p + 16), .int 8, .ref (p + 17), .ref (p + 18), .ref (p + 19), .null, .int 0, .int 0, .int 0, .int 0, .null, .null, .null, .null, .int 0, .null, .null, .int 0, .int 0, .int 0, .int 0, .int 0, .null, .int 0, .int 0, .int 0, .null, .null, .int 0, .int 0, .int 0, .null, .int 0]) = g_77 at hU_76 hn_78 ⊢
  replace c_1 := (hU_76 _ (by omega)).trans c_1
  replace c_8 := (hU_76 _ (by omega)).trans c_8
  replace c_15 := (hU_76 _ (by omega)).trans c_15
  replace hrr := (hU_76 _ (by omega)).trans hrr
  replace hrows := fun s (hs : s < 8) => (hU_76 _ (by omega)).trans (hrows s hs)
  replace c_27 := (hU_76 _ (by omega)).trans c_27
  replace c_34 := (hU_76 _ (by omega)).trans c_34
  replace c_41 := (hU_76 _ (by omega)).trans c_41
  replace c_48 := (hU_76 _ (by omega)).trans c_48
  replace c_58 := (hU_76 _ (by omega)).trans c_58
  replace c_65 := (hU_76 _ (by omega)).trans c_65
  replace c_72 := (hU_76 _ (by omega)).trans c_72
  replace hU := hU.tr hU_76 (by omega) (by omega)
  replace ho := hn_78; clear hn_78
  refine z_aload_n (pc := 103) (zk2 kX5_init_3) rfl ?_
  refine z_bipush (pc := 104) (zk3 kX5_init_3) (v := 12) (by decide) ?_
  refine z_newa (pc := 106) (kd := 0) (N := 12) (a0 := (12, .inl (fun _ => 0))) (zk4 kX5_init_3) ac_int (fun _ => rfl) (fun _ => rfl) (by decide) (by decide) rfl rfl rfl (fun _ => ?_)
  have hU_80 : Upd g_77 (zup g_77 (p + 20) (zI 12 (fun _ => 0))) (p + 20) 1 := Upd.one
  have hn_82 : (zup g_77 (p + 20) (zI 12 (fun _ => 0))) (p + 20) = some (zI 12 (fun _ => 0)) := zup_s
  generalize zup g_77 (p + 20) (zI 12 (fun _ => 0)) = g_81 at hU_80 hn_82 ⊢
  replace ho := (hU_80 _ (by omega)).trans ho
  replace c_1 := (hU_80 _ (by omega)).trans c_1
  replace c_8 := (hU_80 _ (by omega)).trans c_8
  replace c_15 := (hU_80 _ (by omega)).trans c_15
  replace hrr := (hU_80 _ (by omega)).trans hrr
  replace hrows := fun s (hs : s < 8) => (hU_80 _ (by omega)).trans (hrows s hs)
  replace c_27 := (hU_80 _ (by omega)).trans c_27
  replace c_34 := (hU_80 _ (by omega)).trans c_34
  replace c_41 := (hU_80 _ (by omega)).trans c_41
  replace c_48 := (hU_80 _ (by omega)).trans c_48
  replace c_58 := (hU_80 _ (by omega)).trans c_58
  replace c_65 := (hU_80 _ (by omega)).trans c_65
  replace c_72 := (hU_80 _ (by omega)).trans c_72
  replace hU := hU.tr hU_80 (by omega) (by omega)
  have c_79 := hn_82; clear hn_82
  refine z_sz (a := (p + 21)) rfl ?_
  show Z D B xX5_init 20 706 _ 108 [some (.ref p)] [.ref (p + 20), .ref p] g_81 (p + 21)
  refine z_putF (pc := 108) (zk5 kX5_init_3) flX5_50 rfl rfl ho hB rfl rfl (Nat.le_of_ble_eq_true rfl) ?_
  show Z D B xX5_init 20 706 _ 111 [some (.ref p)] [] (zup g_81 p (zO 5 [.ref (p + 1), .ref (p + 2), .ref (p + 3), .ref (p + 4), .ref (p + 13), .ref (p + 14), .ref (p + 15), .int 0, .ref (p + 16), .int 8, .ref (p + 17), .ref (p + 18), .ref (p + 19), .ref (p + 20), .int 0, .int 0, .int 0, .int 0, .null, .null, .null, .null, .int 0, .null, .null, .int 0, .int 0, .int 0, .int 0, .int 0, .null, .int 0, .int 0, .int 0, .null, .null, .int 0, .int 0, .int 0, .null, .int 0])) (p + 21)
  have hU_83 : Upd g_81 (zup g_81 p (zO 5 [.ref (p + 1), .ref (p + 2), .ref (p + 3), .ref (p + 4), .ref (p + 13), .ref (p + 14), .ref (p + 15), .int 0, .ref (p + 16), .int 8, .ref (p + 17), .ref (p + 18), .ref (p + 19), .ref (p + 20), .int 0, .int 0, .int 0, .int 0, .null, .null, .null, .null, .int 0, .null, .null, .int 0, .int 0, .int 0, .int 0, .int 0, .null, .int 0, .int 0, .int 0, .null, .null, .int 0, .int 0, .int 0, .null, .int 0])) p 1 := Upd.one
  have hn_85 : (zup g_81 p (zO 5 [.ref (p + 1), .ref (p + 2), .ref (p + 3), .ref (p + 4), .ref (p + 13), .ref (p + 14), .ref (p + 15), .int 0, .ref (p + 16), .int 8, .ref (p + 17), .ref (p + 18), .ref (p + 19), .ref (p + 20), .int 0, .int 0, .int 0, .int 0, .null, .null, .null, .null, .int 0, .null, .null, .int 0, .int 0, .int 0, .int 0, .int 0, .null, .int 0, .int 0, .int 0, .null, .null, .int 0, .int 0, .int 0, .null, .int 0])) p = some (zO 5 [.ref (p + 1), .ref (p + 2), .ref (p + 3), .ref (p + 4), .ref (p + 13), .ref (p + 14), .ref (p + 15), .int 0, .ref (p + 16), .int 8, .ref (p + 17), .ref (p + 18), .ref (p + 19), .ref (p + 20), .int 0, .int 0, .int 0, .int 0, .null, .null, .null, .null, .int 0, .null, .null, .int 0, .int 0, .int 0, .int 0, .int 0, .null, .int 0, .int 0, .int 0, .null, .null, .int 0, .int 0, .int 0, .null, .int 0]) := zup_s
  generalize zup g_81 p (zO 5 [.ref (p + 1), .ref (p + 2), .ref (p + 3), .ref (p + 4), .ref (p + 13), .ref (p + 14), .ref (p + 15), .int 0, .ref (p + 16), .int 8, .ref (p + 17), .ref (p + 18), .ref (p + 19), .ref (p + 20), .int 0, .int 0, .int 0, .int 0, .null, .null, .null, .null, .int 0, .null, .null, .int 0, .int 0, .int 0, .int 0, .int 0, .null, .int 0, .int 0, .int 0, .null, .null, .int 0, .int 0, .int 0, .null, .int 0]) = g_84 at hU_83 hn_85 ⊢
  replace c_1 := (hU_83 _ (by omega)).trans c_1
  replace c_8 := (hU_83 _ (by omega)).trans c_8
  replace c_15 := (hU_83 _ (by omega)).trans c_15
  replace hrr := (hU_83 _ (by omega)).trans hrr
  replace hrows := fun s (hs : s < 8) => (hU_83 _ (by omega)).trans (hrows s hs)
  replace c_27 := (hU_83 _ (by omega)).trans c_27
  replace c_34 := (hU_83 _ (by omega)).trans c_34
  replace c_41 := (hU_83 _ (by omega)).trans c_41
  replace c_48 := (hU_83 _ (by omega)).trans c_48
  replace c_58 := (hU_83 _ (by omega)).trans c_58
  replace c_65 := (hU_83 _ (by omega)).trans c_65
  replace c_72 := (hU_83 _ (by omega)).trans c_72
  replace c_79 := (hU_83 _ (by omega)).trans c_79
  replace hU := hU.tr hU_83 (by omega) (by omega)
  replace ho := hn_85; clear hn_85
  refine z_aload_n (pc := 111) (zk6 kX5_init_3) rfl ?_
  refine z_bipush (pc := 112) (zk7 kX5_init_3) (v := 8) (by decide) ?_
  refine z_newa (pc := 114) (kd := 0) (N := 8) (a0 := (8, .inl (fun _ => 0))) (zk8 kX5_init_3) ac_int (fun _ => rfl) (fun _ => rfl) (by decide) (by decide) rfl rfl rfl (fun _ => ?_)
  have hU_87 : Upd g_84 (zup g_84 (p + 21) (zI 8 (fun _ => 0))) (p + 21) 1 := Upd.one
  have hn_89 : (zup g_84 (p + 21) (zI 8 (fun _ => 0))) (p + 21) = some (zI 8 (fun _ => 0)) := zup_s
  generalize zup g_84 (p + 21) (zI 8 (fun _ => 0)) = g_88 at hU_87 hn_89 ⊢
  replace ho := (hU_87 _ (by omega)).trans ho
  replace c_1 := (hU_87 _ (by omega)).trans c_1
  replace c_8 := (hU_87 _ (by omega)).trans c_8
  replace c_15 := (hU_87 _ (by omega)).trans c_15
  replace hrr := (hU_87 _ (by omega)).trans hrr
  replace hrows := fun s (hs : s < 8) => (hU_87 _ (by omega)).trans (hrows s hs)
  replace c_27 := (hU_87 _ (by omega)).trans c_27
  replace c_34 := (hU_87 _ (by omega)).trans c_34
  replace c_41 := (hU_87 _ (by omega)).trans c_41
  replace c_48 := (hU_87 _ (by omega)).trans c_48
  replace c_58 := (hU_87 _ (by omega)).trans c_58
  replace c_65 := (hU_87 _ (by omega)).trans c_65
  replace c_72 := (hU_87 _ (by omega)).trans c_72
  replace c_79 := (hU_87 _ (by omega)).trans c_79
  replace hU := hU.tr hU_87 (by omega) (by omega)
  have c_86 := hn_89; clear hn_89
  refine z_sz (a := (p + 22)) rfl ?_
  show Z D B xX5_init 21 714 _ 116 [some (.ref p)] [.ref (p + 21), .ref p] g_88 (p + 22)
  refine z_putF (pc := 116) (zk9 kX5_init_3) flX5_53 rfl rfl ho hB rfl rfl (Nat.le_of_ble_eq_true rfl) ?_
  show Z D B xX5_init 21 714 _ 119 [some (.ref p)] [] (zup g_88 p (zO 5 [.ref (p + 1), .ref (p + 2), .ref (p + 3), .ref (p + 4), .ref (p + 13), .ref (p + 14), .ref (p + 15), .int 0, .ref (p + 16), .int 8, .ref (p + 17), .ref (p + 18), .ref (p + 19), .ref (p + 20), .int 0, .int 0, .int 0, .int 0, .ref (p + 21), .null, .null, .null, .int 0, .null, .null, .int 0, .int 0, .int 0, .int 0, .int 0, .null, .int 0, .int 0, .int 0, .null, .null, .int 0, .int 0, .int 0, .null, .int 0])) (p + 22)
  have hU_90 : Upd g_88 (zup g_88 p (zO 5 [.ref (p + 1), .ref (p + 2), .ref (p + 3), .ref (p + 4), .ref (p + 13), .ref (p + 14), .ref (p + 15), .int 0, .ref (p + 16), .int 8, .ref (p + 17), .ref (p + 18), .ref (p + 19), .ref (p + 20), .int 0, .int 0, .int 0, .int 0, .ref (p + 21), .null, .null, .null, .int 0, .null, .null, .int 0, .int 0, .int 0, .int 0, .int 0, .null, .int 0, .int 0, .int 0, .null, .null, .int 0, .int 0, .int 0, .null, .int 0])) p 1 := Upd.one
  have hn_92 : (zup g_88 p (zO 5 [.ref (p + 1), .ref (p + 2), .ref (p + 3), .ref (p + 4), .ref (p + 13), .ref (p + 14), .ref (p + 15), .int 0, .ref (p + 16), .int 8, .ref (p + 17), .ref (p + 18), .ref (p + 19), .ref (p + 20), .int 0, .int 0, .int 0, .int 0, .ref (p + 21), .null, .null, .null, .int 0, .null, .null, .int 0, .int 0, .int 0, .int 0, .int 0, .null, .int 0, .int 0, .int 0, .null, .null, .int 0, .int 0, .int 0, .null, .int 0])) p = some (zO 5 [.ref (p + 1), .ref (p + 2), .ref (p + 3), .ref (p + 4), .ref (p + 13), .ref (p + 14), .ref (p + 15), .int 0, .ref (p + 16), .int 8, .ref (p + 17), .ref (p + 18), .ref (p + 19), .ref (p + 20), .int 0, .int 0, .int 0, .int 0, .ref (p + 21), .null, .null, .null, .int 0, .null, .null, .int 0, .int 0, .int 0, .int 0, .int 0, .null, .int 0, .int 0, .int 0, .null, .null, .int 0, .int 0, .int 0, .null, .int 0]) := zup_s
  generalize zup g_88 p (zO 5 [.ref (p + 1), .ref (p + 2), .ref (p + 3), .ref (p + 4), .ref (p + 13), .ref (p + 14), .ref (p + 15), .int 0, .ref (p + 16), .int 8, .ref (p + 17), .ref (p + 18), .ref (p + 19), .ref (p + 20), .int 0, .int 0, .int 0, .int 0, .ref (p + 21), .null, .null, .null, .int 0, .null, .null, .int 0, .int 0, .int 0, .int 0, .int 0, .null, .int 0, .int 0, .int 0, .null, .null, .int 0, .int 0, .int 0, .null, .int 0]) = g_91 at hU_90 hn_92 ⊢
  replace c_1 := (hU_90 _ (by omega)).trans c_1
  replace c_8 := (hU_90 _ (by omega)).trans c_8
  replace c_15 := (hU_90 _ (by omega)).trans c_15
  replace hrr := (hU_90 _ (by omega)).trans hrr
  replace hrows := fun s (hs : s < 8) => (hU_90 _ (by omega)).trans (hrows s hs)
  replace c_27 := (hU_90 _ (by omega)).trans c_27
  replace c_34 := (hU_90 _ (by omega)).trans c_34
  replace c_41 := (hU_90 _ (by omega)).trans c_41
  replace c_48 := (hU_90 _ (by omega)).trans c_48
  replace c_58 := (hU_90 _ (by omega)).trans c_58
  replace c_65 := (hU_90 _ (by omega)).trans c_65
  replace c_72 := (hU_90 _ (by omega)).trans c_72
  replace c_79 := (hU_90 _ (by omega)).trans c_79
  replace c_86 := (hU_90 _ (by omega)).trans c_86
  replace hU := hU.tr hU_90 (by omega) (by omega)
  replace ho := hn_92; clear hn_92
  refine z_aload_n (pc := 119) (zk10 kX5_init_3) rfl ?_
  refine z_bipush (pc := 120) (zk11 kX5_init_3) (v := 8) (by decide) ?_
  refine z_newa (pc := 122) (kd := 0) (N := 8) (a0 := (8, .inl (fun _ => 0))) (zk12 kX5_init_3) ac_int (fun _ => rfl) (fun _ => rfl) (by decide) (by decide) rfl rfl rfl (fun _ => ?_)
  have hU_94 : Upd g_91 (zup g_91 (p + 22) (zI 8 (fun _ => 0))) (p + 22) 1 := Upd.one
  have hn_96 : (zup g_91 (p + 22) (zI 8 (fun _ => 0))) (p + 22) = some (zI 8 (fun _ => 0)) := zup_s
  generalize zup g_91 (p + 22) (zI 8 (fun _ => 0)) = g_95 at hU_94 hn_96 ⊢
  replace ho := (hU_94 _ (by omega)).trans ho
  replace c_1 := (hU_94 _ (by omega)).trans c_1
  replace c_8 := (hU_94 _ (by omega)).trans c_8
  replace c_15 := (hU_94 _ (by omega)).trans c_15
  replace hrr := (hU_94 _ (by omega)).trans hrr
  replace hrows := fun s (hs : s < 8) => (hU_94 _ (by omega)).trans (hrows s hs)
  replace c_27 := (hU_94 _ (by omega)).trans c_27
  replace c_34 := (hU_94 _ (by omega)).trans c_34
  replace c_41 := (hU_94 _ (by omega)).trans c_41
  replace c_48 := (hU_94 _ (by omega)).trans c_48
  replace c_58 := (hU_94 _ (by omega)).trans c_58
  replace c_65 := (hU_94 _ (by omega)).trans c_65
  replace c_72 := (hU_94 _ (by omega)).trans c_72
  replace c_79 := (hU_94 _ (by omega)).trans c_79
  replace c_86 := (hU_94 _ (by omega)).trans c_86
  replace hU := hU.tr hU_94 (by omega) (by omega)
  have c_93 := hn_96; clear hn_96
  refine z_sz (a := (p + 23)) rfl ?_
  show Z D B xX5_init 22 722 _ 124 [some (.ref p)] [.ref (p + 22), .ref p] g_95 (p + 23)
  refine z_putF (pc := 124) (zk13 kX5_init_3) flX5_56 rfl rfl ho hB rfl rfl (Nat.le_of_ble_eq_true rfl) ?_
  show Z D B xX5_init 22 722 _ 127 [some (.ref p)] [] (zup g_95 p (zO 5 [.ref (p + 1), .ref (p + 2), .ref (p + 3), .ref (p + 4), .ref (p + 13), .ref (p + 14), .ref (p + 15), .int 0, .ref (p + 16), .int 8, .ref (p + 17), .ref (p + 18), .ref (p + 19), .ref (p + 20), .int 0, .int 0, .int 0, .int 0, .ref (p + 21), .ref (p + 22), .null, .null, .int 0, .null, .null, .int 0, .int 0, .int 0, .int 0, .int 0, .null, .int 0, .int 0, .int 0, .null, .null, .int 0, .int 0, .int 0, .null, .int 0])) (p + 23)
  have hU_97 : Upd g_95 (zup g_95 p (zO 5 [.ref (p + 1), .ref (p + 2), .ref (p + 3), .ref (p + 4), .ref (p + 13), .ref (p + 14), .ref (p + 15), .int 0, .ref (p + 16), .int 8, .ref (p + 17), .ref (p + 18), .ref (p + 19), .ref (p + 20), .int 0, .int 0, .int 0, .int 0, .ref (p + 21), .ref (p + 22), .null, .null, .int 0, .null, .null, .int 0, .int 0, .int 0, .int 0, .int 0, .null, .int 0, .int 0, .int 0, .null, .null, .int 0, .int 0, .int 0, .null, .int 0])) p 1 := Upd.one
  have hn_99 : (zup g_95 p (zO 5 [.ref (p + 1), .ref (p + 2), .ref (p + 3), .ref (p + 4), .ref (p + 13), .ref (p + 14), .ref (p + 15), .int 0, .ref (p + 16), .int 8, .ref (p + 17), .ref (p + 18), .ref (p + 19), .ref (p + 20), .int 0, .int 0, .int 0, .int 0, .ref (p + 21), .ref (p + 22), .null, .null, .int 0, .null, .null, .int 0, .int 0, .int 0, .int 0, .int 0, .null, .int 0, .int 0, .int 0, .null, .null, .int 0, .int 0, .int 0, .null, .int 0])) p = some (zO 5 [.ref (p + 1), .ref (p + 2), .ref (p + 3), .ref (p + 4), .ref (p + 13), .ref (p + 14), .ref (p + 15), .int 0, .ref (p + 16), .int 8, .ref (p + 17), .ref (p + 18), .ref (p + 19), .ref (p + 20), .int 0, .int 0, .int 0, .int 0, .ref (p + 21), .ref (p + 22), .null, .null, .int 0, .null, .null, .int 0, .int 0, .int 0, .int 0, .int 0, .null, .int 0, .int 0, .int 0, .null, .null, .int 0, .int 0, .int 0, .null, .int 0]) := zup_s
  generalize zup g_95 p (zO 5 [.ref (p + 1), .ref (p + 2), .ref (p + 3), .ref (p + 4), .ref (p + 13), .ref (p + 14), .ref (p + 15), .int 0, .ref (p + 16), .int 8, .ref (p + 17), .ref (p + 18), .ref (p + 19), .ref (p + 20), .int 0, .int 0, .int 0, .int 0, .ref (p + 21), .ref (p + 22), .null, .null, .int 0, .null, .null, .int 0, .int 0, .int 0, .int 0, .int 0, .null, .int 0, .int 0, .int 0, .null, .null, .int 0, .int 0, .int 0, .null, .int 0]) = g_98 at hU_97 hn_99 ⊢
  replace c_1 := (hU_97 _ (by omega)).trans c_1
  replace c_8 := (hU_97 _ (by omega)).trans c_8
  replace c_15 := (hU_97 _ (by omega)).trans c_15
  replace hrr := (hU_97 _ (by omega)).trans hrr
  replace hrows := fun s (hs : s < 8) => (hU_97 _ (by omega)).trans (hrows s hs)
  replace c_27 := (hU_97 _ (by omega)).trans c_27
  replace c_34 := (hU_97 _ (by omega)).trans c_34
  replace c_41 := (hU_97 _ (by omega)).trans c_41
  replace c_48 := (hU_97 _ (by omega)).trans c_48
  replace c_58 := (hU_97 _ (by omega)).trans c_58
  replace c_65 := (hU_97 _ (by omega)).trans c_65
  replace c_72 := (hU_97 _ (by omega)).trans c_72
  replace c_79 := (hU_97 _ (by omega)).trans c_79
  replace c_86 := (hU_97 _ (by omega)).trans c_86
  replace c_93 := (hU_97 _ (by omega)).trans c_93
  replace hU := hU.tr hU_97 (by omega) (by omega)
  replace ho := hn_99; clear hn_99
  refine z_aload_n (pc := 127) (zk14 kX5_init_3) rfl ?_
  refine z_bipush (pc := 128) (zk15 kX5_init_3) (v := 8) (by decide) ?_
  refine z_newa (pc := 130) (kd := 0) (N := 8) (a0 := (8, .inl (fun _ => 0))) (zk0 kX5_init_4) ac_int (fun _ => rfl) (fun _ => rfl) (by decide) (by decide) rfl rfl rfl (fun _ => ?_)
  have hU_101 : Upd g_98 (zup g_98 (p + 23) (zI 8 (fun _ => 0))) (p + 23) 1 := Upd.one
  have hn_103 : (zup g_98 (p + 23) (zI 8 (fun _ => 0))) (p + 23) = some (zI 8 (fun _ => 0)) := zup_s
  generalize zup g_98 (p + 23) (zI 8 (fun _ => 0)) = g_102 at hU_101 hn_103 ⊢
  replace ho := (hU_101 _ (by omega)).trans ho
  replace c_1 := (hU_101 _ (by omega)).trans c_1
  replace c_8 := (hU_101 _ (by omega)).trans c_8
  replace c_15 := (hU_101 _ (by omega)).trans c_15
  replace hrr := (hU_101 _ (by omega)).trans hrr
  replace hrows := fun s (hs : s < 8) => (hU_101 _ (by omega)).trans (hrows s hs)
  replace c_27 := (hU_101 _ (by omega)).trans c_27
  replace c_34 := (hU_101 _ (by omega)).trans c_34
  replace c_41 := (hU_101 _ (by omega)).trans c_41
  replace c_48 := (hU_101 _ (by omega)).trans c_48
  replace c_58 := (hU_101 _ (by omega)).trans c_58
  replace c_65 := (hU_101 _ (by omega)).trans c_65
  replace c_72 := (hU_101 _ (by omega)).trans c_72
  replace c_79 := (hU_101 _ (by omega)).trans c_79
  replace c_86 := (hU_101 _ (by omega)).trans c_86
  replace c_93 := (hU_101 _ (by omega)).trans c_93
  replace hU := hU.tr hU_101 (by omega) (by omega)
  have c_100 := hn_103; clear hn_103
  refine z_sz (a := (p + 24)) rfl ?_
  show Z D B xX5_init 23 730 _ 132 [some (.ref p)] [.ref (p + 23), .ref p] g_102 (p + 24)
  refine z_putF (pc := 132) (zk1 kX5_init_4) flX5_59 rfl rfl ho hB rfl rfl (Nat.le_of_ble_eq_true rfl) ?_
  show Z D B xX5_init 23 730 _ 135 [some (.ref p)] [] (zup g_102 p (zO 5 [.ref (p + 1), .ref (p + 2), .ref (p + 3), .ref (p + 4), .ref (p + 13), .ref (p + 14), .ref (p + 15), .int 0, .ref (p + 16), .int 8, .ref (p + 17), .ref (p + 18), .ref (p + 19), .ref (p + 20), .int 0, .int 0, .int 0, .int 0, .ref (p + 21), .ref (p + 22), .ref (p + 23), .null, .int 0, .null, .null, .int 0, .int 0, .int 0, .int 0, .int 0, .null, .int 0, .int 0, .int 0, .null, .null, .int 0, .int 0, .int 0, .null, .int 0])) (p + 24)
  have hU_104 : Upd g_102 (zup g_102 p (zO 5 [.ref (p + 1), .ref (p + 2), .ref (p + 3), .ref (p + 4), .ref (p + 13), .ref (p + 14), .ref (p + 15), .int 0, .ref (p + 16), .int 8, .ref (p + 17), .ref (p + 18), .ref (p + 19), .ref (p + 20), .int 0, .int 0, .int 0, .int 0, .ref (p + 21), .ref (p + 22), .ref (p + 23), .null, .int 0, .null, .null, .int 0, .int 0, .int 0, .int 0, .int 0, .null, .int 0, .int 0, .int 0, .null, .null, .int 0, .int 0, .int 0, .null, .int 0])) p 1 := Upd.one
  have hn_106 : (zup g_102 p (zO 5 [.ref (p + 1), .ref (p + 2), .ref (p + 3), .ref (p + 4), .ref (p + 13), .ref (p + 14), .ref (p + 15), .int 0, .ref (p + 16), .int 8, .ref (p + 17), .ref (p + 18), .ref (p + 19), .ref (p + 20), .int 0, .int 0, .int 0, .int 0, .ref (p + 21), .ref (p + 22), .ref (p + 23), .null, .int 0, .null, .null, .int 0, .int 0, .int 0, .int 0, .int 0, .null, .int 0, .int 0, .int 0, .null, .null, .int 0, .int 0, .int 0, .null, .int 0])) p = some (zO 5 [.ref (p + 1), .ref (p + 2), .ref (p + 3), .ref (p + 4), .ref (p + 13), .ref (p + 14), .ref (p + 15), .int 0, .ref (p + 16), .int 8, .ref (p + 17), .ref (p + 18), .ref (p + 19), .ref (p + 20), .int 0, .int 0, .int 0, .int 0, .ref (p + 21), .ref (p + 22), .ref (p + 23), .null, .int 0, .null, .null, .int 0, .int 0, .int 0, .int 0, .int 0, .null, .int 0, .int 0, .int 0, .null, .null, .int 0, .int 0, .int 0, .null, .int 0]) := zup_s
  generalize zup g_102 p (zO 5 [.ref (p + 1), .ref (p + 2), .ref (p + 3), .ref (p + 4), .ref (p + 13), .ref (p + 14), .ref (p + 15), .int 0, .ref (p + 16), .int 8, .ref (p + 17), .ref (p + 18), .ref (p + 19), .ref (p + 20), .int 0, .int 0, .int 0, .int 0, .ref (p + 21), .ref (p + 22), .ref (p + 23), .null, .int 0, .null, .null, .int 0, .int 0, .int 0, .int 0, .int 0, .null, .int 0, .int 0, .int 0, .null, .null, .int 0, .int 0, .int 0, .null, .int 0]) = g_105 at hU_104 hn_106 ⊢
  replace c_1 := (hU_104 _ (by omega)).trans c_1
  replace c_8 := (hU_104 _ (by omega)).trans c_8
  replace c_15 := (hU_104 _ (by omega)).trans c_15
  replace hrr := (hU_104 _ (by omega)).trans hrr
  replace hrows := fun s (hs : s < 8) => (hU_104 _ (by omega)).trans (hrows s hs)
  replace c_27 := (hU_104 _ (by omega)).trans c_27
  replace c_34 := (hU_104 _ (by omega)).trans c_34
  replace c_41 := (hU_104 _ (by omega)).trans c_41
  replace c_48 := (hU_104 _ (by omega)).trans c_48
  replace c_58 := (hU_104 _ (by omega)).trans c_58
  replace c_65 := (hU_104 _ (by omega)).trans c_65
  replace c_72 := (hU_104 _ (by omega)).trans c_72
  replace c_79 := (hU_104 _ (by omega)).trans c_79
  replace c_86 := (hU_104 _ (by omega)).trans c_86
  replace c_93 := (hU_104 _ (by omega)).trans c_93
  replace c_100 := (hU_104 _ (by omega)).trans c_100
  replace hU := hU.tr hU_104 (by omega) (by omega)
  replace ho := hn_106; clear hn_106
  refine z_aload_n (pc := 135) (zk2 kX5_init_4) rfl ?_
  refine z_bipush (pc := 136) (zk3 kX5_init_4) (v := 8) (by decide) ?_
  refine z_newa (pc := 138) (kd := 0) (N := 8) (a0 := (8, .inl (fun _ => 0))) (zk4 kX5_init_4) ac_int (fun _ => rfl) (fun _ => rfl) (by decide) (by decide) rfl rfl rfl (fun _ => ?_)
  have hU_108 : Upd g_105 (zup g_105 (p + 24) (zI 8 (fun _ => 0))) (p + 24) 1 := Upd.one
  have hn_110 : (zup g_105 (p + 24) (zI 8 (fun _ => 0))) (p + 24) = some (zI 8 (fun _ => 0)) := zup_s
  generalize zup g_105 (p + 24) (zI 8 (fun _ => 0)) = g_109 at hU_108 hn_110 ⊢
  replace ho := (hU_108 _ (by omega)).trans ho
  replace c_1 := (hU_108 _ (by omega)).trans c_1
  replace c_8 := (hU_108 _ (by omega)).trans c_8
  replace c_15 := (hU_108 _ (by omega)).trans c_15
  replace hrr := (hU_108 _ (by omega)).trans hrr
  replace hrows := fun s (hs : s < 8) => (hU_108 _ (by omega)).trans (hrows s hs)
  replace c_27 := (hU_108 _ (by omega)).trans c_27
  replace c_34 := (hU_108 _ (by omega)).trans c_34
  replace c_41 := (hU_108 _ (by omega)).trans c_41
  replace c_48 := (hU_108 _ (by omega)).trans c_48
  replace c_58 := (hU_108 _ (by omega)).trans c_58
  replace c_65 := (hU_108 _ (by omega)).trans c_65
  replace c_72 := (hU_108 _ (by omega)).trans c_72
  replace c_79 := (hU_108 _ (by omega)).trans c_79
  replace c_86 := (hU_108 _ (by omega)).trans c_86
  replace c_93 := (hU_108 _ (by omega)).trans c_93
  replace c_100 := (hU_108 _ (by omega)).trans c_100
  replace hU := hU.tr hU_108 (by omega) (by omega)
  have c_107 := hn_110; clear hn_110
  refine z_sz (a := (p + 25)) rfl ?_
  show Z D B xX5_init 24 738 _ 140 [some (.ref p)] [.ref (p + 24), .ref p] g_109 (p + 25)
  refine z_putF (pc := 140) (zk5 kX5_init_4) flX5_62 rfl rfl ho hB rfl rfl (Nat.le_of_ble_eq_true rfl) ?_
  show Z D B xX5_init 24 738 _ 143 [some (.ref p)] [] (zup g_109 p (zO 5 [.ref (p + 1), .ref (p + 2), .ref (p + 3), .ref (p + 4), .ref (p + 13), .ref (p + 14), .ref (p + 15), .int 0, .ref (p + 16), .int 8, .ref (p + 17), .ref (p + 18), .ref (p + 19), .ref (p + 20), .int 0, .int 0, .int 0, .int 0, .ref (p + 21), .ref (p + 22), .ref (p + 23), .ref (p + 24), .int 0, .null, .null, .int 0, .int 0, .int 0, .int 0, .int 0, .null, .int 0, .int 0, .int 0, .null, .null, .int 0, .int 0, .int 0, .null, .int 0])) (p + 25)
  have hU_111 : Upd g_109 (zup g_109 p (zO 5 [.ref (p + 1), .ref (p + 2), .ref (p + 3), .ref (p + 4), .ref (p + 13), .ref (p + 14), .ref (p + 15), .int 0, .ref (p + 16), .int 8, .ref (p + 17), .ref (p + 18), .ref (p + 19), .ref (p + 20), .int 0, .int 0, .int 0, .int 0, .ref (p + 21), .ref (p + 22), .ref (p + 23), .ref (p + 24), .int 0, .null, .null, .int 0, .int 0, .int 0, .int 0, .int 0, .null, .int 0, .int 0, .int 0, .null, .null, .int 0, .int 0, .int 0, .null, .int 0])) p 1 := Upd.one
  have hn_113 : (zup g_109 p (zO 5 [.ref (p + 1), .ref (p + 2), .ref (p + 3), .ref (p + 4), .ref (p + 13), .ref (p + 14), .ref (p + 15), .int 0, .ref (p + 16), .int 8, .ref (p + 17), .ref (p + 18), .ref (p + 19), .ref (p + 20), .int 0, .int 0, .int 0, .int 0, .ref (p + 21), .ref (p + 22), .ref (p + 23), .ref (p + 24), .int 0, .null, .null, .int 0, .int 0, .int 0, .int 0, .int 0, .null, .int 0, .int 0, .int 0, .null, .null, .int 0, .int 0, .int 0, .null, .int 0])) p = some (zO 5 [.ref (p + 1), .ref (p + 2), .ref (p + 3), .ref (p + 4), .ref (p + 13), .ref (p + 14), .ref (p + 15), .int 0, .ref (p + 16), .int 8, .ref (p + 17), .ref (p + 18), .ref (p + 19), .ref (p + 20), .int 0, .int 0, .int 0, .int 0, .ref (p + 21), .ref (p + 22), .ref (p + 23), .ref (p + 24), .int 0, .null, .null, .int 0, .int 0, .int 0, .int 0, .int 0, .null, .int 0, .int 0, .int 0, .null, .null, .int 0, .int 0, .int 0, .null, .int 0]) := zup_s
  generalize zup g_109 p (zO 5 [.ref (p + 1), .ref (p + 2), .ref (p + 3), .ref (p + 4), .ref (p + 13), .ref (p + 14), .ref (p + 15), .int 0, .ref (p + 16), .int 8, .ref (p + 17), .ref (p + 18), .ref (p + 19), .ref (p + 20), .int 0, .int 0, .int 0, .int 0, .ref (p + 21), .ref (p + 22), .ref (p + 23), .ref (p + 24), .int 0, .null, .null, .int 0, .int 0, .int 0, .int 0, .int 0, .null, .int 0, .int 0, .int 0, .null, .null, .int 0, .int 0, .int 0, .null, .int 0]) = g_112 at hU_111 hn_113 ⊢
  replace c_1 := (hU_111 _ (by omega)).trans c_1
  replace c_8 := (hU_111 _ (by omega)).trans c_8
  replace c_15 := (hU_111 _ (by omega)).trans c_15
  replace hrr := (hU_111 _ (by omega)).trans hrr
  replace hrows := fun s (hs : s < 8) => (hU_111 _ (by omega)).trans (hrows s hs)
  replace c_27 := (hU_111 _ (by omega)).trans c_27
  replace c_34 := (hU_111 _ (by omega)).trans c_34
  replace c_41 := (hU_111 _ (by omega)).trans c_41
  replace c_48 := (hU_111 _ (by omega)).trans c_48
  replace c_58 := (hU_111 _ (by omega)).trans c_58
  replace c_65 := (hU_111 _ (by omega)).trans c_65
  replace c_72 := (hU_111 _ (by omega)).trans c_72
  replace c_79 := (hU_111 _ (by omega)).trans c_79
  replace c_86 := (hU_111 _ (by omega)).trans c_86
  replace c_93 := (hU_111 _ (by omega)).trans c_93
  replace c_100 := (hU_111 _ (by omega)).trans c_100
  replace c_107 := (hU_111 _ (by omega)).trans c_107
  replace hU := hU.tr hU_111 (by omega) (by omega)
  replace ho := hn_113; clear hn_113
  refine z_aload_n (pc := 143) (zk6 kX5_init_4) rfl ?_
  refine z_iconst (pc := 144) (zk7 kX5_init_4) (v := 1) (by decide) ?_
  refine z_putf (pc := 145) (zk8 kX5_init_4) flX5_65 ho hB rfl rfl (Nat.le_of_ble_eq_true rfl) ?_
  show Z D B xX5_init 24 738 _ 148 [some (.ref p)] [] (zup g_112 p (zO 5 [.ref (p + 1), .ref (p + 2), .ref (p + 3), .ref (p + 4), .ref (p + 13), .ref (p + 14), .ref (p + 15), .int 0, .ref (p + 16), .int 8, .ref (p + 17), .ref (p + 18), .ref (p + 19), .ref (p + 20), .int 0, .int 0, .int 0, .int 0, .ref (p + 21), .ref (p + 22), .ref (p + 23), .ref (p + 24), .int 1, .null, .null, .int 0, .int 0, .int 0, .int 0, .int 0, .null, .int 0, .int 0, .int 0, .null, .null, .int 0, .int 0, .int 0, .null, .int 0])) (p + 25)
  have hU_114 : Upd g_112 (zup g_112 p (zO 5 [.ref (p + 1), .ref (p + 2), .ref (p + 3), .ref (p + 4), .ref (p + 13), .ref (p + 14), .ref (p + 15), .int 0, .ref (p + 16), .int 8, .ref (p + 17), .ref (p + 18), .ref (p + 19), .ref (p + 20), .int 0, .int 0, .int 0, .int 0, .ref (p + 21), .ref (p + 22), .ref (p + 23), .ref (p + 24), .int 1, .null, .null, .int 0, .int 0, .int 0, .int 0, .int 0, .null, .int 0, .int 0, .int 0, .null, .null, .int 0, .int 0, .int 0, .null, .int 0])) p 1 := Upd.one
  have hn_116 : (zup g_112 p (zO 5 [.ref (p + 1), .ref (p + 2), .ref (p + 3), .ref (p + 4), .ref (p + 13), .ref (p + 14), .ref (p + 15), .int 0, .ref (p + 16), .int 8, .ref (p + 17), .ref (p + 18), .ref (p + 19), .ref (p + 20), .int 0, .int 0, .int 0, .int 0, .ref (p + 21), .ref (p + 22), .ref (p + 23), .ref (p + 24), .int 1, .null, .null, .int 0, .int 0, .int 0, .int 0, .int 0, .null, .int 0, .int 0, .int 0, .null, .null, .int 0, .int 0, .int 0, .null, .int 0])) p = some (zO 5 [.ref (p + 1), .ref (p + 2), .ref (p + 3), .ref (p + 4), .ref (p + 13), .ref (p + 14), .ref (p + 15), .int 0, .ref (p + 16), .int 8, .ref (p + 17), .ref (p + 18), .ref (p + 19), .ref (p + 20), .int 0, .int 0, .int 0, .int 0, .ref (p + 21), .ref (p + 22), .ref (p + 23), .ref (p + 24), .int 1, .null, .null, .int 0, .int 0, .int 0, .int 0, .int 0, .null, .int 0, .int 0, .int 0, .null, .null, .int 0, .int 0, .int 0, .null, .int 0]) := zup_s
  generalize zup g_112 p (zO 5 [.ref (p + 1), .ref (p + 2), .ref (p + 3), .ref (p + 4), .ref (p + 13), .ref (p + 14), .ref (p + 15), .int 0, .ref (p + 16), .int 8, .ref (p + 17), .ref (p + 18), .ref (p + 19), .ref (p + 20), .int 0, .int 0, .int 0, .int 0, .ref (p + 21), .ref (p + 22), .ref (p + 23), .ref (p + 24), .int 1, .null, .null, .int 0, .int 0, .int 0, .int 0, .int 0, .null, .int 0, .int 0, .int 0, .null, .null, .int 0, .int 0, .int 0, .null, .int 0]) = g_115 at hU_114 hn_116 ⊢
  replace c_1 := (hU_114 _ (by omega)).trans c_1
  replace c_8 := (hU_114 _ (by omega)).trans c_8
  replace c_15 := (hU_114 _ (by omega)).trans c_15
  replace hrr := (hU_114 _ (by omega)).trans hrr
  replace hrows := fun s (hs : s < 8) => (hU_114 _ (by omega)).trans (hrows s hs)
  replace c_27 := (hU_114 _ (by omega)).trans c_27
  replace c_34 := (hU_114 _ (by omega)).trans c_34
  replace c_41 := (hU_114 _ (by omega)).trans c_41
  replace c_48 := (hU_114 _ (by omega)).trans c_48
  replace c_58 := (hU_114 _ (by omega)).trans c_58
  replace c_65 := (hU_114 _ (by omega)).trans c_65
  replace c_72 := (hU_114 _ (by omega)).trans c_72
  replace c_79 := (hU_114 _ (by omega)).trans c_79
  replace c_86 := (hU_114 _ (by omega)).trans c_86
  replace c_93 := (hU_114 _ (by omega)).trans c_93
  replace c_100 := (hU_114 _ (by omega)).trans c_100
  replace c_107 := (hU_114 _ (by omega)).trans c_107
  replace hU := hU.tr hU_114 (by omega) (by omega)
  replace ho := hn_116; clear hn_116
  refine z_aload_n (pc := 148) (zk9 kX5_init_4) rfl ?_
  refine z_iconst (pc := 149) (zk10 kX5_init_4) (v := 4) (by decide) ?_
  refine z_newa (pc := 150) (kd := 0) (N := 4) (a0 := (4, .inl (fun _ => 0))) (zk11 kX5_init_4) ac_int (fun _ => rfl) (fun _ => rfl) (by decide) (by decide) rfl rfl rfl (fun _ => ?_)
  have hU_118 : Upd g_115 (zup g_115 (p + 25) (zI 4 (fun _ => 0))) (p + 25) 1 := Upd.one
  have hn_120 : (zup g_115 (p + 25) (zI 4 (fun _ => 0))) (p + 25) = some (zI 4 (fun _ => 0)) := zup_s
  generalize zup g_115 (p + 25) (zI 4 (fun _ => 0)) = g_119 at hU_118 hn_120 ⊢
  replace ho := (hU_118 _ (by omega)).trans ho
  replace c_1 := (hU_118 _ (by omega)).trans c_1
  replace c_8 := (hU_118 _ (by omega)).trans c_8
  replace c_15 := (hU_118 _ (by omega)).trans c_15
  replace hrr := (hU_118 _ (by omega)).trans hrr
  replace hrows := fun s (hs : s < 8) => (hU_118 _ (by omega)).trans (hrows s hs)
  replace c_27 := (hU_118 _ (by omega)).trans c_27
  replace c_34 := (hU_118 _ (by omega)).trans c_34
  replace c_41 := (hU_118 _ (by omega)).trans c_41
  replace c_48 := (hU_118 _ (by omega)).trans c_48
  replace c_58 := (hU_118 _ (by omega)).trans c_58
  replace c_65 := (hU_118 _ (by omega)).trans c_65
  replace c_72 := (hU_118 _ (by omega)).trans c_72
  replace c_79 := (hU_118 _ (by omega)).trans c_79
  replace c_86 := (hU_118 _ (by omega)).trans c_86
  replace c_93 := (hU_118 _ (by omega)).trans c_93
  replace c_100 := (hU_118 _ (by omega)).trans c_100
  replace c_107 := (hU_118 _ (by omega)).trans c_107
  replace hU := hU.tr hU_118 (by omega) (by omega)
  have c_117 := hn_120; clear hn_120
  refine z_sz (a := (p + 26)) rfl ?_
  show Z D B xX5_init 25 742 _ 152 [some (.ref p)] [.ref (p + 25), .ref p] g_119 (p + 26)
  refine z_putF (pc := 152) (zk12 kX5_init_4) flX5_68 rfl rfl ho hB rfl rfl (Nat.le_of_ble_eq_true rfl) ?_
  show Z D B xX5_init 25 742 _ 155 [some (.ref p)] [] (zup g_119 p (zO 5 [.ref (p + 1), .ref (p + 2), .ref (p + 3), .ref (p + 4), .ref (p + 13), .ref (p + 14), .ref (p + 15), .int 0, .ref (p + 16), .int 8, .ref (p + 17), .ref (p + 18), .ref (p + 19), .ref (p + 20), .int 0, .int 0, .int 0, .int 0, .ref (p + 21), .ref (p + 22), .ref (p + 23), .ref (p + 24), .int 1, .null, .null, .int 0, .int 0, .int 0, .int 0, .int 0, .ref (p + 25), .int 0, .int 0, .int 0, .null, .null, .int 0, .int 0, .int 0, .null, .int 0])) (p + 26)
  have hU_121 : Upd g_119 (zup g_119 p (zO 5 [.ref (p + 1), .ref (p + 2), .ref (p + 3), .ref (p + 4), .ref (p + 13), .ref (p + 14), .ref (p + 15), .int 0, .ref (p + 16), .int 8, .ref (p + 17), .ref (p + 18), .ref (p + 19), .ref (p + 20), .int 0, .int 0, .int 0, .int 0, .ref (p + 21), .ref (p + 22), .ref (p + 23), .ref (p + 24), .int 1, .null, .null, .int 0, .int 0, .int 0, .int 0, .int 0, .ref (p + 25), .int 0, .int 0, .int 0, .null, .null, .int 0, .int 0, .int 0, .null, .int 0])) p 1 := Upd.one
  have hn_123 : (zup g_119 p (zO 5 [.ref (p + 1), .ref (p + 2), .ref (p + 3), .ref (p + 4), .ref (p + 13), .ref (p + 14), .ref (p + 15), .int 0, .ref (p + 16), .int 8, .ref (p + 17), .ref (p + 18), .ref (p + 19), .ref (p + 20), .int 0, .int 0, .int 0, .int 0, .ref (p + 21), .ref (p + 22), .ref (p + 23), .ref (p + 24), .int 1, .null, .null, .int 0, .int 0, .int 0, .int 0, .int 0, .ref (p + 25), .int 0, .int 0, .int 0, .null, .null, .int 0, .int 0, .int 0, .null, .int 0])) p = some (zO 5 [.ref (p + 1), .ref (p + 2), .ref (p + 3), .ref (p + 4), .ref (p + 13), .ref (p + 14), .ref (p + 15), .int 0, .ref (p + 16), .int 8, .ref (p + 17), .ref (p + 18), .ref (p + 19), .ref (p + 20), .int 0, .int 0, .int 0, .int 0, .ref (p + 21), .ref (p + 22), .ref (p + 23), .ref (p + 24), .int 1, .null, .null, .int 0, .int 0, .int 0, .int 0, .int 0, .ref (p + 25), .int 0, .int 0, .int 0, .null, .null, .int 0, .int 0, .int 0, .null, .int 0]) := zup_s
  generalize zup g_119 p (zO 5 [.ref (p + 1), .ref (p + 2), .ref (p + 3), .ref (p + 4), .ref (p + 13), .ref (p + 14), .ref (p + 15), .int 0, .ref (p + 16), .int 8, .ref (p + 17), .ref (p + 18), .ref (p + 19), .ref (p + 20), .int 0, .int 0, .int 0, .int 0, .ref (p + 21), .ref (p + 22), .ref (p + 23), .ref (p + 24), .int 1, .null, .null, .int 0, .int 0, .int 0, .int 0, .int 0, .ref (p + 25), .int 0, .int 0, .int 0, .null, .null, .int 0, .int 0, .int 0, .null, .int 0]) = g_122 at hU_121 hn_123 ⊢
  replace c_1 := (hU_121 _ (by omega)).trans c_1
  replace c_8 := (hU_121 _ (by omega)).trans c_8
  replace c_15 := (hU_121 _ (by omega)).trans c_15
  replace hrr := (hU_121 _ (by omega)).trans hrr
  replace hrows := fun s (hs : s < 8) => (hU_121 _ (by omega)).trans (hrows s hs)
  replace c_27 := (hU_121 _ (by omega)).trans c_27
  replace c_34 := (hU_121 _ (by omega)).trans c_34
  replace c_41 := (hU_121 _ (by omega)).trans c_41
  replace c_48 := (hU_121 _ (by omega)).trans c_48
  replace c_58 := (hU_121 _ (by omega)).trans c_58
  replace c_65 := (hU_121 _ (by omega)).trans c_65
  replace c_72 := (hU_121 _ (by omega)).trans c_72
  replace c_79 := (hU_121 _ (by omega)).trans c_79
  replace c_86 := (hU_121 _ (by omega)).trans c_86
  replace c_93 := (hU_121 _ (by omega)).trans c_93
  replace c_100 := (hU_121 _ (by omega)).trans c_100
  replace c_107 := (hU_121 _ (by omega)).trans c_107
  replace c_117 := (hU_121 _ (by omega)).trans c_117
  replace hU := hU.tr hU_121 (by omega) (by omega)
  replace ho := hn_123; clear hn_123
  refine z_aload_n (pc := 155) (zk13 kX5_init_4) rfl ?_
  refine z_bipush (pc := 156) (zk14 kX5_init_4) (v := 12) (by decide) ?_
  refine z_newa (pc := 158) (kd := 0) (N := 12) (a0 := (12, .inl (fun _ => 0))) (zk15 kX5_init_4) ac_int (fun _ => rfl) (fun _ => rfl) (by decide) (by decide) rfl rfl rfl (fun _ => ?_)
  have hU_125 : Upd g_122 (zup g_122 (p + 26) (zI 12 (fun _ => 0))) (p + 26) 1 := Upd.one
  have hn_127 : (zup g_122 (p + 26) (zI 12 (fun _ => 0))) (p + 26) = some (zI 12 (fun _ => 0)) := zup_s
  generalize zup g_122 (p + 26) (zI 12 (fun _ => 0)) = g_126 at hU_125 hn_127 ⊢
  replace ho := (hU_125 _ (by omega)).trans ho
  replace c_1 := (hU_125 _ (by omega)).trans c_1
  replace c_8 := (hU_125 _ (by omega)).trans c_8
  replace c_15 := (hU_125 _ (by omega)).trans c_15
  replace hrr := (hU_125 _ (by omega)).trans hrr
  replace hrows := fun s (hs : s < 8) => (hU_125 _ (by omega)).trans (hrows s hs)
  replace c_27 := (hU_125 _ (by omega)).trans c_27
  replace c_34 := (hU_125 _ (by omega)).trans c_34
  replace c_41 := (hU_125 _ (by omega)).trans c_41
  replace c_48 := (hU_125 _ (by omega)).trans c_48
  replace c_58 := (hU_125 _ (by omega)).trans c_58
  replace c_65 := (hU_125 _ (by omega)).trans c_65
  replace c_72 := (hU_125 _ (by omega)).trans c_72
  replace c_79 := (hU_125 _ (by omega)).trans c_79
  replace c_86 := (hU_125 _ (by omega)).trans c_86
  replace c_93 := (hU_125 _ (by omega)).trans c_93
  replace c_100 := (hU_125 _ (by omega)).trans c_100
  replace c_107 := (hU_125 _ (by omega)).trans c_107
  replace c_117 := (hU_125 _ (by omega)).trans c_117
  replace hU := hU.tr hU_125 (by omega) (by omega)
  have c_124 := hn_127; clear hn_127
  refine z_sz (a := (p + 27)) rfl ?_
  show Z D B xX5_init 26 754 _ 160 [some (.ref p)] [.ref (p + 26), .ref p] g_126 (p + 27)
  refine z_putF (pc := 160) (zk0 kX5_init_5) flX5_71 rfl rfl ho hB rfl rfl (Nat.le_of_ble_eq_true rfl) ?_
  show Z D B xX5_init 26 754 _ 163 [some (.ref p)] [] (zup g_126 p (zO 5 [.ref (p + 1), .ref (p + 2), .ref (p + 3), .ref (p + 4), .ref (p + 13), .ref (p + 14), .ref (p + 15), .int 0, .ref (p + 16), .int 8, .ref (p + 17), .ref (p + 18), .ref (p + 19), .ref (p + 20), .int 0, .int 0, .int 0, .int 0, .ref (p + 21), .ref (p + 22), .ref (p + 23), .ref (p + 24), .int 1, .null, .null, .int 0, .int 0, .int 0, .int 0, .int 0, .ref (p + 25), .int 0, .int 0, .int 0, .ref (p + 26), .null, .int 0, .int 0, .int 0, .null, .int 0])) (p + 27)
  have hU_128 : Upd g_126 (zup g_126 p (zO 5 [.ref (p + 1), .ref (p + 2), .ref (p + 3), .ref (p + 4), .ref (p + 13), .ref (p + 14), .ref (p + 15), .int 0, .ref (p + 16), .int 8, .ref (p + 17), .ref (p + 18), .ref (p + 19), .ref (p + 20), .int 0, .int 0, .int 0, .int 0, .ref (p + 21), .ref (p + 22), .ref (p + 23), .ref (p + 24), .int 1, .null, .null, .int 0, .int 0, .int 0, .int 0, .int 0, .ref (p + 25), .int 0, .int 0, .int 0, .ref (p + 26), .null, .int 0, .int 0, .int 0, .null, .int 0])) p 1 := Upd.one
  have hn_130 : (zup g_126 p (zO 5 [.ref (p + 1), .ref (p + 2), .ref (p + 3), .ref (p + 4), .ref (p + 13), .ref (p + 14), .ref (p + 15), .int 0, .ref (p + 16), .int 8, .ref (p + 17), .ref (p + 18), .ref (p + 19), .ref (p + 20), .int 0, .int 0, .int 0, .int 0, .ref (p + 21), .ref (p + 22), .ref (p + 23), .ref (p + 24), .int 1, .null, .null, .int 0, .int 0, .int 0, .int 0, .int 0, .ref (p + 25), .int 0, .int 0, .int 0, .ref (p + 26), .null, .int 0, .int 0, .int 0, .null, .int 0])) p = some (zO 5 [.ref (p + 1), .ref (p + 2), .ref (p + 3), .ref (p + 4), .ref (p + 13), .ref (p + 14), .ref (p + 15), .int 0, .ref (p + 16), .int 8, .ref (p + 17), .ref (p + 18), .ref (p + 19), .ref (p + 20), .int 0, .int 0, .int 0, .int 0, .ref (p + 21), .ref (p + 22), .ref (p + 23), .ref (p + 24), .int 1, .null, .null, .int 0, .int 0, .int 0, .int 0, .int 0, .ref (p + 25), .int 0, .int 0, .int 0, .ref (p + 26), .null, .int 0, .int 0, .int 0, .null, .int 0]) := zup_s
  generalize zup g_126 p (zO 5 [.ref (p + 1), .ref (p + 2), .ref (p + 3), .ref (p + 4), .ref (p + 13), .ref (p + 14), .ref (p + 15), .int 0, .ref (p + 16), .int 8, .ref (p + 17), .ref (p + 18), .ref (p + 19), .ref (p + 20), .int 0, .int 0, .int 0, .int 0, .ref (p + 21), .ref (p + 22), .ref (p + 23), .ref (p + 24), .int 1, .null, .null, .int 0, .int 0, .int 0, .int 0, .int 0, .ref (p + 25), .int 0, .int 0, .int 0, .ref (p + 26), .null, .int 0, .int 0, .int 0, .null, .int 0]) = g_129 at hU_128 hn_130 ⊢
  replace c_1 := (hU_128 _ (by omega)).trans c_1
  replace c_8 := (hU_128 _ (by omega)).trans c_8
  replace c_15 := (hU_128 _ (by omega)).trans c_15
  replace hrr := (hU_128 _ (by omega)).trans hrr
  replace hrows := fun s (hs : s < 8) => (hU_128 _ (by omega)).trans (hrows s hs)
  replace c_27 := (hU_128 _ (by omega)).trans c_27
  replace c_34 := (hU_128 _ (by omega)).trans c_34
  replace c_41 := (hU_128 _ (by omega)).trans c_41
  replace c_48 := (hU_128 _ (by omega)).trans c_48
  replace c_58 := (hU_128 _ (by omega)).trans c_58
  replace c_65 := (hU_128 _ (by omega)).trans c_65
  replace c_72 := (hU_128 _ (by omega)).trans c_72
  replace c_79 := (hU_128 _ (by omega)).trans c_79
  replace c_86 := (hU_128 _ (by omega)).trans c_86
  replace c_93 := (hU_128 _ (by omega)).trans c_93
  replace c_100 := (hU_128 _ (by omega)).trans c_100
  replace c_107 := (hU_128 _ (by omega)).trans c_107
  replace c_117 := (hU_128 _ (by omega)).trans c_117
  replace c_124 := (hU_128 _ (by omega)).trans c_124
  replace hU := hU.tr hU_128 (by omega) (by omega)
  replace ho := hn_130; clear hn_130
  refine z_aload_n (pc := 163) (zk1 kX5_init_5) rfl ?_
  refine z_bipush (pc := 164) (zk2 kX5_init_5) (v := 41) (by decide) ?_
  refine z_newa (pc := 166) (kd := 2) (N := 41) (a0 := (41, .inl (fun _ => 0))) (zk3 kX5_init_5) ac_boolean (fun _ => rfl) (fun _ => rfl) (by decide) (by decide) rfl rfl rfl (fun _ => ?_)
  have hU_132 : Upd g_129 (zup g_129 (p + 27) (zBo 41 (fun _ => 0))) (p + 27) 1 := Upd.one
  have hn_134 : (zup g_129 (p + 27) (zBo 41 (fun _ => 0))) (p + 27) = some (zBo 41 (fun _ => 0)) := zup_s
  generalize zup g_129 (p + 27) (zBo 41 (fun _ => 0)) = g_133 at hU_132 hn_134 ⊢
  replace ho := (hU_132 _ (by omega)).trans ho
  replace c_1 := (hU_132 _ (by omega)).trans c_1
  replace c_8 := (hU_132 _ (by omega)).trans c_8
  replace c_15 := (hU_132 _ (by omega)).trans c_15
  replace hrr := (hU_132 _ (by omega)).trans hrr
  replace hrows := fun s (hs : s < 8) => (hU_132 _ (by omega)).trans (hrows s hs)
  replace c_27 := (hU_132 _ (by omega)).trans c_27
  replace c_34 := (hU_132 _ (by omega)).trans c_34
  replace c_41 := (hU_132 _ (by omega)).trans c_41
  replace c_48 := (hU_132 _ (by omega)).trans c_48
  replace c_58 := (hU_132 _ (by omega)).trans c_58
  replace c_65 := (hU_132 _ (by omega)).trans c_65
  replace c_72 := (hU_132 _ (by omega)).trans c_72
  replace c_79 := (hU_132 _ (by omega)).trans c_79
  replace c_86 := (hU_132 _ (by omega)).trans c_86
  replace c_93 := (hU_132 _ (by omega)).trans c_93
  replace c_100 := (hU_132 _ (by omega)).trans c_100
  replace c_107 := (hU_132 _ (by omega)).trans c_107
  replace c_117 := (hU_132 _ (by omega)).trans c_117
  replace c_124 := (hU_132 _ (by omega)).trans c_124
  replace hU := hU.tr hU_132 (by omega) (by omega)
  have c_131 := hn_134; clear hn_134
  refine z_sz (a := (p + 28)) rfl ?_
  show Z D B xX5_init 27 795 _ 168 [some (.ref p)] [.ref (p + 27), .ref p] g_133 (p + 28)
  refine z_putF (pc := 168) (zk4 kX5_init_5) flX5_74 rfl rfl ho hB rfl rfl (Nat.le_of_ble_eq_true rfl) ?_
  show Z D B xX5_init 27 795 _ 171 [some (.ref p)] [] (zup g_133 p (zO 5 [.ref (p + 1), .ref (p + 2), .ref (p + 3), .ref (p + 4), .ref (p + 13), .ref (p + 14), .ref (p + 15), .int 0, .ref (p + 16), .int 8, .ref (p + 17), .ref (p + 18), .ref (p + 19), .ref (p + 20), .int 0, .int 0, .int 0, .int 0, .ref (p + 21), .ref (p + 22), .ref (p + 23), .ref (p + 24), .int 1, .null, .null, .int 0, .int 0, .int 0, .int 0, .int 0, .ref (p + 25), .int 0, .int 0, .int 0, .ref (p + 26), .ref (p + 27), .int 0, .int 0, .int 0, .null, .int 0])) (p + 28)
  have hU_135 : Upd g_133 (zup g_133 p (zO 5 [.ref (p + 1), .ref (p + 2), .ref (p + 3), .ref (p + 4), .ref (p + 13), .ref (p + 14), .ref (p + 15), .int 0, .ref (p + 16), .int 8, .ref (p + 17), .ref (p + 18), .ref (p + 19), .ref (p + 20), .int 0, .int 0, .int 0, .int 0, .ref (p + 21), .ref (p + 22), .ref (p + 23), .ref (p + 24), .int 1, .null, .null, .int 0, .int 0, .int 0, .int 0, .int 0, .ref (p + 25), .int 0, .int 0, .int 0, .ref (p + 26), .ref (p + 27), .int 0, .int 0, .int 0, .null, .int 0])) p 1 := Upd.one
  have hn_137 : (zup g_133 p (zO 5 [.ref (p + 1), .ref (p + 2), .ref (p + 3), .ref (p + 4), .ref (p + 13), .ref (p + 14), .ref (p + 15), .int 0, .ref (p + 16), .int 8, .ref (p + 17), .ref (p + 18), .ref (p + 19), .ref (p + 20), .int 0, .int 0, .int 0, .int 0, .ref (p + 21), .ref (p + 22), .ref (p + 23), .ref (p + 24), .int 1, .null, .null, .int 0, .int 0, .int 0, .int 0, .int 0, .ref (p + 25), .int 0, .int 0, .int 0, .ref (p + 26), .ref (p + 27), .int 0, .int 0, .int 0, .null, .int 0])) p = some (zO 5 [.ref (p + 1), .ref (p + 2), .ref (p + 3), .ref (p + 4), .ref (p + 13), .ref (p + 14), .ref (p + 15), .int 0, .ref (p + 16), .int 8, .ref (p + 17), .ref (p + 18), .ref (p + 19), .ref (p + 20), .int 0, .int 0, .int 0, .int 0, .ref (p + 21), .ref (p + 22), .ref (p + 23), .ref (p + 24), .int 1, .null, .null, .int 0, .int 0, .int 0, .int 0, .int 0, .ref (p + 25), .int 0, .int 0, .int 0, .ref (p + 26), .ref (p + 27), .int 0, .int 0, .int 0, .null, .int 0]) := zup_s
  generalize zup g_133 p (zO 5 [.ref (p + 1), .ref (p + 2), .ref (p + 3), .ref (p + 4), .ref (p + 13), .ref (p + 14), .ref (p + 15), .int 0, .ref (p + 16), .int 8, .ref (p + 17), .ref (p + 18), .ref (p + 19), .ref (p + 20), .int 0, .int 0, .int 0, .int 0, .ref (p + 21), .ref (p + 22), .ref (p + 23), .ref (p + 24), .int 1, .null, .null, .int 0, .int 0, .int 0, .int 0, .int 0, .ref (p + 25), .int 0, .int 0, .int 0, .ref (p + 26), .ref (p + 27), .int 0, .int 0, .int 0, .null, .int 0]) = g_136 at hU_135 hn_137 ⊢
  replace c_1 := (hU_135 _ (by omega)).trans c_1
  replace c_8 := (hU_135 _ (by omega)).trans c_8
  replace c_15 := (hU_135 _ (by omega)).trans c_15
  replace hrr := (hU_135 _ (by omega)).trans hrr
  replace hrows := fun s (hs : s < 8) => (hU_135 _ (by omega)).trans (hrows s hs)
  replace c_27 := (hU_135 _ (by omega)).trans c_27
  replace c_34 := (hU_135 _ (by omega)).trans c_34
  replace c_41 := (hU_135 _ (by omega)).trans c_41
  replace c_48 := (hU_135 _ (by omega)).trans c_48
  replace c_58 := (hU_135 _ (by omega)).trans c_58
  replace c_65 := (hU_135 _ (by omega)).trans c_65
  replace c_72 := (hU_135 _ (by omega)).trans c_72
  replace c_79 := (hU_135 _ (by omega)).trans c_79
  replace c_86 := (hU_135 _ (by omega)).trans c_86
  replace c_93 := (hU_135 _ (by omega)).trans c_93
  replace c_100 := (hU_135 _ (by omega)).trans c_100
  replace c_107 := (hU_135 _ (by omega)).trans c_107
  replace c_117 := (hU_135 _ (by omega)).trans c_117
  replace c_124 := (hU_135 _ (by omega)).trans c_124
  replace c_131 := (hU_135 _ (by omega)).trans c_131
  replace hU := hU.tr hU_135 (by omega) (by omega)
  replace ho := hn_137; clear hn_137
  refine z_aload_n (pc := 171) (zk5 kX5_init_5) rfl ?_
  refine z_bipush (pc := 172) (zk6 kX5_init_5) (v := 41) (by decide) ?_
  refine z_newa (pc := 174) (kd := 0) (N := 41) (a0 := (41, .inl (fun _ => 0))) (zk7 kX5_init_5) ac_int (fun _ => rfl) (fun _ => rfl) (by decide) (by decide) rfl rfl rfl (fun _ => ?_)
  have hU_139 : Upd g_136 (zup g_136 (p + 28) (zI 41 (fun _ => 0))) (p + 28) 1 := Upd.one
  have hn_141 : (zup g_136 (p + 28) (zI 41 (fun _ => 0))) (p + 28) = some (zI 41 (fun _ => 0)) := zup_s
  generalize zup g_136 (p + 28) (zI 41 (fun _ => 0)) = g_140 at hU_139 hn_141 ⊢
  replace ho := (hU_139 _ (by omega)).trans ho
  replace c_1 := (hU_139 _ (by omega)).trans c_1
  replace c_8 := (hU_139 _ (by omega)).trans c_8
  replace c_15 := (hU_139 _ (by omega)).trans c_15
  replace hrr := (hU_139 _ (by omega)).trans hrr
  replace hrows := fun s (hs : s < 8) => (hU_139 _ (by omega)).trans (hrows s hs)
  replace c_27 := (hU_139 _ (by omega)).trans c_27
  replace c_34 := (hU_139 _ (by omega)).trans c_34
  replace c_41 := (hU_139 _ (by omega)).trans c_41
  replace c_48 := (hU_139 _ (by omega)).trans c_48
  replace c_58 := (hU_139 _ (by omega)).trans c_58
  replace c_65 := (hU_139 _ (by omega)).trans c_65
  replace c_72 := (hU_139 _ (by omega)).trans c_72
  replace c_79 := (hU_139 _ (by omega)).trans c_79
  replace c_86 := (hU_139 _ (by omega)).trans c_86
  replace c_93 := (hU_139 _ (by omega)).trans c_93
  replace c_100 := (hU_139 _ (by omega)).trans c_100
  replace c_107 := (hU_139 _ (by omega)).trans c_107
  replace c_117 := (hU_139 _ (by omega)).trans c_117
  replace c_124 := (hU_139 _ (by omega)).trans c_124
  replace c_131 := (hU_139 _ (by omega)).trans c_131
  replace hU := hU.tr hU_139 (by omega) (by omega)
  have c_138 := hn_141; clear hn_141
  refine z_sz (a := (p + 29)) rfl ?_
  show Z D B xX5_init 28 836 _ 176 [some (.ref p)] [.ref (p + 28), .ref p] g_140 (p + 29)
  refine z_putF (pc := 176) (zk8 kX5_init_5) flX5_78 rfl rfl ho hB rfl rfl (Nat.le_of_ble_eq_true rfl) ?_
  show Z D B xX5_init 28 836 _ 179 [some (.ref p)] [] (zup g_140 p (zO 5 [.ref (p + 1), .ref (p + 2), .ref (p + 3), .ref (p + 4), .ref (p + 13), .ref (p + 14), .ref (p + 15), .int 0, .ref (p + 16), .int 8, .ref (p + 17), .ref (p + 18), .ref (p + 19), .ref (p + 20), .int 0, .int 0, .int 0, .int 0, .ref (p + 21), .ref (p + 22), .ref (p + 23), .ref (p + 24), .int 1, .null, .null, .int 0, .int 0, .int 0, .int 0, .int 0, .ref (p + 25), .int 0, .int 0, .int 0, .ref (p + 26), .ref (p + 27), .int 0, .int 0, .int 0, .ref (p + 28), .int 0])) (p + 29)
  have hU_142 : Upd g_140 (zup g_140 p (zO 5 [.ref (p + 1), .ref (p + 2), .ref (p + 3), .ref (p + 4), .ref (p + 13), .ref (p + 14), .ref (p + 15), .int 0, .ref (p + 16), .int 8, .ref (p + 17), .ref (p + 18), .ref (p + 19), .ref (p + 20), .int 0, .int 0, .int 0, .int 0, .ref (p + 21), .ref (p + 22), .ref (p + 23), .ref (p + 24), .int 1, .null, .null, .int 0, .int 0, .int 0, .int 0, .int 0, .ref (p + 25), .int 0, .int 0, .int 0, .ref (p + 26), .ref (p + 27), .int 0, .int 0, .int 0, .ref (p + 28), .int 0])) p 1 := Upd.one
  have hn_144 : (zup g_140 p (zO 5 [.ref (p + 1), .ref (p + 2), .ref (p + 3), .ref (p + 4), .ref (p + 13), .ref (p + 14), .ref (p + 15), .int 0, .ref (p + 16), .int 8, .ref (p + 17), .ref (p + 18), .ref (p + 19), .ref (p + 20), .int 0, .int 0, .int 0, .int 0, .ref (p + 21), .ref (p + 22), .ref (p + 23), .ref (p + 24), .int 1, .null, .null, .int 0, .int 0, .int 0, .int 0, .int 0, .ref (p + 25), .int 0, .int 0, .int 0, .ref (p + 26), .ref (p + 27), .int 0, .int 0, .int 0, .ref (p + 28), .int 0])) p = some (zO 5 [.ref (p + 1), .ref (p + 2), .ref (p + 3), .ref (p + 4), .ref (p + 13), .ref (p + 14), .ref (p + 15), .int 0, .ref (p + 16), .int 8, .ref (p + 17), .ref (p + 18), .ref (p + 19), .ref (p + 20), .int 0, .int 0, .int 0, .int 0, .ref (p + 21), .ref (p + 22), .ref (p + 23), .ref (p + 24), .int 1, .null, .null, .int 0, .int 0, .int 0, .int 0, .int 0, .ref (p + 25), .int 0, .int 0, .int 0, .ref (p + 26), .ref (p + 27), .int 0, .int 0, .int 0, .ref (p + 28), .int 0]) := zup_s
  generalize zup g_140 p (zO 5 [.ref (p + 1), .ref (p + 2), .ref (p + 3), .ref (p + 4), .ref (p + 13), .ref (p + 14), .ref (p + 15), .int 0, .ref (p + 16), .int 8, .ref (p + 17), .ref (p + 18), .ref (p + 19), .ref (p + 20), .int 0, .int 0, .int 0, .int 0, .ref (p + 21), .ref (p + 22), .ref (p + 23), .ref (p + 24), .int 1, .null, .null, .int 0, .int 0, .int 0, .int 0, .int 0, .ref (p + 25), .int 0, .int 0, .int 0, .ref (p + 26), .ref (p + 27), .int 0, .int 0, .int 0, .ref (p + 28), .int 0]) = g_143 at hU_142 hn_144 ⊢
  replace c_1 := (hU_142 _ (by omega)).trans c_1
  replace c_8 := (hU_142 _ (by omega)).trans c_8
  replace c_15 := (hU_142 _ (by omega)).trans c_15
  replace hrr := (hU_142 _ (by omega)).trans hrr
  replace hrows := fun s (hs : s < 8) => (hU_142 _ (by omega)).trans (hrows s hs)
  replace c_27 := (hU_142 _ (by omega)).trans c_27
  replace c_34 := (hU_142 _ (by omega)).trans c_34
  replace c_41 := (hU_142 _ (by omega)).trans c_41
  replace c_48 := (hU_142 _ (by omega)).trans c_48
  replace c_58 := (hU_142 _ (by omega)).trans c_58
  replace c_65 := (hU_142 _ (by omega)).trans c_65
  replace c_72 := (hU_142 _ (by omega)).trans c_72
  replace c_79 := (hU_142 _ (by omega)).trans c_79
  replace c_86 := (hU_142 _ (by omega)).trans c_86
  replace c_93 := (hU_142 _ (by omega)).trans c_93
  replace c_100 := (hU_142 _ (by omega)).trans c_100
  replace c_107 := (hU_142 _ (by omega)).trans c_107
  replace c_117 := (hU_142 _ (by omega)).trans c_117
  replace c_124 := (hU_142 _ (by omega)).trans c_124
  replace c_131 := (hU_142 _ (by omega)).trans c_131
  replace c_138 := (hU_142 _ (by omega)).trans c_138
  replace hU := hU.tr hU_142 (by omega) (by omega)
  replace ho := hn_144; clear hn_144
  exact z_vret (pc := 179) (zk9 kX5_init_5) rfl (Nat.le_of_ble_eq_true rfl) (Nat.le_of_ble_eq_true rfl) ⟨rfl, ⟨ho, c_1, c_8, c_15, hrr, hrows, c_27, c_34, c_41, c_48, c_58, c_65, c_72, c_79, c_86, c_93, c_100, c_107, c_117, c_124, c_131, c_138⟩, hU, rfl⟩
