/-! ===== making cells ===== -/
theorem vr_outer (c : ClassId) (N h0 : Nat) : ∀ i : Nat, Jvm.Free.Multi.outerC c N h0 i = arrV c N (fun j => va_rf (if j < i then some (h0 + 1 + j) else none))
  | 0 => by
    show ({ cls := c, slots := Array.replicate N .null, vm := .none } : Cell) = _
    rw [arrV_new]
    refine congrArg (arrV c N) (funext fun j => ?_)
    simp [va_rf]
  | i + 1 => by
    show (Jvm.Free.Multi.outerC c N h0 i).setSlot i (.ref (h0 + 1 + i)) = _
    rw [vr_outer c N h0 i, arrV_store]
    refine congrArg (arrV c N) (funext fun j => ?_)
    by_cases e : j = i
    · subst e
      simp [updV, va_rf]
    · by_cases h : j < i
      · simp [updV, e, h, Nat.lt_succ_of_lt h]
      · simp [updV, e, h, show ¬ j < i + 1 by omega]
theorem zV.push {D : zD} {h : zH} {H H1 : Heap} {e : zE} (hV : zV D h H) (he : va_at (D.1, D.2.1) vwCl (H.size, zc D e) H1) (oq : ∀ q : Nat, q < H.size → H1[q]? = H[q]?) : zV D (zup h H.size e) H1 := by
  intro b e2 hb
  by_cases hq : b = H.size
  · subst hq
    rw [zup_s] at hb
    cases hb
    exact he
  · rw [zup_n hq] at hb
    exact va_at.kept (hV b e2 hb) (oq b (hV.lt hb))
theorem zV.new {D : zD} {h : zH} {H : Heap} {a : Nat} (hV : zV D h H) (ha : H.size ≤ a) : h a = none := by
  cases hx : h a with
  | none => rfl
  | some e => exact absurd (hV.lt hx) (by omega)
theorem zS.push {B : Nat} {H0 H H1 : Heap} {locs : List Loc} {n : Nat} (hS : va_S (fun q => B ≤ q) H0 H locs) (z : H1.size = H.size + n) (oq : ∀ q : Nat, q < H.size → H1[q]? = H[q]?) : va_S (fun q => B ≤ q) H0 H1 locs :=
  ⟨Nat.le_trans hS.1 (by omega), fun x h1 h2 => (oq x (Nat.lt_of_lt_of_le h1 hS.1)).trans (hS.2.1 x h1 h2), hS.2.2⟩
section ZN
variable {D : zD} {B : Nat} {X Y : zX} {cs ss : Nat} {Q Qy : zQ} {pc n idx : Nat} {L : List (Option Value)} {st as : List Value} {h : zH} {sz : Nat}
def zNw (own : String) (idx ci : Nat) : Prop := ∃ q : vw_C, vwCl[ci]? = some q ∧ Cond.classLink own idx q.1 ∈ zT ∧ Cond.instantiable q.1 q.2.2 ∈ zT ∧ Cond.initialized q.1 ∈ zT
theorem z_new {ci N : Nat} {fs : List Value} (hd : zdec X pc = .ok (.new idx, 3)) (hw : zNw X.1.cls idx ci) (hN : (vwCl.getD ci ("", TX0, 0)).2.2 = N) (hfs : ∀ j, j < N → defaultValue (zTyF ci j) = vp_V fs j) (h1 : Nat.ble (cs + 1) X.2.2.2.2.2.1 = true) (h2 : Nat.ble (ss + N) X.2.2.2.2.2.2 = true)
    (kk : (∀ a, sz ≤ a → h a = none) → Z D B X (cs + 1) (ss + N) Q (pc + 3) L (.ref sz :: st) (zup h sz (zO ci fs)) (sz + 1)) : Z D B X cs ss Q pc L st h sz := by
  intro p l e s m args below meth c H locs ls C hL hV hz hS
  obtain ⟨q, hq, w1, w2, w3⟩ := hw
  obtain ⟨C0, T, N0⟩ := q
  rw [List.getD_eq_getElem?_getD, hq] at hN
  change N0 = N at hN
  subst hN
  subst hz
  have hts := C.2.2.2.2.1
  have hK := C.2.2.2.2.2.2.2.1.1
  have hKn := hK.1 ci _ hq
  have hin : ∀ w ∈ u_ws C0 T N0, w ∈ zT := fun w hw => zIn hq w hw
  refine W.newcK C.1 C.2.1 C.2.2.2.1 (hts _ w1) (hts _ w2) (hts _ w3) rfl hd (Nat.le_of_ble_eq_true h1) (Nat.le_of_ble_eq_true h2) hKn.2.1 rfl fun H1 kC hkC e1 z1 o1 => ?_
  exact kk (fun a ha => hV.new ha) p l e s m args below meth c H1 locs ls C hL (hV.push (e := zO ci fs) ⟨_, hq, (u_born (zTyF ci) hts hin hKn hkC e1 (zTyF_ok hq)).to hfs⟩ o1) z1 (zS.push hS z1 o1)
theorem zRA_eq {s : State} {ty : FieldType} {c1 c2 : ClassId} (h : va_RA s c1 ty) (h2 : s.vm.findClass ("[" ++ ty.toString) = some c2) : c1 = c2 := by
  cases ty with
  | object C =>
    obtain ⟨_, _, _, _, _, h4⟩ := h
    exact Option.some.inj (h4.symm.trans h2)
  | _ => exact Option.some.inj (Eq.trans (Eq.symm h) h2)
theorem z_newa {atype : ArrayType} {kd N : Nat} {x : Int32} {a0 : vp_A} (hd : zdec X pc = .ok (.newarray atype, 2)) (hw : Cond.arrayClass (newarray.typeOf atype) ∈ zT) (hkd : ∀ D : zD, (zTys D)[kd]? = some (D.2.2.1 kd, newarray.typeOf atype)) (ha : ∀ cA : ClassId, vp_cell cA a0 = arrV cA N (fun _ => defaultValue (newarray.typeOf atype))) (hx : ¬ x < 0) (hN : x.toNatClampNeg = N) (hby : Nat.ble (N * componentBytes (newarray.typeOf atype)) 536870912 = true) (h1 : Nat.ble (cs + 1) X.2.2.2.2.2.1 = true) (h2 : Nat.ble (ss + N) X.2.2.2.2.2.2 = true)
    (kk : (∀ a, sz ≤ a → h a = none) → Z D B X (cs + 1) (ss + N) Q (pc + 2) L (.ref sz :: st) (zup h sz (.inl (kd, a0))) (sz + 1)) : Z D B X cs ss Q pc L (.int x :: st) h sz := by
  intro p l e s m args below meth c H locs ls C hL hV hz hS
  subst hz
  have hts := C.2.2.2.2.1
  have hK := C.2.2.2.2.2.2.2.1.1
  refine va_newaK C.1 C.2.1 (hts _ hw) rfl hd rfl hx hN (Nat.le_of_ble_eq_true hby) (Nat.le_of_ble_eq_true h1) (Nat.le_of_ble_eq_true h2) rfl fun H1 cA e1 z1 o1 hAr hNm => ?_
  have hc := zRA_eq (hK.2 kd _ (hkd D)).2 hNm
  subst hc
  exact kk (fun a ha => hV.new ha) p l e s m args below meth c H1 locs ls C hL (hV.push (e := .inl (kd, a0)) (show H1[_]? = some (vp_cell _ _) by rw [ha]; exact e1) o1) z1 (zS.push hS z1 o1)
theorem z_anew {N : Nat} {x : Int32} (hd : zdec X pc = .ok (.anewarray idx, 3)) (hw : Cond.classLink X.1.cls idx RX2 ∈ zT) (hx : ¬ x < 0) (hN : x.toNatClampNeg = N) (hby : Nat.ble (N * 4) 536870912 = true) (h1 : Nat.ble (cs + 1) X.2.2.2.2.2.1 = true) (h2 : Nat.ble (ss + N) X.2.2.2.2.2.2 = true)
    (kk : (∀ a, sz ≤ a → h a = none) → Z D B X (cs + 1) (ss + N) Q (pc + 3) L (.ref sz :: st) (zup h sz (zRf 3 N (fun _ => none))) (sz + 1)) : Z D B X cs ss Q pc L (.int x :: st) h sz := by
  intro p l e s m args below meth c H locs ls C hL hV hz hS
  subst hz
  subst hN
  have hts := C.2.2.2.2.1
  have hK := C.2.2.2.2.2.2.2.1.1
  refine W.anew C.1 C.2.1 C.2.2.2.1 (hts _ hw) (va_AO.use C.2.2.2.2.2.2.2.1.2.2.2.2.2.2.1) rfl hd rfl hx (Nat.le_of_ble_eq_true hby) (Nat.le_of_ble_eq_true h1) (Nat.le_of_ble_eq_true h2) fun cA kA comp g1 g2 g3 g4 => ?_
  have hc := zRA_eq (hK.2 3 (D.2.2.1 3, .object RX2) rfl).2 g1
  subst hc
  have o1 : ∀ q : Nat, q < H.size → (H.push ({ cls := D.2.2.1 3, slots := Array.replicate x.toNatClampNeg .null, vm := .none } : Cell))[q]? = H[q]? := fun q hq => by
    rw [Array.getElem?_push, if_neg (Nat.ne_of_lt hq)]
  refine kk (fun a ha => hV.new ha) p l e s m args below meth c _ locs ls C hL (hV.push (e := zRf 3 x.toNatClampNeg (fun _ => none)) ?_ o1) (by simp) (zS.push (n := 1) hS (by simp) o1)
  show _ = some (vp_cell _ _)
  rw [vp_cell_q]
  show _ = some (arrV _ _ (fun _ => Value.null))
  rw [← arrV_new]
  simp
/-- new long[8][40] and its like -/
def zMn (h : zH) (sz N M : Nat) : zH := fun a => if a = sz then some (zRf 4 N (fun i => if i < N then some (sz + 1 + i) else none)) else if sz < a ∧ a < sz + 1 + N then some (zJ M (fun _ => 0)) else h a
theorem z_mna {N M : Nat} {x y : Int32} (hd : zdec X pc = .ok (.multianewarray idx 2, 4)) (hw : Cond.classLink X.1.cls idx "[[J" ∈ zT ∧ Cond.arrayClass .long ∈ zT) (hx : ¬ x < 0) (hy : ¬ y < 0) (hN : x.toNatClampNeg = N) (hM : y.toNatClampNeg = M) (hb1 : Nat.ble (N * 4) 536870912 = true) (hb2 : Nat.ble (M * 8) 536870912 = true) (h1 : Nat.ble (cs + (1 + N)) X.2.2.2.2.2.1 = true) (h2 : Nat.ble (ss + (N + N * M)) X.2.2.2.2.2.2 = true)
    (kk : (∀ a, sz ≤ a → h a = none) → Z D B X (cs + 1 + N) (ss + N + N * M) Q (pc + 4) L (.ref sz :: st) (zMn h sz N M) (sz + 1 + N)) : Z D B X cs ss Q pc L (.int y :: .int x :: st) h sz := by
  intro p l e s m args below meth c H locs ls C hL hV hz hS
  subst hz
  subst hN
  subst hM
  have hts := C.2.2.2.2.1
  have hK := C.2.2.2.2.2.2.2.1
  intro T hT Xs
  have hb2' := Nat.le_of_ble_eq_true hb2
  obtain ⟨vm₁, cA, comp, -, fA, fC, hO, -, X', step⟩ := Xs.multianewarray2F (own := X.1.cls) (ty := .long) C.1 C.2.2.2.1 (hts _ hw.1) hK.2.2.2.2.2.2.2 (hts _ hw.2) (g := F0 m pc ls (.int y :: .int x :: st)) rfl (by rw [C.2.1]; exact hd) rfl hx hy (Nat.le_of_ble_eq_true hb1) hb2' (by omega) rfl rfl (Nat.le_of_ble_eq_true h1) (Nat.le_of_ble_eq_true h2)
  have ec1 : D.2.2.1 4 = cA := zRA_eq (hK.1.2 4 (D.2.2.1 4, .array .long) rfl).2 fA
  have ec2 : D.2.2.1 1 = comp := zRA_eq (ty := .long) (hK.1.2 1 (D.2.2.1 1, .long) rfl).2 fC
  subst ec1
  subst ec2
  generalize hF : Jvm.Free.Multi.fill (T.setVm vm₁) (D.2.2.1 4) (D.2.2.1 1) x.toNatClampNeg y.toNatClampNeg (defaultValue .long) x.toNatClampNeg = F at X' step
  have hTh : (T.setVm vm₁).heap = H := hT
  obtain ⟨f1, f2, -, -⟩ := Jvm.Free.Multi.fill_facts (T.setVm vm₁) (D.2.2.1 4) (D.2.2.1 1) x.toNatClampNeg y.toNatClampNeg (defaultValue .long) x.toNatClampNeg
  rw [hF, hTh] at f1 f2
  have hold : ∀ q : Nat, q < H.size → F.heap[q]? = H[q]? := fun q hq => by
    have := Jvm.Free.Multi.fill_old (T.setVm vm₁) (D.2.2.1 4) (D.2.2.1 1) x.toNatClampNeg y.toNatClampNeg (defaultValue .long) (a := q) (by rw [hTh]; exact hq) x.toNatClampNeg
    rw [hF, hTh] at this
    exact this
  have hrow : ∀ j : Nat, j < x.toNatClampNeg → F.heap[H.size + 1 + j]? = some (vp_cell (D.2.2.1 1) (y.toNatClampNeg, .inr (.inl (fun _ => 0)))) := fun j hj => by
    have := Jvm.Free.Multi.fill_inner (T.setVm vm₁) (D.2.2.1 4) (D.2.2.1 1) x.toNatClampNeg y.toNatClampNeg (defaultValue .long) x.toNatClampNeg j hj
    rw [hF, hTh] at this
    rw [this, vp_cell_l]
    show some ({ cls := D.2.2.1 1, slots := Array.replicate y.toNatClampNeg (Value.long 0), vm := .none } : Cell) = _
    rw [arrV_new]
  have hout : Jvm.Free.Multi.outerC (D.2.2.1 4) x.toNatClampNeg H.size x.toNatClampNeg = vp_cell (D.2.2.1 4) (x.toNatClampNeg, .inr (.inr (.inr (.inr (fun i => if i < x.toNatClampNeg then some (H.size + 1 + i) else none))))) := by
    rw [vp_cell_q]
    exact vr_outer (D.2.2.1 4) x.toNatClampNeg H.size x.toNatClampNeg
  rw [hout] at f2
  have f1' : F.heap.size = H.size + 1 + x.toNatClampNeg := by rw [f1]
  have hV1 : zV D (zMn h H.size x.toNatClampNeg y.toNatClampNeg) F.heap := by
    intro b e2 hb
    unfold zMn at hb
    by_cases q1 : b = H.size
    · rw [if_pos q1] at hb
      cases hb
      subst q1
      exact f2
    · rw [if_neg q1] at hb
      by_cases q2 : H.size < b ∧ b < H.size + 1 + x.toNatClampNeg
      · rw [if_pos q2] at hb
        cases hb
        have := hrow (b - (H.size + 1)) (by omega)
        rw [show H.size + 1 + (b - (H.size + 1)) = b by omega] at this
        exact this
      · rw [if_neg q2] at hb
        exact va_at.kept (hV b e2 hb) (hold b (hV.lt hb))
  obtain ⟨t, a1, b1⟩ := kk (fun a ha => hV.new ha) p l e s m args below meth c F.heap locs ls C hL hV1 f1' (zS.push (n := 1 + x.toNatClampNeg) hS (by omega) hold) F rfl X'
  refine ⟨t, step t ?_, b1⟩
  have e9 : T.heap.size = H.size := by rw [hT]
  rw [e9]
  exact a1
theorem z_aast3 {a n v : Nat} {f : Nat → Option Nat} {fs : List Value} {i : Int32} (hd : zdec X pc = .ok (.aastore, 1)) (ha : h a = some (zRf 3 n f)) (hv : h v = some (zO 2 fs)) (hB : B ≤ a) (hin : vp_in i n) (kk : Z D B X cs ss Q (pc + 1) L st (zup h a (zRf 3 n (va_up f i.toNatClampNeg (some v)))) sz) : Z D B X cs ss Q pc L (.ref v :: .int i :: .ref a :: st) h sz := by
  intro p l e s m args below meth c H locs ls C hL hV hz hS
  have hK := C.2.2.2.2.2.2.2.1.1
  have hlt := zLt hin
  have h0 : ¬ i < 0 := fun q => hin (Or.inl q)
  obtain ⟨r', hr', cellV, g1, g2, g3, -⟩ := hV v _ hv
  have hcls := (hK.1 2 (RX2, TX2, 3) rfl).2
  obtain ⟨kA, comp, k1, k2, k3, -⟩ := (hK.2 3 (D.2.2.1 3, .object RX2) rfl).2
  have hcomp : comp = D.1 2 := Option.some.inj (k3.symm.trans hcls.1)
  subst hcomp
  obtain ⟨kC, hkC, -⟩ := hcls.2
  refine W.aast C.1 C.2.1 (hV a _ ha) (fun q h => by cases h) (fun h => by cases h) k1 k2 rfl hkC ⟨h0, by show _ < (arrV _ _ _).slots.size; rw [arrV_size]; exact hlt⟩ g1 (fun q h => by rw [g3] at h; cases h) (by rw [g2]; exact hkC) (by rw [g2]; exact va_assign hcls) rfl rfl hd fun H1 e1 z oq => ?_
  refine kk p l e s m args below meth c H1 _ ls C hL (hV.set (e := zRf 3 n (va_up f i.toNatClampNeg (some v))) ?_ oq) (z.trans hz) (hS.put z oq hB)
  show H1[a]? = some (vp_cell _ _)
  rw [e1]
  show some ((vp_cell _ _).setSlot _ _) = _
  rw [vp_cell_q, vp_cell_q, arrV_store]
  congr 2
  funext q
  by_cases hq : q = i.toNatClampNeg
  · subst hq
    simp [updV, va_up, va_rf]
  · simp [updV, va_up, hq]
/-! ===== constructors, nest mates ===== -/
theorem z_objInit {a : Nat} (hd : zdec X pc = .ok (.invokespecial idx, 3)) (hw : Cond.methodLink X.1.cls idx objectInit ∈ zT ∧ Cond.instanceMethod objectInit ∈ zT ∧ Cond.code objectInit ⟨#[0xb1]⟩ 1 none ∈ zT) (h1 : Nat.ble 1 X.2.2.2.2.1 = true) (h2 : Nat.ble ((st.map fun v => v.category).sum + 12) (36 * X.2.2.2.2.1) = true) (k : Z D B X cs ss Q (pc + 3) L st h sz) : Z D B X cs ss Q pc L (.ref a :: st) h sz := by
  intro p l e s m args below meth c H locs ls C hL hV hz hS
  have hts := C.2.2.2.2.1
  refine W.objInit C.1 C.2.1 C.2.2.2.1 (hts _ hw.1) (hts _ hw.2.1) (hts _ hw.2.2) rfl (hL.1.trans C.2.2.1.symm) rfl hd (Nat.le_of_ble_eq_true h1) ?_ (k p l e s m args below meth c H locs ls C hL hV hz hS)
  have := Nat.le_of_ble_eq_true h2
  show 2 * 0 + _ + 12 ≤ 36 * X.2.2.2.2.1
  omega
theorem z_callI {b : Nat} (hd : zdec X pc = .ok (.invokespecial idx, 3)) (hk : zLk X.1.cls idx Y n) (hi : Cond.instanceMethod Y.1 ∈ zT ∧ Y.1.name = "<init>" ∧ Y.2.2.2.1 = none) (hM : zM D B Y (.ref b :: as) h sz Qy) (hn : as.length = n) (hf : zFits X Y cs ss = true) (hr : Nat.ble ((st.map fun v => v.category).sum) 8 = true)
    (kk : ∀ (r : Option Value) (h1 : zH) (z1 : Nat), Qy r h1 z1 → Z D B X (cs + Y.2.2.2.2.2.1) (ss + Y.2.2.2.2.2.2) Q (pc + 3) L (r.toList ++ st) h1 z1) {st0 : List Value} (hst : st0 = as.reverse ++ .ref b :: st) : Z D B X cs ss Q pc L st0 h sz := by
  subst hst
  intro p l e s m args below meth c H locs ls C hL hV hz hS
  obtain ⟨hf1, hf2⟩ := zFits_ok hf
  have hts := C.2.2.2.2.1
  have hKs := C.2.2.2.2.2.2.2.1
  have hcd := hk.2.2.1
  have hws : zWs Y = Cond.code Y.1 Y.2.1 Y.2.2.1 none :: zT := by unfold zWs; rw [hi.2.2]
  refine z_go (va_runI (nL := X.2.2.1) (own := X.1.cls) (Ts := zT) (cc := X.2.1) (bytes := Y.2.1) (maxL := Y.2.2.1) (ws := zWs Y) (rm := zRoom Y) (As := as) (rest := st) ⟨C.1, C.2.1, C.2.2.1, C.2.2.2.1, hts⟩ (hM l) ⟨callB_of n hts (zGood hk.2.2.1) hws rfl rfl (hts _ hk.2.1) (hts _ hk.1) hk.2.2.2 hf1, hi.2.1, hts _ hi.1⟩ ⟨zBlind, fun U hU hW => zPre hKs hV hz hS C.2.2.2.2.2.2.2.2.2 hU hW⟩ rfl hn hL.1 rfl (zRest hr) hd hf2) hS (fun r h1 H1 locs1 hq hV1 hS1 => ?_)
  exact kk r h1 _ hq p l e s m args below meth c H1 locs1 ls C hL hV1 rfl hS1
/-- entry idx of own's pool is the nest mate's private method Y -/
def zLn (own : String) (idx : Nat) (Y : zX) (n : Nat) : Prop := (∃ host : String, (own, idx, Y.1, host) ∈ zNs) ∧ Cond.initialized Y.1.cls ∈ zT ∧ Cond.code Y.1 Y.2.1 Y.2.2.1 Y.2.2.2.1 ∈ zT ∧ (Y.1.cls ≠ "java/lang/invoke/MethodHandle" ∧ Y.1.cls ≠ "java/lang/invoke/VarHandle" ∧ (parseMethodDescriptor Y.1.desc).map (fun d => d.parameters.length) = some n)
theorem z_callIN {b : Nat} (hd : zdec X pc = .ok (.invokespecial idx, 3)) (hk : zLn X.1.cls idx Y n) (hi : Cond.instanceMethod Y.1 ∈ zT ∧ Y.1.name = "<init>" ∧ Y.2.2.2.1 = none) (hM : zM D B Y (.ref b :: as) h sz Qy) (hn : as.length = n) (hf : zFits X Y cs ss = true) (hr : Nat.ble ((st.map fun v => v.category).sum) 8 = true)
    (kk : ∀ (r : Option Value) (h1 : zH) (z1 : Nat), Qy r h1 z1 → Z D B X (cs + Y.2.2.2.2.2.1) (ss + Y.2.2.2.2.2.2) Q (pc + 3) L (r.toList ++ st) h1 z1) {st0 : List Value} (hst : st0 = as.reverse ++ .ref b :: st) : Z D B X cs ss Q pc L st0 h sz := by
  subst hst
  intro p l e s m args below meth c H locs ls C hL hV hz hS
  obtain ⟨hf1, hf2⟩ := zFits_ok hf
  have hts := C.2.2.2.2.1
  have hKs := C.2.2.2.2.2.2.2.1
  obtain ⟨⟨host, hho⟩, hini, hcd, hds⟩ := hk
  have hws : zWs Y = Cond.code Y.1 Y.2.1 Y.2.2.1 none :: zT := by unfold zWs; rw [hi.2.2]
  have hl := hKs.2.2.2.2.2.1 _ hho
  refine z_go (va_runIN (nL := X.2.2.1) (own := X.1.cls) (host := host) (Ts := zT) (cc := X.2.1) (bytes := Y.2.1) (maxL := Y.2.2.1) (ws := zWs Y) (rm := zRoom Y) (As := as) (rest := st) ⟨C.1, C.2.1, C.2.2.1, C.2.2.2.1, hts⟩ (hM l) ⟨va_cnB n hts (zGood hcd) hws rfl rfl hl (hts _ hini) hds hf1, hi.2.1, hts _ hi.1⟩ ⟨zBlind, fun U hU hW => zPre hKs hV hz hS C.2.2.2.2.2.2.2.2.2 hU hW⟩ rfl hn hL.1 rfl (zRest hr) hd hf2) hS (fun r h1 H1 locs1 hq hV1 hS1 => ?_)
  exact kk r h1 _ hq p l e s m args below meth c H1 locs1 ls C hL hV1 rfl hS1
theorem z_callSN (hd : zdec X pc = .ok (.invokestatic idx, 3)) (hk : zLn X.1.cls idx Y n) (hi : Cond.static Y.1 ∈ zT) (hM : zM D B Y as h sz Qy) (hn : as.length = n) (hf : zFits X Y cs ss = true) (hr : Nat.ble ((st.map fun v => v.category).sum) 8 = true)
    (kk : ∀ (r : Option Value) (h1 : zH) (z1 : Nat), Qy r h1 z1 → Z D B X (cs + Y.2.2.2.2.2.1) (ss + Y.2.2.2.2.2.2) Q (pc + 3) L (r.toList ++ st) h1 z1) {st0 : List Value} (hst : st0 = as.reverse ++ st) : Z D B X cs ss Q pc L st0 h sz := by
  subst hst
  intro p l e s m args below meth c H locs ls C hL hV hz hS
  obtain ⟨hf1, hf2⟩ := zFits_ok hf
  have hts := C.2.2.2.2.1
  have hKs := C.2.2.2.2.2.2.2.1
  obtain ⟨⟨host, hho⟩, hini, hcd, hds⟩ := hk
  have hl := hKs.2.2.2.2.2.1 _ hho
  refine z_go (va_runSN (nL := X.2.2.1) (own := X.1.cls) (host := host) (Ts := zT) (cc := X.2.1) (bytes := Y.2.1) (maxL := Y.2.2.1) (ret := Y.2.2.2.1) (ws := zWs Y) (rm := zRoom Y) (As := as) (rest := st) ⟨C.1, C.2.1, C.2.2.1, C.2.2.2.1, hts⟩ (hM l) ⟨va_cnB n hts (zGood hcd) rfl rfl rfl hl (hts _ hini) hds hf1, hts _ hi, trivial⟩ ⟨zBlind, fun U hU hW => zPre hKs hV hz hS C.2.2.2.2.2.2.2.2.2 hU hW⟩ rfl hn hL.1 rfl (zRest hr) hd hf2) hS (fun r h1 H1 locs1 hq hV1 hS1 => ?_)
  exact kk r h1 _ hq p l e s m args below meth c H1 locs1 ls C hL hV1 rfl hS1
/-! ===== statics, texts, copies ===== -/
theorem z_under (hd : zdec X pc = .ok (.getstatic idx, 3)) (hl : Cond.fieldLink X.1.cls idx "ReadOutAlongTheWay" "UNDER" "[I" ∈ zT) (k : Z D B X cs ss Q (pc + 3) L (.ref D.2.2.2.2.2.1 :: st) h sz) : Z D B X cs ss Q pc L st h sz := by
  intro p l e s m args below meth c H locs ls C hL hV hz hS
  exact va_gets C.1 C.2.1 C.2.2.2.2.2.2.2.1.2.1 hS C.2.2.2.1 (C.2.2.2.2.1 _ hl) (fun _ h9 => h9) hd (k p l e s m args below meth c H locs ls C hL hV hz hS)
theorem z_compact (hd : zdec X pc = .ok (.getstatic idx, 3)) (hl : Cond.fieldLink X.1.cls idx "java/lang/String" "COMPACT_STRINGS" "Z" ∈ zT) (k : Z D B X cs ss Q (pc + 3) L (.int 1 :: st) h sz) : Z D B X cs ss Q pc L st h sz := by
  intro p l e s m args below meth c H locs ls C hL hV hz hS
  exact va_gets C.1 C.2.1 C.2.2.2.2.2.2.2.1.2.2.1.1 hS C.2.2.2.1 (C.2.2.2.2.1 _ hl) (fun _ h9 => h9) hd (k p l e s m args below meth c H locs ls C hL hV hz hS)
theorem z_uld {i : Int32} {v : Int32} (hd : zdec X pc = .ok (.iaload, 1)) (hin : vp_in i 6) (hv : underF i.toNatClampNeg = v) (k : Z D B X cs ss Q (pc + 1) L (.int v :: st) h sz) : Z D B X cs ss Q pc L (.int i :: .ref D.2.2.2.2.2.1 :: st) h sz := by
  intro p l e s m args below meth c H locs ls C hL hV hz hS
  exact va_ti C.1 C.2.1 C.2.2.2.2.2.2.2.1.2.2.1.2.2.1 hS hin (congrArg Value.int hv) hd (k p l e s m args below meth c H locs ls C hL hV hz hS)
theorem z_ulen (hd : zdec X pc = .ok (.arraylength, 1)) (k : Z D B X cs ss Q (pc + 1) L (.int 6 :: st) h sz) : Z D B X cs ss Q pc L (.ref D.2.2.2.2.2.1 :: st) h sz := by
  intro p l e s m args below meth c H locs ls C hL hV hz hS
  exact va_tlen C.1 C.2.1 C.2.2.2.2.2.2.2.1.2.2.1.2.2.1 hS rfl hd (k p l e s m args below meth c H locs ls C hL hV hz hS)
theorem z_sld {i : Int32} (hd : zdec X pc = .ok (.iaload, 1)) (hin : vp_in i D.2.2.2.2.2.2.2.1) (k : Z D B X cs ss Q (pc + 1) L (.int (D.2.2.2.2.2.2.2.2 i.toNatClampNeg) :: st) h sz) : Z D B X cs ss Q pc L (.int i :: .ref D.2.2.2.2.2.2.1 :: st) h sz := by
  intro p l e s m args below meth c H locs ls C hL hV hz hS
  exact va_sld C.1 C.2.1 C.2.2.2.2.2.2.2.1.2.2.1.2.2.2.1 C.2.2.2.2.2.2.2.1.2.2.1.2.2.2.2.1 C.2.2.2.2.2.2.2.1.2.2.1.2.2.2.2.2 hS hin hd (k p l e s m args below meth c H locs ls C hL hV hz hS)
theorem z_slen (hd : zdec X pc = .ok (.arraylength, 1)) (k : Z D B X cs ss Q (pc + 1) L (.int (Int32.ofNat D.2.2.2.2.2.2.2.1) :: st) h sz) : Z D B X cs ss Q pc L (.ref D.2.2.2.2.2.2.1 :: st) h sz := by
  intro p l e s m args below meth c H locs ls C hL hV hz hS
  exact va_slen C.1 C.2.1 C.2.2.2.2.2.2.2.1.2.2.1.2.2.2.1 C.2.2.2.2.2.2.2.1.2.2.1.2.2.2.2.1 C.2.2.2.2.2.2.2.1.2.2.1.2.2.2.2.2 hS hd (k p l e s m args below meth c H locs ls C hL hV hz hS)
theorem z_wd {a b : Nat} (h1 : cs ≤ a) (h2 : ss ≤ b) (k : Z D B X a b Q pc L st h sz) : Z D B X cs ss Q pc L st h sz := by
  intro p l e s m args below meth c H locs ls C hL hV hz hS
  exact W.widen h1 h2 (k p l e s m args below meth c H locs ls C hL hV hz hS)
theorem z_siob (hd : zdec X pc = .ok (.getstatic idx, 3)) (hl : Cond.fieldLink X.1.cls idx "jdk/internal/util/Preconditions" "SIOOBE_FORMATTER" "Ljava/util/function/BiFunction;" ∈ zT) (k : ∀ v : Value, (v = .null ∨ ∃ t, v = .ref t) → Z D B X cs ss Q (pc + 3) L (v :: st) h sz) : Z D B X cs ss Q pc L st h sz := by
  intro p l e s m args below meth c H locs ls C hL hV hz hS
  rcases C.2.2.2.2.2.2.2.1.2.2.1.2.1 with hq | ⟨t, hq⟩
  · exact va_gets C.1 C.2.1 hq hS C.2.2.2.1 (C.2.2.2.2.1 _ hl) (fun _ h9 => h9) hd (k _ (Or.inl rfl) p l e s m args below meth c H locs ls C hL hV hz hS)
  · exact va_gets C.1 C.2.1 hq hS C.2.2.2.1 (C.2.2.2.2.1 _ hl) (fun _ h9 => h9) hd (k _ (Or.inr ⟨t, rfl⟩) p l e s m args below meth c H locs ls C hL hV hz hS)
theorem z_ldcS {tx : String} {i : Nat} (hd : zdec X pc = .ok (.ldc idx, 2)) (hi : (X.1.cls, idx, tx, i) ∈ zSt) (k : Z D B X cs ss Q (pc + 2) L (.ref (D.2.2.2.1 i) :: st) h sz) : Z D B X cs ss Q pc L st h sz := by
  intro p l e s m args below meth c H locs ls C hL hV hz hS
  exact va_ldcS C.1 C.2.1 C.2.2.2.1 (C.2.2.2.2.2.2.2.1.2.2.2.2.1 _ hi) hd (k p l e s m args below meth c H locs ls C hL hV hz hS)
/-- a text's bytes -/
theorem z_getV {i : Nat} (hd : zdec X pc = .ok (.getfield idx, 3)) (hl : Cond.fieldLink X.1.cls idx "java/lang/String" "value" "[B" ∈ zT) (hi : i < 8) (k : Z D B X cs ss Q (pc + 3) L (.ref (D.2.2.2.2.1 i) :: st) h sz) : Z D B X cs ss Q pc L (.ref (D.2.2.2.1 i) :: st) h sz := by
  intro p l e s m args below meth c H locs ls C hL hV hz hS
  obtain ⟨cf, kf, fi, f, cell, h1, h2, h3, h4, h5, h6⟩ := va_OF.kept ((C.2.2.2.2.2.2.2.1.2.2.2.1.1 i hi).2.2.1) hS.2.1
  exact W.getf C.1 C.2.1 C.2.2.2.1 (C.2.2.2.2.1 _ hl) h1 h2 h3 h4 h5 rfl rfl hd (k p l e s m args below meth c H locs ls C hL hV hz hS)
theorem z_getC {i : Nat} (hd : zdec X pc = .ok (.getfield idx, 3)) (hl : Cond.fieldLink X.1.cls idx "java/lang/String" "coder" "B" ∈ zT) (hi : i < 8) (k : Z D B X cs ss Q (pc + 3) L (.int 0 :: st) h sz) : Z D B X cs ss Q pc L (.ref (D.2.2.2.1 i) :: st) h sz := by
  intro p l e s m args below meth c H locs ls C hL hV hz hS
  obtain ⟨cf, kf, fi, f, cell, h1, h2, h3, h4, h5, h6⟩ := va_OF.kept ((C.2.2.2.2.2.2.2.1.2.2.2.1.1 i hi).2.1) hS.2.1
  exact W.getf C.1 C.2.1 C.2.2.2.1 (C.2.2.2.2.1 _ hl) h1 h2 h3 h4 h5 rfl rfl hd (k p l e s m args below meth c H locs ls C hL hV hz hS)
theorem z_lenV {i : Nat} (hd : zdec X pc = .ok (.arraylength, 1)) (hi : i < 8) (k : Z D B X cs ss Q (pc + 1) L (.int (Int32.ofNat (zLen.getD i 0)) :: st) h sz) : Z D B X cs ss Q pc L (.ref (D.2.2.2.2.1 i) :: st) h sz := by
  intro p l e s m args below meth c H locs ls C hL hV hz hS
  exact va_tlen C.1 C.2.1 ((C.2.2.2.2.2.2.2.1.2.2.2.1.1 i hi).2.2.2) hS rfl hd (k p l e s m args below meth c H locs ls C hL hV hz hS)
theorem z_baldV {i : Nat} {j : Int32} (hd : zdec X pc = .ok (.baload, 1)) (hi : i < 8) (hin : vp_in j (zLen.getD i 0)) (k : Z D B X cs ss Q (pc + 1) L (.int ((zByt.getD i []).getD j.toNatClampNeg 0) :: st) h sz) : Z D B X cs ss Q pc L (.int j :: .ref (D.2.2.2.2.1 i) :: st) h sz := by
  intro p l e s m args below meth c H locs ls C hL hV hz hS
  exact va_tb C.1 C.2.1 ((C.2.2.2.2.2.2.2.1.2.2.2.1.1 i hi).2.2.2) hS hin rfl hd (k p l e s m args below meth c H locs ls C hL hV hz hS)
/-- a call on a text constant -/
theorem z_callT {i : Nat} (hd : zdec X pc = .ok (.invokevirtual idx, 3)) (hk : zLk X.1.cls idx Y n) (hi : Cond.instanceMethod Y.1 ∈ zT ∧ Cond.selects Y.1.cls Y.1 Y.1 ∈ zT) (hY : Y.1.cls = "java/lang/String") (hb : i < 8) (hM : zM D B Y (.ref (D.2.2.2.1 i) :: as) h sz Qy) (hn : as.length = n) (hf : zFits X Y cs ss = true) (hr : Nat.ble ((st.map fun v => v.category).sum) 8 = true)
    (kk : ∀ (r : Option Value) (h1 : zH) (z1 : Nat), Qy r h1 z1 → Z D B X (cs + Y.2.2.2.2.2.1) (ss + Y.2.2.2.2.2.2) Q (pc + 3) L (r.toList ++ st) h1 z1) {st0 : List Value} (hst : st0 = as.reverse ++ .ref (D.2.2.2.1 i) :: st) : Z D B X cs ss Q pc L st0 h sz := by
  subst hst
  intro p l e s m args below meth c H locs ls C hL hV hz hS
  obtain ⟨hf1, hf2⟩ := zFits_ok hf
  have hts := C.2.2.2.2.1
  have hKs := C.2.2.2.2.2.2.2.1
  have hrecv : ∃ cellB : Cell, H[D.2.2.2.1 i]? = some cellB ∧ cellB.vm.isStatics = false ∧ s.vm.findClass Y.1.cls = some cellB.cls := by
    obtain ⟨cell, g1, g2, g3, -⟩ := va_O.kept ((hKs.2.2.2.1.1 i hb).1) hS.2.1
    exact ⟨cell, g1, g2, by rw [hY]; exact g3⟩
  refine z_go (va_runV (nL := X.2.2.1) (own := X.1.cls) (Ts := zT) (cc := X.2.1) (C := Y.1.cls) (bytes := Y.2.1) (maxL := Y.2.2.1) (ret := Y.2.2.2.1) (ws := zWs Y) (rm := zRoom Y) (As := as) (rest := st) ⟨C.1, C.2.1, C.2.2.1, C.2.2.2.1, hts⟩ (hM l) ⟨callB_of n hts (zGood hk.2.2.1) rfl rfl rfl (hts _ hk.2.1) (hts _ hk.1) hk.2.2.2 hf1, hts _ hi.1, hts _ hi.2⟩ ⟨zBlind, hrecv, fun U hU hW => zPre hKs hV hz hS C.2.2.2.2.2.2.2.2.2 hU hW⟩ rfl hn hL.1 rfl (zRest hr) hd hf2) hS (fun r h1 H1 locs1 hq hV1 hS1 => ?_)
  exact kk r h1 _ hq p l e s m args below meth c H1 locs1 ls C hL hV1 rfl hS1
def zCp (own : String) (idx : Nat) : Prop := Cond.methodLink own idx arraycopyName ∈ zT ∧ Cond.native arraycopyName ∈ zT ∧ Cond.static arraycopyName ∈ zT ∧ Cond.initialized "java/lang/System" ∈ zT
theorem zCat (st : List Value) (n w : Nat) (h : Nat.ble ((st.map fun v => v.category).sum + w) n = true) : (st.map fun v => v.category).sum + w ≤ n := Nat.le_of_ble_eq_true h
theorem z_copyI {a b n0 n1 : Nat} {f g : Nat → Int32} {sp dp x : Int32} (hd : zdec X pc = .ok (.invokestatic idx, 3)) (hw : zCp X.1.cls idx) (ha : h a = some (zI n0 f)) (hb : h b = some (zI n1 g)) (hB : B ≤ b) (h1 : ¬ sp < 0) (h2 : ¬ dp < 0) (h3 : ¬ x < 0) (h4 : sp.toNatClampNeg + x.toNatClampNeg ≤ n0) (h5 : dp.toNatClampNeg + x.toNatClampNeg ≤ n1) (hf : Nat.ble 1 X.2.2.2.2.1 = true) (hlo : Nat.ble ((st.map fun v => v.category).sum + (nativeFrameWords "java/lang/System" "arraycopy" 5 + 11)) (36 * X.2.2.2.2.1) = true)
    (k : Z D B X cs ss Q (pc + 3) L st (zup h b (zI n1 (va_cpy f g sp.toNatClampNeg dp.toNatClampNeg x.toNatClampNeg))) sz) : Z D B X cs ss Q pc L (.int x :: .int dp :: .ref b :: .int sp :: .ref a :: st) h sz := by
  intro p l e s m args below meth c H locs ls C hL hV hz hS
  have hts := C.2.2.2.2.1
  have hK := C.2.2.2.2.2.2.2.1.1
  have nn : ∀ z : Int32, ¬ z < 0 → z.toInt = (z.toNatClampNeg : Int) := by
    intro z hz
    have hz0 : (0 : Int) ≤ z.toInt := by
      have := Int32.not_lt.mp hz
      simpa using Int32.le_iff_toInt_le.mp this
    show z.toInt = ((z.toInt.toNat : Nat) : Int)
    omega
  intro T hT Xs
  have hc0 : H[a]? = some (vp_cell (D.2.2.1 0) (n0, .inl f)) := hV a _ ha
  have hc1 : H[b]? = some (vp_cell (D.2.2.1 0) (n1, .inl g)) := hV b _ hb
  obtain ⟨-, k0, hk0, cm0, hkk0⟩ := (hK.2 0 (D.2.2.1 0, .int) rfl).1 n0 (fun j => .int (f j))
  obtain ⟨-, k1, hk1, cm1, hkk1⟩ := (hK.2 0 (D.2.2.1 0, .int) rfl).1 n1 (fun j => .int (g j))
  have hlo2 := Nat.le_of_ble_eq_true hlo
  obtain ⟨vm', X', step⟩ := Xs.arraycopy C.1 C.2.2.2.1 (hts _ hw.1) (hts _ hw.2.1) (hts _ hw.2.2.1) (hts _ hw.2.2.2) (src := a) (dst := b) (cs := vp_cell (D.2.2.1 0) (n0, .inl f)) (cd := vp_cell (D.2.2.1 0) (n1, .inl g)) (srcPos := sp) (destPos := dp) (n := x) (by rw [hT]; exact hc0) (by rw [hT]; exact hc1)
    (fun _ h => by cases h) (fun _ h => by cases h) (fun h => by cases h) (fun h => by cases h) hk0 hk1 hkk0 hkk1 rfl h1 h2 h3
    (by rw [nn sp h1, nn x h3]; show ¬ _ > ((arrV (D.2.2.1 0) n0 (fun j => .int (f j))).slots.size : Int); rw [arrV_size]; omega)
    (by rw [nn dp h2, nn x h3]; show ¬ _ > ((arrV (D.2.2.1 0) n1 (fun j => .int (g j))).slots.size : Int); rw [arrV_size]; omega)
    (fun vm₁ _ i hi => by
      have e : (vp_cell (D.2.2.1 0) (n0, .inl f)).slots.getD (sp.toNatClampNeg + i) .null = .int (f (sp.toNatClampNeg + i)) := by
        show (arrV (D.2.2.1 0) n0 (fun j => .int (f j))).slots.getD _ _ = _
        rw [Array.getD_eq_getD_getElem?, arrV_read _ _ (by omega)]
        rfl
      refine ⟨?_, ?_⟩
      · rw [e]
        rfl
      · rw [e]
        exact trivial)
    (g := F0 m pc ls (.int x :: .int dp :: .ref b :: .int sp :: .ref a :: st)) rfl (hL.1.trans C.2.2.1.symm) (rest := st) rfl (by rw [C.2.1]; exact hd) (Nat.le_of_ble_eq_true hf) (by show 2 * 0 + _ + _ ≤ 36 * X.2.2.2.2.1; omega)
  have e1 : copied (vp_cell (D.2.2.1 0) (n0, .inl f)) (vp_cell (D.2.2.1 0) (n1, .inl g)) sp dp x = vp_cell (D.2.2.1 0) (n1, .inl (va_cpy f g sp.toNatClampNeg dp.toNatClampNeg x.toNatClampNeg)) := va_copied (fun z => .int z) (D.2.2.1 0) (D.2.2.1 0) f g h4
  rw [e1] at X' step
  have hl : b < H.size := (Array.getElem?_eq_some_iff.mp hc1).1
  generalize hcell : vp_cell (D.2.2.1 0) (n1, .inl (va_cpy f g sp.toNatClampNeg dp.toNatClampNeg x.toNatClampNeg)) = cellN at X' step
  have hheap : ((T.setVm vm').setCell b cellN).heap = H.setIfInBounds b cellN := by rw [← hT]; rfl
  have oq : ∀ q : Nat, q ≠ b → (H.setIfInBounds b cellN)[q]? = H[q]? := fun q hq => by simp [Array.getElem?_setIfInBounds, Ne.symm hq]
  obtain ⟨t, a1, b1⟩ := k p l e s m args below meth c (H.setIfInBounds b cellN) _ ls C hL (hV.set (e := zI n1 (va_cpy f g sp.toNatClampNeg dp.toNatClampNeg x.toNatClampNeg)) (show (H.setIfInBounds b cellN)[b]? = some _ by rw [← hcell]; simp [Array.getElem?_setIfInBounds, hl]) oq) (by simp; exact hz) ⟨by simp; exact hS.1, fun q g1 g2 => by
      rw [oq q (fun e => g2 (by rw [e]; exact hB))]
      exact hS.2.1 q g1 g2, fun q hq => by
      rcases List.mem_append.mp hq with h | h
      · exact hS.2.2 q h
      · obtain ⟨z, -, hz⟩ := List.mem_map.mp h
        rw [← hz]
        exact hB⟩ _ hheap X'
  exact ⟨t, step t a1, b1⟩
theorem z_copyJ {a b n0 n1 : Nat} {f g : Nat → Int64} {sp dp x : Int32} (hd : zdec X pc = .ok (.invokestatic idx, 3)) (hw : zCp X.1.cls idx) (ha : h a = some (zJ n0 f)) (hb : h b = some (zJ n1 g)) (hB : B ≤ b) (h1 : ¬ sp < 0) (h2 : ¬ dp < 0) (h3 : ¬ x < 0) (h4 : sp.toNatClampNeg + x.toNatClampNeg ≤ n0) (h5 : dp.toNatClampNeg + x.toNatClampNeg ≤ n1) (hf : Nat.ble 1 X.2.2.2.2.1 = true) (hlo : Nat.ble ((st.map fun v => v.category).sum + (nativeFrameWords "java/lang/System" "arraycopy" 5 + 11)) (36 * X.2.2.2.2.1) = true)
    (k : Z D B X cs ss Q (pc + 3) L st (zup h b (zJ n1 (va_cpy f g sp.toNatClampNeg dp.toNatClampNeg x.toNatClampNeg))) sz) : Z D B X cs ss Q pc L (.int x :: .int dp :: .ref b :: .int sp :: .ref a :: st) h sz := by
  intro p l e s m args below meth c H locs ls C hL hV hz hS
  have hts := C.2.2.2.2.1
  have hK := C.2.2.2.2.2.2.2.1.1
  have nn : ∀ z : Int32, ¬ z < 0 → z.toInt = (z.toNatClampNeg : Int) := by
    intro z hz
    have hz0 : (0 : Int) ≤ z.toInt := by
      have := Int32.not_lt.mp hz
      simpa using Int32.le_iff_toInt_le.mp this
    show z.toInt = ((z.toInt.toNat : Nat) : Int)
    omega
  intro T hT Xs
  have hc0 : H[a]? = some (vp_cell (D.2.2.1 1) (n0, .inr (.inl f))) := hV a _ ha
  have hc1 : H[b]? = some (vp_cell (D.2.2.1 1) (n1, .inr (.inl g))) := hV b _ hb
  obtain ⟨-, k0, hk0, cm0, hkk0⟩ := (hK.2 1 (D.2.2.1 1, .long) rfl).1 n0 (fun j => .long (f j))
  obtain ⟨-, k1, hk1, cm1, hkk1⟩ := (hK.2 1 (D.2.2.1 1, .long) rfl).1 n1 (fun j => .long (g j))
  have hlo2 := Nat.le_of_ble_eq_true hlo
  obtain ⟨vm', X', step⟩ := Xs.arraycopy C.1 C.2.2.2.1 (hts _ hw.1) (hts _ hw.2.1) (hts _ hw.2.2.1) (hts _ hw.2.2.2) (src := a) (dst := b) (cs := vp_cell (D.2.2.1 1) (n0, .inr (.inl f))) (cd := vp_cell (D.2.2.1 1) (n1, .inr (.inl g))) (srcPos := sp) (destPos := dp) (n := x) (by rw [hT]; exact hc0) (by rw [hT]; exact hc1)
    (fun _ h => by cases h) (fun _ h => by cases h) (fun h => by cases h) (fun h => by cases h) hk0 hk1 hkk0 hkk1 rfl h1 h2 h3
    (by rw [nn sp h1, nn x h3]; show ¬ _ > ((arrV (D.2.2.1 1) n0 (fun j => .long (f j))).slots.size : Int); rw [arrV_size]; omega)
    (by rw [nn dp h2, nn x h3]; show ¬ _ > ((arrV (D.2.2.1 1) n1 (fun j => .long (g j))).slots.size : Int); rw [arrV_size]; omega)
    (fun vm₁ _ i hi => by
      have e : (vp_cell (D.2.2.1 1) (n0, .inr (.inl f))).slots.getD (sp.toNatClampNeg + i) .null = .long (f (sp.toNatClampNeg + i)) := by
        show (arrV (D.2.2.1 1) n0 (fun j => .long (f j))).slots.getD _ _ = _
        rw [Array.getD_eq_getD_getElem?, arrV_read _ _ (by omega)]
        rfl
      refine ⟨?_, ?_⟩
      · rw [e]
        rfl
      · rw [e]
        exact trivial)
    (g := F0 m pc ls (.int x :: .int dp :: .ref b :: .int sp :: .ref a :: st)) rfl (hL.1.trans C.2.2.1.symm) (rest := st) rfl (by rw [C.2.1]; exact hd) (Nat.le_of_ble_eq_true hf) (by show 2 * 0 + _ + _ ≤ 36 * X.2.2.2.2.1; omega)
  have e1 : copied (vp_cell (D.2.2.1 1) (n0, .inr (.inl f))) (vp_cell (D.2.2.1 1) (n1, .inr (.inl g))) sp dp x = vp_cell (D.2.2.1 1) (n1, .inr (.inl (va_cpy f g sp.toNatClampNeg dp.toNatClampNeg x.toNatClampNeg))) := va_copied (fun z => .long z) (D.2.2.1 1) (D.2.2.1 1) f g h4
  rw [e1] at X' step
  have hl : b < H.size := (Array.getElem?_eq_some_iff.mp hc1).1
  generalize hcell : vp_cell (D.2.2.1 1) (n1, .inr (.inl (va_cpy f g sp.toNatClampNeg dp.toNatClampNeg x.toNatClampNeg))) = cellN at X' step
  have hheap : ((T.setVm vm').setCell b cellN).heap = H.setIfInBounds b cellN := by rw [← hT]; rfl
  have oq : ∀ q : Nat, q ≠ b → (H.setIfInBounds b cellN)[q]? = H[q]? := fun q hq => by simp [Array.getElem?_setIfInBounds, Ne.symm hq]
  obtain ⟨t, a1, b1⟩ := k p l e s m args below meth c (H.setIfInBounds b cellN) _ ls C hL (hV.set (e := zJ n1 (va_cpy f g sp.toNatClampNeg dp.toNatClampNeg x.toNatClampNeg)) (show (H.setIfInBounds b cellN)[b]? = some _ by rw [← hcell]; simp [Array.getElem?_setIfInBounds, hl]) oq) (by simp; exact hz) ⟨by simp; exact hS.1, fun q g1 g2 => by
      rw [oq q (fun e => g2 (by rw [e]; exact hB))]
      exact hS.2.1 q g1 g2, fun q hq => by
      rcases List.mem_append.mp hq with h | h
      · exact hS.2.2 q h
      · obtain ⟨z, -, hz⟩ := List.mem_map.mp h
        rw [← hz]
        exact hB⟩ _ hheap X'
  exact ⟨t, step t a1, b1⟩
theorem z_copyJs {b n1 : Nat} {g : Nat → Int64} {sp dp x : Int32} (hd : zdec X pc = .ok (.invokestatic idx, 3)) (hw : zCp X.1.cls idx) (hb : h b = some (zJ n1 g)) (hB : B ≤ b) (h1 : ¬ sp < 0) (h2 : ¬ dp < 0) (h3 : ¬ x < 0) (h4 : sp.toNatClampNeg + x.toNatClampNeg ≤ n1) (h5 : dp.toNatClampNeg + x.toNatClampNeg ≤ n1) (hf : Nat.ble 1 X.2.2.2.2.1 = true) (hlo : Nat.ble ((st.map fun v => v.category).sum + (nativeFrameWords "java/lang/System" "arraycopy" 5 + 11)) (36 * X.2.2.2.2.1) = true)
    (k : Z D B X cs ss Q (pc + 3) L st (zup h b (zJ n1 (va_cpy g g sp.toNatClampNeg dp.toNatClampNeg x.toNatClampNeg))) sz) : Z D B X cs ss Q pc L (.int x :: .int dp :: .ref b :: .int sp :: .ref b :: st) h sz := by
  intro p l e s m args below meth c H locs ls C hL hV hz hS
  have hts := C.2.2.2.2.1
  have hK := C.2.2.2.2.2.2.2.1.1
  have nn : ∀ z : Int32, ¬ z < 0 → z.toInt = (z.toNatClampNeg : Int) := by
    intro z hz
    have hz0 : (0 : Int) ≤ z.toInt := by
      have := Int32.not_lt.mp hz
      simpa using Int32.le_iff_toInt_le.mp this
    show z.toInt = ((z.toInt.toNat : Nat) : Int)
    omega
  intro T hT Xs
  have hc0 : H[b]? = some (vp_cell (D.2.2.1 1) (n1, .inr (.inl g))) := hV b _ hb
  have hc1 : H[b]? = some (vp_cell (D.2.2.1 1) (n1, .inr (.inl g))) := hV b _ hb
  obtain ⟨-, k0, hk0, cm0, hkk0⟩ := (hK.2 1 (D.2.2.1 1, .long) rfl).1 n1 (fun j => .long (g j))
  obtain ⟨-, k1, hk1, cm1, hkk1⟩ := (hK.2 1 (D.2.2.1 1, .long) rfl).1 n1 (fun j => .long (g j))
  have hlo2 := Nat.le_of_ble_eq_true hlo
  obtain ⟨vm', X', step⟩ := Xs.arraycopy C.1 C.2.2.2.1 (hts _ hw.1) (hts _ hw.2.1) (hts _ hw.2.2.1) (hts _ hw.2.2.2) (src := b) (dst := b) (cs := vp_cell (D.2.2.1 1) (n1, .inr (.inl g))) (cd := vp_cell (D.2.2.1 1) (n1, .inr (.inl g))) (srcPos := sp) (destPos := dp) (n := x) (by rw [hT]; exact hc0) (by rw [hT]; exact hc1)
    (fun _ h => by cases h) (fun _ h => by cases h) (fun h => by cases h) (fun h => by cases h) hk0 hk1 hkk0 hkk1 rfl h1 h2 h3
    (by rw [nn sp h1, nn x h3]; show ¬ _ > ((arrV (D.2.2.1 1) n1 (fun j => .long (g j))).slots.size : Int); rw [arrV_size]; omega)
    (by rw [nn dp h2, nn x h3]; show ¬ _ > ((arrV (D.2.2.1 1) n1 (fun j => .long (g j))).slots.size : Int); rw [arrV_size]; omega)
    (fun vm₁ _ i hi => by
      have e : (vp_cell (D.2.2.1 1) (n1, .inr (.inl g))).slots.getD (sp.toNatClampNeg + i) .null = .long (g (sp.toNatClampNeg + i)) := by
        show (arrV (D.2.2.1 1) n1 (fun j => .long (g j))).slots.getD _ _ = _
        rw [Array.getD_eq_getD_getElem?, arrV_read _ _ (by omega)]
        rfl
      refine ⟨?_, ?_⟩
      · rw [e]
        rfl
      · rw [e]
        exact trivial)
    (g := F0 m pc ls (.int x :: .int dp :: .ref b :: .int sp :: .ref b :: st)) rfl (hL.1.trans C.2.2.1.symm) (rest := st) rfl (by rw [C.2.1]; exact hd) (Nat.le_of_ble_eq_true hf) (by show 2 * 0 + _ + _ ≤ 36 * X.2.2.2.2.1; omega)
  have e1 : copied (vp_cell (D.2.2.1 1) (n1, .inr (.inl g))) (vp_cell (D.2.2.1 1) (n1, .inr (.inl g))) sp dp x = vp_cell (D.2.2.1 1) (n1, .inr (.inl (va_cpy g g sp.toNatClampNeg dp.toNatClampNeg x.toNatClampNeg))) := va_copied (fun z => .long z) (D.2.2.1 1) (D.2.2.1 1) g g h4
  rw [e1] at X' step
  have hl : b < H.size := (Array.getElem?_eq_some_iff.mp hc1).1
  generalize hcell : vp_cell (D.2.2.1 1) (n1, .inr (.inl (va_cpy g g sp.toNatClampNeg dp.toNatClampNeg x.toNatClampNeg))) = cellN at X' step
  have hheap : ((T.setVm vm').setCell b cellN).heap = H.setIfInBounds b cellN := by rw [← hT]; rfl
  have oq : ∀ q : Nat, q ≠ b → (H.setIfInBounds b cellN)[q]? = H[q]? := fun q hq => by simp [Array.getElem?_setIfInBounds, Ne.symm hq]
  obtain ⟨t, a1, b1⟩ := k p l e s m args below meth c (H.setIfInBounds b cellN) _ ls C hL (hV.set (e := zJ n1 (va_cpy g g sp.toNatClampNeg dp.toNatClampNeg x.toNatClampNeg)) (show (H.setIfInBounds b cellN)[b]? = some _ by rw [← hcell]; simp [Array.getElem?_setIfInBounds, hl]) oq) (by simp; exact hz) ⟨by simp; exact hS.1, fun q g1 g2 => by
      rw [oq q (fun e => g2 (by rw [e]; exact hB))]
      exact hS.2.1 q g1 g2, fun q hq => by
      rcases List.mem_append.mp hq with h | h
      · exact hS.2.2 q h
      · obtain ⟨z, -, hz⟩ := List.mem_map.mp h
        rw [← hz]
        exact hB⟩ _ hheap X'
  exact ⟨t, step t a1, b1⟩
end ZN
