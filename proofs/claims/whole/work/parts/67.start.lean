/-! THE CLAIM OUT OF ONE WALK OF THE LAW'S BODY. Your part is whole_start (and what it stands on); all else here is the same for every law, but numbers. -/
def R_law : String := "ReadOutAlongTheWayLaw"
def lw_P (b : Addr) (xs : List Int32) (args : Array Value) (s : State) : Prop := args = #[.ref b] ∧ s.IntsAt b xs ∧ xs.length ≤ 3072 ∧ (Jvm.Cond.and given_1 narrow_1).before args s = true
def lw_Q (_ : Array Value) (s : State) (o : Outcome) (t : State) : Prop := o = .returned (some (.int 1)) ∧ Framed s o t [] 600000 7302250
def lw_Z (below : List Frame) (a : Array Value) (s : State) : State → Prop := fun t => ∃ o, t.status = .running ∧ Ended t below o ∧ lw_Q a s o t
/-- the law's own end, with 1 on the stack, nothing written that was there before, its room as the claim has it -/
theorem lw_ret {p : Program} {l : Launch} {e : Env} {s : State} {m : MethodId} {below : List Frame} {meth : Method} {c : Code} {b : Nat} (hx : p.tables.exec = Jvm.exec) (hb : c.code = code) (hr : meth.sig.returnType = ret) (hlocks : meth.locks = false) {pc : Nat} {H : Heap} {ls : Array Slot} (hdg : decode code pc = .ok (.ireturn, 1)) : W p l e room_1 s m #[Value.ref b] below meth c H [] 600000 7302250 (lw_Z below #[Value.ref b] s) (F0 m pc ls [.int 1]) := by
  intro T hT X
  obtain ⟨fs, hret, hrun, hended, hW, hframe⟩ := X.leave (v := some (.int 1)) (hlocks := hlocks) (fun h => by rw [hr] at h; cases h)
  have hmeth' : T.vm.method? m = some meth := X.method'
  refine ⟨T.setFrames fs, ?_, .returned (some (.int 1)), hrun, hended, rfl, ⟨_, rfl⟩, hW, hframe⟩
  jvm_step X.here [X.here.top, hx, hb, hdg, hmeth', hr, ret, narrow_b1]
  (try refine ⟨rfl, ?_⟩); (try refine ⟨rfl, ?_⟩)
  first | (intro acts; rw [hret _ acts rfl rfl rfl]) | rw [hret _ _ rfl rfl rfl]
  exact Steps.refl _
/-- what holds at the law's entry: the machine, the code, the tables' words (any of lw_tbl by 'hts w (by decide +kernel)'), the script of L ints xs at the cell b, what the Statement gives of the start (any of its parts by flat_of_before) -/
def lw_At (p : Program) (s : State) (m : MethodId) (meth : Method) (c : Code) (b L : Nat) (xs : Nat → Int32) : Prop :=
  p.tables.exec = Jvm.exec ∧ c.code = code ∧ meth.sig.returnType = ret ∧ c.maxLocals = 4 ∧ s.vm.findClass R_law = some m.cls ∧ (∀ w ∈ lw_tbl, w.before #[Value.ref b] s = true) ∧ va_X b L xs s s.heap ∧ b < s.heap.size ∧ meth.locks = false ∧ (Jvm.Cond.and given_1 narrow_1).before #[Value.ref b] s = true
/-! ===== what is known where the law begins ===== -/
theorem st_kn {s : State} {args : Array Value} (hts : ∀ w ∈ zT, w.before args s = true) {own : String} {idx ci : Nat} (hw : zNw own idx ci) : ∃ (cC : ClassId) (iS : Nat → Nat), ∀ q, vwCl[ci]? = some q → u_Kn s q.1 q.2.1 q.2.2 cC iS := by
  obtain ⟨q, hq, w1, w2, w3⟩ := hw
  obtain ⟨cC, iS, h⟩ := u_known hts (fun w hw => zIn hq w hw) (hts _ w2)
  exact ⟨cC, iS, fun q1 h1 => by rw [hq] at h1; cases h1; exact h⟩
theorem st_ar {s : State} {args : Array Value} {ty : FieldType} (h : (Cond.arrayClass ty).before args s = true) : ∃ cA, ArrOfT s cA ty ∧ s.vm.findClass ("[" ++ ty.toString) = some cA := by
  obtain ⟨c, k, comp, h1, h2, h3⟩ := Cond.arrayClass_spec h
  exact ⟨c, fun n z => ⟨fun q hq => (by cases hq), k, h2, comp, h3⟩, h1⟩
/-- words of the tables, by their places -/
def wChk (ps : List Nat) (ws : List Cond) : Bool := decide (ps.filterMap (fun i => lw_tbl[i]?) = ws)
theorem wChk_ok {ps : List Nat} {ws : List Cond} (h : wChk ps ws = true) : ∀ w ∈ ws, w ∈ lw_tbl := by
  unfold wChk at h
  rw [decide_eq_true_eq] at h
  intro w hw
  rw [← h] at hw
  obtain ⟨i, -, hi⟩ := List.mem_filterMap.mp hw
  exact List.mem_of_getElem? hi
def gF : List Cond := flatC (Jvm.Cond.and given_1 narrow_1)
def tmS (i : Nat) : Term := .string "ReadOutAlongTheWay$Tape" ([46, 55, 60, 70, 74, 79, 84, 89].getD i 0)
def tmM (i : Nat) : Term := .string "ReadOutAlongTheWayModel" ([198, 199, 191, 204, 196, 208, 209, 211].getD i 0)
abbrev tmU : Term := .static "ReadOutAlongTheWay" "UNDER" "[I"
abbrev tmV (i : Nat) : Term := .field (tmS i) "java/lang/String" "value" "[B"
theorem g_ex : ∀ i : Nat, i < 8 → Cond.exactly (tmS i) "java/lang/String" ∈ gF := by decide +kernel
theorem g_co : ∀ i : Nat, i < 8 → Cond.eq (.field (tmS i) "java/lang/String" "coder" "B") (.int 0) ∈ gF := by decide +kernel
theorem g_ar : ∀ i : Nat, i < 8 → Cond.arrayOf (tmV i) .byte ∈ gF := by decide +kernel
theorem g_le : ∀ i : Nat, i < 8 → Cond.eq (.length (tmV i)) (.int (Int32.ofNat (zLen.getD i 0))) ∈ gF := by decide +kernel
theorem g_el : ∀ i : Nat, i < 8 → ∀ j : Nat, j < zLen.getD i 0 → Cond.eq (.elem (tmV i) (.int (Int32.ofNat j))) (.int ((zByt.getD i []).getD j 0)) ∈ gF := by decide +kernel
theorem g_ne : ∀ i : Nat, i < 8 → ∀ j : Nat, j < 8 → i ≠ j → (Cond.not (Cond.eq (tmS i) (tmS j)) ∈ gF ∨ Cond.not (Cond.eq (tmS j) (tmS i)) ∈ gF) := by decide +kernel
theorem g_eq : ∀ i : Nat, i < 8 → Cond.eq (tmS i) (tmM i) ∈ gF := by decide +kernel
theorem g_u : ∀ j : Nat, j < 6 → Cond.eq (.elem tmU (.int (Int32.ofNat j))) (.int (underF j)) ∈ gF := by decide +kernel
theorem g_o : ∀ w ∈ [Cond.arrayOf tmU .int, Cond.eq (.length tmU) (.int (Int32.ofNat 6)), Cond.eq (.static "java/lang/String" "COMPACT_STRINGS" "Z") (.int 1), Cond.isRef (.static "jdk/internal/util/Preconditions" "SIOOBE_FORMATTER" "Ljava/util/function/BiFunction;")], w ∈ gF := by decide +kernel
theorem w_st : ∀ q ∈ zSt, Cond.stringRef q.1 q.2.1 q.2.2.1 ∈ lw_tbl := by decide +kernel
theorem w_ns : ∀ q ∈ zNs, Cond.methodLinkNest q.1 q.2.1 q.2.2.1 q.2.2.2 ∈ lw_tbl := by decide +kernel
theorem w_o : ∀ w ∈ [Cond.laysStatic "ReadOutAlongTheWay" "UNDER" "[I", Cond.initialized "ReadOutAlongTheWay", Cond.laysStatic "java/lang/String" "COMPACT_STRINGS" "Z", Cond.initialized "java/lang/String", Cond.laysStatic "jdk/internal/util/Preconditions" "SIOOBE_FORMATTER" "Ljava/util/function/BiFunction;", Cond.initialized "jdk/internal/util/Preconditions", Cond.arrayClass .int, Cond.arrayClass .long, Cond.arrayClass .boolean, Cond.arrayOver (.object RX2), Cond.arrayOver (.array .long)], w ∈ lw_tbl := by decide +kernel
theorem tm_st : ∀ q ∈ zSt, Term.string q.1 q.2.1 = tmS q.2.2.2 ∧ q.2.2.2 < 8 ∨ Term.string q.1 q.2.1 = tmM q.2.2.2 ∧ q.2.2.2 < 8 := by decide +kernel
set_option maxHeartbeats 4000000 in
theorem st_zK {p : Program} {s : State} {m : MethodId} {meth : Method} {c : Code} {b L : Nat} {xs : Nat → Int32} (C0 : lw_At p s m meth c b L xs) : ∃ D : zD, zK D s.heap.size s ∧ D.2.2.2.2.2.2 = (b, L, xs) := by
  obtain ⟨-, -, -, -, -, htw, hX, hbl, -, hgv⟩ := C0
  have hg : ∀ w ∈ gF, w.before #[Value.ref b] s = true := flat_of_before _ hgv
  have hts : ∀ w ∈ zT, w.before #[Value.ref b] s = true := fun w hw => htw w (List.mem_filter.mp hw).1
  have hA : ∀ a : Nat, a < s.heap.size → ¬ (fun q : Nat => s.heap.size ≤ q) a := fun a ha => Nat.not_le.mpr ha
  obtain ⟨c0, i0, h0⟩ := st_kn hts nwX4_19
  obtain ⟨c1, i1, h1⟩ := st_kn hts nwX4_7
  obtain ⟨c2, i2, h2⟩ := st_kn hts nwX4_26
  obtain ⟨c3, i3, h3⟩ := st_kn hts nwX4_33
  obtain ⟨c4, i4, h4⟩ := st_kn hts nwL_7
  obtain ⟨c5, i5, h5⟩ := st_kn hts nwL_10
  obtain ⟨a0, ha0, hb0⟩ := st_ar (htw (Cond.arrayClass .int) (w_o _ (by simp)))
  obtain ⟨a1, ha1, hb1⟩ := st_ar (htw (Cond.arrayClass .long) (w_o _ (by simp)))
  obtain ⟨a2, ha2, hb2⟩ := st_ar (htw (Cond.arrayClass .boolean) (w_o _ (by simp)))
  have hov := htw (Cond.arrayOver (.object RX2)) (w_o _ (by simp))
  have hoa := htw (Cond.arrayOver (.array .long)) (w_o _ (by simp))
  obtain ⟨p3, a3, k3, f1, -, f2, f3, f4⟩ := Cond.arrayOver_spec hov
  obtain ⟨p4, a4, k4, e1, -, e2, e3, e4⟩ := arrayOverA_spec hoa
  obtain ⟨t, ht, hT⟩ := va_Tof (N := 6) (f := fun j => .int (underF j)) (A := fun q => s.heap.size ≤ q) (by decide) (hg (Cond.arrayOf tmU .int) (g_o _ (by simp))) (va_eqt (hg (Cond.eq (.length tmU) (.int (Int32.ofNat 6))) (g_o _ (by simp)))) (fun j hj => va_eqt (hg _ (g_u j hj))) hA
  obtain ⟨adK, adV, hSt, hev⟩ := vk_Sof (N := 8) (tm := tmS) (len := zLen) (byt := zByt) (A := fun q => s.heap.size ≤ q) (by decide) (fun i hi => hg _ (g_ex i hi)) (fun i hi => hg _ (g_co i hi)) (fun i hi => hg _ (g_ar i hi)) (fun i hi => hg _ (g_le i hi)) (fun i hi j hj => hg _ (g_el i hi j hj)) (fun i j hi hj hij => (g_ne i hi j hj hij).imp (fun h => hg _ h) (fun h => hg _ h)) hA
  refine ⟨(fun k => if k = 0 then c0 else if k = 1 then c1 else if k = 2 then c2 else if k = 3 then c3 else if k = 4 then c4 else c5, fun k => if k = 0 then i0 else if k = 1 then i1 else if k = 2 then i2 else if k = 3 then i3 else if k = 4 then i4 else i5, fun k => if k = 0 then a0 else if k = 1 then a1 else if k = 2 then a2 else if k = 3 then a3 else a4, adK, adV, t, b, L, xs), ⟨⟨fun k q hq => ?_, fun k q hq => ?_⟩, ?_, ⟨?_, ?_, hT, hX, hbl, Nat.not_le.mpr hbl⟩, hSt, fun q hq => ?_, fun q hq => ?_, hov, hoa⟩, rfl⟩
  · match k, hq with
    | 0, hq => exact h0 q hq
    | 1, hq => exact h1 q hq
    | 2, hq => exact h2 q hq
    | 3, hq => exact h3 q hq
    | 4, hq => exact h4 q hq
    | 5, hq => exact h5 q hq
    | k + 6, hq => simp at hq
  · match k, hq with
    | 0, hq => cases hq; exact ⟨ha0, hb0⟩
    | 1, hq => cases hq; exact ⟨ha1, hb1⟩
    | 2, hq => cases hq; exact ⟨ha2, hb2⟩
    | 3, hq => cases hq; exact ⟨fun n z => ⟨fun q hq => (by cases hq), k3, f2, p3, f3⟩, k3, p3, f2, f3, f1, f4⟩
    | 4, hq => cases hq; exact ⟨fun n z => ⟨fun q hq => (by cases hq), k4, e2, p4, e3⟩, e4⟩
    | k + 5, hq => simp [zTys] at hq
  · exact va_Zref (htw (Cond.laysStatic "ReadOutAlongTheWay" "UNDER" "[I") (w_o _ (by simp))) (htw (Cond.initialized "ReadOutAlongTheWay") (w_o _ (by simp))) ht hA
  · exact va_Zof (htw (Cond.laysStatic "java/lang/String" "COMPACT_STRINGS" "Z") (w_o _ (by simp))) (htw (Cond.initialized "java/lang/String") (w_o _ (by simp))) (va_eqt (hg _ (g_o _ (by simp)))) hA
  · exact va_Zqof (htw (Cond.laysStatic "jdk/internal/util/Preconditions" "SIOOBE_FORMATTER" "Ljava/util/function/BiFunction;") (w_o _ (by simp))) (htw (Cond.initialized "jdk/internal/util/Preconditions") (w_o _ (by simp))) (hg _ (g_o _ (by simp))) hA
  · refine vk_R.of (htw _ (w_st q hq)) ?_
    rcases tm_st q hq with ⟨e, hi⟩ | ⟨e, hi⟩
    · rw [e]; exact hev _ hi
    · rw [e]; exact va_eqR (hg _ (g_eq _ hi)) (hev _ hi)
  · exact va_Nw.of rfl (htw _ (w_ns q hq))
/-- nothing that was there before is written -/
theorem lw_fr {s s1 : State} {L : List Loc} {k n : Nat} (h : s.sameButNew s1 L k n) (hL : ∀ q ∈ L, s.heap.size ≤ q.base) : s.sameButNew s1 [] k n := by
  obtain ⟨h1, h2, h3, h4, h5, h6⟩ := h
  refine ⟨h1, h2, h3, h4, h5, fun a c ha => ?_⟩
  obtain ⟨c1, a1, a2, a3, a4⟩ := h6 a c ha
  exact ⟨c1, a1, a2, a3, fun i _ => a4 i (fun hm => absurd (hL _ hm) (Nat.not_le.mpr (Array.getElem?_eq_some_iff.mp ha).1))⟩
theorem whole_start {p : Program} {e : Env} {s : State} {m : MethodId} {below : List Frame} {meth : Method} {c : Code} (l : Launch) {b L : Nat} {xs : Nat → Int32} (hL : L ≤ 3072) (C0 : lw_At p s m meth c b L xs) (hnm : meth.name = x.name) : W p l e room_1 s m #[Value.ref b] below meth c s.heap [] 0 0 (lw_Z below #[Value.ref b] s) (entryFrame m ([Value.ref b] : List Value).toArray 4) := by
  obtain ⟨D, hK, hD⟩ := st_zK C0
  obtain ⟨hx, hb, hr, hml, hown, htw, hX, hbl, hlocks, hgv⟩ := C0
  have hts : ∀ w ∈ zT, w.before #[Value.ref b] s = true := fun w hw => htw w (List.mem_filter.mp hw).1
  have hl0 := lv_entry ([.ref b]) (n := 4) (Nat.le_of_ble_eq_true rfl)
  rw [lg_entry_eq]
  generalize (lg_sl ([.ref b]) ++ List.replicate (4 - (lg_sl ([.ref b])).length) Slot.unset).toArray = ls at hl0 ⊢
  have hb1 : D.2.2.2.2.2.2.1 = b := by rw [hD]
  have hL1 : D.2.2.2.2.2.2.2.1 ≤ 3072 := by rw [hD]; exact hL
  have K := law_Z (D := D) (B := s.heap.size) hL1 p l e s m #[Value.ref b] below meth c s.heap [] ls ⟨hx, hb, hml, hown, hts, hlocks, hr, hK, hnm, Nat.le_refl _⟩ ⟨hl0.1, hl0.2.1, fun q hq => ?_⟩ (fun a e he => by cases he) rfl va_S.rf
  · intro T hT X
    obtain ⟨t, s1, o, r1, r2, ⟨⟨r, h1, q1, q2, q3⟩, q4⟩, L1, ⟨f1, f2, f3⟩, f4⟩ := K T hT X
    refine ⟨t, s1, o, r1, r2, ?_, f1, f2, lw_fr f3 f4⟩
    rw [q1, show r = some (.int 1) from q2]
  · obtain ⟨j, u⟩ := q
    have hj := zls_mem.mp hq
    match j, hj with
    | 0, hj =>
      cases hj
      rw [hb1]
      exact hl0.2.2 (0, .ref b) (.head _)
    | 1, hj => cases hj
    | 2, hj => cases hj
    | 3, hj => cases hj
    | j + 4, hj => simp at hj
