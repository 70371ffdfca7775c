/-! ===== the view of the heap: addresses to what lies there ===== -/
abbrev zE : Type := (Nat × vp_A) ⊕ (Nat × List Value)
abbrev zH : Type := Nat → Option zE
/-- class ids, slots, array classes by kind, the text constants' addresses, their bytes' addresses, UNDER's address -/
abbrev zD : Type := (Nat → ClassId) × (Nat → Nat → Nat) × (Nat → ClassId) × (Nat → Nat) × (Nat → Nat) × (Nat × Nat × Nat × (Nat → Int32))
abbrev zI (n : Nat) (f : Nat → Int32) : zE := .inl (0, n, .inl f)
abbrev zJ (n : Nat) (f : Nat → Int64) : zE := .inl (1, n, .inr (.inl f))
abbrev zBo (n : Nat) (f : Nat → Int32) : zE := .inl (2, n, .inl f)
abbrev zRf (k n : Nat) (f : Nat → Option Nat) : zE := .inl (k, n, .inr (.inr (.inr (.inr f))))
abbrev zO (c : Nat) (fs : List Value) : zE := .inr (c, fs)
def zc (D : zD) : zE → va_E
  | .inl (k, a) => .inl (D.2.2.1 k, a)
  | .inr q => .inr q
def zTys (D : zD) : List (ClassId × FieldType) := [(D.2.2.1 0, .int), (D.2.2.1 1, .long), (D.2.2.1 2, .boolean), (D.2.2.1 3, .object RX2), (D.2.2.1 4, .array .long)]
def zV (D : zD) (h : zH) (H : Heap) : Prop := ∀ (a : Nat) (e : zE), h a = some e → va_at (D.1, D.2.1) vwCl (a, zc D e) H
def zup (h : zH) (a : Nat) (e : zE) : zH := fun q => if q = a then some e else h q
theorem zup_s {h : zH} {a : Nat} {e : zE} : zup h a e a = some e := if_pos rfl
theorem zup_n {h : zH} {a b : Nat} {e : zE} (hn : b ≠ a) : zup h a e b = h b := if_neg hn
theorem zup_zup {h : zH} {a : Nat} {e e2 : zE} : zup (zup h a e) a e2 = zup h a e2 := by
  funext q
  by_cases hq : q = a <;> simp [zup, hq]
theorem zup_id {h : zH} {a : Nat} {e : zE} (he : h a = some e) : zup h a e = h := by
  funext q
  by_cases hq : q = a
  · subst hq; simp [zup, he]
  · simp [zup, hq]
theorem zV.lt {D : zD} {h : zH} {H : Heap} (hV : zV D h H) {a : Nat} {e : zE} (he : h a = some e) : a < H.size := va_at.lt (hV a e he)
theorem zV.set {D : zD} {h : zH} {H H1 : Heap} {a : Nat} {e : zE} (hV : zV D h H) (he : va_at (D.1, D.2.1) vwCl (a, zc D e) H1) (oq : ∀ q : Nat, q ≠ a → H1[q]? = H[q]?) : zV D (zup h a e) H1 := by
  intro b e2 hb
  by_cases hq : b = a
  · subst hq
    rw [zup_s] at hb
    cases hb
    exact he
  · rw [zup_n hq] at hb
    exact va_at.kept (hV b e2 hb) (oq b hq)
/-! ===== what is known of the state, wherever a method begins ===== -/
def zT : List Cond := lw_tbl.filter goodWord
def zLen : List Nat := [6, 6, 4, 5, 4, 4, 4, 5]
def zByt : List (List Int32) := [[104, 111, 117, 115, 101, 115], [108, 101, 116, 116, 101, 114], [119, 105, 110, 100], [100, 114, 105, 110, 107], [99, 111, 100, 101], [99, 111, 108, 100], [98, 97, 99, 107], [102, 111, 114, 116, 104]]
def zSt : List (String × Nat × String × Nat) := [("ReadOutAlongTheWay$Tape", 46, "houses", 0), ("ReadOutAlongTheWay$Tape", 55, "letter", 1), ("ReadOutAlongTheWay$Tape", 60, "wind", 2), ("ReadOutAlongTheWay$Tape", 70, "drink", 3), ("ReadOutAlongTheWay$Tape", 74, "code", 4), ("ReadOutAlongTheWay$Tape", 79, "cold", 5), ("ReadOutAlongTheWay$Tape", 84, "back", 6), ("ReadOutAlongTheWay$Tape", 89, "forth", 7), ("ReadOutAlongTheWayModel", 198, "houses", 0), ("ReadOutAlongTheWayModel", 199, "letter", 1), ("ReadOutAlongTheWayModel", 191, "wind", 2), ("ReadOutAlongTheWayModel", 204, "drink", 3), ("ReadOutAlongTheWayModel", 196, "code", 4), ("ReadOutAlongTheWayModel", 208, "cold", 5), ("ReadOutAlongTheWayModel", 209, "back", 6), ("ReadOutAlongTheWayModel", 211, "forth", 7)]
def zNs : List (String × Nat × MethodName × String) := [("ReadOutAlongTheWay", 9, ⟨"ReadOutAlongTheWay$Lane", "<init>", "()V"⟩, "ReadOutAlongTheWay"), ("ReadOutAlongTheWay", 21, ⟨"ReadOutAlongTheWay$Guess", "<init>", "()V"⟩, "ReadOutAlongTheWay"), ("ReadOutAlongTheWay$Guess", 11, ⟨"ReadOutAlongTheWay$Lane", "<init>", "()V"⟩, "ReadOutAlongTheWay"), ("ReadOutAlongTheWay", 32, ⟨"ReadOutAlongTheWay$Shelf", "<init>", "()V"⟩, "ReadOutAlongTheWay"), ("ReadOutAlongTheWay", 35, ⟨"ReadOutAlongTheWay$Tape", "<init>", "()V"⟩, "ReadOutAlongTheWay"), ("ReadOutAlongTheWay$Guess", 79, ⟨"ReadOutAlongTheWay", "asNumber", "(Z)I"⟩, "ReadOutAlongTheWay")]
def underF : Nat → Int32 := fun j => if j = 0 then -1 else if j = 1 then 0 else if j = 2 then 0 else if j = 3 then 1 else if j = 4 then 2 else 0
def zK (D : zD) (B : Nat) (U : State) : Prop := va_K (D.1, D.2.1) vwCl (zTys D) U ∧ va_Z "ReadOutAlongTheWay" "UNDER" "[I" (.ref D.2.2.2.2.2.1) (fun q => B ≤ q) U U.heap ∧ (va_Z "java/lang/String" "COMPACT_STRINGS" "Z" (.int 1) (fun q => B ≤ q) U U.heap ∧ va_Zq "jdk/internal/util/Preconditions" "SIOOBE_FORMATTER" "Ljava/util/function/BiFunction;" (fun q => B ≤ q) U U.heap ∧ va_T .int D.2.2.2.2.2.1 6 (fun j => .int (underF j)) (fun q => B ≤ q) U U.heap ∧ va_X D.2.2.2.2.2.2.1 D.2.2.2.2.2.2.2.1 D.2.2.2.2.2.2.2.2 U U.heap ∧ D.2.2.2.2.2.2.1 < U.heap.size ∧ ¬ B ≤ D.2.2.2.2.2.2.1) ∧ vk_S 8 zLen zByt D.2.2.2.1 D.2.2.2.2.1 (fun q => B ≤ q) U U.heap ∧ (∀ q ∈ zSt, vk_R q.1 q.2.1 q.2.2.1 (D.2.2.2.1 q.2.2.2) U) ∧ (∀ q ∈ zNs, va_Nw (.methodLinkNest q.1 q.2.1 q.2.2.1 q.2.2.2) U) ∧ va_AO RX2 U ∧ (Cond.arrayOver (.array .long)).before #[] U = true
theorem zK.go {D : zD} {B : Nat} {s U : State} {H : Heap} {locs : List Loc} (hK : zK D B s) (hS : va_S (fun q => B ≤ q) s.heap H locs) (hH : U.heap = H) (hW : s.WarmedH U.vm) : zK D B U := by
  obtain ⟨k1, k2, k3, k4, k5, k6, k7, k8⟩ := hK
  subst hH
  exact ⟨va_K.moved hW.alike k1, va_Z.moved hW.alike (va_Z.kept k2 hS.2.1), ⟨va_Z.moved hW.alike (va_Z.kept k3.1 hS.2.1), va_Zq.moved hW.alike (va_Zq.kept k3.2.1 hS.2.1), va_T.moved hW.alike (va_T.kept k3.2.2.1 hS.2.1), va_X.moved hW.alike (va_X.kept k3.2.2.2.1 (hS.2.1 _ k3.2.2.2.2.1 k3.2.2.2.2.2)), Nat.lt_of_lt_of_le k3.2.2.2.2.1 hS.1, k3.2.2.2.2.2⟩, vk_S.moved hW.alike (vk_S.kept k4 hS.2.1), fun q hq => vk_R.warm hW (k5 q hq), fun q hq => va_Nw.warmM hW (k6 q hq), va_AO.moved hW.alike k7, over_moved hW.alike k8⟩
theorem zK.blind {D : zD} {B : Nat} {U : State} {g : JFrame} {mk : MethodId} {a : Array Value} (hK : zK D B U) : zK D B (U.calling g mk a) := by
  obtain ⟨k1, k2, k3, k4, k5, k6, k7, k8⟩ := hK
  exact ⟨va_K.moved (u := U) (U := U.calling g mk a) (Vm.Alike.refl U.vm) k1, va_Z.moved (u := U) (U := U.calling g mk a) (Vm.Alike.refl U.vm) k2, ⟨va_Z.moved (u := U) (U := U.calling g mk a) (Vm.Alike.refl U.vm) k3.1, va_Zq.moved (u := U) (U := U.calling g mk a) (Vm.Alike.refl U.vm) k3.2.1, va_T.moved (u := U) (U := U.calling g mk a) (Vm.Alike.refl U.vm) k3.2.2.1, va_X.moved (u := U) (U := U.calling g mk a) (Vm.Alike.refl U.vm) k3.2.2.2.1, k3.2.2.2.2.1, k3.2.2.2.2.2⟩, vk_S.moved (u := U) (U := U.calling g mk a) (Vm.Alike.refl U.vm) k4, fun q hq => vk_R.same (u := U) (U := U.calling g mk a) rfl (k5 q hq), fun q hq => va_Nw.same (u := U) (U := U.calling g mk a) rfl rfl (k6 q hq), va_AO.moved (u := U) (U := U.calling g mk a) (Vm.Alike.refl U.vm) k7, over_moved (u := U) (E := U.calling g mk a) (Vm.Alike.refl U.vm) k8⟩
/-! ===== a method: name, code, locals, return type, depth, cells, slots ===== -/
abbrev zX : Type := MethodName × ByteArray × Nat × Option FieldType × Nat × Nat × Nat
def zdec (X : zX) (pc : Nat) : Except DecodeError (Instr × Nat) := decode X.2.1 pc
def zRoom (X : zX) : Room := { frames := X.2.2.2.2.1, cells := X.2.2.2.2.2.1, slots := X.2.2.2.2.2.2, locals := 36 * X.2.2.2.2.1 }
def zWs (X : zX) : List Cond := Cond.code X.1 X.2.1 X.2.2.1 X.2.2.2.1 :: zT
abbrev zQ : Type := Option Value → zH → Nat → Prop
def zPc (D : zD) (B : Nat) (as : List Value) (h : zH) (sz : Nat) : Array Value → State → Prop := fun v U => v = as.toArray ∧ zK D B U ∧ zV D h U.heap ∧ U.heap.size = sz ∧ B ≤ U.heap.size
def zQc (D : zD) (B : Nat) (Q : zQ) : Array Value → State → Outcome → State → Prop := fun _ st oc t => (∃ (r : Option Value) (h1 : zH), oc = .returned r ∧ Q r h1 t.heap.size ∧ zV D h1 t.heap) ∧ va_F (fun q => B ≤ q) st t
/-- the method X, called with these arguments where the heap is so, ends with Q -/
def zM (D : zD) (B : Nat) (X : zX) (as : List Value) (h : zH) (sz : Nat) (Q : zQ) : Prop := ∀ l : Launch, Met l X.1 (zWs X) (zRoom X) (zPc D B as h sz) (zQc D B Q) X.2.2.2.2.2.1 X.2.2.2.2.2.2 (fun q => B ≤ q)
def zC (D : zD) (B : Nat) (X : zX) (p : Program) (s : State) (m : MethodId) (args : Array Value) (meth : Method) (c : Code) : Prop := p.tables.exec = Jvm.exec ∧ c.code = X.2.1 ∧ c.maxLocals = X.2.2.1 ∧ s.vm.findClass X.1.cls = some m.cls ∧ (∀ w ∈ zT, w.before args s = true) ∧ meth.locks = false ∧ meth.sig.returnType = X.2.2.2.1 ∧ zK D B s ∧ meth.name = X.1.name ∧ B ≤ s.heap.size
def zls (L : List (Option Value)) : List (Nat × Value) := L.zipIdx.filterMap (fun q => q.1.map (fun v => (q.2, v)))
theorem zls_mem {L : List (Option Value)} {i : Nat} {v : Value} : (i, v) ∈ zls L ↔ L[i]? = some (some v) := by
  unfold zls
  rw [List.mem_filterMap]
  constructor
  · rintro ⟨⟨x, j⟩, h1, h2⟩
    cases x with
    | none => cases h2
    | some w =>
      cases h2
      exact List.mk_mem_zipIdx_iff_getElem?.mp h1
  · intro h
    exact ⟨(some v, i), List.mk_mem_zipIdx_iff_getElem?.mpr h, rfl⟩
abbrev zL (ls : Array Slot) (n : Nat) (L : List (Option Value)) : Prop := lv_has ls n (zls L)
theorem zL.at {ls : Array Slot} {n : Nat} {L : List (Option Value)} (h : zL ls n L) {i : Nat} {v : Value} (hi : L[i]? = some (some v)) : ls[i]? = some (.val v) := h.2.2 (i, v) (zls_mem.mpr hi)
/-- no long value lies just ahead of i -/
def zNo2 (L : List (Option Value)) : Nat → Bool
  | 0 => true
  | i + 1 => match L[i]? with
    | some (some v) => v.category == 1
    | _ => true
theorem zL.st1 {ls : Array Slot} {n : Nat} {L : List (Option Value)} {i : Nat} {v : Value} (hk : zNo2 L i = true) (h : lv_has ls n ((i, v) :: (zls L).filter (fun q => !(q.1 == i) && !(q.1 + 1 == i && q.2.category == 2)))) : zL ls n (L.set i (some v)) := by
  refine ⟨h.1, h.2.1, fun q hq => ?_⟩
  obtain ⟨j, u⟩ := q
  have hj := zls_mem.mp hq
  rw [List.getElem?_set] at hj
  by_cases e : i = j
  · subst e
    by_cases hl : i < L.length
    · simp only [hl, if_true] at hj
      cases hj
      exact h.2.2 (i, v) List.mem_cons_self
    · simp [hl] at hj
  · rw [if_neg e] at hj
    refine h.2.2 (j, u) (List.mem_cons_of_mem _ (List.mem_filter.mpr ⟨zls_mem.mpr hj, ?_⟩))
    have e1 : (j == i) = false := by simp; exact fun z => e z.symm
    rw [e1]
    by_cases e2 : j + 1 = i
    · subst e2
      simp only [zNo2, hj] at hk
      have : u.category = 1 := by simpa using hk
      simp [this]
    · simp [e2]
theorem zL.st2 {ls : Array Slot} {n : Nat} {L : List (Option Value)} {i : Nat} {v : Value} (hk : zNo2 L i = true) (h : lv_has ls n ((i, v) :: (zls L).filter (fun q => !(q.1 == i) && (!(q.1 == i + 1) && !(q.1 + 1 == i && q.2.category == 2))))) : zL ls n ((L.set i (some v)).set (i + 1) none) := by
  refine ⟨h.1, h.2.1, fun q hq => ?_⟩
  obtain ⟨j, u⟩ := q
  have hj := zls_mem.mp hq
  rw [List.getElem?_set, List.getElem?_set] at hj
  by_cases e0 : i + 1 = j
  · rw [if_pos e0] at hj
    split at hj <;> cases hj
  rw [if_neg e0] at hj
  by_cases e : i = j
  · subst e
    by_cases hl : i < L.length
    · simp only [hl, if_true] at hj
      cases hj
      exact h.2.2 (i, v) List.mem_cons_self
    · simp [hl] at hj
  · rw [if_neg e] at hj
    refine h.2.2 (j, u) (List.mem_cons_of_mem _ (List.mem_filter.mpr ⟨zls_mem.mpr hj, ?_⟩))
    have e1 : (j == i) = false := by simp; exact fun z => e z.symm
    have e3 : (j == i + 1) = false := by simp; exact fun z => e0 z.symm
    rw [e1, e3]
    by_cases e2 : j + 1 = i
    · subst e2
      simp only [zNo2, hj] at hk
      have : u.category = 1 := by simpa using hk
      simp [this]
    · simp [e2]
/-- THE WALK: at pc, with these locals, stack and heap, the method X comes to its end with Q -/
def Z (D : zD) (B : Nat) (X : zX) (cs ss : Nat) (Q : zQ) (pc : Nat) (L : List (Option Value)) (st : List Value) (h : zH) (sz : Nat) : Prop :=
  ∀ (p : Program) (l : Launch) (e : Env) (s : State) (m : MethodId) (args : Array Value) (below : List Frame) (meth : Method) (c : Code) (H : Heap) (locs : List Loc) (ls : Array Slot), zC D B X p s m args meth c → zL ls X.2.2.1 L → zV D h H → H.size = sz → va_S (fun q => B ≤ q) s.heap H locs →
    W p l e (zRoom X) s m args below meth c H locs cs ss (MQ below (zQc D B Q) args s X.2.2.2.2.2.1 X.2.2.2.2.2.2 (fun q => B ≤ q)) (F0 m pc ls st)

section ZR
variable {D : zD} {B : Nat} {X : zX} {cs ss : Nat} {Q : zQ} {pc : Nat} {L : List (Option Value)} {st : List Value} {h : zH} {sz : Nat}

theorem z_iconst {n : Int} {v : Int32} (hd : zdec X pc = .ok (.iconst n, 1)) (hv : Int32.ofInt n = v) (k : Z D B X cs ss Q (pc + 1) L (.int v :: st) h sz) : Z D B X cs ss Q pc L (st) h sz := by
  intro p l e s m args below meth c H locs ls C hL hV hz hS
  exact lv_iconst C.1 C.2.1 hd hv (k p l e s m args below meth c H locs ls C hL hV hz hS)

theorem z_bipush {n : Int} {v : Int32} (hd : zdec X pc = .ok (.bipush n, 2)) (hv : (Int8.ofInt n).toInt32 = v) (k : Z D B X cs ss Q (pc + 2) L (.int v :: st) h sz) : Z D B X cs ss Q pc L (st) h sz := by
  intro p l e s m args below meth c H locs ls C hL hV hz hS
  exact lv_bipush C.1 C.2.1 hd hv (k p l e s m args below meth c H locs ls C hL hV hz hS)

theorem z_sipush {n : Int} {v : Int32} (hd : zdec X pc = .ok (.sipush n, 3)) (hv : (Int16.ofInt n).toInt32 = v) (k : Z D B X cs ss Q (pc + 3) L (.int v :: st) h sz) : Z D B X cs ss Q pc L (st) h sz := by
  intro p l e s m args below meth c H locs ls C hL hV hz hS
  exact lv_sipush C.1 C.2.1 hd hv (k p l e s m args below meth c H locs ls C hL hV hz hS)

theorem z_lconst {n : Fin 2} {v : Int64} (hd : zdec X pc = .ok (.lconst n, 1)) (hv : Int64.ofNat (n : Nat) = v) (k : Z D B X cs ss Q (pc + 1) L (.long v :: st) h sz) : Z D B X cs ss Q pc L (st) h sz := by
  intro p l e s m args below meth c H locs ls C hL hV hz hS
  exact lv_lconst C.1 C.2.1 hd hv (k p l e s m args below meth c H locs ls C hL hV hz hS)

theorem z_iload_n {j : Fin 4} {x : Int32} (hd : zdec X pc = .ok (.iload_n j, 1)) (hl : L[(j : Nat)]? = some (some (.int x))) (k : Z D B X cs ss Q (pc + 1) L (.int x :: st) h sz) : Z D B X cs ss Q pc L (st) h sz := by
  intro p l e s m args below meth c H locs ls C hL hV hz hS
  exact lv_iload_n C.1 C.2.1 hd rfl (hL.at hl) (k p l e s m args below meth c H locs ls C hL hV hz hS)

theorem z_iload {i : Nat} {x : Int32} (hd : zdec X pc = .ok (.iload i, 2)) (hl : L[i]? = some (some (.int x))) (k : Z D B X cs ss Q (pc + 2) L (.int x :: st) h sz) : Z D B X cs ss Q pc L (st) h sz := by
  intro p l e s m args below meth c H locs ls C hL hV hz hS
  exact lv_iload C.1 C.2.1 hd (hL.at hl) (k p l e s m args below meth c H locs ls C hL hV hz hS)

theorem z_lload_n {j : Fin 4} {x : Int64} (hd : zdec X pc = .ok (.lload_n j, 1)) (hl : L[(j : Nat)]? = some (some (.long x))) (k : Z D B X cs ss Q (pc + 1) L (.long x :: st) h sz) : Z D B X cs ss Q pc L (st) h sz := by
  intro p l e s m args below meth c H locs ls C hL hV hz hS
  exact lv_lload_n C.1 C.2.1 hd rfl (hL.at hl) (k p l e s m args below meth c H locs ls C hL hV hz hS)

theorem z_lload {i : Nat} {x : Int64} (hd : zdec X pc = .ok (.lload i, 2)) (hl : L[i]? = some (some (.long x))) (k : Z D B X cs ss Q (pc + 2) L (.long x :: st) h sz) : Z D B X cs ss Q pc L (st) h sz := by
  intro p l e s m args below meth c H locs ls C hL hV hz hS
  exact lv_lload C.1 C.2.1 hd (hL.at hl) (k p l e s m args below meth c H locs ls C hL hV hz hS)

theorem z_aload_n {j : Fin 4} {x : Nat} (hd : zdec X pc = .ok (.aload_n j, 1)) (hl : L[(j : Nat)]? = some (some (.ref x))) (k : Z D B X cs ss Q (pc + 1) L (.ref x :: st) h sz) : Z D B X cs ss Q pc L (st) h sz := by
  intro p l e s m args below meth c H locs ls C hL hV hz hS
  exact lv_aload_n C.1 C.2.1 hd rfl (hL.at hl) (k p l e s m args below meth c H locs ls C hL hV hz hS)

theorem z_aload {i : Nat} {x : Nat} (hd : zdec X pc = .ok (.aload i, 2)) (hl : L[i]? = some (some (.ref x))) (k : Z D B X cs ss Q (pc + 2) L (.ref x :: st) h sz) : Z D B X cs ss Q pc L (st) h sz := by
  intro p l e s m args below meth c H locs ls C hL hV hz hS
  exact lv_aload C.1 C.2.1 hd (hL.at hl) (k p l e s m args below meth c H locs ls C hL hV hz hS)

theorem z_iadd {x y : Int32} (hd : zdec X pc = .ok (.iadd, 1)) (k : Z D B X cs ss Q (pc + 1) L (.int (x + y) :: st) h sz) : Z D B X cs ss Q pc L (.int y :: .int x :: st) h sz := by
  intro p l e s m args below meth c H locs ls C hL hV hz hS
  exact lv_iadd C.1 C.2.1 hd (k p l e s m args below meth c H locs ls C hL hV hz hS)

theorem z_isub {x y : Int32} (hd : zdec X pc = .ok (.isub, 1)) (k : Z D B X cs ss Q (pc + 1) L (.int (x - y) :: st) h sz) : Z D B X cs ss Q pc L (.int y :: .int x :: st) h sz := by
  intro p l e s m args below meth c H locs ls C hL hV hz hS
  exact lv_isub C.1 C.2.1 hd (k p l e s m args below meth c H locs ls C hL hV hz hS)

theorem z_imul {x y : Int32} (hd : zdec X pc = .ok (.imul, 1)) (k : Z D B X cs ss Q (pc + 1) L (.int (x * y) :: st) h sz) : Z D B X cs ss Q pc L (.int y :: .int x :: st) h sz := by
  intro p l e s m args below meth c H locs ls C hL hV hz hS
  exact lv_imul C.1 C.2.1 hd (k p l e s m args below meth c H locs ls C hL hV hz hS)

theorem z_iand {x y : Int32} (hd : zdec X pc = .ok (.iand, 1)) (k : Z D B X cs ss Q (pc + 1) L (.int (x &&& y) :: st) h sz) : Z D B X cs ss Q pc L (.int y :: .int x :: st) h sz := by
  intro p l e s m args below meth c H locs ls C hL hV hz hS
  exact lv_iand C.1 C.2.1 hd (k p l e s m args below meth c H locs ls C hL hV hz hS)

theorem z_ior {x y : Int32} (hd : zdec X pc = .ok (.ior, 1)) (k : Z D B X cs ss Q (pc + 1) L (.int (x ||| y) :: st) h sz) : Z D B X cs ss Q pc L (.int y :: .int x :: st) h sz := by
  intro p l e s m args below meth c H locs ls C hL hV hz hS
  exact lv_ior C.1 C.2.1 hd (k p l e s m args below meth c H locs ls C hL hV hz hS)

theorem z_ixor {x y : Int32} (hd : zdec X pc = .ok (.ixor, 1)) (k : Z D B X cs ss Q (pc + 1) L (.int (x ^^^ y) :: st) h sz) : Z D B X cs ss Q pc L (.int y :: .int x :: st) h sz := by
  intro p l e s m args below meth c H locs ls C hL hV hz hS
  exact lv_ixor C.1 C.2.1 hd (k p l e s m args below meth c H locs ls C hL hV hz hS)

theorem z_ishl {x y : Int32} (hd : zdec X pc = .ok (.ishl, 1)) (k : Z D B X cs ss Q (pc + 1) L (.int (x <<< (y &&& 31)) :: st) h sz) : Z D B X cs ss Q pc L (.int y :: .int x :: st) h sz := by
  intro p l e s m args below meth c H locs ls C hL hV hz hS
  exact lv_ishl C.1 C.2.1 hd (k p l e s m args below meth c H locs ls C hL hV hz hS)

theorem z_ishr {x y : Int32} (hd : zdec X pc = .ok (.ishr, 1)) (k : Z D B X cs ss Q (pc + 1) L (.int (x >>> (y &&& 31)) :: st) h sz) : Z D B X cs ss Q pc L (.int y :: .int x :: st) h sz := by
  intro p l e s m args below meth c H locs ls C hL hV hz hS
  exact lv_ishr C.1 C.2.1 hd (k p l e s m args below meth c H locs ls C hL hV hz hS)

theorem z_ladd {x y : Int64} (hd : zdec X pc = .ok (.ladd, 1)) (k : Z D B X cs ss Q (pc + 1) L (.long (x + y) :: st) h sz) : Z D B X cs ss Q pc L (.long y :: .long x :: st) h sz := by
  intro p l e s m args below meth c H locs ls C hL hV hz hS
  exact lv_ladd C.1 C.2.1 hd (k p l e s m args below meth c H locs ls C hL hV hz hS)

theorem z_lsub {x y : Int64} (hd : zdec X pc = .ok (.lsub, 1)) (k : Z D B X cs ss Q (pc + 1) L (.long (x - y) :: st) h sz) : Z D B X cs ss Q pc L (.long y :: .long x :: st) h sz := by
  intro p l e s m args below meth c H locs ls C hL hV hz hS
  exact lv_lsub C.1 C.2.1 hd (k p l e s m args below meth c H locs ls C hL hV hz hS)

theorem z_land {x y : Int64} (hd : zdec X pc = .ok (.land, 1)) (k : Z D B X cs ss Q (pc + 1) L (.long (x &&& y) :: st) h sz) : Z D B X cs ss Q pc L (.long y :: .long x :: st) h sz := by
  intro p l e s m args below meth c H locs ls C hL hV hz hS
  exact lv_land C.1 C.2.1 hd (k p l e s m args below meth c H locs ls C hL hV hz hS)

theorem z_lor {x y : Int64} (hd : zdec X pc = .ok (.lor, 1)) (k : Z D B X cs ss Q (pc + 1) L (.long (x ||| y) :: st) h sz) : Z D B X cs ss Q pc L (.long y :: .long x :: st) h sz := by
  intro p l e s m args below meth c H locs ls C hL hV hz hS
  exact lv_lor C.1 C.2.1 hd (k p l e s m args below meth c H locs ls C hL hV hz hS)

theorem z_idiv {x y : Int32} (hd : zdec X pc = .ok (.idiv, 1)) (hne : ¬ y = 0) (k : Z D B X cs ss Q (pc + 1) L (.int (x / y) :: st) h sz) : Z D B X cs ss Q pc L (.int y :: .int x :: st) h sz := by
  intro p l e s m args below meth c H locs ls C hL hV hz hS
  exact lv_idiv C.1 C.2.1 hd hne (k p l e s m args below meth c H locs ls C hL hV hz hS)

theorem z_irem {x y : Int32} (hd : zdec X pc = .ok (.irem, 1)) (hne : ¬ y = 0) (k : Z D B X cs ss Q (pc + 1) L (.int (x - x / y * y) :: st) h sz) : Z D B X cs ss Q pc L (.int y :: .int x :: st) h sz := by
  intro p l e s m args below meth c H locs ls C hL hV hz hS
  exact lv_irem C.1 C.2.1 hd hne (k p l e s m args below meth c H locs ls C hL hV hz hS)

theorem z_ineg {x : Int32} (hd : zdec X pc = .ok (.ineg, 1)) (k : Z D B X cs ss Q (pc + 1) L (.int (-x) :: st) h sz) : Z D B X cs ss Q pc L (.int x :: st) h sz := by
  intro p l e s m args below meth c H locs ls C hL hV hz hS
  exact lv_ineg C.1 C.2.1 hd (k p l e s m args below meth c H locs ls C hL hV hz hS)

theorem z_i2l {x : Int32} (hd : zdec X pc = .ok (.i2l, 1)) (k : Z D B X cs ss Q (pc + 1) L (.long x.toInt64 :: st) h sz) : Z D B X cs ss Q pc L (.int x :: st) h sz := by
  intro p l e s m args below meth c H locs ls C hL hV hz hS
  exact lv_i2l C.1 C.2.1 hd rfl (k p l e s m args below meth c H locs ls C hL hV hz hS)

theorem z_l2i {x : Int64} (hd : zdec X pc = .ok (.l2i, 1)) (k : Z D B X cs ss Q (pc + 1) L (.int x.toInt32 :: st) h sz) : Z D B X cs ss Q pc L (.long x :: st) h sz := by
  intro p l e s m args below meth c H locs ls C hL hV hz hS
  exact lv_l2i C.1 C.2.1 hd rfl (k p l e s m args below meth c H locs ls C hL hV hz hS)

theorem z_i2b {x : Int32} (hd : zdec X pc = .ok (.i2b, 1)) (k : Z D B X cs ss Q (pc + 1) L (.int x.toInt8.toInt32 :: st) h sz) : Z D B X cs ss Q pc L (.int x :: st) h sz := by
  intro p l e s m args below meth c H locs ls C hL hV hz hS
  exact lv_i2b C.1 C.2.1 hd rfl (k p l e s m args below meth c H locs ls C hL hV hz hS)

theorem z_i2s {x : Int32} (hd : zdec X pc = .ok (.i2s, 1)) (k : Z D B X cs ss Q (pc + 1) L (.int x.toInt16.toInt32 :: st) h sz) : Z D B X cs ss Q pc L (.int x :: st) h sz := by
  intro p l e s m args below meth c H locs ls C hL hV hz hS
  exact lv_i2s C.1 C.2.1 hd rfl (k p l e s m args below meth c H locs ls C hL hV hz hS)

theorem z_i2c {x : Int32} (hd : zdec X pc = .ok (.i2c, 1)) (k : Z D B X cs ss Q (pc + 1) L (.int (x.toUInt32 % 65536).toInt32 :: st) h sz) : Z D B X cs ss Q pc L (.int x :: st) h sz := by
  intro p l e s m args below meth c H locs ls C hL hV hz hS
  exact lv_i2c C.1 C.2.1 hd rfl (k p l e s m args below meth c H locs ls C hL hV hz hS)

theorem z_iushr {x y : Int32} (hd : zdec X pc = .ok (.iushr, 1)) (k : Z D B X cs ss Q (pc + 1) L (.int (x.toUInt32 >>> (y.toUInt32 &&& Int32.toUInt32 31)).toInt32 :: st) h sz) : Z D B X cs ss Q pc L (.int y :: .int x :: st) h sz := by
  intro p l e s m args below meth c H locs ls C hL hV hz hS
  exact lv_iushr C.1 C.2.1 hd rfl (k p l e s m args below meth c H locs ls C hL hV hz hS)

theorem z_lshl {x : Int64} {y : Int32} (hd : zdec X pc = .ok (.lshl, 1)) (k : Z D B X cs ss Q (pc + 1) L (.long (x <<< (y.toInt64 &&& 63)) :: st) h sz) : Z D B X cs ss Q pc L (.int y :: .long x :: st) h sz := by
  intro p l e s m args below meth c H locs ls C hL hV hz hS
  exact lv_lshl C.1 C.2.1 hd rfl (k p l e s m args below meth c H locs ls C hL hV hz hS)

theorem z_dup {v : Value} (hd : zdec X pc = .ok (.dup, 1)) (hc : v.category = 1) (k : Z D B X cs ss Q (pc + 1) L (v :: v :: st) h sz) : Z D B X cs ss Q pc L (v :: st) h sz := by
  intro p l e s m args below meth c H locs ls C hL hV hz hS
  exact lv_dup C.1 C.2.1 hd hc (k p l e s m args below meth c H locs ls C hL hV hz hS)

theorem z_pop {v : Value} (hd : zdec X pc = .ok (.pop, 1)) (hc : v.category = 1) (k : Z D B X cs ss Q (pc + 1) L (st) h sz) : Z D B X cs ss Q pc L (v :: st) h sz := by
  intro p l e s m args below meth c H locs ls C hL hV hz hS
  exact lv_pop C.1 C.2.1 hd hc (k p l e s m args below meth c H locs ls C hL hV hz hS)

theorem z_dup_x1 {u v : Value} (hd : zdec X pc = .ok (.dup_x1, 1)) (hc : v.category = 1) (hc2 : u.category = 1) (k : Z D B X cs ss Q (pc + 1) L (v :: u :: v :: st) h sz) : Z D B X cs ss Q pc L (v :: u :: st) h sz := by
  intro p l e s m args below meth c H locs ls C hL hV hz hS
  exact lv_dup_x1 C.1 C.2.1 hd hc hc2 (k p l e s m args below meth c H locs ls C hL hV hz hS)

theorem z_dup_x2 {t u v : Value} (hd : zdec X pc = .ok (.dup_x2, 1)) (hc : v.category = 1) (hc2 : u.category = 1) (hc3 : t.category = 1) (k : Z D B X cs ss Q (pc + 1) L (v :: u :: t :: v :: st) h sz) : Z D B X cs ss Q pc L (v :: u :: t :: st) h sz := by
  intro p l e s m args below meth c H locs ls C hL hV hz hS
  exact lv_dup_x2 C.1 C.2.1 hd hc hc2 hc3 (k p l e s m args below meth c H locs ls C hL hV hz hS)

theorem z_dup2 {u v : Value} (hd : zdec X pc = .ok (.dup2, 1)) (hc : v.category = 1) (hc2 : u.category = 1) (k : Z D B X cs ss Q (pc + 1) L (v :: u :: v :: u :: st) h sz) : Z D B X cs ss Q pc L (v :: u :: st) h sz := by
  intro p l e s m args below meth c H locs ls C hL hV hz hS
  exact lv_dup2_11 C.1 C.2.1 hd hc hc2 (k p l e s m args below meth c H locs ls C hL hV hz hS)

theorem z_null  (hd : zdec X pc = .ok (.aconst_null, 1)) (k : Z D B X cs ss Q (pc + 1) L (.null :: st) h sz) : Z D B X cs ss Q pc L (st) h sz := by
  intro p l e s m args below meth c H locs ls C hL hV hz hS
  exact lv_null C.1 C.2.1 hd (k p l e s m args below meth c H locs ls C hL hV hz hS)

theorem z_istore_n {j : Fin 4} {x : Int32} (hd : zdec X pc = .ok (.istore_n j, 1)) (hn : Nat.ble ((j : Nat) + 1) X.2.2.1 = true) (h2 : zNo2 L (j : Nat) = true) (k : Z D B X cs ss Q (pc + 1) (L.set (j : Nat) (some (.int x))) st h sz) : Z D B X cs ss Q pc L (.int x :: st) h sz := by
  intro p l e s m args below meth c H locs ls C hL hV hz hS
  exact lv_istore_n C.1 C.2.1 hd rfl hL (Nat.le_of_ble_eq_true hn) rfl (fun ls hl => k p l e s m args below meth c H locs ls C (zL.st1 h2 hl) hV hz hS)

theorem z_istore {i : Nat} {x : Int32} (hd : zdec X pc = .ok (.istore i, 2)) (hn : Nat.ble (i + 1) X.2.2.1 = true) (h2 : zNo2 L i = true) (k : Z D B X cs ss Q (pc + 2) (L.set i (some (.int x))) st h sz) : Z D B X cs ss Q pc L (.int x :: st) h sz := by
  intro p l e s m args below meth c H locs ls C hL hV hz hS
  exact lv_istore C.1 C.2.1 hd hL (Nat.le_of_ble_eq_true hn) rfl (fun ls hl => k p l e s m args below meth c H locs ls C (zL.st1 h2 hl) hV hz hS)

theorem z_astore_n {j : Fin 4} {x : Nat} (hd : zdec X pc = .ok (.astore_n j, 1)) (hn : Nat.ble ((j : Nat) + 1) X.2.2.1 = true) (h2 : zNo2 L (j : Nat) = true) (k : Z D B X cs ss Q (pc + 1) (L.set (j : Nat) (some (.ref x))) st h sz) : Z D B X cs ss Q pc L (.ref x :: st) h sz := by
  intro p l e s m args below meth c H locs ls C hL hV hz hS
  exact lv_astore_n C.1 C.2.1 hd rfl hL (Nat.le_of_ble_eq_true hn) rfl (fun ls hl => k p l e s m args below meth c H locs ls C (zL.st1 h2 hl) hV hz hS)

theorem z_astore {i : Nat} {x : Nat} (hd : zdec X pc = .ok (.astore i, 2)) (hn : Nat.ble (i + 1) X.2.2.1 = true) (h2 : zNo2 L i = true) (k : Z D B X cs ss Q (pc + 2) (L.set i (some (.ref x))) st h sz) : Z D B X cs ss Q pc L (.ref x :: st) h sz := by
  intro p l e s m args below meth c H locs ls C hL hV hz hS
  exact lv_astore C.1 C.2.1 hd hL (Nat.le_of_ble_eq_true hn) rfl (fun ls hl => k p l e s m args below meth c H locs ls C (zL.st1 h2 hl) hV hz hS)

theorem z_lstore_n {j : Fin 4} {x : Int64} (hd : zdec X pc = .ok (.lstore_n j, 1)) (hn : Nat.ble ((j : Nat) + 2) X.2.2.1 = true) (h2 : zNo2 L (j : Nat) = true) (k : Z D B X cs ss Q (pc + 1) ((L.set (j : Nat) (some (.long x))).set ((j : Nat) + 1) none) st h sz) : Z D B X cs ss Q pc L (.long x :: st) h sz := by
  intro p l e s m args below meth c H locs ls C hL hV hz hS
  exact lv_lstore_n C.1 C.2.1 hd rfl hL (Nat.le_of_ble_eq_true hn) rfl (fun ls hl => k p l e s m args below meth c H locs ls C (zL.st2 h2 hl) hV hz hS)

theorem z_lstore {i : Nat} {x : Int64} (hd : zdec X pc = .ok (.lstore i, 2)) (hn : Nat.ble (i + 2) X.2.2.1 = true) (h2 : zNo2 L i = true) (k : Z D B X cs ss Q (pc + 2) ((L.set i (some (.long x))).set (i + 1) none) st h sz) : Z D B X cs ss Q pc L (.long x :: st) h sz := by
  intro p l e s m args below meth c H locs ls C hL hV hz hS
  exact lv_lstore C.1 C.2.1 hd hL (Nat.le_of_ble_eq_true hn) rfl (fun ls hl => k p l e s m args below meth c H locs ls C (zL.st2 h2 hl) hV hz hS)

theorem z_iinc {i : Nat} {n : Int} {x v : Int32} (hd : zdec X pc = .ok (.iinc i n, 3)) (hl : L[i]? = some (some (.int x))) (hv : x + Int32.ofInt n = v) (hn : Nat.ble (i + 1) X.2.2.1 = true) (h2 : zNo2 L i = true) (k : Z D B X cs ss Q (pc + 3) (L.set i (some (.int v))) st h sz) : Z D B X cs ss Q pc L st h sz := by
  intro p l e s m args below meth c H locs ls C hL hV hz hS
  obtain ⟨j, hj⟩ := List.getElem?_of_mem (zls_mem.mpr hl)
  exact lv_iinc C.1 C.2.1 hd hL hj hv (Nat.le_of_ble_eq_true hn) rfl (fun ls hl => k p l e s m args below meth c H locs ls C (zL.st1 h2 hl) hV hz hS)

theorem z_if_eq {x : Int32} {off : Int} {tgt : Nat} (hd : zdec X pc = .ok (.ifCond .eq off, 3)) (ht : (pc : Int) + off = (tgt : Int)) (kt : x = 0 → Z D B X cs ss Q tgt L st h sz) (kf : ¬ x = 0 → Z D B X cs ss Q (pc + 3) L st h sz) : Z D B X cs ss Q pc L (.int x :: st) h sz := by
  intro p l e s m args below meth c H locs ls C hL hV hz hS
  exact lv_if_eq C.1 C.2.1 hd ht (fun q => kt q p l e s m args below meth c H locs ls C hL hV hz hS) (fun q => kf q p l e s m args below meth c H locs ls C hL hV hz hS)

theorem z_icmp_eq {x y : Int32} {off : Int} {tgt : Nat} (hd : zdec X pc = .ok (.if_icmp .eq off, 3)) (ht : (pc : Int) + off = (tgt : Int)) (kt : x = y → Z D B X cs ss Q tgt L st h sz) (kf : ¬ x = y → Z D B X cs ss Q (pc + 3) L st h sz) : Z D B X cs ss Q pc L (.int y :: .int x :: st) h sz := by
  intro p l e s m args below meth c H locs ls C hL hV hz hS
  exact lv_icmp_eq C.1 C.2.1 hd ht (fun q => kt q p l e s m args below meth c H locs ls C hL hV hz hS) (fun q => kf q p l e s m args below meth c H locs ls C hL hV hz hS)

theorem z_if_ne {x : Int32} {off : Int} {tgt : Nat} (hd : zdec X pc = .ok (.ifCond .ne off, 3)) (ht : (pc : Int) + off = (tgt : Int)) (kt : ¬ x = 0 → Z D B X cs ss Q tgt L st h sz) (kf : x = 0 → Z D B X cs ss Q (pc + 3) L st h sz) : Z D B X cs ss Q pc L (.int x :: st) h sz := by
  intro p l e s m args below meth c H locs ls C hL hV hz hS
  exact lv_if_ne C.1 C.2.1 hd ht (fun q => kt q p l e s m args below meth c H locs ls C hL hV hz hS) (fun q => kf q p l e s m args below meth c H locs ls C hL hV hz hS)

theorem z_icmp_ne {x y : Int32} {off : Int} {tgt : Nat} (hd : zdec X pc = .ok (.if_icmp .ne off, 3)) (ht : (pc : Int) + off = (tgt : Int)) (kt : ¬ x = y → Z D B X cs ss Q tgt L st h sz) (kf : x = y → Z D B X cs ss Q (pc + 3) L st h sz) : Z D B X cs ss Q pc L (.int y :: .int x :: st) h sz := by
  intro p l e s m args below meth c H locs ls C hL hV hz hS
  exact lv_icmp_ne C.1 C.2.1 hd ht (fun q => kt q p l e s m args below meth c H locs ls C hL hV hz hS) (fun q => kf q p l e s m args below meth c H locs ls C hL hV hz hS)

theorem z_if_lt {x : Int32} {off : Int} {tgt : Nat} (hd : zdec X pc = .ok (.ifCond .lt off, 3)) (ht : (pc : Int) + off = (tgt : Int)) (kt : x < 0 → Z D B X cs ss Q tgt L st h sz) (kf : ¬ x < 0 → Z D B X cs ss Q (pc + 3) L st h sz) : Z D B X cs ss Q pc L (.int x :: st) h sz := by
  intro p l e s m args below meth c H locs ls C hL hV hz hS
  exact lv_if_lt C.1 C.2.1 hd ht (fun q => kt q p l e s m args below meth c H locs ls C hL hV hz hS) (fun q => kf q p l e s m args below meth c H locs ls C hL hV hz hS)

theorem z_icmp_lt {x y : Int32} {off : Int} {tgt : Nat} (hd : zdec X pc = .ok (.if_icmp .lt off, 3)) (ht : (pc : Int) + off = (tgt : Int)) (kt : x < y → Z D B X cs ss Q tgt L st h sz) (kf : ¬ x < y → Z D B X cs ss Q (pc + 3) L st h sz) : Z D B X cs ss Q pc L (.int y :: .int x :: st) h sz := by
  intro p l e s m args below meth c H locs ls C hL hV hz hS
  exact lv_icmp_lt C.1 C.2.1 hd ht (fun q => kt q p l e s m args below meth c H locs ls C hL hV hz hS) (fun q => kf q p l e s m args below meth c H locs ls C hL hV hz hS)

theorem z_if_ge {x : Int32} {off : Int} {tgt : Nat} (hd : zdec X pc = .ok (.ifCond .ge off, 3)) (ht : (pc : Int) + off = (tgt : Int)) (kt : 0 ≤ x → Z D B X cs ss Q tgt L st h sz) (kf : ¬ 0 ≤ x → Z D B X cs ss Q (pc + 3) L st h sz) : Z D B X cs ss Q pc L (.int x :: st) h sz := by
  intro p l e s m args below meth c H locs ls C hL hV hz hS
  exact lv_if_ge C.1 C.2.1 hd ht (fun q => kt q p l e s m args below meth c H locs ls C hL hV hz hS) (fun q => kf q p l e s m args below meth c H locs ls C hL hV hz hS)

theorem z_icmp_ge {x y : Int32} {off : Int} {tgt : Nat} (hd : zdec X pc = .ok (.if_icmp .ge off, 3)) (ht : (pc : Int) + off = (tgt : Int)) (kt : y ≤ x → Z D B X cs ss Q tgt L st h sz) (kf : ¬ y ≤ x → Z D B X cs ss Q (pc + 3) L st h sz) : Z D B X cs ss Q pc L (.int y :: .int x :: st) h sz := by
  intro p l e s m args below meth c H locs ls C hL hV hz hS
  exact lv_icmp_ge C.1 C.2.1 hd ht (fun q => kt q p l e s m args below meth c H locs ls C hL hV hz hS) (fun q => kf q p l e s m args below meth c H locs ls C hL hV hz hS)

theorem z_if_gt {x : Int32} {off : Int} {tgt : Nat} (hd : zdec X pc = .ok (.ifCond .gt off, 3)) (ht : (pc : Int) + off = (tgt : Int)) (kt : 0 < x → Z D B X cs ss Q tgt L st h sz) (kf : ¬ 0 < x → Z D B X cs ss Q (pc + 3) L st h sz) : Z D B X cs ss Q pc L (.int x :: st) h sz := by
  intro p l e s m args below meth c H locs ls C hL hV hz hS
  exact lv_if_gt C.1 C.2.1 hd ht (fun q => kt q p l e s m args below meth c H locs ls C hL hV hz hS) (fun q => kf q p l e s m args below meth c H locs ls C hL hV hz hS)

theorem z_icmp_gt {x y : Int32} {off : Int} {tgt : Nat} (hd : zdec X pc = .ok (.if_icmp .gt off, 3)) (ht : (pc : Int) + off = (tgt : Int)) (kt : y < x → Z D B X cs ss Q tgt L st h sz) (kf : ¬ y < x → Z D B X cs ss Q (pc + 3) L st h sz) : Z D B X cs ss Q pc L (.int y :: .int x :: st) h sz := by
  intro p l e s m args below meth c H locs ls C hL hV hz hS
  exact lv_icmp_gt C.1 C.2.1 hd ht (fun q => kt q p l e s m args below meth c H locs ls C hL hV hz hS) (fun q => kf q p l e s m args below meth c H locs ls C hL hV hz hS)

theorem z_if_le {x : Int32} {off : Int} {tgt : Nat} (hd : zdec X pc = .ok (.ifCond .le off, 3)) (ht : (pc : Int) + off = (tgt : Int)) (kt : x ≤ 0 → Z D B X cs ss Q tgt L st h sz) (kf : ¬ x ≤ 0 → Z D B X cs ss Q (pc + 3) L st h sz) : Z D B X cs ss Q pc L (.int x :: st) h sz := by
  intro p l e s m args below meth c H locs ls C hL hV hz hS
  exact lv_if_le C.1 C.2.1 hd ht (fun q => kt q p l e s m args below meth c H locs ls C hL hV hz hS) (fun q => kf q p l e s m args below meth c H locs ls C hL hV hz hS)

theorem z_icmp_le {x y : Int32} {off : Int} {tgt : Nat} (hd : zdec X pc = .ok (.if_icmp .le off, 3)) (ht : (pc : Int) + off = (tgt : Int)) (kt : x ≤ y → Z D B X cs ss Q tgt L st h sz) (kf : ¬ x ≤ y → Z D B X cs ss Q (pc + 3) L st h sz) : Z D B X cs ss Q pc L (.int y :: .int x :: st) h sz := by
  intro p l e s m args below meth c H locs ls C hL hV hz hS
  exact lv_icmp_le C.1 C.2.1 hd ht (fun q => kt q p l e s m args below meth c H locs ls C hL hV hz hS) (fun q => kf q p l e s m args below meth c H locs ls C hL hV hz hS)

theorem z_goto {off : Int} {tgt : Nat} (hd : zdec X pc = .ok (.goto off, 3)) (ht : (pc : Int) + off = (tgt : Int)) (k : Z D B X cs ss Q tgt L st h sz) : Z D B X cs ss Q pc L st h sz := by
  intro p l e s m args below meth c H locs ls C hL hV hz hS
  exact lv_goto C.1 C.2.1 hd ht (k p l e s m args below meth c H locs ls C hL hV hz hS)
theorem z_ifnonnull {x : Nat} {off : Int} {tgt : Nat} (hd : zdec X pc = .ok (.ifnonnull off, 3)) (ht : (pc : Int) + off = (tgt : Int)) (k : Z D B X cs ss Q tgt L st h sz) : Z D B X cs ss Q pc L (.ref x :: st) h sz := by
  intro p l e s m args below meth c H locs ls C hL hV hz hS
  exact lv_ifnonnull C.1 C.2.1 hd ht (k p l e s m args below meth c H locs ls C hL hV hz hS)
theorem z_ifnonnullN {off : Int} (hd : zdec X pc = .ok (.ifnonnull off, 3)) (k : Z D B X cs ss Q (pc + 3) L st h sz) : Z D B X cs ss Q pc L (.null :: st) h sz := by
  intro p l e s m args below meth c H locs ls C hL hV hz hS
  exact lv_ifnonnullN C.1 C.2.1 hd (k p l e s m args below meth c H locs ls C hL hV hz hS)
theorem z_tableOut {dflt lo hi : Int} {offs : Array Int} {len : Nat} {x : Int32} {tgt : Nat} (hd : zdec X pc = .ok (.tableswitch dflt lo hi offs, len)) (hx : x.toInt < lo ∨ hi < x.toInt) (ht : (pc : Int) + dflt = (tgt : Int)) (k : Z D B X cs ss Q tgt L st h sz) : Z D B X cs ss Q pc L (.int x :: st) h sz := by
  intro p l e s m args below meth c H locs ls C hL hV hz hS
  exact lv_tableOut C.1 C.2.1 hd hx ht (k p l e s m args below meth c H locs ls C hL hV hz hS)
theorem z_tableIn {dflt lo hi : Int} {offs : Array Int} {len : Nat} {x : Int32} {off : Int} {tgt : Nat} (hd : zdec X pc = .ok (.tableswitch dflt lo hi offs, len)) (h1 : ¬ x.toInt < lo) (h2 : ¬ hi < x.toInt) (ho : offs[(x.toInt - lo).toNat]? = some off) (ht : (pc : Int) + off = (tgt : Int)) (k : Z D B X cs ss Q tgt L st h sz) : Z D B X cs ss Q pc L (.int x :: st) h sz := by
  intro p l e s m args below meth c H locs ls C hL hV hz hS
  exact lv_tableIn C.1 C.2.1 hd h1 h2 ho ht (k p l e s m args below meth c H locs ls C hL hV hz hS)
theorem z_lookup {dflt : Int} {ps : Array (Int × Int)} {len : Nat} {x : Int32} {off : Int} {tgt : Nat} (hd : zdec X pc = .ok (.lookupswitch dflt ps, len)) (hp : (ps.toList.zip (ps.toList.drop 1)).all (fun (a, next) => a.1 < next.1) = true) (ho : Op.lookupswitch.offset ps.toList dflt x.toInt = off) (ht : (pc : Int) + off = (tgt : Int)) (k : Z D B X cs ss Q tgt L st h sz) : Z D B X cs ss Q pc L (.int x :: st) h sz := by
  intro p l e s m args below meth c H locs ls C hL hV hz hS
  exact lv_lookup C.1 C.2.1 hd hp ho ht (k p l e s m args below meth c H locs ls C hL hV hz hS)
theorem z_lcmp {x y : Int64} (hd : zdec X pc = .ok (.lcmp, 1)) (k : Z D B X cs ss Q (pc + 1) L (.int (lg_cmp x y) :: st) h sz) : Z D B X cs ss Q pc L (.long y :: .long x :: st) h sz := by
  intro p l e s m args below meth c H locs ls C hL hV hz hS
  exact W.lcmp C.1 C.2.1 hd (k p l e s m args below meth c H locs ls C hL hV hz hS)
theorem z_top {v u : Value} (e : v = u) (k : Z D B X cs ss Q pc L (u :: st) h sz) : Z D B X cs ss Q pc L (v :: st) h sz := e ▸ k
theorem z_ldc {index : Nat} {v : Int32} (hd : zdec X pc = .ok (.ldc index, 2)) (hc : Cond.constant X.1.cls index v ∈ zT) (k : Z D B X cs ss Q (pc + 2) L (.int v :: st) h sz) : Z D B X cs ss Q pc L st h sz := by
  intro p l e s m args below meth c H locs ls C hL hV hz hS
  exact lv_ldc C.1 C.2.1 C.2.2.2.1 (C.2.2.2.2.1 _ hc) hd (k p l e s m args below meth c H locs ls C hL hV hz hS)
theorem z_ldcw {index : Nat} {v : Int32} (hd : zdec X pc = .ok (.ldc_w index, 3)) (hc : Cond.constant X.1.cls index v ∈ zT) (k : Z D B X cs ss Q (pc + 3) L (.int v :: st) h sz) : Z D B X cs ss Q pc L st h sz := by
  intro p l e s m args below meth c H locs ls C hL hV hz hS
  exact lv_ldcw C.1 C.2.1 C.2.2.2.1 (C.2.2.2.2.1 _ hc) hd (k p l e s m args below meth c H locs ls C hL hV hz hS)
theorem z_ldc2 {index : Nat} {v : Int64} (hd : zdec X pc = .ok (.ldc2_w index, 3)) (hc : Cond.constantLong X.1.cls index v ∈ zT) (k : Z D B X cs ss Q (pc + 3) L (.long v :: st) h sz) : Z D B X cs ss Q pc L st h sz := by
  intro p l e s m args below meth c H locs ls C hL hV hz hS
  exact lv_ldc2 C.1 C.2.1 C.2.2.2.1 (C.2.2.2.2.1 _ hc) hd (k p l e s m args below meth c H locs ls C hL hV hz hS)

end ZR

/-! ===== fields ===== -/
theorem zIn {ci : Nat} {q : vw_C} (hc : vwCl[ci]? = some q) : ∀ w ∈ u_ws q.1 q.2.1 q.2.2, w ∈ zT := by
  have h : ∀ r ∈ vwCl, ∀ w ∈ u_ws r.1 r.2.1 r.2.2, w ∈ zT := by decide +kernel
  exact h q (List.mem_of_getElem? hc)
def zTyF : Nat → Nat → FieldType
  | 0 => tyX0
  | 1 => tyX1
  | 2 => tyX2
  | 3 => tyX3
  | 4 => tyX4
  | _ => tyX5
theorem zTyF_ok {ci : Nat} {q : vw_C} (hc : vwCl[ci]? = some q) : ∀ k, k < q.2.2 → parseFieldDescriptor (q.2.1 k).2.2.1 = some (zTyF ci k) := by
  match ci, hc with
  | 0, hc => cases hc; exact tyX0_ok
  | 1, hc => cases hc; exact tyX1_ok
  | 2, hc => cases hc; exact tyX2_ok
  | 3, hc => cases hc; exact tyX3_ok
  | 4, hc => cases hc; exact tyX4_ok
  | 5, hc => cases hc; exact tyX5_ok
  | k + 6, hc => simp [vwCl] at hc
theorem zNm_ok {ci : Nat} {q : vw_C} (hc : vwCl[ci]? = some q) : ∀ a, a < q.2.2 → ∀ b, b < q.2.2 → a ≠ b → (q.2.1 a).2.1 ≠ (q.2.1 b).2.1 := by
  match ci, hc with
  | 0, hc => cases hc; exact nmX0
  | 1, hc => cases hc; exact nmX1
  | 2, hc => cases hc; exact nmX2
  | 3, hc => cases hc; exact nmX3
  | 4, hc => cases hc; exact nmX4
  | 5, hc => cases hc; exact nmX5
  | k + 6, hc => simp [vwCl] at hc
/-- entry idx of own's pool is field k of class ci; final or not -/
def zFl (own : String) (idx ci k : Nat) (fin : Bool) : Prop := ∃ q : vw_C, vwCl[ci]? = some q ∧ k < q.2.2 ∧ Cond.fieldLink own idx (q.2.1 k).1 (q.2.1 k).2.1 (q.2.1 k).2.2.1 ∈ zT ∧ (q.2.1 k).2.2.2 = fin ∧ (q.2.1 k).1 = q.1
section ZR2
variable {D : zD} {B : Nat} {X : zX} {cs ss : Nat} {Q : zQ} {pc : Nat} {L : List (Option Value)} {st : List Value} {h : zH} {sz : Nat}
theorem z_getf {idx ci k a : Nat} {fin : Bool} {fs : List Value} {v : Value} (hd : zdec X pc = .ok (.getfield idx, 3)) (hf : zFl X.1.cls idx ci k fin) (ha : h a = some (zO ci fs)) (hv : fs[k]? = some v) (kk : Z D B X cs ss Q (pc + 3) L (v :: st) h sz) : Z D B X cs ss Q pc L (.ref a :: st) h sz := by
  intro p l e s m args below meth c H locs ls C hL hV hz hS
  obtain ⟨q, hq, hk, hlk, -, -⟩ := hf
  have hP : va_P (D.1, D.2.1) vwCl [(a, .inr (ci, fs))] H := fun j x hx => by
    match j, hx with
    | 0, hx => cases hx; exact hV a _ ha
  exact va_get (D := (D.1, D.2.1)) (cl := vwCl) (ci := ci) (C := q.1) (T := q.2.1) (N := q.2.2) (Ts := zT) C.1 C.2.1 C.2.2.2.2.1 (fun w hw => zIn hq w hw) C.2.2.2.1 C.2.2.2.2.2.2.2.1.1 hP 0 rfl hq k hk (C.2.2.2.2.1 _ hlk) (fun _ h9 => h9) hv hd (kk p l e s m args below meth c H locs ls C hL hV hz hS)
theorem z_putf {idx ci k a : Nat} {fs : List Value} {v : Value} (hd : zdec X pc = .ok (.putfield idx, 3)) (hf : zFl X.1.cls idx ci k false) (ha : h a = some (zO ci fs)) (hB : B ≤ a) (hn : narrow (zTyF ci k) v = v) (hfit : fits (zTyF ci k) v = true) (hl : k < fs.length) (kk : Z D B X cs ss Q (pc + 3) L st (zup h a (zO ci (fs.set k v))) sz) : Z D B X cs ss Q pc L (v :: .ref a :: st) h sz := by
  intro p l e s m args below meth c H locs ls C hL hV hz hS
  obtain ⟨q, hq, hk, hlk, hfin, -⟩ := hf
  obtain ⟨C0, T, N⟩ := q
  have hts := C.2.2.2.2.1
  have hin : ∀ w ∈ u_ws C0 T N, w ∈ zT := fun w hw => zIn hq w hw
  have hK := C.2.2.2.2.2.2.2.1.1
  have hap := va_apart (D := (D.1, D.2.1)) (cl := vwCl) (own := X.1.cls) hts hin (zTyF ci) (zTyF_ok hq) (zNm_ok hq) hK hq
  obtain ⟨r, h1, cell, q1, q2, q3, q4⟩ := hV a _ ha
  have hr : r = (C0, T, N) := Option.some.inj (h1.symm.trans hq)
  subst hr
  obtain ⟨hS1, hfc, kC, hkC, hkind⟩ := hK.1 ci _ hq
  obtain ⟨cf, kf, fi, f, hi, hsl⟩ := hS1 k hk
  have hlay := hts _ (hin _ (u_in_lay hk))
  unfold u_lay at hlay
  rw [if_neg (by rw [hfin]; decide)] at hlay
  have hst := (u_facts hfc hkC (u_lays hts hin hk) hi).1
  have h6 := u_store hfc hkC hkind hlay hi (zTyF_ok hq k hk) hn hfit
  refine W.putK C.1 C.2.1 (f := f) ⟨C.2.2.2.1, hts _ hlk, ⟨_, _, _, hi⟩, hst⟩ (by rw [q2]; exact h6) q1 q3 (by rw [hsl]; exact k2_hasslot (q4 k hk)) rfl rfl hd fun H1 e1 e2 e3 => ?_
  rw [hsl] at e1 ⊢
  exact kk p l e s m args below meth c H1 _ ls C hL (hV.set (e := zO ci (fs.set k v)) ⟨_, hq, t_OB.to (V := updV (vp_V fs) k v) ⟨_, e1, q2, q3, t_set q4 hap hk v⟩ (fun j _ => vp_updV_set hl v j)⟩ e3) (e2.trans hz) (hS.put e2 e3 hB)
/-- a final field, in the constructor -/
theorem z_putF {idx ci k a : Nat} {fs : List Value} {v : Value} (hd : zdec X pc = .ok (.putfield idx, 3)) (hf : zFl X.1.cls idx ci k true) (hown : X.1.cls = (vwCl.getD ci ("", TX0, 0)).1) (hinit : X.1.name = "<init>") (ha : h a = some (zO ci fs)) (hB : B ≤ a) (hn : narrow (zTyF ci k) v = v) (hfit : fits (zTyF ci k) v = true) (hl : k < fs.length) (kk : Z D B X cs ss Q (pc + 3) L st (zup h a (zO ci (fs.set k v))) sz) : Z D B X cs ss Q pc L (v :: .ref a :: st) h sz := by
  intro p l e s m args below meth c H locs ls C hL hV hz hS
  obtain ⟨q, hq, hk, hlk, hfin, hdc⟩ := hf
  have hown2 : X.1.cls = q.1 := by rw [hown, List.getD_eq_getElem?_getD, hq]; rfl
  obtain ⟨C0, T, N⟩ := q
  have hP : va_P (D.1, D.2.1) vwCl [(a, .inr (ci, fs))] H := fun j x hx => by
    match j, hx with
    | 0, hx => cases hx; exact hV a _ ha
  have hts := C.2.2.2.2.1
  have hin : ∀ w ∈ u_ws C0 T N, w ∈ zT := fun w hw => zIn hq w hw
  have hK := C.2.2.2.2.2.2.2.1.1
  have hap := va_apart (D := (D.1, D.2.1)) (cl := vwCl) (own := X.1.cls) hts hin (zTyF ci) (zTyF_ok hq) (zNm_ok hq) hK hq
  obtain ⟨r, h1, cell, q1, q2, q3, q4⟩ := hV a _ ha
  have hr : r = (C0, T, N) := Option.some.inj (h1.symm.trans hq)
  subst hr
  obtain ⟨hS1, hfc, kC, hkC, hkind⟩ := hK.1 ci _ hq
  obtain ⟨cf, kf, fi, f, hi, hsl⟩ := hS1 k hk
  have hlay := hts _ (hin _ (u_in_lay hk))
  unfold u_lay at hlay
  rw [if_pos hfin] at hlay
  have hst := (u_facts hfc hkC (u_lays hts hin hk) hi).1
  have hcf : m.cls = cf := by
    obtain ⟨_, _, c', _, _, _, -, -, hf', -, -, -, hown3, -⟩ := Cond.laysFinal_spec hlay
    have e1 : c' = cf := by have := hi.symm.trans hf'; simp at this; exact this.1.symm
    rw [show (T k).1 = C0 from hdc] at hown3
    rw [← e1]; exact Option.some.inj ((C.2.2.2.1.symm.trans (by rw [hown2])).trans hown3)
  have h6 := u_fits hfc hkC hkind (Or.inr hlay) hi (zTyF_ok hq k hk) hn hfit
  refine W.putFinK C.1 C.2.1 C.2.2.2.1 (hts _ hlk) hi hst hcf (C.2.2.2.2.2.2.2.2.1.trans hinit) (by rw [q2]; exact h6) q1 q3 (by rw [hsl]; exact k2_hasslot (q4 k hk)) rfl rfl hd fun H1 e1 e2 e3 => ?_
  rw [hsl] at e1 ⊢
  exact kk p l e s m args below meth c H1 _ ls C hL (hV.set (e := zO ci (fs.set k v)) ⟨_, hq, t_OB.to (V := updV (vp_V fs) k v) ⟨_, e1, q2, q3, t_set q4 hap hk v⟩ (fun j _ => vp_updV_set hl v j)⟩ e3) (e2.trans hz) (hS.put e2 e3 hB)
theorem zLt {i : Int32} {n : Nat} (hin : vp_in i n) : i.toNatClampNeg < n := Nat.not_le.mp fun q => hin (Or.inr q)
theorem z_iald {a n : Nat} {f : Nat → Int32} {i : Int32} (hd : zdec X pc = .ok (.iaload, 1)) (ha : h a = some (zI n f)) (hin : vp_in i n) (kk : Z D B X cs ss Q (pc + 1) L (.int (f i.toNatClampNeg) :: st) h sz) : Z D B X cs ss Q pc L (.int i :: .ref a :: st) h sz := by
  intro p l e s m args below meth c H locs ls C hL hV hz hS
  exact W.iald (v := .int (f i.toNatClampNeg)) C.1 C.2.1 (hV a _ ha) ((C.2.2.2.2.2.2.2.1.1.2 0 (D.2.2.1 0, .int) rfl).1 n (fun j => .int (f j))) (fun q => by cases q) (by show ¬ (i < 0 ∨ (arrV _ _ _).slots.size ≤ _); rw [arrV_size]; exact hin) (by show (arrV _ _ _).slots[_]? = _; rw [arrV_read _ _ (zLt hin)]) rfl rfl hd (kk p l e s m args below meth c H locs ls C hL hV hz hS)
theorem z_zald {a n : Nat} {f : Nat → Int32} {i : Int32} (hd : zdec X pc = .ok (.baload, 1)) (ha : h a = some (zBo n f)) (hin : vp_in i n) (kk : Z D B X cs ss Q (pc + 1) L (.int (f i.toNatClampNeg) :: st) h sz) : Z D B X cs ss Q pc L (.int i :: .ref a :: st) h sz := by
  intro p l e s m args below meth c H locs ls C hL hV hz hS
  exact W.zald (v := .int (f i.toNatClampNeg)) C.1 C.2.1 (hV a _ ha) ((C.2.2.2.2.2.2.2.1.1.2 2 (D.2.2.1 2, .boolean) rfl).1 n (fun j => .int (f j))) (fun q => by cases q) (by show ¬ (i < 0 ∨ (arrV _ _ _).slots.size ≤ _); rw [arrV_size]; exact hin) (by show (arrV _ _ _).slots[_]? = _; rw [arrV_read _ _ (zLt hin)]) rfl rfl hd (kk p l e s m args below meth c H locs ls C hL hV hz hS)
theorem z_lald {a n : Nat} {f : Nat → Int64} {i : Int32} (hd : zdec X pc = .ok (.laload, 1)) (ha : h a = some (zJ n f)) (hin : vp_in i n) (kk : Z D B X cs ss Q (pc + 1) L (.long (f i.toNatClampNeg) :: st) h sz) : Z D B X cs ss Q pc L (.int i :: .ref a :: st) h sz := by
  intro p l e s m args below meth c H locs ls C hL hV hz hS
  exact W.lald (v := .long (f i.toNatClampNeg)) C.1 C.2.1 (hV a _ ha) ((C.2.2.2.2.2.2.2.1.1.2 1 (D.2.2.1 1, .long) rfl).1 n (fun j => .long (f j))) (fun q => by cases q) (by show ¬ (i < 0 ∨ (arrV _ _ _).slots.size ≤ _); rw [arrV_size]; exact hin) (by show (arrV _ _ _).slots[_]? = _; rw [arrV_read _ _ (zLt hin)]) rfl rfl hd (kk p l e s m args below meth c H locs ls C hL hV hz hS)
/-- shelves -/
theorem z_aald3 {a n : Nat} {f : Nat → Option Nat} {i : Int32} (hd : zdec X pc = .ok (.aaload, 1)) (ha : h a = some (zRf 3 n f)) (hin : vp_in i n) (kk : Z D B X cs ss Q (pc + 1) L (va_rf (f i.toNatClampNeg) :: st) h sz) : Z D B X cs ss Q pc L (.int i :: .ref a :: st) h sz := by
  intro p l e s m args below meth c H locs ls C hL hV hz hS
  exact W.aald (v := va_rf (f i.toNatClampNeg)) (ty := .object RX2) C.1 C.2.1 (hV a _ ha) ((C.2.2.2.2.2.2.2.1.1.2 3 (D.2.2.1 3, .object RX2) rfl).1 n (fun j => va_rf (f j))) rfl (fun q => by cases q) (by show ¬ (i < 0 ∨ (arrV _ _ _).slots.size ≤ _); rw [arrV_size]; exact hin) (by show (arrV _ _ _).slots[_]? = _; rw [arrV_read _ _ (zLt hin)]) rfl rfl hd (kk p l e s m args below meth c H locs ls C hL hV hz hS)
/-- rows of longs -/
theorem z_aald4 {a n : Nat} {f : Nat → Option Nat} {i : Int32} (hd : zdec X pc = .ok (.aaload, 1)) (ha : h a = some (zRf 4 n f)) (hin : vp_in i n) (kk : Z D B X cs ss Q (pc + 1) L (va_rf (f i.toNatClampNeg) :: st) h sz) : Z D B X cs ss Q pc L (.int i :: .ref a :: st) h sz := by
  intro p l e s m args below meth c H locs ls C hL hV hz hS
  exact W.aald (v := va_rf (f i.toNatClampNeg)) (ty := .array .long) C.1 C.2.1 (hV a _ ha) ((C.2.2.2.2.2.2.2.1.1.2 4 (D.2.2.1 4, .array .long) rfl).1 n (fun j => va_rf (f j))) rfl (fun q => by cases q) (by show ¬ (i < 0 ∨ (arrV _ _ _).slots.size ≤ _); rw [arrV_size]; exact hin) (by show (arrV _ _ _).slots[_]? = _; rw [arrV_read _ _ (zLt hin)]) rfl rfl hd (kk p l e s m args below meth c H locs ls C hL hV hz hS)
theorem z_iast {a n : Nat} {f : Nat → Int32} {i x : Int32} (hd : zdec X pc = .ok (.iastore, 1)) (ha : h a = some (zI n f)) (hB : B ≤ a) (hin : vp_in i n) (kk : Z D B X cs ss Q (pc + 1) L st (zup h a (zI n (upd f i.toNatClampNeg x))) sz) : Z D B X cs ss Q pc L (.int x :: .int i :: .ref a :: st) h sz := by
  intro p l e s m args below meth c H locs ls C hL hV hz hS
  refine W.iast C.1 C.2.1 (hV a _ ha) ((C.2.2.2.2.2.2.2.1.1.2 0 (D.2.2.1 0, .int) rfl).1 n (fun j => .int (f j))) (fun q => by cases q) (by show ¬ (i < 0 ∨ (arrV _ _ _).slots.size ≤ _); rw [arrV_size]; exact hin) rfl rfl hd fun H1 e1 z oq => ?_
  refine kk p l e s m args below meth c H1 _ ls C hL (hV.set (e := zI n (upd f i.toNatClampNeg x)) ?_ oq) (z.trans hz) (hS.put z oq hB)
  show H1[a]? = some (vp_cell _ _)
  rw [e1]
  show some ((vp_cell _ _).setSlot _ _) = _
  rw [vp_cell_i, vp_cell_i, arrV_store]
  congr 2
  funext q
  by_cases hq : q = i.toNatClampNeg
  · subst hq
    simp [updV, upd]
  · simp [updV, upd, hq]
theorem z_zast {a n : Nat} {f : Nat → Int32} {i x : Int32} (hd : zdec X pc = .ok (.bastore, 1)) (ha : h a = some (zBo n f)) (hB : B ≤ a) (hin : vp_in i n) (kk : Z D B X cs ss Q (pc + 1) L st (zup h a (zBo n (upd f i.toNatClampNeg (vp_nar .boolean x)))) sz) : Z D B X cs ss Q pc L (.int x :: .int i :: .ref a :: st) h sz := by
  intro p l e s m args below meth c H locs ls C hL hV hz hS
  refine W.zast C.1 C.2.1 (hV a _ ha) ((C.2.2.2.2.2.2.2.1.1.2 2 (D.2.2.1 2, .boolean) rfl).1 n (fun j => .int (f j))) (fun q => by cases q) (by show ¬ (i < 0 ∨ (arrV _ _ _).slots.size ≤ _); rw [arrV_size]; exact hin) rfl rfl hd fun H1 e1 z oq => ?_
  refine kk p l e s m args below meth c H1 _ ls C hL (hV.set (e := zBo n (upd f i.toNatClampNeg (vp_nar .boolean x))) ?_ oq) (z.trans hz) (hS.put z oq hB)
  show H1[a]? = some (vp_cell _ _)
  rw [e1]
  show some ((vp_cell _ _).setSlot _ _) = _
  rw [vp_cell_i, vp_cell_i, arrV_store]
  congr 2
  funext q
  by_cases hq : q = i.toNatClampNeg
  · subst hq
    simp [updV, upd, vp_nar]
    try rfl
  · simp [updV, upd, hq]
theorem z_last {a n : Nat} {f : Nat → Int64} {i : Int32} {x : Int64} (hd : zdec X pc = .ok (.lastore, 1)) (ha : h a = some (zJ n f)) (hB : B ≤ a) (hin : vp_in i n) (kk : Z D B X cs ss Q (pc + 1) L st (zup h a (zJ n (vp_updL f i.toNatClampNeg x))) sz) : Z D B X cs ss Q pc L (.long x :: .int i :: .ref a :: st) h sz := by
  intro p l e s m args below meth c H locs ls C hL hV hz hS
  refine W.last C.1 C.2.1 (hV a _ ha) ((C.2.2.2.2.2.2.2.1.1.2 1 (D.2.2.1 1, .long) rfl).1 n (fun j => .long (f j))) (fun q => by cases q) (by show ¬ (i < 0 ∨ (arrV _ _ _).slots.size ≤ _); rw [arrV_size]; exact hin) rfl rfl hd fun H1 e1 z oq => ?_
  refine kk p l e s m args below meth c H1 _ ls C hL (hV.set (e := zJ n (vp_updL f i.toNatClampNeg x)) ?_ oq) (z.trans hz) (hS.put z oq hB)
  show H1[a]? = some (vp_cell _ _)
  rw [e1]
  show some ((vp_cell _ _).setSlot _ _) = _
  rw [vp_cell_l, vp_cell_l, arrV_store]
  congr 2
  funext q
  by_cases hq : q = i.toNatClampNeg
  · subst hq
    simp [updV, vp_updL]
  · simp [updV, vp_updL, hq]
/-! ===== ends ===== -/
theorem z_end {t : State} {s : State} {H : Heap} {locs : List Loc} {args : Array Value} {r : Option Value} (hV : zV D h H) (hz : H.size = sz) (hS : va_S (fun q => B ≤ q) s.heap H locs) (ht : t.heap = H) (hq : Q r h sz) : zQc D B Q args s (.returned r) t :=
  ⟨⟨r, h, rfl, by rw [ht, hz]; exact hq, by rw [ht]; exact hV⟩, hS.F ht⟩
theorem z_iret {v : Int32} (hd : zdec X pc = .ok (.ireturn, 1)) (hr : X.2.2.2.1 = some .int) (h1 : cs ≤ X.2.2.2.2.2.1) (h2 : ss ≤ X.2.2.2.2.2.2) (hq : Q (some (.int v)) h sz) : Z D B X cs ss Q pc L [.int v] h sz := by
  intro p l e s m args below meth c H locs ls C hL hV hz hS
  refine W.widen h1 h2 ?_
  exact W.iret C.1 C.2.1 (C.2.2.2.2.2.2.1.trans hr) (fun t ht hW => z_end hV hz hS ht hq) hS.2.2 hd C.2.2.2.2.2.1
theorem z_zret {v : Int32} (hd : zdec X pc = .ok (.ireturn, 1)) (hr : X.2.2.2.1 = some .boolean) (h1 : cs ≤ X.2.2.2.2.2.1) (h2 : ss ≤ X.2.2.2.2.2.2) (hv : v = 0 ∨ v = 1) (hq : Q (some (.int v)) h sz) : Z D B X cs ss Q pc L [.int v] h sz := by
  intro p l e s m args below meth c H locs ls C hL hV hz hS
  refine W.widen h1 h2 ?_
  exact W.zret C.1 C.2.1 (C.2.2.2.2.2.2.1.trans hr) (by rcases hv with rfl | rfl <;> decide) (fun t ht hW => z_end hV hz hS ht hq) hS.2.2 hd C.2.2.2.2.2.1
/-- a return of a byte or a char that fits -/
theorem z_xret {v : Int32} {ty : FieldType} (hd : zdec X pc = .ok (.ireturn, 1)) (hr : X.2.2.2.1 = some ty) (hn : narrow ty (.int v) = .int v) (h1 : cs ≤ X.2.2.2.2.2.1) (h2 : ss ≤ X.2.2.2.2.2.2) (hq : Q (some (.int v)) h sz) : Z D B X cs ss Q pc L [.int v] h sz := by
  intro p l e s m args below meth c H locs ls C hL hV hz hS
  refine W.widen h1 h2 ?_
  exact W.zret C.1 C.2.1 (C.2.2.2.2.2.2.1.trans hr) hn (fun t ht hW => z_end hV hz hS ht hq) hS.2.2 hd C.2.2.2.2.2.1
theorem z_lret {v : Int64} (hd : zdec X pc = .ok (.lreturn, 1)) (hr : X.2.2.2.1 = some .long) (h1 : cs ≤ X.2.2.2.2.2.1) (h2 : ss ≤ X.2.2.2.2.2.2) (hq : Q (some (.long v)) h sz) : Z D B X cs ss Q pc L [.long v] h sz := by
  intro p l e s m args below meth c H locs ls C hL hV hz hS
  refine W.widen h1 h2 ?_
  exact W.lret C.1 C.2.1 (C.2.2.2.2.2.2.1.trans hr) (fun t ht hW => z_end hV hz hS ht hq) hS.2.2 hd C.2.2.2.2.2.1
theorem z_vret (hd : zdec X pc = .ok (.return_, 1)) (hr : X.2.2.2.1 = none) (h1 : cs ≤ X.2.2.2.2.2.1) (h2 : ss ≤ X.2.2.2.2.2.2) (hq : Q none h sz) : Z D B X cs ss Q pc L [] h sz := by
  intro p l e s m args below meth c H locs ls C hL hV hz hS
  refine W.widen h1 h2 ?_
  exact W.vret C.1 C.2.1 (C.2.2.2.2.2.2.1.trans hr) (fun t ht hW => z_end hV hz hS ht hq) hS.2.2 hd C.2.2.2.2.2.1
theorem z_aret {a : Nat} {nm : String} (hd : zdec X pc = .ok (.areturn, 1)) (hr : X.2.2.2.1 = some (.object nm)) (h1 : cs ≤ X.2.2.2.2.2.1) (h2 : ss ≤ X.2.2.2.2.2.2) (hq : Q (some (.ref a)) h sz) : Z D B X cs ss Q pc L [.ref a] h sz := by
  intro p l e s m args below meth c H locs ls C hL hV hz hS
  refine W.widen h1 h2 ?_
  exact W.aret C.1 C.2.1 (C.2.2.2.2.2.2.1.trans hr) (Or.inl ⟨_, rfl⟩) (Or.inr ⟨_, rfl⟩) (fun t ht hW => z_end hV hz hS ht hq) hS.2.2 hd C.2.2.2.2.2.1
end ZR2
/-! ===== entry and calls ===== -/
/-- the locals at the entry -/
def zArgs : List Value → List (Option Value)
  | [] => []
  | v :: vs => if v.category = 2 then some v :: none :: zArgs vs else some v :: zArgs vs
theorem zArgs_ok : ∀ (vs : List Value) (i : Nat) (j : Nat) (v : Value), (zArgs vs)[j]? = some (some v) → (i + j, v) ∈ lv_args i vs
  | [], i, j, v, h => by simp [zArgs] at h
  | u :: us, i, j, v, h => by
    unfold zArgs at h
    unfold lv_args
    by_cases hc : u.category = 2
    · rw [if_pos hc] at h ⊢
      match j, h with
      | 0, h => cases h; exact List.mem_cons_self
      | 1, h => cases h
      | j + 2, h =>
        have := zArgs_ok us (i + 2) j v h
        rw [show i + (j + 2) = i + 2 + j by omega]
        exact List.mem_cons_of_mem _ this
    · rw [if_neg hc] at h ⊢
      match j, h with
      | 0, h => cases h; exact List.mem_cons_self
      | j + 1, h =>
        have := zArgs_ok us (i + 1) j v h
        rw [show i + (j + 1) = i + 1 + j by omega]
        exact List.mem_cons_of_mem _ this
theorem zM.of {D : zD} {B : Nat} {X : zX} {as : List Value} {h : zH} {sz : Nat} {Q : zQ} (hy : plainName X.1.cls = true) (hl : Nat.ble (lg_sl as).length X.2.2.1 = true) {n : Nat}
    (k : Z D B X 0 0 Q 0 (zArgs as ++ List.replicate n none) [] h sz) : zM D B X as h sz Q := by
  intro l
  refine Met.ofW (cc := X.2.1) (maxL := X.2.2.1) (ret := X.2.2.2.1) hy rfl ?_
  intro p e s m args below meth c s₁ Bd hml hv
  obtain ⟨rfl, hK, hV, hz, hB⟩ := hv
  have hl0 := lv_entry as (n := X.2.2.1) (Nat.le_of_ble_eq_true hl)
  rw [lg_entry_eq]
  generalize (lg_sl as ++ List.replicate (X.2.2.1 - (lg_sl as).length) Slot.unset).toArray = ls at hl0 ⊢
  refine k p l e s m as.toArray below meth c s.heap [] ls ⟨Bd.exec, Bd.bytes, hml, findClass_of_methodNamed Bd.named, (fun w hw => atoms_spec (ws := zWs X) Bd.pre w (List.mem_cons_of_mem _ hw)), Bd.notSynchronized, Bd.returns, hK, (name_of_methodNamed Bd.named Bd.method).1, hB⟩ ⟨hl0.1, hl0.2.1, fun q hq => ?_⟩ hV hz va_S.rf
  obtain ⟨j, u⟩ := q
  have hj := zls_mem.mp hq
  have hj2 : (zArgs as)[j]? = some (some u) := by
    by_cases hlt : j < (zArgs as).length
    · rwa [List.getElem?_append_left hlt] at hj
    · rw [List.getElem?_append_right (by omega), List.getElem?_replicate] at hj
      split at hj <;> cases hj
  have := zArgs_ok as 0 j u hj2
  rw [Nat.zero_add] at this
  exact hl0.2.2 (j, u) this
theorem zGood {c : Cond} (hc : c ∈ zT) : GoodIn zT (c :: zT) := by
  intro w hw
  have hw2 : w ∈ zT := by
    rcases List.mem_cons.mp hw with rfl | h
    · exact hc
    · exact h
  exact ⟨hw2, good_of_word (List.mem_filter.mp hw2).2⟩
/-- entry idx of own's pool is the method Y, with n parameters -/
def zLk (own : String) (idx : Nat) (Y : zX) (n : Nat) : Prop := Cond.methodLink own idx Y.1 ∈ zT ∧ Cond.initialized Y.1.cls ∈ zT ∧ Cond.code Y.1 Y.2.1 Y.2.2.1 Y.2.2.2.1 ∈ zT ∧ (Y.1.cls ≠ "java/lang/invoke/MethodHandle" ∧ Y.1.cls ≠ "java/lang/invoke/VarHandle" ∧ (parseMethodDescriptor Y.1.desc).map (fun d => d.parameters.length) = some n)
/-- it fits -/
def zFits (X Y : zX) (cs ss : Nat) : Bool := Nat.ble (Y.2.2.2.2.1 + 1) X.2.2.2.2.1 && (Nat.ble (8 + (Y.2.2.1 + 11) + 36 * Y.2.2.2.2.1) (36 * X.2.2.2.2.1) && (Nat.ble (cs + Y.2.2.2.2.2.1) X.2.2.2.2.2.1 && Nat.ble (ss + Y.2.2.2.2.2.2) X.2.2.2.2.2.2))
theorem zFits_ok {X Y : zX} {cs ss : Nat} (h : zFits X Y cs ss = true) : (Y.2.2.2.2.1 + 1 ≤ X.2.2.2.2.1 ∧ 8 + (Y.2.2.1 + 11) + 36 * Y.2.2.2.2.1 ≤ 36 * X.2.2.2.2.1) ∧ (cs + Y.2.2.2.2.2.1 ≤ X.2.2.2.2.2.1 ∧ ss + Y.2.2.2.2.2.2 ≤ X.2.2.2.2.2.2) := by
  unfold zFits at h
  rw [Bool.and_eq_true, Bool.and_eq_true, Bool.and_eq_true] at h
  exact ⟨⟨Nat.le_of_ble_eq_true h.1, Nat.le_of_ble_eq_true h.2.1⟩, ⟨Nat.le_of_ble_eq_true h.2.2.1, Nat.le_of_ble_eq_true h.2.2.2⟩⟩
theorem zRest {m : MethodId} {pc : Nat} {ls : Array Slot} {st0 rest : List Value} (h : Nat.ble ((rest.map fun v => v.category).sum) 8 = true) : 2 * (F0 m pc ls st0).monitorRoom + (rest.map fun v => v.category).sum ≤ 8 := by
  have := Nat.le_of_ble_eq_true h
  show 2 * 0 + _ ≤ 8
  omega
section ZCALL
variable {D : zD} {B : Nat} {X Y : zX} {cs ss : Nat} {Q Qy : zQ} {pc n idx : Nat} {L : List (Option Value)} {st as : List Value} {h : zH} {sz : Nat}
theorem z_go {p : Program} {l : Launch} {e : Env} {s : State} {m : MethodId} {args a : Array Value} {below : List Frame} {meth : Method} {c : Code} {H : Heap} {locs : List Loc} {ls : Array Slot} {st0 : List Value} {QQ : State → Prop}
    (hr : va_Run p l e (zRoom X) s m args below meth c H locs cs ss Y.2.2.2.2.2.1 Y.2.2.2.2.2.2 (F0 m pc ls st0) st (zQc D B Qy a) (fun q => B ≤ q)) (hS : va_S (fun q => B ≤ q) s.heap H locs)
    (kk : ∀ (r : Option Value) (h1 : zH) (H1 : Heap) (locs1 : List Loc), Qy r h1 H1.size → zV D h1 H1 → va_S (fun q => B ≤ q) s.heap H1 locs1 → W p l e (zRoom X) s m args below meth c H1 locs1 (cs + Y.2.2.2.2.2.1) (ss + Y.2.2.2.2.2.2) QQ (F0 m (pc + 3) ls (r.toList ++ st))) : W p l e (zRoom X) s m args below meth c H locs cs ss QQ (F0 m pc ls st0) := by
  intro T hT Xs
  obtain ⟨v, st₀, t, T', L1, h0, X', hL, e1, e2, ⟨⟨r, h1, hv, hq, hV⟩, hz, hk⟩, stp⟩ := hr T hT Xs
  cases hv
  rw [h0] at hz hk
  obtain ⟨t2, a1, b1⟩ := kk v h1 T'.heap (locs ++ L1) (by rw [e1]; exact hq) (by rw [e1]; exact hV)
    ⟨Nat.le_trans hS.1 (by rw [e1]; exact hz), fun q g1 g2 => by rw [e1, hk q (Nat.lt_of_lt_of_le g1 hS.1) g2]; exact hS.2.1 q g1 g2, fun q hq => by
      rcases List.mem_append.mp hq with g | g
      · exact hS.2.2 q g
      · exact hL q g⟩ T' rfl X'
  exact ⟨t2, stp t2 a1, b1⟩
theorem zBlind {D : zD} {B : Nat} {as : List Value} {h : zH} {sz : Nat} : FrameBlind (zPc D B as h sz) := fun a U g mk q => by
  obtain ⟨q0, q1, q2, q3, q4⟩ := q
  exact ⟨q0, zK.blind q1, q2, q3, q4⟩
theorem zPre {D : zD} {B : Nat} {as : List Value} {h : zH} {sz : Nat} {s U : State} {H : Heap} {locs : List Loc} (hK : zK D B s) (hV : zV D h H) (hz : H.size = sz) (hS : va_S (fun q => B ≤ q) s.heap H locs) (hB : B ≤ s.heap.size) (hU : U.heap = H) (hW : s.WarmedH U.vm) : zPc D B as h sz as.toArray U :=
  ⟨rfl, zK.go hK hS hU hW, by rw [hU]; exact hV, by rw [hU]; exact hz, by rw [hU]; exact Nat.le_trans hB hS.1⟩
theorem z_callV {b ci : Nat} {fs : List Value} (hd : zdec X pc = .ok (.invokevirtual idx, 3)) (hk : zLk X.1.cls idx Y n) (hi : Cond.instanceMethod Y.1 ∈ zT ∧ Cond.selects Y.1.cls Y.1 Y.1 ∈ zT) (hb : h b = some (zO ci fs)) (hcl : (vwCl.getD ci ("", TX0, 0)).1 = Y.1.cls) (hci : Nat.ble (ci + 1) 6 = true) (hM : zM D B Y (.ref b :: as) h sz Qy) (hn : as.length = n) (hf : zFits X Y cs ss = true) (hr : Nat.ble ((st.map fun v => v.category).sum) 8 = true)
    (kk : ∀ (r : Option Value) (h1 : zH) (z1 : Nat), Qy r h1 z1 → Z D B X (cs + Y.2.2.2.2.2.1) (ss + Y.2.2.2.2.2.2) Q (pc + 3) L (r.toList ++ st) h1 z1) {st0 : List Value} (hst : st0 = as.reverse ++ .ref b :: st) : Z D B X cs ss Q pc L st0 h sz := by
  subst hst
  intro p l e s m args below meth c H locs ls C hL hV hz hS
  obtain ⟨hf1, hf2⟩ := zFits_ok hf
  have hts := C.2.2.2.2.1
  have hKs := C.2.2.2.2.2.2.2.1
  have hlt : ci < vwCl.length := Nat.le_of_ble_eq_true hci
  have hc : vwCl[ci]? = some (vwCl[ci]) := List.getElem?_eq_getElem hlt
  have hrecv : ∃ cellB : Cell, H[b]? = some cellB ∧ cellB.vm.isStatics = false ∧ s.vm.findClass Y.1.cls = some cellB.cls := by
    obtain ⟨q', h1, cell, g1, g2, g3, -⟩ := hV b _ hb
    refine ⟨cell, g1, by rw [g3]; rfl, ?_⟩
    rw [g2, ← hcl, List.getD_eq_getElem?_getD, hc]
    exact (hKs.1.1 ci _ hc).2.1
  refine z_go (va_runV (nL := X.2.2.1) (own := X.1.cls) (Ts := zT) (cc := X.2.1) (C := Y.1.cls) (bytes := Y.2.1) (maxL := Y.2.2.1) (ret := Y.2.2.2.1) (ws := zWs Y) (rm := zRoom Y) (As := as) (rest := st) ⟨C.1, C.2.1, C.2.2.1, C.2.2.2.1, hts⟩ (hM l) ⟨callB_of n hts (zGood hk.2.2.1) rfl rfl rfl (hts _ hk.2.1) (hts _ hk.1) hk.2.2.2 hf1, hts _ hi.1, hts _ hi.2⟩ ⟨zBlind, hrecv, fun U hU hW => zPre hKs hV hz hS C.2.2.2.2.2.2.2.2.2 hU hW⟩ rfl hn hL.1 rfl (zRest hr) hd hf2) hS (fun r h1 H1 locs1 hq hV1 hS1 => ?_)
  exact kk r h1 _ hq p l e s m args below meth c H1 locs1 ls C hL hV1 rfl hS1
theorem z_callS (hd : zdec X pc = .ok (.invokestatic idx, 3)) (hk : zLk X.1.cls idx Y n) (hi : Cond.static Y.1 ∈ zT) (hM : zM D B Y as h sz Qy) (hn : as.length = n) (hf : zFits X Y cs ss = true) (hr : Nat.ble ((st.map fun v => v.category).sum) 8 = true)
    (kk : ∀ (r : Option Value) (h1 : zH) (z1 : Nat), Qy r h1 z1 → Z D B X (cs + Y.2.2.2.2.2.1) (ss + Y.2.2.2.2.2.2) Q (pc + 3) L (r.toList ++ st) h1 z1) {st0 : List Value} (hst : st0 = as.reverse ++ st) : Z D B X cs ss Q pc L st0 h sz := by
  subst hst
  intro p l e s m args below meth c H locs ls C hL hV hz hS
  obtain ⟨hf1, hf2⟩ := zFits_ok hf
  have hts := C.2.2.2.2.1
  have hKs := C.2.2.2.2.2.2.2.1
  refine z_go (va_runS (nL := X.2.2.1) (own := X.1.cls) (Ts := zT) (cc := X.2.1) (bytes := Y.2.1) (maxL := Y.2.2.1) (ret := Y.2.2.2.1) (ws := zWs Y) (rm := zRoom Y) (As := as) (rest := st) ⟨C.1, C.2.1, C.2.2.1, C.2.2.2.1, hts⟩ (hM l) ⟨callB_of n hts (zGood hk.2.2.1) rfl rfl rfl (hts _ hk.2.1) (hts _ hk.1) hk.2.2.2 hf1, hts _ hi⟩ ⟨zBlind, fun U hU hW => zPre hKs hV hz hS C.2.2.2.2.2.2.2.2.2 hU hW⟩ rfl hn hL.1 rfl (zRest hr) hd hf2) hS (fun r h1 H1 locs1 hq hV1 hS1 => ?_)
  exact kk r h1 _ hq p l e s m args below meth c H1 locs1 ls C hL hV1 rfl hS1
end ZCALL
