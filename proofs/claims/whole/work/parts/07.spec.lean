/-! ===== calls that only read ===== -/
def zRd (D : zD) (B : Nat) (Y : zX) (as : List Value) (h : zH) (sz : Nat) (v : Value) : Prop := zM D B Y as h sz (fun r h1 z1 => r = some v ∧ h1 = h ∧ z1 = sz)
section ZRD
variable {D : zD} {B : Nat} {X Y : zX} {cs ss : Nat} {Q Qy : zQ} {pc n idx : Nat} {L : List (Option Value)} {st as : List Value} {h : zH} {sz : Nat}
theorem zcs {cs ss a b : Nat} {pc : Nat} {L : List (Option Value)} {st : List Value} {h : zH} {sz : Nat} (h0 : a = 0 ∧ b = 0) (k : Z D B X cs ss Q pc L st h sz) : Z D B X (cs + a) (ss + b) Q pc L st h sz := by
  obtain ⟨rfl, rfl⟩ := h0
  exact k
theorem z_rdV {b ci : Nat} {fs : List Value} {v : Value} (hd : zdec X pc = .ok (.invokevirtual idx, 3)) (hk : zLk X.1.cls idx Y n) (hi : Cond.instanceMethod Y.1 ∈ zT ∧ Cond.selects Y.1.cls Y.1 Y.1 ∈ zT) (hb : h b = some (zO ci fs)) (hcl : (vwCl.getD ci ("", TX0, 0)).1 = Y.1.cls) (hci : Nat.ble (ci + 1) 6 = true) (hM : zRd D B Y (.ref b :: as) h sz v) (hn : as.length = n) (h0 : Y.2.2.2.2.2.1 = 0 ∧ Y.2.2.2.2.2.2 = 0) (hf : zFits X Y cs ss = true) (hr : Nat.ble ((st.map fun v => v.category).sum) 8 = true)
    (kk : Z D B X cs ss Q (pc + 3) L (v :: st) h sz) {st0 : List Value} (hst : st0 = as.reverse ++ .ref b :: st) : Z D B X cs ss Q pc L st0 h sz :=
  z_callV hd hk hi hb hcl hci hM hn hf hr (fun r h1 z1 q => by obtain ⟨rfl, rfl, rfl⟩ := q; exact zcs h0 kk) hst
theorem z_rdS {v : Value} (hd : zdec X pc = .ok (.invokestatic idx, 3)) (hk : zLk X.1.cls idx Y n) (hi : Cond.static Y.1 ∈ zT) (hM : zRd D B Y as h sz v) (hn : as.length = n) (h0 : Y.2.2.2.2.2.1 = 0 ∧ Y.2.2.2.2.2.2 = 0) (hf : zFits X Y cs ss = true) (hr : Nat.ble ((st.map fun v => v.category).sum) 8 = true)
    (kk : Z D B X cs ss Q (pc + 3) L (v :: st) h sz) {st0 : List Value} (hst : st0 = as.reverse ++ st) : Z D B X cs ss Q pc L st0 h sz :=
  z_callS hd hk hi hM hn hf hr (fun r h1 z1 q => by obtain ⟨rfl, rfl, rfl⟩ := q; exact zcs h0 kk) hst
theorem z_rdSN {v : Value} (hd : zdec X pc = .ok (.invokestatic idx, 3)) (hk : zLn X.1.cls idx Y n) (hi : Cond.static Y.1 ∈ zT) (hM : zRd D B Y as h sz v) (hn : as.length = n) (h0 : Y.2.2.2.2.2.1 = 0 ∧ Y.2.2.2.2.2.2 = 0) (hf : zFits X Y cs ss = true) (hr : Nat.ble ((st.map fun v => v.category).sum) 8 = true)
    (kk : Z D B X cs ss Q (pc + 3) L (v :: st) h sz) {st0 : List Value} (hst : st0 = as.reverse ++ st) : Z D B X cs ss Q pc L st0 h sz :=
  z_callSN hd hk hi hM hn hf hr (fun r h1 z1 q => by obtain ⟨rfl, rfl, rfl⟩ := q; exact zcs h0 kk) hst
theorem z_rdT {i : Nat} {v : Value} (hd : zdec X pc = .ok (.invokevirtual idx, 3)) (hk : zLk X.1.cls idx Y n) (hi : Cond.instanceMethod Y.1 ∈ zT ∧ Cond.selects Y.1.cls Y.1 Y.1 ∈ zT) (hY : Y.1.cls = "java/lang/String") (hb : i < 8) (hM : zRd D B Y (.ref (D.2.2.2.1 i) :: as) h sz v) (hn : as.length = n) (h0 : Y.2.2.2.2.2.1 = 0 ∧ Y.2.2.2.2.2.2 = 0) (hf : zFits X Y cs ss = true) (hr : Nat.ble ((st.map fun v => v.category).sum) 8 = true)
    (kk : Z D B X cs ss Q (pc + 3) L (v :: st) h sz) {st0 : List Value} (hst : st0 = as.reverse ++ .ref (D.2.2.2.1 i) :: st) : Z D B X cs ss Q pc L st0 h sz :=
  z_callT hd hk hi hY hb hM hn hf hr (fun r h1 z1 q => by obtain ⟨rfl, rfl, rfl⟩ := q; exact zcs h0 kk) hst
/-- a call that changes cells, but makes none -/
theorem z_efV {b ci : Nat} {fs : List Value} (hd : zdec X pc = .ok (.invokevirtual idx, 3)) (hk : zLk X.1.cls idx Y n) (hi : Cond.instanceMethod Y.1 ∈ zT ∧ Cond.selects Y.1.cls Y.1 Y.1 ∈ zT) (hb : h b = some (zO ci fs)) (hcl : (vwCl.getD ci ("", TX0, 0)).1 = Y.1.cls) (hci : Nat.ble (ci + 1) 6 = true) (hM : zM D B Y (.ref b :: as) h sz Qy) (hn : as.length = n) (h0 : Y.2.2.2.2.2.1 = 0 ∧ Y.2.2.2.2.2.2 = 0) (hf : zFits X Y cs ss = true) (hr : Nat.ble ((st.map fun v => v.category).sum) 8 = true)
    (kk : ∀ (r : Option Value) (h1 : zH) (z1 : Nat), Qy r h1 z1 → Z D B X cs ss Q (pc + 3) L (r.toList ++ st) h1 z1) {st0 : List Value} (hst : st0 = as.reverse ++ .ref b :: st) : Z D B X cs ss Q pc L st0 h sz :=
  z_callV hd hk hi hb hcl hci hM hn hf hr (fun r h1 z1 q => zcs h0 (kk r h1 z1 q)) hst
theorem z_efS (hd : zdec X pc = .ok (.invokestatic idx, 3)) (hk : zLk X.1.cls idx Y n) (hi : Cond.static Y.1 ∈ zT) (hM : zM D B Y as h sz Qy) (hn : as.length = n) (h0 : Y.2.2.2.2.2.1 = 0 ∧ Y.2.2.2.2.2.2 = 0) (hf : zFits X Y cs ss = true) (hr : Nat.ble ((st.map fun v => v.category).sum) 8 = true)
    (kk : ∀ (r : Option Value) (h1 : zH) (z1 : Nat), Qy r h1 z1 → Z D B X cs ss Q (pc + 3) L (r.toList ++ st) h1 z1) {st0 : List Value} (hst : st0 = as.reverse ++ st) : Z D B X cs ss Q pc L st0 h sz :=
  z_callS hd hk hi hM hn hf hr (fun r h1 z1 q => zcs h0 (kk r h1 z1 q)) hst
end ZRD
/-! ===== numbers ===== -/
theorem nI_dec {n : Nat} (h : 0 < n) : nI n - 1 = nI (n - 1) := by
  obtain ⟨m, rfl⟩ : ∃ m, n = m + 1 := ⟨n - 1, by omega⟩
  exact nI_pred m
theorem lg_lt {x y : Int64} : lg_cmp x y < 0 ↔ x < y := by
  unfold lg_cmp
  by_cases h1 : y < x
  · simp only [h1, if_true]
    exact ⟨fun q => absurd q (by decide), fun q => absurd h1 (Int64.lt_asymm q)⟩
  · by_cases h2 : x = y
    · subst h2
      simp only [h1, if_false, if_true]
      exact ⟨fun q => absurd q (by decide), fun q => q.elim⟩
    · simp only [h1, h2, if_false]
      refine ⟨fun _ => ?_, fun _ => by decide⟩
      rcases Int64.lt_or_lt_of_ne h2 with q | q
      · exact q
      · exact absurd q h1
theorem lg_eq {x y : Int64} : lg_cmp x y = 0 ↔ x = y := by
  unfold lg_cmp
  by_cases h1 : y < x
  · simp only [h1, if_true]
    exact ⟨fun q => absurd q (by decide), fun q => absurd h1 (by rw [q]; exact Int64.lt_irrefl)⟩
  · by_cases h2 : x = y
    · subst h2
      simp [h1]
    · simp only [h1, h2, if_false]
      exact ⟨fun q => absurd q (by decide), fun q => q.elim⟩
theorem lg_gt {x y : Int64} : 0 < lg_cmp x y ↔ y < x := by
  unfold lg_cmp
  by_cases h1 : y < x
  · simp only [h1, if_true]
    exact ⟨fun _ => trivial, fun _ => by decide⟩
  · by_cases h2 : x = y
    · subst h2
      simp only [h1, if_false, if_true]
      exact ⟨fun q => absurd q (by decide), fun q => q.elim⟩
    · simp only [h1, h2, if_false]
      exact ⟨fun q => absurd q (by decide), fun q => q.elim⟩
section ZLC
variable {D : zD} {B : Nat} {X : zX} {cs ss : Nat} {Q : zQ} {pc : Nat} {L : List (Option Value)} {st : List Value} {h : zH} {sz : Nat} {x y : Int64} {off : Int} {tgt : Nat}
theorem z_lif_eq (hd : zdec X pc = .ok (.ifCond .eq off, 3)) (ht : (pc : Int) + off = (tgt : Int)) (kt : x = y → Z D B X cs ss Q tgt L st h sz) (kf : ¬ x = y → Z D B X cs ss Q (pc + 3) L st h sz) : Z D B X cs ss Q pc L (.int (lg_cmp x y) :: st) h sz := z_if_eq hd ht (fun q => kt (lg_eq.mp q)) (fun q => kf (fun z => q (lg_eq.mpr z)))
theorem z_lif_ne (hd : zdec X pc = .ok (.ifCond .ne off, 3)) (ht : (pc : Int) + off = (tgt : Int)) (kt : ¬ x = y → Z D B X cs ss Q tgt L st h sz) (kf : x = y → Z D B X cs ss Q (pc + 3) L st h sz) : Z D B X cs ss Q pc L (.int (lg_cmp x y) :: st) h sz := z_if_ne hd ht (fun q => kt (fun z => q (lg_eq.mpr z))) (fun q => kf (lg_eq.mp q))
theorem z_lif_lt (hd : zdec X pc = .ok (.ifCond .lt off, 3)) (ht : (pc : Int) + off = (tgt : Int)) (kt : x < y → Z D B X cs ss Q tgt L st h sz) (kf : ¬ x < y → Z D B X cs ss Q (pc + 3) L st h sz) : Z D B X cs ss Q pc L (.int (lg_cmp x y) :: st) h sz := z_if_lt hd ht (fun q => kt (lg_lt.mp q)) (fun q => kf (fun z => q (lg_lt.mpr z)))
theorem z_lif_gt (hd : zdec X pc = .ok (.ifCond .gt off, 3)) (ht : (pc : Int) + off = (tgt : Int)) (kt : y < x → Z D B X cs ss Q tgt L st h sz) (kf : ¬ y < x → Z D B X cs ss Q (pc + 3) L st h sz) : Z D B X cs ss Q pc L (.int (lg_cmp x y) :: st) h sz := z_if_gt hd ht (fun q => kt (lg_gt.mp q)) (fun q => kf (fun z => q (lg_gt.mpr z)))
end ZLC
/-! ===== Math ===== -/
def zMm (own : String) (idx : Nat) : Prop := Cond.methodLink own idx Lib.Math.max.name ∈ zT ∧ Cond.static Lib.Math.max.name ∈ zT ∧ Cond.initialized "java/lang/Math" ∈ zT ∧ Cond.code Lib.Math.max.name Lib.Math.max.code 2 (some .int) ∈ zT
def zMa (own : String) (idx : Nat) : Prop := Cond.methodLink own idx Lib.Math.abs.name ∈ zT ∧ Cond.static Lib.Math.abs.name ∈ zT ∧ Cond.initialized "java/lang/Math" ∈ zT ∧ Cond.code Lib.Math.abs.name Lib.Math.abs.code 1 (some .int) ∈ zT
theorem mmX0_86 : zMm RX0 86 := have h : zChk [766, 767, 78, 768] [Cond.methodLink RX0 86 Lib.Math.max.name, Cond.static Lib.Math.max.name, Cond.initialized "java/lang/Math", Cond.code Lib.Math.max.name Lib.Math.max.code 2 (some .int)] = true := by decide +kernel
  ⟨zChk_ok h _ (.head _), zChk_ok h _ (.tail _ (.head _)), zChk_ok h _ (.tail _ (.tail _ (.head _))), zChk_ok h _ (.tail _ (.tail _ (.tail _ (.head _))))⟩
theorem mmX4_324 : zMm RX4 324 := have h : zChk [890, 767, 78, 768] [Cond.methodLink RX4 324 Lib.Math.max.name, Cond.static Lib.Math.max.name, Cond.initialized "java/lang/Math", Cond.code Lib.Math.max.name Lib.Math.max.code 2 (some .int)] = true := by decide +kernel
  ⟨zChk_ok h _ (.head _), zChk_ok h _ (.tail _ (.head _)), zChk_ok h _ (.tail _ (.tail _ (.head _))), zChk_ok h _ (.tail _ (.tail _ (.tail _ (.head _))))⟩
theorem mmX1_91 : zMa RX1 91 := have h : zChk [389, 390, 78, 391] [Cond.methodLink RX1 91 Lib.Math.abs.name, Cond.static Lib.Math.abs.name, Cond.initialized "java/lang/Math", Cond.code Lib.Math.abs.name Lib.Math.abs.code 1 (some .int)] = true := by decide +kernel
  ⟨zChk_ok h _ (.head _), zChk_ok h _ (.tail _ (.head _)), zChk_ok h _ (.tail _ (.tail _ (.head _))), zChk_ok h _ (.tail _ (.tail _ (.tail _ (.head _))))⟩
def absI (x : Int32) : Int32 := if 0 ≤ x then x else 0 - x
/-- a truth as a number -/
def oI (b : Bool) : Int32 := if b then 1 else 0
theorem oI_01 (b : Bool) : oI b = 0 ∨ oI b = 1 := by cases b <;> simp [oI]
theorem oI_0 {b : Bool} : oI b = 0 ↔ b = false := by cases b <;> simp [oI]
theorem oI_t : oI true = 1 := rfl
theorem oI_f : oI false = 0 := rfl
section ZMT
variable {D : zD} {B : Nat} {X : zX} {cs ss : Nat} {Q : zQ} {pc idx : Nat} {L : List (Option Value)} {st : List Value} {h : zH} {sz : Nat} {x y : Int32}
theorem z_mmax (hd : zdec X pc = .ok (.invokestatic idx, 3)) (hw : zMm X.1.cls idx) (h1 : Nat.ble 1 X.2.2.2.2.1 = true) (h2 : Nat.ble ((st.map fun v => v.category).sum + 13) (36 * X.2.2.2.2.1) = true) (hc : cs ≤ X.2.2.2.2.2.1) (hs : ss ≤ X.2.2.2.2.2.2) (k : Z D B X cs ss Q (pc + 3) L (.int (if x < y then y else x) :: st) h sz) : Z D B X cs ss Q pc L (.int y :: .int x :: st) h sz := by
  intro p l e s m args below meth c H locs ls C hL hV hz hS
  have hts := C.2.2.2.2.1
  exact va_mmax C.1 C.2.1 (C.2.2.1.trans hL.1.symm) C.2.2.2.1 (hts _ hw.1) (hts _ hw.2.1) (hts _ hw.2.2.1) (hts _ hw.2.2.2) (Nat.le_of_ble_eq_true h1) (Nat.le_of_ble_eq_true h2) hc hs hd (k p l e s m args below meth c H locs ls C hL hV hz hS)
theorem z_mabs (hd : zdec X pc = .ok (.invokestatic idx, 3)) (hw : zMa X.1.cls idx) (h1 : Nat.ble 1 X.2.2.2.2.1 = true) (h2 : Nat.ble ((st.map fun v => v.category).sum + 13) (36 * X.2.2.2.2.1) = true) (hc : cs ≤ X.2.2.2.2.2.1) (hs : ss ≤ X.2.2.2.2.2.2) (k : Z D B X cs ss Q (pc + 3) L (.int (absI x) :: st) h sz) : Z D B X cs ss Q pc L (.int x :: st) h sz := by
  intro p l e s m args below meth c H locs ls C hL hV hz hS
  have hts := C.2.2.2.2.1
  exact va_mabs C.1 C.2.1 (C.2.2.1.trans hL.1.symm) C.2.2.2.1 (hts _ hw.1) (hts _ hw.2.1) (hts _ hw.2.2.1) (hts _ hw.2.2.2) (Nat.le_of_ble_eq_true h1) (Nat.le_of_ble_eq_true h2) hc hs hd (k p l e s m args below meth c H locs ls C hL hV hz hS)
theorem z_oif_eq {b : Bool} {off : Int} {tgt : Nat} (hd : zdec X pc = .ok (.ifCond .eq off, 3)) (ht : (pc : Int) + off = (tgt : Int)) (kt : b = false → Z D B X cs ss Q tgt L st h sz) (kf : b = true → Z D B X cs ss Q (pc + 3) L st h sz) : Z D B X cs ss Q pc L (.int (oI b) :: st) h sz := z_if_eq hd ht (fun q => kt (oI_0.mp q)) (fun q => kf (by cases b with | true => rfl | false => exact absurd rfl q))
theorem z_oif_ne {b : Bool} {off : Int} {tgt : Nat} (hd : zdec X pc = .ok (.ifCond .ne off, 3)) (ht : (pc : Int) + off = (tgt : Int)) (kt : b = true → Z D B X cs ss Q tgt L st h sz) (kf : b = false → Z D B X cs ss Q (pc + 3) L st h sz) : Z D B X cs ss Q pc L (.int (oI b) :: st) h sz := z_if_ne hd ht (fun q => kt (by cases b with | true => rfl | false => exact absurd rfl q)) (fun q => kf (oI_0.mp q))
end ZMT
/-! ===== what the lane's questions answer ===== -/
def bI (c : Prop) [Decidable c] : Int32 := if c then 1 else 0
theorem bI_01 (c : Prop) [Decidable c] : bI c = 0 ∨ bI c = 1 := by
  unfold bI
  by_cases h : c
  · simp [h]
  · simp [h]
/-- f 0 to f (n less 1) together -/
def sum0 (f : Nat → Int32) : Nat → Int32
  | 0 => 0
  | n + 1 => sum0 f n + f n
theorem sum0_front (f : Nat → Int32) : ∀ n, sum0 f (n + 1) = f 0 + sum0 (fun j => f (j + 1)) n
  | 0 => by simp [sum0, Int32.add_comm]
  | n + 1 => by
    rw [sum0, sum0_front f n, sum0, Int32.add_assoc]
theorem sum0_cong {f g : Nat → Int32} : ∀ {n : Nat}, (∀ j, j < n → f j = g j) → sum0 f n = sum0 g n
  | 0, _ => rfl
  | n + 1, h => by rw [sum0, sum0, sum0_cong (fun j hj => h j (by omega)), h n (by omega)]
/-- bits 0 to n less 1, as p says -/
def bitsI (p : Nat → Bool) : Nat → Int32
  | 0 => 0
  | n + 1 => if p n then bitsI p n ||| (1 <<< (nI n &&& 31)) else bitsI p n
theorem bitsI_cong {p q : Nat → Bool} : ∀ {n : Nat}, (∀ j, j < n → p j = q j) → bitsI p n = bitsI q n
  | 0, _ => rfl
  | n + 1, h => by rw [bitsI, bitsI, bitsI_cong (fun j hj => h j (by omega)), h n (by omega)]
/-- the greatest of f 0 .. by itself, and where first; from m, b on -/
def amx (f : Nat → Int32) (m b : Int32) : Nat → Int32 × Int32
  | 0 => (m, b)
  | n + 1 => if (amx f m b n).1 < f n then (f n, nI n) else amx f m b n
def bestN (f : Nat → Int32) : Nat → Nat
  | 0 => 0
  | n + 1 => if n = 0 then 0 else if f (bestN f n) < f n then n else bestN f n
def fewN (f : Nat → Int32) : Nat → Nat
  | 0 => 0
  | n + 1 => if n = 0 then 0 else if f n < f (fewN f n) then n else fewN f n
def hsN (σ : Ln) : Nat := (σ 0 0).toNatClampNeg
def lsN (σ : Ln) : Nat := (σ 9 0).toNatClampNeg
theorem hsN_eq {σ : Ln} {n : Nat} (h : σ 0 0 = nI n) (hn : n ≤ 12) : hsN σ = n := by rw [hsN, h, nI_clamp (by omega)]
theorem lsN_eq {σ : Ln} {n : Nat} (h : σ 9 0 = nI n) (hn : n ≤ 8) : lsN σ = n := by rw [lsN, h, nI_clamp (by omega)]
def tipsy (σ : Ln) (k : Nat) : Int32 := if σ 6 0 = 0 then sum0 (σ 2) k else sum0 (fun j => σ 2 (k + 1 + j)) (hsN σ - (k + 1))
def lout (σ : Ln) (t : Int32) : Int32 := t / 4 + σ 5 0 / 3
def readB (σ : Ln) (l k : Nat) : Bool := if σ 6 0 = 0 then decide (nI k ≤ σ 12 l) else decide (σ 12 l ≤ nI k)
def wthn (w all : Int32) : Int32 := if w < 0 then 0 else if all < w then all else w
def undB (σ : Ln) (l k : Nat) : Bool := decide (nI k = σ 12 l) || decide ((σ 3 k >>> (σ 11 l &&& 31)) &&& 1 = 1)
def nearB (σ : Ln) (l k : Nat) : Bool := decide (absI (σ 12 l - nI k) ≤ 1)
def heardW (σ : Ln) (l k : Nat) (lo : Int32) : Int32 :=
  if readB σ l k then
    if σ 10 l = 1 then wthn (σ 13 l - σ 1 k / 2 - lo) (σ 13 l)
    else if σ 10 l = 3 then wthn (wthn (σ 13 l - σ 1 k / 2 - lo) (σ 13 l) + σ 11 l) (σ 13 l)
    else if σ 10 l = 2 then (if undB σ l k then wthn (σ 13 l - σ 1 k - lo) (σ 13 l) else 0)
    else if σ 10 l = 4 then (if undB σ l k && nearB σ l k then wthn (σ 13 l - σ 1 k - lo) (σ 13 l) else 0)
    else if σ 10 l = 5 then (if nI k = σ 12 l then σ 13 l else 0)
    else wthn (σ 13 l - σ 1 k - lo) (σ 13 l)
  else 0
def heardF (σ : Ln) (l k : Nat) : Int32 := heardW σ l k (lout σ (tipsy σ k))
def knowB (σ : Ln) (l k : Nat) : Bool := decide (σ 13 l ≤ 2 * heardF σ l k)
def wordsF (σ : Ln) (k : Nat) : Int32 := sum0 (fun l => heardF σ l k) (lsN σ)
def knownF (σ : Ln) (k : Nat) : Int32 := bitsI (fun l => knowB σ l k) (lsN σ)
def knowersF (σ : Ln) (l : Nat) : Int32 := bitsI (fun k => knowB σ l k) (hsN σ)
def readsF (σ : Ln) (k : Nat) : Int32 := bitsI (fun l => readB σ l k) (lsN σ)
theorem nI_le_iff {a b : Nat} (ha : a ≤ 1000) (hb : b ≤ 1000) : nI a ≤ nI b ↔ a ≤ b := nI_leI (by omega) (by omega)
theorem nI_sub1 {a b : Nat} (h : b ≤ a) : nI a - nI b = nI (a - b) := pk_sub h
theorem tipsy_b {σ : Ln} {n k : Nat} (hb : ¬ σ 6 0 = 0) (hn : σ 0 0 = nI n) (h12 : n ≤ 12) (hk : k + 1 < n) : tipsy σ k = tipsy σ (k + 1) + σ 2 (k + 1) := by
  rw [tipsy, if_neg hb, tipsy, if_neg hb, hsN_eq hn h12, show n - (k + 1) = (n - (k + 1 + 1)) + 1 by omega, sum0_front, Int32.add_comm]
  refine congrArg (· + _) (sum0_cong (fun j _ => ?_))
  rw [show k + 1 + (j + 1) = k + 1 + 1 + j by omega]
theorem tipsy_last {σ : Ln} {n : Nat} (hb : ¬ σ 6 0 = 0) (hn : σ 0 0 = nI n) (h12 : n ≤ 12) (h0 : 0 < n) : tipsy σ (n - 1) = 0 := by
  rw [tipsy, if_neg hb, hsN_eq hn h12, show n - (n - 1 + 1) = 0 by omega]
  rfl
theorem toInt_ne {x : Int32} {n : Nat} (hn : n < 1000) (h : ¬ x = nI n) : ¬ x.toInt = n := fun q => h (by rw [← Int32.toInt_inj, q, nI_toInt (by omega)])
theorem zOut1_5 {x : Int32} (h1 : ¬ x = 1) (h2 : ¬ x = 2) (h3 : ¬ x = 3) (h4 : ¬ x = 4) (h5 : ¬ x = 5) : x.toInt < 1 ∨ 5 < x.toInt := by
  have := toInt_ne (n := 1) (by omega) h1
  have := toInt_ne (n := 2) (by omega) h2
  have := toInt_ne (n := 3) (by omega) h3
  have := toInt_ne (n := 4) (by omega) h4
  have := toInt_ne (n := 5) (by omega) h5
  omega
theorem zOut0_4 {x : Int32} (h0 : ¬ x = 0) (h1 : ¬ x = 1) (h2 : ¬ x = 2) (h3 : ¬ x = 3) (h4 : ¬ x = 4) : x.toInt < 0 ∨ 4 < x.toInt := by
  have := toInt_ne (n := 0) (by omega) h0
  have := toInt_ne (n := 1) (by omega) h1
  have := toInt_ne (n := 2) (by omega) h2
  have := toInt_ne (n := 3) (by omega) h3
  have := toInt_ne (n := 4) (by omega) h4
  omega
theorem zOut0_3 {x : Int32} (h0 : ¬ x = 0) (h1 : ¬ x = 1) (h2 : ¬ x = 2) (h3 : ¬ x = 3) : x.toInt < 0 ∨ 3 < x.toInt := by
  have := toInt_ne (n := 0) (by omega) h0
  have := toInt_ne (n := 1) (by omega) h1
  have := toInt_ne (n := 2) (by omega) h2
  have := toInt_ne (n := 3) (by omega) h3
  omega
theorem zOut0_9 {x : Int32} (h0 : ¬ x = 0) (h1 : ¬ x = 1) (h2 : ¬ x = 2) (h3 : ¬ x = 3) (h4 : ¬ x = 4) (h5 : ¬ x = 5) (h6 : ¬ x = 6) (h7 : ¬ x = 7) (h8 : ¬ x = 8) (h9 : ¬ x = 9) : x.toInt < 0 ∨ 9 < x.toInt := by
  have := toInt_ne (n := 0) (by omega) h0
  have := toInt_ne (n := 1) (by omega) h1
  have := toInt_ne (n := 2) (by omega) h2
  have := toInt_ne (n := 3) (by omega) h3
  have := toInt_ne (n := 4) (by omega) h4
  have := toInt_ne (n := 5) (by omega) h5
  have := toInt_ne (n := 6) (by omega) h6
  have := toInt_ne (n := 7) (by omega) h7
  have := toInt_ne (n := 8) (by omega) h8
  have := toInt_ne (n := 9) (by omega) h9
  omega
