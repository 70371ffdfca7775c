/-! ===== reading a tape: what both answer ===== -/
/-- the sort of what stands at a place: 0 the end, 1 of a word, 2 of a number, 3 the sign, 4 strange -/
def tkS (f : Nat → Int32) (N a : Nat) : Nat := if N ≤ a then 0 else if 97 ≤ f a ∧ f a ≤ 122 then 1 else if 48 ≤ f a ∧ f a ≤ 57 then 2 else if f a = 59 then 3 else 4
/-- behind the blanks -/
def skB (f : Nat → Int32) : Nat → Nat → Nat
  | 0, a => a
  | d + 1, a => if f a = 32 then skB f d (a + 1) else a
def skp (f : Nat → Int32) (N a : Nat) : Nat := skB f (N - a) a
/-- behind a run of one sort -/
def ruN (f : Nat → Int32) (N k : Nat) : Nat → Nat → Nat
  | 0, a => a
  | d + 1, a => if tkS f N a = k then ruN f N k d (a + 1) else a
/-- behind the token that begins at s -/
def tkE (f : Nat → Int32) (N s : Nat) : Nat := if tkS f N s = 1 ∨ tkS f N s = 2 then ruN f N (tkS f N s) (N - s) s else if tkS f N s = 0 then s else s + 1
theorem skB_ge (f : Nat → Int32) : ∀ d a, a ≤ skB f d a ∧ skB f d a ≤ a + d
  | 0, a => ⟨Nat.le_refl _, Nat.le_refl _⟩
  | d + 1, a => by
    rw [skB]
    have := skB_ge f d (a + 1)
    split <;> omega
theorem skp_ge {f : Nat → Int32} {N a : Nat} (h : a ≤ N) : a ≤ skp f N a ∧ skp f N a ≤ N := by
  have := skB_ge f (N - a) a
  rw [skp]; omega
theorem skp_s {f : Nat → Int32} {N a : Nat} (h : a < N) (c : f a = 32) : skp f N a = skp f N (a + 1) := by
  rw [skp, skp, show N - a = (N - (a + 1)) + 1 by omega, skB, if_pos c]
theorem skp_h {f : Nat → Int32} {N a : Nat} (c : ¬ f a = 32) : skp f N a = a := by
  rw [skp]
  cases N - a with
  | zero => rfl
  | succ d => rw [skB, if_neg c]
theorem skp_e {f : Nat → Int32} {N a : Nat} (h : N ≤ a) : skp f N a = a := by
  rw [skp, show N - a = 0 by omega]; rfl
theorem ruN_ge (f : Nat → Int32) (N k : Nat) : ∀ d a, a ≤ ruN f N k d a ∧ ruN f N k d a ≤ a + d
  | 0, a => ⟨Nat.le_refl _, Nat.le_refl _⟩
  | d + 1, a => by
    rw [ruN]
    have := ruN_ge f N k d (a + 1)
    split <;> omega
theorem ruN_s {f : Nat → Int32} {N k a : Nat} (h : a < N) (c : tkS f N a = k) : ruN f N k (N - a) a = ruN f N k (N - (a + 1)) (a + 1) := by
  rw [show N - a = (N - (a + 1)) + 1 by omega, ruN, if_pos c]
theorem ruN_h {f : Nat → Int32} {N k a : Nat} (c : ¬ tkS f N a = k) : ruN f N k (N - a) a = a := by
  cases N - a with
  | zero => rfl
  | succ d => rw [ruN, if_neg c]
theorem ruN_e {f : Nat → Int32} {N k a : Nat} (h : N ≤ a) : ruN f N k (N - a) a = a := by
  rw [show N - a = 0 by omega]; rfl
theorem tkS_lt {f : Nat → Int32} {N a : Nat} (h : ¬ tkS f N a = 0) : a < N := by
  rcases Nat.lt_or_ge a N with q | q
  · exact q
  · exact absurd (by rw [tkS, if_pos q]) h
theorem tkS_le (f : Nat → Int32) (N a : Nat) : tkS f N a ≤ 4 := by
  unfold tkS
  split
  · omega
  · split
    · omega
    · split
      · omega
      · split <;> omega
theorem tkS_0 {f : Nat → Int32} {N a : Nat} (h : N ≤ a) : tkS f N a = 0 := by rw [tkS, if_pos h]
theorem tkE_le {f : Nat → Int32} {N s : Nat} (h : s ≤ N) : s ≤ tkE f N s ∧ tkE f N s ≤ N := by
  unfold tkE
  by_cases c : tkS f N s = 1 ∨ tkS f N s = 2
  · rw [if_pos c]
    have := ruN_ge f N (tkS f N s) (N - s) s
    omega
  · rw [if_neg c]
    by_cases d : tkS f N s = 0
    · rw [if_pos d]; omega
    · rw [if_neg d]
      have := tkS_lt d
      omega
theorem tkE_gt {f : Nat → Int32} {N s : Nat} (h : ¬ tkS f N s = 0) : s < tkE f N s := by
  have hl := tkS_lt h
  unfold tkE
  by_cases c : tkS f N s = 1 ∨ tkS f N s = 2
  · rw [if_pos c, ruN_s hl rfl]
    have := ruN_ge f N (tkS f N s) (N - (s + 1)) (s + 1)
    omega
  · rw [if_neg c, if_neg h]; omega
theorem tkE_run {f : Nat → Int32} {N s : Nat} (c : tkS f N s = 1 ∨ tkS f N s = 2) : tkE f N s = ruN f N (tkS f N s) (N - s) s := by rw [tkE, if_pos c]
theorem tkE_0 {f : Nat → Int32} {N s : Nat} (c : tkS f N s = 0) : tkE f N s = s := by
  rw [tkE, if_neg (by rw [c]; decide), if_pos c]
theorem tkE_1 {f : Nat → Int32} {N s : Nat} (h1 : ¬ tkS f N s = 1) (h2 : ¬ tkS f N s = 2) (h0 : ¬ tkS f N s = 0) : tkE f N s = s + 1 := by
  rw [tkE, if_neg (fun q => q.elim h1 h2), if_neg h0]
/-- the value of the first digits from s on -/
def nuV (f : Nat → Int32) (s : Nat) : Nat → Int32
  | 0 => 0
  | j + 1 => nuV f s j * 10 + f (s + j) - 48
/-- the number that begins at s; 1000 of more than two digits -/
def fgF (f : Nat → Int32) (N s : Nat) : Int32 := if tkS f N s = 2 then (if tkE f N s - s ≤ 2 then nuV f s (tkE f N s - s) else 1000) else 0
/-- a number that may be, and behind it; or the fault -/
def numR (f : Nat → Int32) (N : Nat) (lo hi : Int32) (a : Nat) : Except Nat (Int32 × Nat) := if tkS f N (skp f N a) = 2 ∧ okR lo hi (fgF f N (skp f N a)) = true then .ok (fgF f N (skp f N a), tkE f N (skp f N a)) else .error (skp f N a)
theorem numR_y {f : Nat → Int32} {N a : Nat} {lo hi : Int32} (h1 : tkS f N (skp f N a) = 2) (h2 : okR lo hi (fgF f N (skp f N a)) = true) : numR f N lo hi a = .ok (fgF f N (skp f N a), tkE f N (skp f N a)) := if_pos ⟨h1, h2⟩
theorem numR_n {f : Nat → Int32} {N a : Nat} {lo hi : Int32} (h : ¬ (tkS f N (skp f N a) = 2 ∧ okR lo hi (fgF f N (skp f N a)) = true)) : numR f N lo hi a = .error (skp f N a) := if_neg h
theorem numR_ok {f : Nat → Int32} {N a e : Nat} {lo hi v : Int32} (ha : a ≤ N) (h : numR f N lo hi a = .ok (v, e)) : okR lo hi v = true ∧ a < e ∧ e ≤ N := by
  unfold numR at h
  by_cases c : tkS f N (skp f N a) = 2 ∧ okR lo hi (fgF f N (skp f N a)) = true
  · rw [if_pos c] at h
    cases h
    have h1 := skp_ge (f := f) ha
    have h2 := tkE_le (f := f) h1.2
    have h3 := tkE_gt (f := f) (N := N) (s := skp f N a) (by rw [c.1]; decide)
    exact ⟨c.2, by omega, h2.2⟩
  · rw [if_neg c] at h; cases h
theorem numR_err {f : Nat → Int32} {N a x : Nat} {lo hi : Int32} (ha : a ≤ N) (h : numR f N lo hi a = .error x) : x ≤ N := by
  unfold numR at h
  by_cases c : tkS f N (skp f N a) = 2 ∧ okR lo hi (fgF f N (skp f N a)) = true
  · rw [if_pos c] at h; cases h
  · rw [if_neg c] at h
    cases h
    exact (skp_ge (f := f) ha).2
/-- the first j bytes from s on are those of text i -/
def wrB (f : Nat → Int32) (s i : Nat) : Nat → Bool
  | 0 => true
  | j + 1 => wrB f s i j && decide (f (s + j) = (zByt.getD i []).getD j 0)
theorem wrB_f {f : Nat → Int32} {s i j : Nat} (c : ¬ f (s + j) = (zByt.getD i []).getD j 0) : ∀ {q : Nat}, j < q → wrB f s i q = false
  | 0, h => absurd h (Nat.not_lt_zero _)
  | q + 1, h => by
    rw [wrB]
    rcases Nat.lt_or_ge j q with r | r
    · rw [wrB_f c r]; rfl
    · rw [show q = j by omega, decide_eq_false c, Bool.and_false]
theorem wrB_at {f : Nat → Int32} {s i : Nat} : ∀ {q : Nat}, wrB f s i q = true → ∀ j, j < q → f (s + j) = (zByt.getD i []).getD j 0
  | 0, _, j, h => absurd h (Nat.not_lt_zero _)
  | q + 1, h, j, hj => by
    rw [wrB] at h
    obtain ⟨h1, h2⟩ := Bool.and_eq_true_iff.mp h
    rcases Nat.lt_or_ge j q with r | r
    · exact wrB_at h1 j r
    · rw [show j = q by omega]; exact of_decide_eq_true h2
def wrd (f : Nat → Int32) (s e i : Nat) : Bool := decide (e - s = zLen.getD i 0) && wrB f s i (zLen.getD i 0)
theorem wrd_len {f : Nat → Int32} {s e i : Nat} (h : wrd f s e i = true) : e - s = zLen.getD i 0 := of_decide_eq_true (Bool.and_eq_true_iff.mp h).1
theorem wrd_ne {f : Nat → Int32} {s e i j : Nat} (h : wrd f s e i = true) (hl : ¬ zLen.getD i 0 = zLen.getD j 0) : wrd f s e j = false := by
  cases q : wrd f s e j with
  | false => rfl
  | true => exact absurd ((wrd_len h).symm.trans (wrd_len q)) hl
/-- a number, and on with it -/
def stN (f : Nat → Int32) (N : Nat) (lo hi : Int32) (a : Nat) (k : Int32 → Nat → Except Nat (Ln × Nat)) : Except Nat (Ln × Nat) :=
  match numR f N lo hi a with
  | .error x => .error x
  | .ok (v, e) => k v e
theorem stN_y {f : Nat → Int32} {N a e : Nat} {lo hi v : Int32} {k : Int32 → Nat → Except Nat (Ln × Nat)} (h : numR f N lo hi a = .ok (v, e)) : stN f N lo hi a k = k v e := by rw [stN, h]
theorem stN_n {f : Nat → Int32} {N a x : Nat} {lo hi : Int32} {k : Int32 → Nat → Except Nat (Ln × Nat)} (h : numR f N lo hi a = .error x) : stN f N lo hi a k = .error x := by rw [stN, h]
def st_houses (f : Nat → Int32) (N : Nat) (σ : Ln) (e : Nat) : Except Nat (Ln × Nat) := stN f N (σ 0 0) 12 e (fun v e1 => .ok (up2 σ 0 0 v, e1))
def st_letter (f : Nat → Int32) (N : Nat) (σ : Ln) (e : Nat) : Except Nat (Ln × Nat) := stN f N 0 5 e (fun k e1 => stN f N 0 9 e1 (fun a e2 => stN f N 0 (σ 0 0 - 1) e2 (fun t e3 => stN f N 1 40 e3 (fun g e4 => .ok (addF σ (ix (σ 9 0)) k a t g, e4)))))
def st_house (f : Nat → Int32) (N : Nat) (σ : Ln) (fld : Nat) (e : Nat) : Except Nat (Ln × Nat) := stN f N 0 (σ 0 0 - 1) e (fun k e1 => stN f N 0 9 e1 (fun v e2 => .ok (up2 σ fld (ix k) v, e2)))
def st_code (f : Nat → Int32) (N : Nat) (σ : Ln) (e : Nat) : Except Nat (Ln × Nat) := stN f N 0 (σ 0 0 - 1) e (fun k e1 => stN f N 0 9 e1 (fun v e2 => .ok (learnF σ (ix k) v, e2)))
def st_cold (f : Nat → Int32) (N : Nat) (σ : Ln) (e : Nat) : Except Nat (Ln × Nat) := stN f N 0 9 e (fun v e1 => .ok (up2 σ 5 0 v, e1))
/-- the statement whose token is the one from s to e -/
def stW (f : Nat → Int32) (N : Nat) (σ : Ln) (s e : Nat) : Except Nat (Ln × Nat) :=
  if wrd f s e 0 = true then st_houses f N σ e
  else if wrd f s e 1 = true then (if σ 9 0 = 8 then .error s else st_letter f N σ e)
  else if wrd f s e 2 = true then st_house f N σ 1 e
  else if wrd f s e 3 = true then st_house f N σ 2 e
  else if wrd f s e 4 = true then st_code f N σ e
  else if wrd f s e 5 = true then st_cold f N σ e
  else if wrd f s e 6 = true then .ok (up2 σ 6 0 1, e)
  else if wrd f s e 7 = true then .ok (up2 σ 6 0 0, e)
  else .error s
def stT (f : Nat → Int32) (N : Nat) (σ : Ln) (s : Nat) : Except Nat (Ln × Nat) := if tkS f N s = 1 then stW f N σ s (tkE f N s) else .error s
/-- all statements from a on, c before -/
def rdA (f : Nat → Int32) (N : Nat) : Nat → Ln → Nat → Nat → Except Nat (Ln × Nat)
  | 0, _, _, _ => .error 0
  | d + 1, σ, a, c =>
    match stT f N σ (skp f N a) with
    | .error x => .error x
    | .ok (σ1, e) => if tkS f N (skp f N e) = 0 then .ok (σ1, c + 1) else if tkS f N (skp f N e) = 3 then rdA f N d σ1 (tkE f N (skp f N e)) (c + 1) else .error (skp f N e)
def sp_lane (σ τ : Ln) (ε : El) : Int32 × S3 :=
  match rdA (τ 5) (ix (τ 6 0)) 251 σ 0 0 with
  | .error x => (-20 - nI x, σ, rfN (up2 τ 6 0 0) 2, ε)
  | .ok (σ1, c) => (nI c, σ1, up2 τ 6 0 0, ε)
theorem rdA_x {f : Nat → Int32} {N d a c x : Nat} {σ : Ln} (h : stT f N σ (skp f N a) = .error x) : rdA f N (d + 1) σ a c = .error x := by rw [rdA, h]
theorem rdA_0 {f : Nat → Int32} {N d a c e : Nat} {σ σ1 : Ln} (h : stT f N σ (skp f N a) = .ok (σ1, e)) (h0 : tkS f N (skp f N e) = 0) : rdA f N (d + 1) σ a c = .ok (σ1, c + 1) := by rw [rdA, h]; exact if_pos h0
theorem rdA_3 {f : Nat → Int32} {N d a c e : Nat} {σ σ1 : Ln} (h : stT f N σ (skp f N a) = .ok (σ1, e)) (h3 : tkS f N (skp f N e) = 3) : rdA f N (d + 1) σ a c = rdA f N d σ1 (tkE f N (skp f N e)) (c + 1) := by
  rw [rdA, h]
  show (if tkS f N (skp f N e) = 0 then _ else _) = _
  rw [if_neg (by rw [h3]; decide), if_pos h3]
theorem rdA_w {f : Nat → Int32} {N d a c e : Nat} {σ σ1 : Ln} (h : stT f N σ (skp f N a) = .ok (σ1, e)) (h0 : ¬ tkS f N (skp f N e) = 0) (h3 : ¬ tkS f N (skp f N e) = 3) : rdA f N (d + 1) σ a c = .error (skp f N e) := by
  rw [rdA, h]
  show (if tkS f N (skp f N e) = 0 then _ else _) = _
  rw [if_neg h0, if_neg h3]
/-! ===== where a number or a statement ends ===== -/
/-- what comes of it lies behind a, and no place is beyond the end -/
def stOk (N a : Nat) (R : Except Nat (Ln × Nat)) : Prop := (∀ x, R = .error x → x ≤ N) ∧ ∀ σ1 e, R = .ok (σ1, e) → a ≤ e ∧ e ≤ N
theorem stN_ok {f : Nat → Int32} {N a : Nat} {lo hi : Int32} {k : Int32 → Nat → Except Nat (Ln × Nat)} (ha : a ≤ N) (h : ∀ v e, a ≤ e → e ≤ N → okR lo hi v = true → stOk N e (k v e)) : stOk N a (stN f N lo hi a k) := by
  cases q : numR f N lo hi a with
  | error x =>
    rw [stN_n q]
    exact ⟨fun y hy => by cases hy; exact numR_err ha q, fun σ1 e he => by cases he⟩
  | ok w =>
    obtain ⟨v, e⟩ := w
    rw [stN_y q]
    obtain ⟨h1, h2, h3⟩ := numR_ok ha q
    obtain ⟨g1, g2⟩ := h v e (by omega) h3 h1
    exact ⟨g1, fun σ1 e1 he => by have := g2 σ1 e1 he; omega⟩
theorem ok_ok {N e : Nat} {σ : Ln} (he : e ≤ N) : stOk N e (.ok (σ, e)) := ⟨fun x hx => (by cases hx), fun σ1 e1 h => by cases h; omega⟩
theorem er_ok {N a s : Nat} (hs : s ≤ N) : stOk N a (.error s) := ⟨fun x hx => by cases hx; exact hs, fun σ1 e1 h => by cases h⟩
theorem stW_ok {f : Nat → Int32} {N s e : Nat} {σ : Ln} (hs : s ≤ N) (he : e ≤ N) : stOk N e (stW f N σ s e) := by
  unfold stW
  split
  · exact stN_ok he (fun v e1 _ h _ => ok_ok h)
  split
  · split
    · exact er_ok hs
    · exact stN_ok he (fun v e1 _ h _ => stN_ok h (fun v e2 _ h _ => stN_ok h (fun v e3 _ h _ => stN_ok h (fun v e4 _ h _ => ok_ok h))))
  split
  · exact stN_ok he (fun v e1 _ h _ => stN_ok h (fun v e2 _ h _ => ok_ok h))
  split
  · exact stN_ok he (fun v e1 _ h _ => stN_ok h (fun v e2 _ h _ => ok_ok h))
  split
  · exact stN_ok he (fun v e1 _ h _ => stN_ok h (fun v e2 _ h _ => ok_ok h))
  split
  · exact stN_ok he (fun v e1 _ h _ => ok_ok h)
  split
  · exact ok_ok he
  split
  · exact ok_ok he
  exact er_ok hs
theorem stT_ok {f : Nat → Int32} {N a : Nat} {σ : Ln} (ha : a ≤ N) : (∀ x, stT f N σ (skp f N a) = .error x → x ≤ N) ∧ ∀ σ1 e, stT f N σ (skp f N a) = .ok (σ1, e) → a < e ∧ e ≤ N := by
  have h1 := skp_ge (f := f) ha
  unfold stT
  by_cases c : tkS f N (skp f N a) = 1
  · rw [if_pos c]
    have h2 := tkE_le (f := f) h1.2
    have h3 := tkE_gt (f := f) (N := N) (s := skp f N a) (by rw [c]; decide)
    obtain ⟨g1, g2⟩ := stW_ok (f := f) (σ := σ) h1.2 h2.2
    exact ⟨g1, fun σ1 e he => by have := g2 σ1 e he; omega⟩
  · rw [if_neg c]
    exact ⟨fun x hx => by cases hx; exact h1.2, fun σ1 e h => by cases h⟩
/-! ===== two stretches of the heap ===== -/
def Up2 (h h1 : zH) (a n b m : Nat) : Prop := ∀ q, (q < a ∨ a + n ≤ q) → (q < b ∨ b + m ≤ q) → h1 q = h q
theorem Up2.rf {h : zH} {a n b m : Nat} : Up2 h h a n b m := fun _ _ _ => rfl
theorem Up2.tr {h0 h h1 : zH} {a n b m lo k : Nat} (x : Up2 h0 h a n b m) (y : Upd h h1 lo k) (c : (a ≤ lo ∧ lo + k ≤ a + n) ∨ (b ≤ lo ∧ lo + k ≤ b + m)) : Up2 h0 h1 a n b m := fun q h1 h2 => (y q (by omega)).trans (x q h1 h2)
theorem Up2.tr2 {h0 h h1 : zH} {a n b m : Nat} (x : Up2 h0 h a n b m) (y : Up2 h h1 a n b m) : Up2 h0 h1 a n b m := fun q h1 h2 => (y q h1 h2).trans (x q h1 h2)
theorem Up2.sp {h h1 : zH} {a n b m : Nat} (x : Up2 h h1 a n b m) : ∃ g, Upd h g a n ∧ Upd g h1 b m := by
  refine ⟨fun q => if a ≤ q ∧ q < a + n then h1 q else h q, fun q hq => ?_, fun q hq => ?_⟩
  · exact if_neg (by omega)
  · by_cases c : a ≤ q ∧ q < a + n
    · show h1 q = if a ≤ q ∧ q < a + n then h1 q else h q
      rw [if_pos c]
    · show h1 q = if a ≤ q ∧ q < a + n then h1 q else h q
      rw [if_neg c]; exact x q (by omega) hq
