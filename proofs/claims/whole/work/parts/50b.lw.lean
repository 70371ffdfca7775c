/-! ===== what holds of the lane goes on holding ===== -/
theorem okR_n12 {n : Nat} {x : Int32} (h12 : n ≤ 12) (h : okR (nI n) 12 x = true) : ∃ k, n ≤ k ∧ k ≤ 12 ∧ x = nI k := by
  have q1 : nI n ≤ x := of_decide_eq_true (Bool.and_eq_true_iff.mp h).1
  have q2 : x ≤ 12 := of_decide_eq_true (Bool.and_eq_true_iff.mp h).2
  have q0 : okR 0 (nI 12) x = true := by
    unfold okR
    rw [decide_eq_true (show x ≤ nI 12 from q2), decide_eq_true (show (0 : Int32) ≤ x from Int32.le_trans (Int32.not_lt.mp (nI_pos (n := n) (by omega))) q1)]; rfl
  obtain ⟨k, hk, rfl⟩ := okR_c (by decide) q0
  exact ⟨k, (nI_le_iff (by omega) (by omega)).mp q1, by omega, rfl⟩
theorem LW_houses {σ : Ln} {n m : Nat} {x : Int32} (h : LW σ n m) (hx : okR (σ 0 0) 12 x = true) : ∃ k, LW (up2 σ 0 0 x) k m := by
  obtain ⟨h1, ⟨h2, h3⟩, h4, h5, h6, h7, h8, h9, h10⟩ := h
  rw [h1] at hx
  obtain ⟨k, k1, k2, rfl⟩ := okR_n12 h3 hx
  refine ⟨k, up2_eq _ _ _ _, ⟨by omega, k2⟩, h4, h5, h6, fun l hl => ?_, h8, h9, h10⟩
  obtain ⟨t, t1, t2⟩ := h7 l hl
  exact ⟨t, by omega, t2⟩
theorem addF_o {σ : Ln} {m l f : Nat} {k a t g : Int32} (hf : f = 10 ∨ f = 11 ∨ f = 12 ∨ f = 13) (hl : l ≠ m) : addF σ m k a t g f l = σ f l := by
  rcases hf with rfl | rfl | rfl | rfl <;> simp [addF, up2, upd, hl]
theorem LW_add {σ : Ln} {n m : Nat} {k a t g : Int32} (h : LW σ n m) (hk : okR 0 5 k = true) (ha : okR 0 9 a = true) (ht : okR 0 (σ 0 0 - 1) t = true) (hg : okR 1 40 g = true) (hm : m < 8) : LW (addF σ m k a t g) n (m + 1) := by
  obtain ⟨h1, ⟨h2, h3⟩, h4, h5, h6, h7, h8, h9, h10⟩ := h
  rw [h1] at ht
  obtain ⟨k1, k2, rfl⟩ := okR_c (c := 5) (by decide) hk
  obtain ⟨a1, a2, rfl⟩ := okR_c (c := 9) (by decide) ha
  obtain ⟨t1, t2, rfl⟩ := okR_nI (by omega) ht
  obtain ⟨g1, g2, rfl⟩ := okR_1 (c := 40) (by decide) hg
  refine ⟨h1, ⟨h2, h3⟩, rfl, hm, h6, fun l hl => ?_, fun l hl => ?_, fun l hl => ?_, fun l hl => ?_⟩
  · by_cases c : l = m
    · subst c; exact ⟨t1, t2, by simp [addF, up2, upd]⟩
    · rw [addF_o (by simp) c]; exact h7 l (by omega)
  · by_cases c : l = m
    · subst c; exact ⟨g1, g2.1, g2.2, by simp [addF, up2, upd]⟩
    · rw [addF_o (by simp) c]; exact h8 l (by omega)
  · by_cases c : l = m
    · subst c; exact ⟨k1, k2, by simp [addF, up2, upd]⟩
    · rw [addF_o (by simp) c]; exact h9 l (by omega)
  · by_cases c : l = m
    · subst c; exact ⟨a1, a2, by simp [addF, up2, upd]⟩
    · rw [addF_o (by simp) c]; exact h10 l (by omega)
theorem LW_6 {σ : Ln} {n m : Nat} {b : Int32} (h : LW σ n m) (hb : b = 0 ∨ b = 1) : LW (up2 σ 6 0 b) n m := by
  obtain ⟨h1, h2, h4, h5, h6, h7, h8, h9, h10⟩ := h
  exact ⟨h1, h2, h4, h5, by rw [up2_eq]; exact hb, h7, h8, h9, h10⟩
theorem up2_o {σ : Ln} {f j l : Nat} {v : Int32} (h : l ≠ j) : up2 σ f j v f l = σ f l := by simp [up2, upd, h]
theorem LW_to {σ : Ln} {n m j : Nat} {v : Int32} (h : LW σ n m) (hv : okR 0 (σ 0 0 - 1) v = true) : LW (up2 σ 12 j v) n m := by
  obtain ⟨h1, h2, h4, h5, h6, h7, h8, h9, h10⟩ := h
  rw [h1] at hv
  obtain ⟨t1, t2, rfl⟩ := okR_nI (by omega) hv
  refine ⟨h1, h2, h4, h5, h6, fun l hl => ?_, h8, h9, h10⟩
  by_cases c : l = j
  · subst c; exact ⟨t1, t2, up2_eq _ _ _ _⟩
  · rw [up2_o c]; exact h7 l hl
theorem LW_len {σ : Ln} {n m j : Nat} {v : Int32} (h : LW σ n m) (hv : okR 1 40 v = true) : LW (up2 σ 13 j v) n m := by
  obtain ⟨h1, h2, h4, h5, h6, h7, h8, h9, h10⟩ := h
  obtain ⟨g1, g2, rfl⟩ := okR_1 (c := 40) (by decide) hv
  refine ⟨h1, h2, h4, h5, h6, h7, fun l hl => ?_, h9, h10⟩
  by_cases c : l = j
  · subst c; exact ⟨g1, g2.1, g2.2, up2_eq _ _ _ _⟩
  · rw [up2_o c]; exact h8 l hl
theorem LW_same {σ σ1 : Ln} {n m : Nat} (h : LW σ n m) (e0 : σ1 0 = σ 0) (e9 : σ1 9 = σ 9) (e6 : σ1 6 = σ 6) (e10 : σ1 10 = σ 10) (e11 : σ1 11 = σ 11) (e12 : σ1 12 = σ 12) (e13 : σ1 13 = σ 13) : LW σ1 n m := by
  unfold LW at h ⊢
  rw [e0, e9, e6, e10, e11, e12, e13]
  exact h
theorem LW_gone {σ : Ln} {n m : Nat} (h : LW σ n m) : LW (up2 σ 9 0 0) n 0 := by
  obtain ⟨h1, h2, h4, h5, h6, h7, h8, h9, h10⟩ := h
  exact ⟨h1, h2, rfl, by omega, h6, fun l hl => absurd hl (Nat.not_lt_zero _), fun l hl => absurd hl (Nat.not_lt_zero _), fun l hl => absurd hl (Nat.not_lt_zero _), fun l hl => absurd hl (Nat.not_lt_zero _)⟩
/-! ===== a statement leaves it so ===== -/
def okW (R : Except Nat (Ln × Nat)) : Prop := ∀ σ1 e, R = .ok (σ1, e) → ∃ n m, LW σ1 n m
theorem okW_N {f : Nat → Int32} {N a : Nat} {lo hi : Int32} {k : Int32 → Nat → Except Nat (Ln × Nat)} (ha : a ≤ N) (h : ∀ v e, e ≤ N → okR lo hi v = true → okW (k v e)) : okW (stN f N lo hi a k) := by
  intro σ1 e he
  cases q : numR f N lo hi a with
  | error x => rw [stN_n q] at he; cases he
  | ok w =>
    obtain ⟨v, e1⟩ := w
    rw [stN_y q] at he
    obtain ⟨h1, _, h3⟩ := numR_ok ha q
    exact h v e1 h3 h1 σ1 e he
theorem okW_1 {σ : Ln} {n m e : Nat} (h : LW σ n m) : okW (.ok (σ, e)) := fun σ1 e1 he => by cases he; exact ⟨n, m, h⟩
theorem okW_x {x : Nat} : okW (.error x) := fun σ1 e1 he => by cases he
theorem stW_lw {f : Nat → Int32} {N s e n m : Nat} {σ : Ln} (h : LW σ n m) (he : e ≤ N) : okW (stW f N σ s e) := by
  have hm := h.2.2.1
  have h8 := h.2.2.2.1
  unfold stW
  split
  · exact okW_N he (fun v e1 _ hv => by obtain ⟨k, hk⟩ := LW_houses h hv; exact okW_1 hk)
  split
  · split
    · exact okW_x
    · rename_i _ _ c8
      have hm8 : m < 8 := lt8 h8 (by rw [← hm]; exact c8)
      refine okW_N he (fun v e1 h1 hv => okW_N h1 (fun v2 e2 h2 hv2 => okW_N h2 (fun v3 e3 h3 hv3 => okW_N h3 (fun v4 e4 h4 hv4 => ?_))))
      rw [hm, ix_nI (by omega)]
      exact okW_1 (LW_add h hv hv2 hv3 hv4 hm8)
  split
  · exact okW_N he (fun v e1 h1 hv => okW_N h1 (fun v2 e2 h2 hv2 => okW_1 (LW_same (σ1 := up2 σ 1 (ix v) v2) h rfl rfl rfl rfl rfl rfl rfl)))
  split
  · exact okW_N he (fun v e1 h1 hv => okW_N h1 (fun v2 e2 h2 hv2 => okW_1 (LW_same (σ1 := up2 σ 2 (ix v) v2) h rfl rfl rfl rfl rfl rfl rfl)))
  split
  · exact okW_N he (fun v e1 h1 hv => okW_N h1 (fun v2 e2 h2 hv2 => okW_1 (LW_same (σ1 := learnF σ (ix v) v2) h rfl rfl rfl rfl rfl rfl rfl)))
  split
  · exact okW_N he (fun v e1 h1 hv => okW_1 (LW_same (σ1 := up2 σ 5 0 v) h rfl rfl rfl rfl rfl rfl rfl))
  split
  · exact okW_1 (LW_6 h (Or.inr rfl))
  split
  · exact okW_1 (LW_6 h (Or.inl rfl))
  exact okW_x
theorem stT_lw {f : Nat → Int32} {N s n m : Nat} {σ : Ln} (h : LW σ n m) (hs : s ≤ N) : okW (stT f N σ s) := by
  unfold stT
  split
  · exact stW_lw h (tkE_le hs).2
  · exact okW_x
theorem rdA_lw {f : Nat → Int32} {N : Nat} : ∀ {d : Nat} {σ : Ln} {a c n m : Nat}, LW σ n m → a ≤ N → okW (rdA f N d σ a c)
  | 0, σ, a, c, n, m, _, _ => okW_x
  | d + 1, σ, a, c, n, m, h, ha => by
    have hs := skp_ge (f := f) ha
    cases q : stT f N σ (skp f N a) with
    | error x => rw [rdA_x q]; exact okW_x
    | ok w =>
      obtain ⟨σ1, e⟩ := w
      obtain ⟨n1, m1, h1⟩ := stT_lw h hs.2 σ1 e q
      have he := (stT_ok (σ := σ) ha).2 σ1 e q
      have hs2 := skp_ge (f := f) he.2
      by_cases c0 : tkS f N (skp f N e) = 0
      · rw [rdA_0 q c0]; exact okW_1 h1
      · by_cases c3 : tkS f N (skp f N e) = 3
        · rw [rdA_3 q c3]; exact rdA_lw h1 (tkE_le hs2.2).2
        · rw [rdA_w q c0 c3]; exact okW_x
