/-! ===== every call leaves the lane and the shelves as they must be ===== -/
def PW (σ τ : Ln) : Prop := ∃ n m, LW σ n m ∧ SW τ m
def PQ (r : Int32 × S3) : Prop := PW r.2.1 r.2.2.1
theorem SW_mono {τ : Ln} {m m1 : Nat} (h : SW τ m) (hm : m ≤ m1) : SW τ m1 := by
  refine ⟨fun s hs => ?_, h.2⟩
  rcases h.1 s hs with q | q | ⟨q, l, l1, l2⟩
  · exact Or.inl q
  · exact Or.inr (Or.inl q)
  · exact Or.inr (Or.inr ⟨q, l, by omega, l2⟩)
theorem pq_ite {c : Prop} [Decidable c] {a b : Int32 × S3} (h1 : c → PQ a) (h2 : ¬ c → PQ b) : PQ (if c then a else b) := by
  by_cases q : c
  · rw [if_pos q]; exact h1 q
  · rw [if_neg q]; exact h2 q
section PWS
variable {σ τ : Ln} {ε : El}
theorem pq_v {v : Int32} {ε1 : El} (h : PW σ τ) : PQ (v, σ, τ, ε1) := h
theorem pq_r {v : Int32} {j : Nat} {ε1 : El} (h : PW σ τ) : PQ (v, σ, rfN τ j, ε1) := h
theorem pq_bad (h : PW σ τ) : PQ (sBad σ τ ε) := h
theorem pq_other (h : PW σ τ) : PQ (sOther σ τ ε) := h
theorem pq_none (h : PW σ τ) : PQ (sNone σ τ ε) := h
theorem pq_full (h : PW σ τ) : PQ (sFull σ τ ε) := h
theorem pq_sRd {c : Bool} {v : Int32} (h : PW σ τ) : PQ (sRd c σ τ ε v) := pq_ite (fun _ => h) (fun _ => h)
theorem pq_sTold {j : Nat} {v : Int32} (h : PW σ τ) : PQ (sTold j σ τ ε v) := pq_ite (fun _ => h) (fun _ => h)
theorem SW_rowK {m s : Nat} {a b : Int32} (h : SW τ m) (ha : okR 0 4 a = true) (hb : okR 0 40 b = true) : SW (up2 (up2 (up2 τ 1 s 1) 2 s a) 3 s b) m := by
  obtain ⟨k1, k2, rfl⟩ := okR_c (c := 4) (by decide) ha
  obtain ⟨j1, j2, rfl⟩ := okR_c (c := 40) (by decide) hb
  refine ⟨fun t ht => ?_, h.2⟩
  by_cases c : t = s
  · subst c
    exact Or.inr (Or.inl ⟨by simp [up2, upd], ⟨k1, k2, by simp [up2, upd]⟩, ⟨j1, by omega, by simp [up2, upd]⟩⟩)
  · have e1 : up2 (up2 (up2 τ 1 s 1) 2 s (nI k1)) 3 s (nI j1) 1 t = τ 1 t := by simp [up2, upd, c]
    have e2 : up2 (up2 (up2 τ 1 s 1) 2 s (nI k1)) 3 s (nI j1) 2 t = τ 2 t := by simp [up2, upd, c]
    have e3 : up2 (up2 (up2 τ 1 s 1) 2 s (nI k1)) 3 s (nI j1) 3 t = τ 3 t := by simp [up2, upd, c]
    have e4 : up2 (up2 (up2 τ 1 s 1) 2 s (nI k1)) 3 s (nI j1) 4 t = τ 4 t := by simp [up2]
    rw [e1, e2, e3, e4]; exact h.1 t ht
theorem SW_none {m s : Nat} {a : Int32} (h : SW τ m) : SW (up2 (up2 τ 1 s 0) 4 s a) m := by
  refine ⟨fun t ht => ?_, h.2⟩
  by_cases c : t = s
  · subst c
    exact Or.inl (by simp [up2, upd])
  · have e1 : up2 (up2 τ 1 s 0) 4 s a 1 t = τ 1 t := by simp [up2, upd, c]
    have e2 : up2 (up2 τ 1 s 0) 4 s a 2 t = τ 2 t := by simp [up2]
    have e3 : up2 (up2 τ 1 s 0) 4 s a 3 t = τ 3 t := by simp [up2]
    have e4 : up2 (up2 τ 1 s 0) 4 s a 4 t = τ 4 t := by simp [up2, upd, c]
    rw [e1, e2, e3, e4]; exact h.1 t ht
theorem SW_show {m s l : Nat} (h : SW τ m) (hl : l < m) : SW (up2 (up2 τ 1 s 2) 4 s (nI l)) m := by
  refine ⟨fun t ht => ?_, h.2⟩
  by_cases c : t = s
  · subst c
    exact Or.inr (Or.inr ⟨by simp [up2, upd], l, hl, by simp [up2, upd]⟩)
  · have e1 : up2 (up2 τ 1 s 2) 4 s (nI l) 1 t = τ 1 t := by simp [up2, upd, c]
    have e2 : up2 (up2 τ 1 s 2) 4 s (nI l) 2 t = τ 2 t := by simp [up2]
    have e3 : up2 (up2 τ 1 s 2) 4 s (nI l) 3 t = τ 3 t := by simp [up2]
    have e4 : up2 (up2 τ 1 s 2) 4 s (nI l) 4 t = τ 4 t := by simp [up2, upd, c]
    rw [e1, e2, e3, e4]; exact h.1 t ht
theorem SW_feed {m : Nat} {x : Int32} (h : SW τ m) (hx : okR 0 255 x = true) (hf : ¬ τ 6 0 = 250) : SW (up2 (up2 τ 6 0 (τ 6 0 + 1)) 5 (ix (τ 6 0)) x) m := by
  obtain ⟨b1, b2, rfl⟩ := okR_c (c := 255) (by decide) hx
  obtain ⟨k, k1, k2⟩ := h.2.1
  have k3 : ¬ k = 250 := fun q => hf (by rw [k2, q]; rfl)
  refine ⟨h.1, ⟨k + 1, by omega, ?_⟩, fun j hj => ?_⟩
  · show τ 6 0 + 1 = _
    rw [k2]; exact (nI_succ k).symm
  · by_cases c : j = ix (τ 6 0)
    · subst c
      exact ⟨b1, b2, by simp [up2, upd]⟩
    · have e : up2 (up2 τ 6 0 (τ 6 0 + 1)) 5 (ix (τ 6 0)) (nI b1) 5 j = τ 5 j := by simp [up2, upd, c]
      rw [e]; exact h.2.2 j hj
theorem SW_wipe {m : Nat} (h : SW τ m) : SW (up2 τ 6 0 0) m := ⟨h.1, ⟨0, by omega, rfl⟩, h.2.2⟩
theorem SW_flwK {m m1 : Nat} (h : SW τ m) (h8 : m ≤ 8) (h81 : m1 ≤ 8) : SW (flwT τ (nI m1) 8) m1 := by
  refine ⟨fun s hs => ?_, h.2⟩
  by_cases c : s < 8 ∧ τ 1 s = 2 ∧ nI m1 ≤ τ 4 s
  · exact Or.inl (if_pos c)
  · have e : flwT τ (nI m1) 8 1 s = τ 1 s := if_neg c
    rw [e]
    rcases h.1 s hs with q | q | ⟨q, l, l1, l2⟩
    · exact Or.inl q
    · exact Or.inr (Or.inl q)
    · refine Or.inr (Or.inr ⟨q, l, ?_, l2⟩)
      rcases Nat.lt_or_ge l m1 with r | r
      · exact r
      · exact absurd ⟨hs, q, by rw [l2]; exact (nI_le_iff (by omega) (by omega)).mpr r⟩ c
theorem pq_row {s a n : Int32} (h : PW σ τ) : PQ (sp_row σ τ ε s a n) := by
  obtain ⟨n1, m1, hL, hS⟩ := h
  refine pq_ite (fun c => ?_) (fun _ => ⟨n1, m1, hL, hS⟩)
  have c1 := Bool.and_eq_true_iff.mp c
  have c2 := Bool.and_eq_true_iff.mp c1.1
  exact ⟨n1, m1, hL, SW_rowK hS c2.2 c1.2⟩
theorem pq_set {s i : Int32} {v : Int64} (h : PW σ τ) : PQ (sp_set σ τ ε s i v) :=
  pq_ite (fun _ => h) (fun _ => pq_ite (fun _ => h) (fun _ => pq_ite (fun _ => h) (fun _ => pq_ite (fun _ => h) (fun _ => h))))
theorem pq_copy {p q i j n : Int32} (h : PW σ τ) : PQ (sp_copy σ τ ε p q i j n) :=
  pq_ite (fun _ => h) (fun _ => pq_ite (fun _ => h) (fun _ => pq_ite (fun _ => h) (fun _ => pq_ite (fun _ => h) (fun _ => pq_ite (fun _ => h) (fun _ => pq_ite (fun _ => h) (fun _ => pq_ite (fun _ => h) (fun _ => pq_ite (fun _ => h) (fun _ => h))))))))
theorem pq_holds {s : Int32} (h : PW σ τ) : PQ (sp_holds σ τ ε s) := h
theorem pq_show {s l : Int32} (h : PW σ τ) : PQ (sp_show σ τ ε s l) := by
  obtain ⟨n1, m1, hL, hS⟩ := h
  refine pq_ite (fun _ => ⟨n1, m1, hL, hS⟩) (fun _ => pq_ite (fun _ => ⟨n1, m1, hL, SW_none hS⟩) (fun _ => pq_ite (fun c => ?_) (fun _ => ⟨n1, m1, hL, hS⟩)))
  unfold okL at c
  rw [hL.2.2.1] at c
  obtain ⟨k, k1, rfl⟩ := okR_nI (by have := hL.2.2.2.1; omega) c
  exact ⟨n1, m1, hL, SW_show hS k1⟩
theorem pq_says {s k : Int32} (h : PW σ τ) : PQ (sp_says σ τ ε s k) :=
  pq_ite (fun _ => h) (fun _ => pq_ite (fun _ => h) (fun _ => pq_ite (fun _ => h) (fun _ => pq_ite (fun _ => h) (fun _ => pq_ite (fun _ => h) (fun _ => pq_ite (fun _ => h) (fun _ => h))))))
theorem pq_houses {x : Int32} (h : PW σ τ) : PQ (sp_houses σ τ ε x) := by
  obtain ⟨n1, m1, hL, hS⟩ := h
  refine pq_ite (fun c => ?_) (fun _ => ⟨n1, m1, hL, hS⟩)
  obtain ⟨k, hk⟩ := LW_houses hL c
  exact ⟨k, m1, hk, hS⟩
theorem pq_letter {k a t g : Int32} (h : PW σ τ) : PQ (sp_letter σ τ ε k a t g) := by
  obtain ⟨n1, m1, hL, hS⟩ := h
  refine pq_ite (fun c => pq_ite (fun _ => ⟨n1, m1, hL, hS⟩) (fun c8 => ?_)) (fun _ => ⟨n1, m1, hL, hS⟩)
  have c1 := Bool.and_eq_true_iff.mp c
  have c2 := Bool.and_eq_true_iff.mp c1.1
  have c3 := Bool.and_eq_true_iff.mp c2.1
  have hm := hL.2.2.1
  have h8 := hL.2.2.2.1
  have hm8 : m1 < 8 := lt8 h8 (by rw [← hm]; exact c8)
  show PW (addF σ (ix (σ 9 0)) k a t g) τ
  rw [hm, ix_nI (by omega)]
  exact ⟨n1, m1 + 1, LW_add hL c3.1 c3.2 c2.2 c1.2 hm8, SW_mono hS (by omega)⟩
theorem pq_mend {l w v : Int32} (h : PW σ τ) : PQ (sp_mend σ τ ε l w v) := by
  obtain ⟨n1, m1, hL, hS⟩ := h
  exact pq_ite (fun _ => ⟨n1, m1, hL, hS⟩) (fun _ => pq_ite (fun _ => ⟨n1, m1, hL, hS⟩) (fun _ => pq_ite (fun _ => pq_ite (fun c => ⟨n1, m1, LW_to hL c, hS⟩) (fun _ => ⟨n1, m1, hL, hS⟩)) (fun _ => pq_ite (fun c => ⟨n1, m1, LW_len hL c, hS⟩) (fun _ => ⟨n1, m1, hL, hS⟩))))
theorem pw_same {σ1 : Ln} (h : PW σ τ) (e0 : σ1 0 = σ 0) (e9 : σ1 9 = σ 9) (e6 : σ1 6 = σ 6) (e10 : σ1 10 = σ 10) (e11 : σ1 11 = σ 11) (e12 : σ1 12 = σ 12) (e13 : σ1 13 = σ 13) : PW σ1 τ := by
  obtain ⟨n1, m1, hL, hS⟩ := h
  exact ⟨n1, m1, LW_same hL e0 e9 e6 e10 e11 e12 e13, hS⟩
theorem pq_tell {k w v : Int32} (h : PW σ τ) : PQ (sp_tell σ τ ε k w v) :=
  pq_ite (fun _ => pq_ite (fun _ => pw_same (σ1 := up2 σ 1 (ix k) v) h rfl rfl rfl rfl rfl rfl rfl) (fun _ => pw_same (σ1 := up2 σ 2 (ix k) v) h rfl rfl rfl rfl rfl rfl rfl)) (fun _ => h)
theorem pw_setC {k : Nat} {c : Int32} {b : Bool} (h : PW σ τ) : PW (setC σ k c b) τ := by
  cases b with
  | true => exact pw_same (σ1 := learnF σ k c) h rfl rfl rfl rfl rfl rfl rfl
  | false => exact pw_same (σ1 := up2 σ 3 k (σ 3 k &&& ((1 <<< (c &&& 31)) ^^^ -1))) h rfl rfl rfl rfl rfl rfl rfl
theorem pq_code {k c : Int32} {b : Bool} (h : PW σ τ) : PQ (sp_code σ τ ε k c b) := pq_ite (fun _ => pw_setC h) (fun _ => h)
theorem pq_cold {v : Int32} (h : PW σ τ) : PQ (sp_cold σ τ ε v) := pq_ite (fun _ => pw_same (σ1 := up2 σ 5 0 v) h rfl rfl rfl rfl rfl rfl rfl) (fun _ => h)
theorem pq_seed {v : Int32} (h : PW σ τ) : PQ (sp_seed σ τ ε v) := pw_same (σ1 := up2 σ 8 0 v) h rfl rfl rfl rfl rfl rfl rfl
theorem pq_way {b : Bool} (h : PW σ τ) : PQ (sp_way σ τ ε b) := by
  obtain ⟨n1, m1, hL, hS⟩ := h
  exact ⟨n1, m1, LW_6 hL (oI_01 b), hS⟩
theorem pq_feed {x : Int32} (h : PW σ τ) : PQ (sp_feed σ τ ε x) := by
  obtain ⟨n1, m1, hL, hS⟩ := h
  exact pq_ite (fun _ => ⟨n1, m1, hL, hS⟩) (fun c1 => pq_ite (fun _ => ⟨n1, m1, hL, hS⟩) (fun c2 => ⟨n1, m1, hL, SW_feed hS (by revert c1; cases okR 0 255 x <;> simp) c2⟩))
theorem pq_wipe (h : PW σ τ) : PQ (sp_wipe σ τ ε) := by
  obtain ⟨n1, m1, hL, hS⟩ := h
  exact ⟨n1, m1, hL, SW_wipe hS⟩
theorem pw_round (h : PW σ τ) : PW (roundF σ) τ := pw_same h rfl rfl rfl rfl rfl rfl rfl
theorem pw_day (h : PW σ τ) : PW (dayF σ) τ := pw_same h rfl rfl rfl rfl rfl rfl rfl
theorem pw_days (h : PW σ τ) : ∀ i, PW (daysF σ i) τ
  | 0 => h
  | i + 1 => pw_day (pw_days h i)
theorem pq_days {n : Int32} (h : PW σ τ) : PQ (sp_days σ τ ε n) := pq_ite (fun _ => pw_days h (ix n)) (fun _ => h)
theorem pq_round {b : Bool} (h : PW σ τ) : PQ (sp_round σ τ ε b) := by
  obtain ⟨n1, m1, hL, hS⟩ := pw_round h
  have h8 := hL.2.2.2.1
  cases b with
  | true => exact ⟨n1, 0, LW_gone hL, SW_flwK (m1 := 0) hS h8 (by omega)⟩
  | false =>
    refine ⟨n1, m1, hL, ?_⟩
    show SW (flwT τ (roundF σ 9 0) 8) m1
    rw [hL.2.2.1]
    exact SW_flwK hS h8 h8
theorem pw_back {κ : Ln} {nk mk : Nat} (h : PW σ τ) (hk : LW κ nk mk) : PW κ (flwT τ (κ 9 0) 8) := by
  obtain ⟨n1, m1, hL, hS⟩ := h
  refine ⟨nk, mk, hk, ?_⟩
  rw [hk.2.2.1]
  exact SW_flwK hS hL.2.2.2.1 hk.2.2.2.1
theorem pq_wise (h : PW σ τ) : PQ (sp_wise σ τ ε) := h
theorem pq_secret (h : PW σ τ) : PQ (sp_secret σ τ ε) := h
theorem pq_lost (h : PW σ τ) : PQ (sp_lost σ τ ε) := h
theorem pq_gossips (h : PW σ τ) : PQ (sp_gossips σ τ ε) := h
theorem pq_status {w : Int32} (h : PW σ τ) : PQ (sp_status σ τ ε w) := h
end PWS
/-! ===== the tape's statements never take letters away ===== -/
def okV (m0 : Nat) (R : Except Nat (Ln × Nat)) : Prop := ∀ σ1 e, R = .ok (σ1, e) → ∃ n m, LW σ1 n m ∧ m0 ≤ m
theorem okV_N {m0 : Nat} {f : Nat → Int32} {N a : Nat} {lo hi : Int32} {k : Int32 → Nat → Except Nat (Ln × Nat)} (ha : a ≤ N) (h : ∀ v e, e ≤ N → okR lo hi v = true → okV m0 (k v e)) : okV m0 (stN f N lo hi a k) := by
  intro σ1 e he
  cases q : numR f N lo hi a with
  | error x => rw [stN_n q] at he; cases he
  | ok w =>
    obtain ⟨v, e1⟩ := w
    rw [stN_y q] at he
    obtain ⟨h1, _, h3⟩ := numR_ok ha q
    exact h v e1 h3 h1 σ1 e he
theorem okV_1 {σ : Ln} {m0 n m e : Nat} (h : LW σ n m) (hm : m0 ≤ m) : okV m0 (.ok (σ, e)) := fun σ1 e1 he => by cases he; exact ⟨n, m, h, hm⟩
theorem okV_x {m0 x : Nat} : okV m0 (.error x) := fun σ1 e1 he => by cases he
theorem stW_mv {f : Nat → Int32} {N s e n m m0 : Nat} {σ : Ln} (h : LW σ n m) (hm0 : m0 ≤ m) (he : e ≤ N) : okV m0 (stW f N σ s e) := by
  have hm := h.2.2.1
  have h8 := h.2.2.2.1
  unfold stW
  split
  · exact okV_N he (fun v e1 _ hv => by obtain ⟨k, hk⟩ := LW_houses h hv; exact okV_1 hk hm0)
  split
  · split
    · exact okV_x
    · rename_i _ _ c8
      have hm8 : m < 8 := lt8 h8 (by rw [← hm]; exact c8)
      refine okV_N he (fun v e1 h1 hv => okV_N h1 (fun v2 e2 h2 hv2 => okV_N h2 (fun v3 e3 h3 hv3 => okV_N h3 (fun v4 e4 h4 hv4 => ?_))))
      rw [hm, ix_nI (by omega)]
      exact okV_1 (LW_add h hv hv2 hv3 hv4 hm8) (by omega)
  split
  · exact okV_N he (fun v e1 h1 hv => okV_N h1 (fun v2 e2 h2 hv2 => okV_1 (LW_same (σ1 := up2 σ 1 (ix v) v2) h rfl rfl rfl rfl rfl rfl rfl) hm0))
  split
  · exact okV_N he (fun v e1 h1 hv => okV_N h1 (fun v2 e2 h2 hv2 => okV_1 (LW_same (σ1 := up2 σ 2 (ix v) v2) h rfl rfl rfl rfl rfl rfl rfl) hm0))
  split
  · exact okV_N he (fun v e1 h1 hv => okV_N h1 (fun v2 e2 h2 hv2 => okV_1 (LW_same (σ1 := learnF σ (ix v) v2) h rfl rfl rfl rfl rfl rfl rfl) hm0))
  split
  · exact okV_N he (fun v e1 h1 hv => okV_1 (LW_same (σ1 := up2 σ 5 0 v) h rfl rfl rfl rfl rfl rfl rfl) hm0)
  split
  · exact okV_1 (LW_6 h (Or.inr rfl)) hm0
  split
  · exact okV_1 (LW_6 h (Or.inl rfl)) hm0
  exact okV_x
theorem stT_mv {f : Nat → Int32} {N s n m m0 : Nat} {σ : Ln} (h : LW σ n m) (hm0 : m0 ≤ m) (hs : s ≤ N) : okV m0 (stT f N σ s) := by
  unfold stT
  split
  · exact stW_mv h hm0 (tkE_le hs).2
  · exact okV_x
theorem rdA_mv {f : Nat → Int32} {N m0 : Nat} : ∀ {d : Nat} {σ : Ln} {a c n m : Nat}, LW σ n m → m0 ≤ m → a ≤ N → okV m0 (rdA f N d σ a c)
  | 0, σ, a, c, n, m, _, _, _ => okV_x
  | d + 1, σ, a, c, n, m, h, hm0, ha => by
    have hs := skp_ge (f := f) ha
    cases q : stT f N σ (skp f N a) with
    | error x => rw [rdA_x q]; exact okV_x
    | ok w =>
      obtain ⟨σ1, e⟩ := w
      obtain ⟨n1, m1, h1, hm1⟩ := stT_mv h hm0 hs.2 σ1 e q
      have he := (stT_ok (σ := σ) ha).2 σ1 e q
      have hs2 := skp_ge (f := f) he.2
      by_cases c0 : tkS f N (skp f N e) = 0
      · rw [rdA_0 q c0]; exact okV_1 h1 hm1
      · by_cases c3 : tkS f N (skp f N e) = 3
        · rw [rdA_3 q c3]; exact rdA_mv h1 hm1 (tkE_le hs2.2).2
        · rw [rdA_w q c0 c3]; exact okV_x
theorem pq_lane {σ τ : Ln} {ε : El} (h : PW σ τ) : PQ (sp_lane σ τ ε) := by
  obtain ⟨n1, m1, hL, hS⟩ := h
  unfold sp_lane
  cases q : rdA (τ 5) (ix (τ 6 0)) 251 σ 0 0 with
  | error x => exact (show PW σ (rfN (up2 τ 6 0 0) 2) from ⟨n1, m1, hL, (SW_wipe hS : SW (up2 τ 6 0 0) m1)⟩)
  | ok w =>
    obtain ⟨σ1, c⟩ := w
    obtain ⟨n2, m2, h2, hm2⟩ := rdA_mv (m0 := m1) hL (Nat.le_refl _) (Nat.zero_le _) σ1 c q
    exact (show PW σ1 (up2 τ 6 0 0) from ⟨n2, m2, h2, SW_mono (SW_wipe hS) hm2⟩)
