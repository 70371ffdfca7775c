set_option maxRecDepth 20000 in
theorem c_within {D : zD} {B : Nat} {h : zH} {sz : Nat} {x y : Int32}  : zRd D B xX1_within [.int x, .int y] h sz (.int (wthn x y)) := by
  refine zM.of (by decide) rfl (n := 0) ?_
  show Z D B xX1_within 0 0 _ 0 [some (.int x), some (.int y)] [] h sz
  refine z_iload_n (pc := 0) (zk0 kX1_within_0) rfl ?_
  refine z_if_ge (pc := 1) (zk1 kX1_within_0) (tgt := 6) (by decide) (fun c_1 => ?_) (fun c_1 => ?_)
  · refine z_iload_n (pc := 6) (zk4 kX1_within_0) rfl ?_
    refine z_iload_n (pc := 7) (zk5 kX1_within_0) rfl ?_
    refine z_icmp_le (pc := 8) (zk6 kX1_within_0) (tgt := 15) (by decide) (fun c_2 => ?_) (fun c_2 => ?_)
    · refine z_iload_n (pc := 15) (zk9 kX1_within_0) rfl ?_
      exact z_iret (pc := 16) (zk10 kX1_within_0) rfl (Nat.zero_le _) (Nat.zero_le _) ⟨by simp [wthn, c_1, Int32.not_lt.mpr c_1, c_2, Int32.not_lt.mpr c_2], rfl, rfl⟩
    · refine z_iload_n (pc := 11) (zk7 kX1_within_0) rfl ?_
      refine z_goto (pc := 12) (zk8 kX1_within_0) (tgt := 16) (by decide) ?_
      exact z_iret (pc := 16) (zk10 kX1_within_0) rfl (Nat.zero_le _) (Nat.zero_le _) ⟨by simp [wthn, c_1, Int32.not_lt.mpr c_1, c_2, Int32.not_le.mp c_2], rfl, rfl⟩
  · refine z_iconst (pc := 4) (zk2 kX1_within_0) (v := 0) (by decide) ?_
    exact z_iret (pc := 5) (zk3 kX1_within_0) rfl (Nat.zero_le _) (Nat.zero_le _) ⟨by simp [wthn, c_1, Int32.not_le.mp c_1], rfl, rfl⟩
set_option maxRecDepth 20000 in
theorem c_readAt {D : zD} {B : Nat} {h : zH} {sz : Nat} {p l k : Nat} {σ : Ln} (hL : LnAt h p σ) (hl : l < 8) : zRd D B xX1_readAt [.ref p, .int (nI l), .int (nI k)] h sz (.int (oI (readB σ l k))) := by
  refine zM.of (by decide) rfl (n := 0) ?_
  show Z D B xX1_readAt 0 0 _ 0 [some (.ref p), some (.int (nI l)), some (.int (nI k))] [] h sz
  refine z_aload_n (pc := 0) (zk0 kX1_readAt_0) rfl ?_
  refine z_getf (pc := 1) (zk1 kX1_readAt_0) flX1_31 hL.1 (v := .int (σ 6 0)) rfl ?_
  refine z_if_eq (pc := 4) (zk2 kX1_readAt_0) (tgt := 25) (by decide) (fun c_1 => ?_) (fun c_1 => ?_)
  · refine z_iload_n (pc := 25) (zk13 kX1_readAt_0) rfl ?_
    refine z_aload_n (pc := 26) (zk14 kX1_readAt_0) rfl ?_
    refine z_getf (pc := 27) (zk15 kX1_readAt_0) flX1_50 hL.1 gLn_12 ?_
    refine z_iload_n (pc := 30) (zk0 kX1_readAt_1) rfl ?_
    refine z_ialdN (pc := 31) (zk1 kX1_readAt_1) (f := σ 12) (j := l) hL.2.2.2.2.2.2.2.1 (by omega) rfl ?_
    refine z_icmp_gt (pc := 32) (zk2 kX1_readAt_1) (tgt := 39) (by decide) (fun c_2 => ?_) (fun c_2 => ?_)
    · refine z_iconst (pc := 39) (zk5 kX1_readAt_1) (v := 0) (by decide) ?_
      exact z_zret (pc := 40) (zk6 kX1_readAt_1) rfl (Nat.zero_le _) (Nat.zero_le _) (by decide) ⟨by simp [readB, oI, c_1, c_2, Int32.not_le.mpr c_2], rfl, rfl⟩
    · refine z_iconst (pc := 35) (zk3 kX1_readAt_1) (v := 1) (by decide) ?_
      refine z_goto (pc := 36) (zk4 kX1_readAt_1) (tgt := 40) (by decide) ?_
      exact z_zret (pc := 40) (zk6 kX1_readAt_1) rfl (Nat.zero_le _) (Nat.zero_le _) (by decide) ⟨by simp [readB, oI, c_1, c_2, Int32.not_lt.mp c_2], rfl, rfl⟩
  · refine z_iload_n (pc := 7) (zk3 kX1_readAt_0) rfl ?_
    refine z_aload_n (pc := 8) (zk4 kX1_readAt_0) rfl ?_
    refine z_getf (pc := 9) (zk5 kX1_readAt_0) flX1_50 hL.1 gLn_12 ?_
    refine z_iload_n (pc := 12) (zk6 kX1_readAt_0) rfl ?_
    refine z_ialdN (pc := 13) (zk7 kX1_readAt_0) (f := σ 12) (j := l) hL.2.2.2.2.2.2.2.1 (by omega) rfl ?_
    refine z_icmp_lt (pc := 14) (zk8 kX1_readAt_0) (tgt := 21) (by decide) (fun c_3 => ?_) (fun c_3 => ?_)
    · refine z_iconst (pc := 21) (zk11 kX1_readAt_0) (v := 0) (by decide) ?_
      refine z_goto (pc := 22) (zk12 kX1_readAt_0) (tgt := 40) (by decide) ?_
      exact z_zret (pc := 40) (zk6 kX1_readAt_1) rfl (Nat.zero_le _) (Nat.zero_le _) (by decide) ⟨by simp [readB, oI, c_1, c_3, Int32.not_le.mpr c_3], rfl, rfl⟩
    · refine z_iconst (pc := 17) (zk9 kX1_readAt_0) (v := 1) (by decide) ?_
      refine z_goto (pc := 18) (zk10 kX1_readAt_0) (tgt := 40) (by decide) ?_
      exact z_zret (pc := 40) (zk6 kX1_readAt_1) rfl (Nat.zero_le _) (Nat.zero_le _) (by decide) ⟨by simp [readB, oI, c_1, c_3, Int32.not_lt.mp c_3], rfl, rfl⟩
set_option maxRecDepth 20000 in
theorem c_leftOut {D : zD} {B : Nat} {h : zH} {sz : Nat} {p : Nat} {σ : Ln} {t : Int32} (hL : LnAt h p σ) : zRd D B xX1_leftOutAfter [.ref p, .int t] h sz (.int (lout σ t)) := by
  refine zM.of (by decide) rfl (n := 0) ?_
  show Z D B xX1_leftOutAfter 0 0 _ 0 [some (.ref p), some (.int t)] [] h sz
  refine z_iload_n (pc := 0) (zk0 kX1_leftOutAfter_0) rfl ?_
  refine z_iconst (pc := 1) (zk1 kX1_leftOutAfter_0) (v := 4) (by decide) ?_
  refine z_idiv (pc := 2) (zk2 kX1_leftOutAfter_0) (by decide) ?_
  refine z_aload_n (pc := 3) (zk3 kX1_leftOutAfter_0) rfl ?_
  refine z_getf (pc := 4) (zk4 kX1_leftOutAfter_0) flX1_28 hL.1 (v := .int (σ 5 0)) rfl ?_
  refine z_iconst (pc := 7) (zk5 kX1_leftOutAfter_0) (v := 3) (by decide) ?_
  refine z_idiv (pc := 8) (zk6 kX1_leftOutAfter_0) (by decide) ?_
  refine z_iadd (pc := 9) (zk7 kX1_leftOutAfter_0) ?_
  exact z_iret (pc := 10) (zk8 kX1_leftOutAfter_0) rfl (Nat.zero_le _) (Nat.zero_le _) ⟨rfl, rfl, rfl⟩
set_option maxRecDepth 20000 in
theorem c_tipsyAt {D : zD} {B : Nat} {h : zH} {sz : Nat} {p n k : Nat} {σ : Ln} (hL : LnAt h p σ) (hn : σ 0 0 = nI n) (h12 : n ≤ 12) (hk : k < n) : zRd D B xX1_tipsyAt [.ref p, .int (nI k)] h sz (.int (tipsy σ k)) := by
  refine zM.of (by decide) rfl (n := 4) ?_
  show Z D B xX1_tipsyAt 0 0 _ 0 [some (.ref p), some (.int (nI k)), none, none, none, none] [] h sz
  by_cases hb : σ 6 0 = 0
  · refine z_aload_n (pc := 0) (zk0 kX1_tipsyAt_0) rfl ?_
    refine z_getf (pc := 1) (zk1 kX1_tipsyAt_0) flX1_31 hL.1 (v := .int (σ 6 0)) rfl ?_
    refine z_if_eq (pc := 4) (zk2 kX1_tipsyAt_0) (tgt := 13) (by decide) (fun _ => ?_) (fun q => absurd hb q)
    refine z_iconst (pc := 13) (zk7 kX1_tipsyAt_0) (v := 0) (by decide) ?_
    refine z_istore_n (pc := 14) (zk8 kX1_tipsyAt_0) rfl rfl ?_
    show Z D B xX1_tipsyAt _ _ _ 15 [some (.ref p), some (.int (nI k)), some (.int 0), none, none, none] _ _ _
    refine z_aload_n (pc := 15) (zk9 kX1_tipsyAt_0) rfl ?_
    refine z_getf (pc := 16) (zk10 kX1_tipsyAt_0) flX1_31 hL.1 (v := .int (σ 6 0)) rfl ?_
    refine z_if_eq (pc := 19) (zk11 kX1_tipsyAt_0) (tgt := 29) (by decide) (fun _ => ?_) (fun q => absurd hb q)
    refine z_iload_n (pc := 29) (zk15 kX1_tipsyAt_0) rfl ?_
    refine z_istore_n (pc := 30) (zk0 kX1_tipsyAt_1) rfl rfl ?_
    show Z D B xX1_tipsyAt _ _ _ 31 [some (.ref p), some (.int (nI k)), some (.int 0), some (.int (nI k)), none, none] _ _ _
    refine z_iconst (pc := 31) (zk1 kX1_tipsyAt_1) (v := 0) (by decide) ?_
    refine z_istore (pc := 32) (zk2 kX1_tipsyAt_1) rfl rfl ?_
    show Z D B xX1_tipsyAt _ _ _ 34 [some (.ref p), some (.int (nI k)), some (.int 0), some (.int (nI k)), some (.int 0), none] _ _ _
    refine z_iload_n (pc := 34) (zk3 kX1_tipsyAt_1) rfl ?_
    refine z_istore (pc := 35) (zk4 kX1_tipsyAt_1) rfl rfl ?_
    show Z D B xX1_tipsyAt _ _ _ 37 [some (.ref p), some (.int (nI k)), some (.int 0), some (.int (nI k)), some (.int 0), some (.int 0)] _ _ _
    have lp37 : ∀ (n_ : Nat) (t : Int32) (i : Nat), k - i < n_ → (i ≤ k) → (t = sum0 (σ 2) i) → Z D B xX1_tipsyAt 0 0 (fun r h1 z1 => r = some (.int (tipsy σ k)) ∧ h1 = h ∧ z1 = sz) 37 [some (.ref p), some (.int (nI k)), some (.int 0), some (.int (nI k)), some (.int t), some (.int (nI i))] [] h sz := by
      intro n_
      induction n_ with
      | zero => intro t i hm_; exact absurd hm_ (Nat.not_lt_zero _)
      | succ n_ ih37 =>
        intro t i hm_ hi ht
        refine z_iload (pc := 37) (zk5 kX1_tipsyAt_1) rfl ?_
        refine z_iload_n (pc := 39) (zk6 kX1_tipsyAt_1) rfl ?_
        refine z_icmp_ge (pc := 40) (zk7 kX1_tipsyAt_1) (tgt := 61) (by decide) (fun c_1 => ?_) (fun c_1 => ?_)
        · refine z_iload (pc := 61) (zk1 kX1_tipsyAt_2) rfl ?_
          exact z_iret (pc := 63) (zk2 kX1_tipsyAt_2) rfl (Nat.zero_le _) (Nat.zero_le _) ⟨by have := (nI_le_iff (a := k) (b := i) (by omega) (by omega)).mp c_1; rw [ht, show i = k by omega, tipsy, if_pos hb], rfl, rfl⟩
        · have hlt : i < k := by
            rcases Nat.lt_or_ge i k with q | q
            · exact q
            · exact absurd ((nI_le_iff (by omega) (by omega)).mpr q) c_1
          refine z_iload (pc := 43) (zk8 kX1_tipsyAt_1) rfl ?_
          refine z_aload_n (pc := 45) (zk9 kX1_tipsyAt_1) rfl ?_
          refine z_getf (pc := 46) (zk10 kX1_tipsyAt_1) flX1_19 hL.1 gLn_2 ?_
          refine z_iload (pc := 49) (zk11 kX1_tipsyAt_1) rfl ?_
          refine z_ialdN (pc := 51) (zk12 kX1_tipsyAt_1) (f := σ 2) (j := i) hL.2.2.1 (by omega) rfl ?_
          refine z_iadd (pc := 52) (zk13 kX1_tipsyAt_1) ?_
          refine z_istore (pc := 53) (zk14 kX1_tipsyAt_1) rfl rfl ?_
          show Z D B xX1_tipsyAt _ _ _ 55 [some (.ref p), some (.int (nI k)), some (.int 0), some (.int (nI k)), some (.int (t + (σ 2 i))), some (.int (nI i))] _ _ _
          refine z_iinc (pc := 55) (zk15 kX1_tipsyAt_1) (v := nI (i + 1)) rfl zinc rfl rfl ?_
          show Z D B xX1_tipsyAt _ _ _ 58 [some (.ref p), some (.int (nI k)), some (.int 0), some (.int (nI k)), some (.int (t + (σ 2 i))), some (.int (nI (i + 1)))] _ _ _
          refine z_goto (pc := 58) (zk0 kX1_tipsyAt_2) (tgt := 37) (by decide) ?_
          exact ih37 (t + (σ 2 i)) (i + 1) (by omega) (by omega) (by rw [ht]; rfl)
    exact lp37 _ 0 0 (Nat.lt_succ_self _) (by omega) rfl
  · refine z_aload_n (pc := 0) (zk0 kX1_tipsyAt_0) rfl ?_
    refine z_getf (pc := 1) (zk1 kX1_tipsyAt_0) flX1_31 hL.1 (v := .int (σ 6 0)) rfl ?_
    refine z_if_eq (pc := 4) (zk2 kX1_tipsyAt_0) (tgt := 13) (by decide) (fun q => absurd q hb) (fun _ => ?_)
    refine z_iload_n (pc := 7) (zk3 kX1_tipsyAt_0) rfl ?_
    refine z_iconst (pc := 8) (zk4 kX1_tipsyAt_0) (v := 1) (by decide) ?_
    refine z_iadd (pc := 9) (zk5 kX1_tipsyAt_0) ?_
    refine z_top (congrArg Value.int (nI_1 k)) ?_
    refine z_goto (pc := 10) (zk6 kX1_tipsyAt_0) (tgt := 14) (by decide) ?_
    refine z_istore_n (pc := 14) (zk8 kX1_tipsyAt_0) rfl rfl ?_
    show Z D B xX1_tipsyAt _ _ _ 15 [some (.ref p), some (.int (nI k)), some (.int (nI (k + 1))), none, none, none] _ _ _
    refine z_aload_n (pc := 15) (zk9 kX1_tipsyAt_0) rfl ?_
    refine z_getf (pc := 16) (zk10 kX1_tipsyAt_0) flX1_31 hL.1 (v := .int (σ 6 0)) rfl ?_
    refine z_if_eq (pc := 19) (zk11 kX1_tipsyAt_0) (tgt := 29) (by decide) (fun q => absurd q hb) (fun _ => ?_)
    refine z_aload_n (pc := 22) (zk12 kX1_tipsyAt_0) rfl ?_
    refine z_getf (pc := 23) (zk13 kX1_tipsyAt_0) flX1_9 hL.1 (v := .int (nI n)) (by rw [← hn]; rfl) ?_
    refine z_goto (pc := 26) (zk14 kX1_tipsyAt_0) (tgt := 30) (by decide) ?_
    refine z_istore_n (pc := 30) (zk0 kX1_tipsyAt_1) rfl rfl ?_
    show Z D B xX1_tipsyAt _ _ _ 31 [some (.ref p), some (.int (nI k)), some (.int (nI (k + 1))), some (.int (nI n)), none, none] _ _ _
    refine z_iconst (pc := 31) (zk1 kX1_tipsyAt_1) (v := 0) (by decide) ?_
    refine z_istore (pc := 32) (zk2 kX1_tipsyAt_1) rfl rfl ?_
    show Z D B xX1_tipsyAt _ _ _ 34 [some (.ref p), some (.int (nI k)), some (.int (nI (k + 1))), some (.int (nI n)), some (.int 0), none] _ _ _
    refine z_iload_n (pc := 34) (zk3 kX1_tipsyAt_1) rfl ?_
    refine z_istore (pc := 35) (zk4 kX1_tipsyAt_1) rfl rfl ?_
    show Z D B xX1_tipsyAt _ _ _ 37 [some (.ref p), some (.int (nI k)), some (.int (nI (k + 1))), some (.int (nI n)), some (.int 0), some (.int (nI (k + 1)))] _ _ _
    have lp37 : ∀ (n_ : Nat) (t : Int32) (i : Nat), n - i < n_ → (k + 1 ≤ i) → (i ≤ n) → (t = sum0 (fun j => σ 2 (k + 1 + j)) (i - (k + 1))) → Z D B xX1_tipsyAt 0 0 (fun r h1 z1 => r = some (.int (tipsy σ k)) ∧ h1 = h ∧ z1 = sz) 37 [some (.ref p), some (.int (nI k)), some (.int (nI (k + 1))), some (.int (nI n)), some (.int t), some (.int (nI i))] [] h sz := by
      intro n_
      induction n_ with
      | zero => intro t i hm_; exact absurd hm_ (Nat.not_lt_zero _)
      | succ n_ ih37 =>
        intro t i hm_ h0 hi ht
        refine z_iload (pc := 37) (zk5 kX1_tipsyAt_1) rfl ?_
        refine z_iload_n (pc := 39) (zk6 kX1_tipsyAt_1) rfl ?_
        refine z_icmp_ge (pc := 40) (zk7 kX1_tipsyAt_1) (tgt := 61) (by decide) (fun c_2 => ?_) (fun c_2 => ?_)
        · refine z_iload (pc := 61) (zk1 kX1_tipsyAt_2) rfl ?_
          exact z_iret (pc := 63) (zk2 kX1_tipsyAt_2) rfl (Nat.zero_le _) (Nat.zero_le _) ⟨by have := (nI_le_iff (a := n) (b := i) (by omega) (by omega)).mp c_2; rw [ht, show i = n by omega, tipsy, if_neg hb, hsN_eq hn h12], rfl, rfl⟩
        · have hlt : i < n := by
            rcases Nat.lt_or_ge i n with q | q
            · exact q
            · exact absurd ((nI_le_iff (by omega) (by omega)).mpr q) c_2
          refine z_iload (pc := 43) (zk8 kX1_tipsyAt_1) rfl ?_
          refine z_aload_n (pc := 45) (zk9 kX1_tipsyAt_1) rfl ?_
          refine z_getf (pc := 46) (zk10 kX1_tipsyAt_1) flX1_19 hL.1 gLn_2 ?_
          refine z_iload (pc := 49) (zk11 kX1_tipsyAt_1) rfl ?_
          refine z_ialdN (pc := 51) (zk12 kX1_tipsyAt_1) (f := σ 2) (j := i) hL.2.2.1 (by omega) rfl ?_
          refine z_iadd (pc := 52) (zk13 kX1_tipsyAt_1) ?_
          refine z_istore (pc := 53) (zk14 kX1_tipsyAt_1) rfl rfl ?_
          show Z D B xX1_tipsyAt _ _ _ 55 [some (.ref p), some (.int (nI k)), some (.int (nI (k + 1))), some (.int (nI n)), some (.int (t + (σ 2 i))), some (.int (nI i))] _ _ _
          refine z_iinc (pc := 55) (zk15 kX1_tipsyAt_1) (v := nI (i + 1)) rfl zinc rfl rfl ?_
          show Z D B xX1_tipsyAt _ _ _ 58 [some (.ref p), some (.int (nI k)), some (.int (nI (k + 1))), some (.int (nI n)), some (.int (t + (σ 2 i))), some (.int (nI (i + 1)))] _ _ _
          refine z_goto (pc := 58) (zk0 kX1_tipsyAt_2) (tgt := 37) (by decide) ?_
          exact ih37 (t + (σ 2 i)) (i + 1) (by omega) (by omega) (by omega) (by rw [ht, show i + 1 - (k + 1) = (i - (k + 1)) + 1 by omega, sum0, show k + 1 + (i - (k + 1)) = i by omega])
    exact lp37 _ 0 (k + 1) (Nat.lt_succ_self _) (Nat.le_refl _) (by omega) (by rw [Nat.sub_self]; rfl)
set_option maxRecDepth 20000 in
theorem c_understands {D : zD} {B : Nat} {h : zH} {sz : Nat} {p l k : Nat} {σ : Ln} (hL : LnAt h p σ) (hl : l < 8) (hk : k < 12) : zRd D B xX1_understands [.ref p, .int (nI l), .int (nI k)] h sz (.int (oI (undB σ l k))) := by
  refine zM.of (by decide) rfl (n := 0) ?_
  show Z D B xX1_understands 0 0 _ 0 [some (.ref p), some (.int (nI l)), some (.int (nI k))] [] h sz
  refine z_iload_n (pc := 0) (zk0 kX1_understands_0) rfl ?_
  refine z_aload_n (pc := 1) (zk1 kX1_understands_0) rfl ?_
  refine z_getf (pc := 2) (zk2 kX1_understands_0) flX1_50 hL.1 gLn_12 ?_
  refine z_iload_n (pc := 5) (zk3 kX1_understands_0) rfl ?_
  refine z_ialdN (pc := 6) (zk4 kX1_understands_0) (f := σ 12) (j := l) hL.2.2.2.2.2.2.2.1 (by omega) rfl ?_
  refine z_icmp_eq (pc := 7) (zk5 kX1_understands_0) (tgt := 29) (by decide) (fun c_1 => ?_) (fun c_1 => ?_)
  · refine z_iconst (pc := 29) (zk3 kX1_understands_1) (v := 1) (by decide) ?_
    refine z_goto (pc := 30) (zk4 kX1_understands_1) (tgt := 34) (by decide) ?_
    exact z_zret (pc := 34) (zk6 kX1_understands_1) rfl (Nat.zero_le _) (Nat.zero_le _) (by decide) ⟨by simp [undB, oI, c_1], rfl, rfl⟩
  · refine z_aload_n (pc := 10) (zk6 kX1_understands_0) rfl ?_
    refine z_getf (pc := 11) (zk7 kX1_understands_0) flX1_22 hL.1 gLn_3 ?_
    refine z_iload_n (pc := 14) (zk8 kX1_understands_0) rfl ?_
    refine z_ialdN (pc := 15) (zk9 kX1_understands_0) (f := σ 3) (j := k) hL.2.2.2.1 (by omega) rfl ?_
    refine z_aload_n (pc := 16) (zk10 kX1_understands_0) rfl ?_
    refine z_getf (pc := 17) (zk11 kX1_understands_0) flX1_47 hL.1 gLn_11 ?_
    refine z_iload_n (pc := 20) (zk12 kX1_understands_0) rfl ?_
    refine z_ialdN (pc := 21) (zk13 kX1_understands_0) (f := σ 11) (j := l) hL.2.2.2.2.2.2.1 (by omega) rfl ?_
    refine z_ishr (pc := 22) (zk14 kX1_understands_0) ?_
    refine z_iconst (pc := 23) (zk15 kX1_understands_0) (v := 1) (by decide) ?_
    refine z_iand (pc := 24) (zk0 kX1_understands_1) ?_
    refine z_iconst (pc := 25) (zk1 kX1_understands_1) (v := 1) (by decide) ?_
    refine z_icmp_ne (pc := 26) (zk2 kX1_understands_1) (tgt := 33) (by decide) (fun c_2 => ?_) (fun c_2 => ?_)
    · refine z_iconst (pc := 33) (zk5 kX1_understands_1) (v := 0) (by decide) ?_
      exact z_zret (pc := 34) (zk6 kX1_understands_1) rfl (Nat.zero_le _) (Nat.zero_le _) (by decide) ⟨by simp [undB, oI, c_1, c_2], rfl, rfl⟩
    · refine z_iconst (pc := 29) (zk3 kX1_understands_1) (v := 1) (by decide) ?_
      refine z_goto (pc := 30) (zk4 kX1_understands_1) (tgt := 34) (by decide) ?_
      exact z_zret (pc := 34) (zk6 kX1_understands_1) rfl (Nat.zero_le _) (Nat.zero_le _) (by decide) ⟨by simp [undB, oI, c_1, c_2], rfl, rfl⟩
set_option maxRecDepth 20000 in
theorem c_isNearTo {D : zD} {B : Nat} {h : zH} {sz : Nat} {p l k : Nat} {σ : Ln} (hL : LnAt h p σ) (hl : l < 8) : zRd D B xX1_isNearTo [.ref p, .int (nI l), .int (nI k)] h sz (.int (oI (nearB σ l k))) := by
  refine zM.of (by decide) rfl (n := 0) ?_
  show Z D B xX1_isNearTo 0 0 _ 0 [some (.ref p), some (.int (nI l)), some (.int (nI k))] [] h sz
  refine z_aload_n (pc := 0) (zk0 kX1_isNearTo_0) rfl ?_
  refine z_getf (pc := 1) (zk1 kX1_isNearTo_0) flX1_50 hL.1 gLn_12 ?_
  refine z_iload_n (pc := 4) (zk2 kX1_isNearTo_0) rfl ?_
  refine z_ialdN (pc := 5) (zk3 kX1_isNearTo_0) (f := σ 12) (j := l) hL.2.2.2.2.2.2.2.1 (by omega) rfl ?_
  refine z_iload_n (pc := 6) (zk4 kX1_isNearTo_0) rfl ?_
  refine z_isub (pc := 7) (zk5 kX1_isNearTo_0) ?_
  refine z_mabs (pc := 8) (zk6 kX1_isNearTo_0) mmX1_91 rfl rfl (Nat.zero_le _) (Nat.zero_le _) ?_
  refine z_iconst (pc := 11) (zk7 kX1_isNearTo_0) (v := 1) (by decide) ?_
  refine z_icmp_gt (pc := 12) (zk8 kX1_isNearTo_0) (tgt := 19) (by decide) (fun c_1 => ?_) (fun c_1 => ?_)
  · refine z_iconst (pc := 19) (zk11 kX1_isNearTo_0) (v := 0) (by decide) ?_
    exact z_zret (pc := 20) (zk12 kX1_isNearTo_0) rfl (Nat.zero_le _) (Nat.zero_le _) (by decide) ⟨by simp [nearB, oI, c_1, Int32.not_le.mpr c_1], rfl, rfl⟩
  · refine z_iconst (pc := 15) (zk9 kX1_isNearTo_0) (v := 1) (by decide) ?_
    refine z_goto (pc := 16) (zk10 kX1_isNearTo_0) (tgt := 20) (by decide) ?_
    exact z_zret (pc := 20) (zk12 kX1_isNearTo_0) rfl (Nat.zero_le _) (Nat.zero_le _) (by decide) ⟨by simp [nearB, oI, c_1, Int32.not_lt.mp c_1], rfl, rfl⟩
set_option maxRecDepth 20000 in
theorem c_heardWith {D : zD} {B : Nat} {h : zH} {sz : Nat} {p l k : Nat} {σ : Ln} {lo : Int32} (hL : LnAt h p σ) (hl : l < 8) (hk : k < 12) : zRd D B xX1_heardWith [.ref p, .int (nI l), .int (nI k), .int lo] h sz (.int (heardW σ l k lo)) := by
  refine zM.of (by decide) rfl (n := 3) ?_
  show Z D B xX1_heardWith 0 0 _ 0 [some (.ref p), some (.int (nI l)), some (.int (nI k)), some (.int lo), none, none, none] [] h sz
  refine z_aload_n (pc := 0) (zk0 kX1_heardWith_0) rfl ?_
  refine z_iload_n (pc := 1) (zk1 kX1_heardWith_0) rfl ?_
  refine z_iload_n (pc := 2) (zk2 kX1_heardWith_0) rfl ?_
  refine z_rdV (pc := 3) (zk3 kX1_heardWith_0) (st := []) lkX1_77 ivX1_readAt hL.1 rfl rfl (c_readAt hL (by omega)) rfl ⟨rfl, rfl⟩ rfl rfl ?_ rfl
  refine z_oif_ne (pc := 6) (zk4 kX1_heardWith_0) (tgt := 11) (by decide) (fun c_1 => ?_) (fun c_1 => ?_)
  · refine z_aload_n (pc := 11) (zk7 kX1_heardWith_0) rfl ?_
    refine z_getf (pc := 12) (zk8 kX1_heardWith_0) flX1_53 hL.1 gLn_13 ?_
    refine z_iload_n (pc := 15) (zk9 kX1_heardWith_0) rfl ?_
    refine z_ialdN (pc := 16) (zk10 kX1_heardWith_0) (f := σ 13) (j := l) hL.2.2.2.2.2.2.2.2 (by omega) rfl ?_
    refine z_istore (pc := 17) (zk11 kX1_heardWith_0) rfl rfl ?_
    show Z D B xX1_heardWith _ _ _ 19 [some (.ref p), some (.int (nI l)), some (.int (nI k)), some (.int lo), some (.int (σ 13 l)), none, none] _ _ _
    refine z_iload (pc := 19) (zk12 kX1_heardWith_0) rfl ?_
    refine z_aload_n (pc := 21) (zk13 kX1_heardWith_0) rfl ?_
    refine z_getf (pc := 22) (zk14 kX1_heardWith_0) flX1_15 hL.1 gLn_1 ?_
    refine z_iload_n (pc := 25) (zk15 kX1_heardWith_0) rfl ?_
    refine z_ialdN (pc := 26) (zk0 kX1_heardWith_1) (f := σ 1) (j := k) hL.2.1 (by omega) rfl ?_
    refine z_isub (pc := 27) (zk1 kX1_heardWith_1) ?_
    refine z_iload_n (pc := 28) (zk2 kX1_heardWith_1) rfl ?_
    refine z_isub (pc := 29) (zk3 kX1_heardWith_1) ?_
    refine z_iload (pc := 30) (zk4 kX1_heardWith_1) rfl ?_
    refine z_rdS (pc := 32) (zk5 kX1_heardWith_1) (st := []) lkX1_81 isX1_within (c_within) rfl ⟨rfl, rfl⟩ rfl rfl ?_ rfl
    refine z_istore (pc := 35) (zk6 kX1_heardWith_1) rfl rfl ?_
    show Z D B xX1_heardWith _ _ _ 37 [some (.ref p), some (.int (nI l)), some (.int (nI k)), some (.int lo), some (.int (σ 13 l)), some (.int (wthn (((σ 13 l) - (σ 1 k)) - lo) (σ 13 l))), none] _ _ _
    refine z_iload (pc := 37) (zk7 kX1_heardWith_1) rfl ?_
    refine z_aload_n (pc := 39) (zk8 kX1_heardWith_1) rfl ?_
    refine z_getf (pc := 40) (zk9 kX1_heardWith_1) flX1_15 hL.1 gLn_1 ?_
    refine z_iload_n (pc := 43) (zk10 kX1_heardWith_1) rfl ?_
    refine z_ialdN (pc := 44) (zk11 kX1_heardWith_1) (f := σ 1) (j := k) hL.2.1 (by omega) rfl ?_
    refine z_iconst (pc := 45) (zk12 kX1_heardWith_1) (v := 2) (by decide) ?_
    refine z_idiv (pc := 46) (zk13 kX1_heardWith_1) (by decide) ?_
    refine z_isub (pc := 47) (zk14 kX1_heardWith_1) ?_
    refine z_iload_n (pc := 48) (zk15 kX1_heardWith_1) rfl ?_
    refine z_isub (pc := 49) (zk0 kX1_heardWith_2) ?_
    refine z_iload (pc := 50) (zk1 kX1_heardWith_2) rfl ?_
    refine z_rdS (pc := 52) (zk2 kX1_heardWith_2) (st := []) lkX1_81 isX1_within (c_within) rfl ⟨rfl, rfl⟩ rfl rfl ?_ rfl
    refine z_istore (pc := 55) (zk3 kX1_heardWith_2) rfl rfl ?_
    show Z D B xX1_heardWith _ _ _ 57 [some (.ref p), some (.int (nI l)), some (.int (nI k)), some (.int lo), some (.int (σ 13 l)), some (.int (wthn (((σ 13 l) - (σ 1 k)) - lo) (σ 13 l))), some (.int (wthn (((σ 13 l) - ((σ 1 k) / 2)) - lo) (σ 13 l)))] _ _ _
    refine z_aload_n (pc := 57) (zk4 kX1_heardWith_2) rfl ?_
    refine z_getf (pc := 58) (zk5 kX1_heardWith_2) flX1_44 hL.1 gLn_10 ?_
    refine z_iload_n (pc := 61) (zk6 kX1_heardWith_2) rfl ?_
    refine z_ialdN (pc := 62) (zk7 kX1_heardWith_2) (f := σ 10) (j := l) hL.2.2.2.2.2.1 (by omega) rfl ?_
    by_cases c_2 : σ 10 l = 1
    · refine z_tableIn (pc := 63) (zk8 kX1_heardWith_2) (off := 33) (tgt := 96) (by rw [c_2]; decide) (by rw [c_2]; decide) (by rw [c_2]; rfl) (by decide) ?_
      refine z_iload (pc := 96) (zk9 kX1_heardWith_2) rfl ?_
      exact z_iret (pc := 98) (zk10 kX1_heardWith_2) rfl (Nat.zero_le _) (Nat.zero_le _) ⟨by simp [heardW, c_1, c_2], rfl, rfl⟩
    by_cases c_3 : σ 10 l = 2
    · refine z_tableIn (pc := 63) (zk8 kX1_heardWith_2) (off := 51) (tgt := 114) (by rw [c_3]; decide) (by rw [c_3]; decide) (by rw [c_3]; rfl) (by decide) ?_
      refine z_aload_n (pc := 114) (zk4 kX1_heardWith_3) rfl ?_
      refine z_iload_n (pc := 115) (zk5 kX1_heardWith_3) rfl ?_
      refine z_iload_n (pc := 116) (zk6 kX1_heardWith_3) rfl ?_
      refine z_rdV (pc := 117) (zk7 kX1_heardWith_3) (st := []) lkX1_85 ivX1_understands hL.1 rfl rfl (c_understands hL (by omega) (by omega)) rfl ⟨rfl, rfl⟩ rfl rfl ?_ rfl
      refine z_oif_eq (pc := 120) (zk8 kX1_heardWith_3) (tgt := 128) (by decide) (fun c_4 => ?_) (fun c_4 => ?_)
      · refine z_iconst (pc := 128) (zk11 kX1_heardWith_3) (v := 0) (by decide) ?_
        exact z_iret (pc := 129) (zk12 kX1_heardWith_3) rfl (Nat.zero_le _) (Nat.zero_le _) ⟨by simp [heardW, c_1, c_2, c_3, c_4], rfl, rfl⟩
      · refine z_iload (pc := 123) (zk9 kX1_heardWith_3) rfl ?_
        refine z_goto (pc := 125) (zk10 kX1_heardWith_3) (tgt := 129) (by decide) ?_
        exact z_iret (pc := 129) (zk12 kX1_heardWith_3) rfl (Nat.zero_le _) (Nat.zero_le _) ⟨by simp [heardW, c_1, c_2, c_3, c_4], rfl, rfl⟩
    by_cases c_5 : σ 10 l = 3
    · refine z_tableIn (pc := 63) (zk8 kX1_heardWith_2) (off := 36) (tgt := 99) (by rw [c_5]; decide) (by rw [c_5]; decide) (by rw [c_5]; rfl) (by decide) ?_
      refine z_iload (pc := 99) (zk11 kX1_heardWith_2) rfl ?_
      refine z_aload_n (pc := 101) (zk12 kX1_heardWith_2) rfl ?_
      refine z_getf (pc := 102) (zk13 kX1_heardWith_2) flX1_47 hL.1 gLn_11 ?_
      refine z_iload_n (pc := 105) (zk14 kX1_heardWith_2) rfl ?_
      refine z_ialdN (pc := 106) (zk15 kX1_heardWith_2) (f := σ 11) (j := l) hL.2.2.2.2.2.2.1 (by omega) rfl ?_
      refine z_iadd (pc := 107) (zk0 kX1_heardWith_3) ?_
      refine z_iload (pc := 108) (zk1 kX1_heardWith_3) rfl ?_
      refine z_rdS (pc := 110) (zk2 kX1_heardWith_3) (st := []) lkX1_81 isX1_within (c_within) rfl ⟨rfl, rfl⟩ rfl rfl ?_ rfl
      exact z_iret (pc := 113) (zk3 kX1_heardWith_3) rfl (Nat.zero_le _) (Nat.zero_le _) ⟨by simp [heardW, c_1, c_2, c_3, c_5], rfl, rfl⟩
    by_cases c_6 : σ 10 l = 4
    · refine z_tableIn (pc := 63) (zk8 kX1_heardWith_2) (off := 67) (tgt := 130) (by rw [c_6]; decide) (by rw [c_6]; decide) (by rw [c_6]; rfl) (by decide) ?_
      refine z_aload_n (pc := 130) (zk13 kX1_heardWith_3) rfl ?_
      refine z_iload_n (pc := 131) (zk14 kX1_heardWith_3) rfl ?_
      refine z_iload_n (pc := 132) (zk15 kX1_heardWith_3) rfl ?_
      refine z_rdV (pc := 133) (zk0 kX1_heardWith_4) (st := []) lkX1_85 ivX1_understands hL.1 rfl rfl (c_understands hL (by omega) (by omega)) rfl ⟨rfl, rfl⟩ rfl rfl ?_ rfl
      refine z_oif_eq (pc := 136) (zk1 kX1_heardWith_4) (tgt := 153) (by decide) (fun c_7 => ?_) (fun c_7 => ?_)
      · refine z_iconst (pc := 153) (zk9 kX1_heardWith_4) (v := 0) (by decide) ?_
        exact z_iret (pc := 154) (zk10 kX1_heardWith_4) rfl (Nat.zero_le _) (Nat.zero_le _) ⟨by simp [heardW, c_1, c_2, c_3, c_5, c_6, c_7], rfl, rfl⟩
      · refine z_aload_n (pc := 139) (zk2 kX1_heardWith_4) rfl ?_
        refine z_iload_n (pc := 140) (zk3 kX1_heardWith_4) rfl ?_
        refine z_iload_n (pc := 141) (zk4 kX1_heardWith_4) rfl ?_
        refine z_rdV (pc := 142) (zk5 kX1_heardWith_4) (st := []) lkX1_88 ivX1_isNearTo hL.1 rfl rfl (c_isNearTo hL (by omega)) rfl ⟨rfl, rfl⟩ rfl rfl ?_ rfl
        refine z_oif_eq (pc := 145) (zk6 kX1_heardWith_4) (tgt := 153) (by decide) (fun c_8 => ?_) (fun c_8 => ?_)
        · refine z_iconst (pc := 153) (zk9 kX1_heardWith_4) (v := 0) (by decide) ?_
          exact z_iret (pc := 154) (zk10 kX1_heardWith_4) rfl (Nat.zero_le _) (Nat.zero_le _) ⟨by simp [heardW, c_1, c_2, c_3, c_5, c_6, c_7, c_8], rfl, rfl⟩
        · refine z_iload (pc := 148) (zk7 kX1_heardWith_4) rfl ?_
          refine z_goto (pc := 150) (zk8 kX1_heardWith_4) (tgt := 154) (by decide) ?_
          exact z_iret (pc := 154) (zk10 kX1_heardWith_4) rfl (Nat.zero_le _) (Nat.zero_le _) ⟨by simp [heardW, c_1, c_2, c_3, c_5, c_6, c_7, c_8], rfl, rfl⟩
    by_cases c_9 : σ 10 l = 5
    · refine z_tableIn (pc := 63) (zk8 kX1_heardWith_2) (off := 92) (tgt := 155) (by rw [c_9]; decide) (by rw [c_9]; decide) (by rw [c_9]; rfl) (by decide) ?_
      refine z_iload_n (pc := 155) (zk11 kX1_heardWith_4) rfl ?_
      refine z_aload_n (pc := 156) (zk12 kX1_heardWith_4) rfl ?_
      refine z_getf (pc := 157) (zk13 kX1_heardWith_4) flX1_50 hL.1 gLn_12 ?_
      refine z_iload_n (pc := 160) (zk14 kX1_heardWith_4) rfl ?_
      refine z_ialdN (pc := 161) (zk15 kX1_heardWith_4) (f := σ 12) (j := l) hL.2.2.2.2.2.2.2.1 (by omega) rfl ?_
      refine z_icmp_ne (pc := 162) (zk0 kX1_heardWith_5) (tgt := 170) (by decide) (fun c_10 => ?_) (fun c_10 => ?_)
      · refine z_iconst (pc := 170) (zk3 kX1_heardWith_5) (v := 0) (by decide) ?_
        exact z_iret (pc := 171) (zk4 kX1_heardWith_5) rfl (Nat.zero_le _) (Nat.zero_le _) ⟨by simp [heardW, c_1, c_2, c_3, c_5, c_6, c_9, c_10], rfl, rfl⟩
      · refine z_iload (pc := 165) (zk1 kX1_heardWith_5) rfl ?_
        refine z_goto (pc := 167) (zk2 kX1_heardWith_5) (tgt := 171) (by decide) ?_
        exact z_iret (pc := 171) (zk4 kX1_heardWith_5) rfl (Nat.zero_le _) (Nat.zero_le _) ⟨by simp [heardW, c_1, c_2, c_3, c_5, c_6, c_9, c_10], rfl, rfl⟩
    refine z_tableOut (pc := 63) (zk8 kX1_heardWith_2) (tgt := 172) (zOut1_5 c_2 c_3 c_5 c_6 c_9) (by decide) ?_
    refine z_iload (pc := 172) (zk5 kX1_heardWith_5) rfl ?_
    exact z_iret (pc := 174) (zk6 kX1_heardWith_5) rfl (Nat.zero_le _) (Nat.zero_le _) ⟨by simp [heardW, c_1, c_2, c_3, c_5, c_6, c_9], rfl, rfl⟩
  · refine z_iconst (pc := 9) (zk5 kX1_heardWith_0) (v := 0) (by decide) ?_
    exact z_iret (pc := 10) (zk6 kX1_heardWith_0) rfl (Nat.zero_le _) (Nat.zero_le _) ⟨by simp [heardW, c_1], rfl, rfl⟩
set_option maxRecDepth 20000 in
theorem c_heardAt {D : zD} {B : Nat} {h : zH} {sz : Nat} {p n l k : Nat} {σ : Ln} (hL : LnAt h p σ) (hn : σ 0 0 = nI n) (h12 : n ≤ 12) (hl : l < 8) (hk : k < n) : zRd D B xX1_heardAt [.ref p, .int (nI l), .int (nI k)] h sz (.int (heardF σ l k)) := by
  refine zM.of (by decide) rfl (n := 0) ?_
  show Z D B xX1_heardAt 0 0 _ 0 [some (.ref p), some (.int (nI l)), some (.int (nI k))] [] h sz
  refine z_aload_n (pc := 0) (zk0 kX1_heardAt_0) rfl ?_
  refine z_iload_n (pc := 1) (zk1 kX1_heardAt_0) rfl ?_
  refine z_iload_n (pc := 2) (zk2 kX1_heardAt_0) rfl ?_
  refine z_aload_n (pc := 3) (zk3 kX1_heardAt_0) rfl ?_
  refine z_aload_n (pc := 4) (zk4 kX1_heardAt_0) rfl ?_
  refine z_iload_n (pc := 5) (zk5 kX1_heardAt_0) rfl ?_
  refine z_rdV (pc := 6) (zk6 kX1_heardAt_0) (st := [.ref p, .int (nI k), .int (nI l), .ref p]) lkX1_66 ivX1_tipsyAt hL.1 rfl rfl (c_tipsyAt hL hn h12 (by omega)) rfl ⟨rfl, rfl⟩ rfl rfl ?_ rfl
  refine z_rdV (pc := 9) (zk7 kX1_heardAt_0) (st := [.int (nI k), .int (nI l), .ref p]) lkX1_70 ivX1_leftOutAfter hL.1 rfl rfl (c_leftOut hL) rfl ⟨rfl, rfl⟩ rfl rfl ?_ rfl
  refine z_rdV (pc := 12) (zk8 kX1_heardAt_0) (st := []) lkX1_73 ivX1_heardWith hL.1 rfl rfl (c_heardWith hL (by omega) (by omega)) rfl ⟨rfl, rfl⟩ rfl rfl ?_ rfl
  exact z_iret (pc := 15) (zk9 kX1_heardAt_0) rfl (Nat.zero_le _) (Nat.zero_le _) ⟨rfl, rfl, rfl⟩
set_option maxRecDepth 20000 in
theorem c_isKnown {D : zD} {B : Nat} {h : zH} {sz : Nat} {p n l k : Nat} {σ : Ln} (hL : LnAt h p σ) (hn : σ 0 0 = nI n) (h12 : n ≤ 12) (hl : l < 8) (hk : k < n) : zRd D B xX1_isKnown [.ref p, .int (nI l), .int (nI k)] h sz (.int (oI (knowB σ l k))) := by
  refine zM.of (by decide) rfl (n := 0) ?_
  show Z D B xX1_isKnown 0 0 _ 0 [some (.ref p), some (.int (nI l)), some (.int (nI k))] [] h sz
  refine z_iconst (pc := 0) (zk0 kX1_isKnown_0) (v := 2) (by decide) ?_
  refine z_aload_n (pc := 1) (zk1 kX1_isKnown_0) rfl ?_
  refine z_iload_n (pc := 2) (zk2 kX1_isKnown_0) rfl ?_
  refine z_iload_n (pc := 3) (zk3 kX1_isKnown_0) rfl ?_
  refine z_rdV (pc := 4) (zk4 kX1_isKnown_0) (st := [.int 2]) lkX1_96 ivX1_heardAt hL.1 rfl rfl (c_heardAt hL hn h12 (by omega) (by omega)) rfl ⟨rfl, rfl⟩ rfl rfl ?_ rfl
  refine z_imul (pc := 7) (zk5 kX1_isKnown_0) ?_
  refine z_aload_n (pc := 8) (zk6 kX1_isKnown_0) rfl ?_
  refine z_getf (pc := 9) (zk7 kX1_isKnown_0) flX1_53 hL.1 gLn_13 ?_
  refine z_iload_n (pc := 12) (zk8 kX1_isKnown_0) rfl ?_
  refine z_ialdN (pc := 13) (zk9 kX1_isKnown_0) (f := σ 13) (j := l) hL.2.2.2.2.2.2.2.2 (by omega) rfl ?_
  refine z_icmp_lt (pc := 14) (zk10 kX1_isKnown_0) (tgt := 21) (by decide) (fun c_1 => ?_) (fun c_1 => ?_)
  · refine z_iconst (pc := 21) (zk13 kX1_isKnown_0) (v := 0) (by decide) ?_
    exact z_zret (pc := 22) (zk14 kX1_isKnown_0) rfl (Nat.zero_le _) (Nat.zero_le _) (by decide) ⟨by simp [knowB, oI, c_1, Int32.not_le.mpr c_1], rfl, rfl⟩
  · refine z_iconst (pc := 17) (zk11 kX1_isKnown_0) (v := 1) (by decide) ?_
    refine z_goto (pc := 18) (zk12 kX1_isKnown_0) (tgt := 22) (by decide) ?_
    exact z_zret (pc := 22) (zk14 kX1_isKnown_0) rfl (Nat.zero_le _) (Nat.zero_le _) (by decide) ⟨by simp [knowB, oI, c_1, Int32.not_lt.mp c_1], rfl, rfl⟩
