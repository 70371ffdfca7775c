set_option maxRecDepth 20000 in
theorem c_within {D : zD} {B : Nat} {h : zH} {sz : Nat} {x y : Int32}  : zRd D B xX1_within [.int x, .int y] h sz (.int (wthn x y)) := by
  refine zM.of (by decide) rfl (n := 0) ?_
  show Z D B xX1_within 0 0 _ 0 [some (.int x), some (.int y)] [] h sz
  refine z_iload_n (pc := 0) (zk0 kX1_within_0) rfl ?_
  refine z_if_ge (pc := 1) (zk1 kX1_within_0) (tgt := 6) (by decide) (fun c_1 => ?_) (fun c_1 => ?_)
  · refine z_iload_n (pc := 6) (zk4 kX1_within_0) rfl ?_
    refine z_iload_n (pc := 7) (zk5 kX1_within_0) rfl ?_
    refine z_icmp_le (pc := 8) (zk6 kX1_within_0) (tgt := 15) (by decide) (fun c_2 => ?_) (fun c_2 => ?_)
    · refine z_iload_n (pc := 15) (zk9 kX1_within_0) rfl ?_
      exact z_iret (pc := 16) (zk10 kX1_within_0) rfl (Nat.zero_le _) (Nat.zero_le _) ⟨by simp [wthn, c_1, Int32.not_lt.mpr c_1, c_2, Int32.not_lt.mpr c_2], rfl, rfl⟩
    · refine z_iload_n (pc := 11) (zk7 kX1_within_0) rfl ?_
      refine z_goto (pc := 12) (zk8 kX1_within_0) (tgt := 16) (by decide) ?_
      exact z_iret (pc := 16) (zk10 kX1_within_0) rfl (Nat.zero_le _) (Nat.zero_le _) ⟨by simp [wthn, c_1, Int32.not_lt.mpr c_1, c_2, Int32.not_le.mp c_2], rfl, rfl⟩
  · refine z_iconst (pc := 4) (zk2 kX1_within_0) (v := 0) (by decide) ?_
    exact z_iret (pc := 5) (zk3 kX1_within_0) rfl (Nat.zero_le _) (Nat.zero_le _) ⟨by simp [wthn, c_1, Int32.not_le.mp c_1], rfl, rfl⟩
set_option maxRecDepth 20000 in
theorem c_readAt {D : zD} {B : Nat} {h : zH} {sz : Nat} {p l k : Nat} {σ : Ln} (hL : LnAt h p σ) (hl : l < 8) : zRd D B xX1_readAt [.ref p, .int (nI l), .int (nI k)] h sz (.int (oI (readB σ l k))) := by
  refine zM.of (by decide) rfl (n := 0) ?_
  show Z D B xX1_readAt 0 0 _ 0 [some (.ref p), some (.int (nI l)), some (.int (nI k))] [] h sz
  refine z_aload_n (pc := 0) (zk0 kX1_readAt_0) rfl ?_
  refine z_getf (pc := 1) (zk1 kX1_readAt_0) flX1_31 hL.1 (v := .int (σ 6 0)) rfl ?_
  refine z_if_eq (pc := 4) (zk2 kX1_readAt_0) (tgt := 25) (by decide) (fun c_1 => ?_) (fun c_1 => ?_)
  · refine z_iload_n (pc := 25) (zk13 kX1_readAt_0) rfl ?_
    refine z_aload_n (pc := 26) (zk14 kX1_readAt_0) rfl ?_
    refine z_getf (pc := 27) (zk15 kX1_readAt_0) flX1_50 hL.1 gLn_12 ?_
    refine z_iload_n (pc := 30) (zk0 kX1_readAt_1) rfl ?_
    refine z_ialdN (pc := 31) (zk1 kX1_readAt_1) (f := σ 12) (j := l) hL.2.2.2.2.2.2.2.1 (by omega) rfl ?_
    refine z_icmp_gt (pc := 32) (zk2 kX1_readAt_1) (tgt := 39) (by decide) (fun c_2 => ?_) (fun c_2 => ?_)
    · refine z_iconst (pc := 39) (zk5 kX1_readAt_1) (v := 0) (by decide) ?_
      exact z_zret (pc := 40) (zk6 kX1_readAt_1) rfl (Nat.zero_le _) (Nat.zero_le _) (by decide) ⟨by simp [readB, oI, c_1, c_2, Int32.not_le.mpr c_2], rfl, rfl⟩
    · refine z_iconst (pc := 35) (zk3 kX1_readAt_1) (v := 1) (by decide) ?_
      refine z_goto (pc := 36) (zk4 kX1_readAt_1) (tgt := 40) (by decide) ?_
      exact z_zret (pc := 40) (zk6 kX1_readAt_1) rfl (Nat.zero_le _) (Nat.zero_le _) (by decide) ⟨by simp [readB, oI, c_1, c_2, Int32.not_lt.mp c_2], rfl, rfl⟩
  · refine z_iload_n (pc := 7) (zk3 kX1_readAt_0) rfl ?_
    refine z_aload_n (pc := 8) (zk4 kX1_readAt_0) rfl ?_
    refine z_getf (pc := 9) (zk5 kX1_readAt_0) flX1_50 hL.1 gLn_12 ?_
    refine z_iload_n (pc := 12) (zk6 kX1_readAt_0) rfl ?_
    refine z_ialdN (pc := 13) (zk7 kX1_readAt_0) (f := σ 12) (j := l) hL.2.2.2.2.2.2.2.1 (by omega) rfl ?_
    refine z_icmp_lt (pc := 14) (zk8 kX1_readAt_0) (tgt := 21) (by decide) (fun c_3 => ?_) (fun c_3 => ?_)
    · refine z_iconst (pc := 21) (zk11 kX1_readAt_0) (v := 0) (by decide) ?_
      refine z_goto (pc := 22) (zk12 kX1_readAt_0) (tgt := 40) (by decide) ?_
      exact z_zret (pc := 40) (zk6 kX1_readAt_1) rfl (Nat.zero_le _) (Nat.zero_le _) (by decide) ⟨by simp [readB, oI, c_1, c_3, Int32.not_le.mpr c_3], rfl, rfl⟩
    · refine z_iconst (pc := 17) (zk9 kX1_readAt_0) (v := 1) (by decide) ?_
      refine z_goto (pc := 18) (zk10 kX1_readAt_0) (tgt := 40) (by decide) ?_
      exact z_zret (pc := 40) (zk6 kX1_readAt_1) rfl (Nat.zero_le _) (Nat.zero_le _) (by decide) ⟨by simp [readB, oI, c_1, c_3, Int32.not_lt.mp c_3], rfl, rfl⟩
set_option maxRecDepth 20000 in
theorem c_leftOut {D : zD} {B : Nat} {h : zH} {sz : Nat} {p : Nat} {σ : Ln} {t : Int32} (hL : LnAt h p σ) : zRd D B xX1_leftOutAfter [.ref p, .int t] h sz (.int (lout σ t)) := by
  refine zM.of (by decide) rfl (n := 0) ?_
  show Z D B xX1_leftOutAfter 0 0 _ 0 [some (.ref p), some (.int t)] [] h sz
  refine z_iload_n (pc := 0) (zk0 kX1_leftOutAfter_0) rfl ?_
  refine z_iconst (pc := 1) (zk1 kX1_leftOutAfter_0) (v := 4) (by decide) ?_
  refine z_idiv (pc := 2) (zk2 kX1_leftOutAfter_0) (by decide) ?_
  refine z_aload_n (pc := 3) (zk3 kX1_leftOutAfter_0) rfl ?_
  refine z_getf (pc := 4) (zk4 kX1_leftOutAfter_0) flX1_28 hL.1 (v := .int (σ 5 0)) rfl ?_
  refine z_iconst (pc := 7) (zk5 kX1_leftOutAfter_0) (v := 3) (by decide) ?_
  refine z_idiv (pc := 8) (zk6 kX1_leftOutAfter_0) (by decide) ?_
  refine z_iadd (pc := 9) (zk7 kX1_leftOutAfter_0) ?_
  exact z_iret (pc := 10) (zk8 kX1_leftOutAfter_0) rfl (Nat.zero_le _) (Nat.zero_le _) ⟨rfl, rfl, rfl⟩
set_option maxRecDepth 20000 in
theorem c_tipsyAt {D : zD} {B : Nat} {h : zH} {sz : Nat} {p n k : Nat} {σ : Ln} (hL : LnAt h p σ) (hn : σ 0 0 = nI n) (h12 : n ≤ 12) (hk : k < n) : zRd D B xX1_tipsyAt [.ref p, .int (nI k)] h sz (.int (tipsy σ k)) := by
  refine zM.of (by decide) rfl (n := 4) ?_
  show Z D B xX1_tipsyAt 0 0 _ 0 [some (.ref p), some (.int (nI k)), none, none, none, none] [] h sz
  by_cases hb : σ 6 0 = 0
  · refine z_aload_n (pc := 0) (zk0 kX1_tipsyAt_0) rfl ?_
    refine z_getf (pc := 1) (zk1 kX1_tipsyAt_0) flX1_31 hL.1 (v := .int (σ 6 0)) rfl ?_
    refine z_if_eq (pc := 4) (zk2 kX1_tipsyAt_0) (tgt := 13) (by decide) (fun _ => ?_) (fun q => absurd hb q)
    refine z_iconst (pc := 13) (zk7 kX1_tipsyAt_0) (v := 0) (by decide) ?_
    refine z_istore_n (pc := 14) (zk8 kX1_tipsyAt_0) rfl rfl ?_
    show Z D B xX1_tipsyAt _ _ _ 15 [some (.ref p), some (.int (nI k)), some (.int 0), none, none, none] _ _ _
    refine z_aload_n (pc := 15) (zk9 kX1_tipsyAt_0) rfl ?_
    refine z_getf (pc := 16) (zk10 kX1_tipsyAt_0) flX1_31 hL.1 (v := .int (σ 6 0)) rfl ?_
    refine z_if_eq (pc := 19) (zk11 kX1_tipsyAt_0) (tgt := 29) (by decide) (fun _ => ?_) (fun q => absurd hb q)
    refine z_iload_n (pc := 29) (zk15 kX1_tipsyAt_0) rfl ?_
    refine z_istore_n (pc := 30) (zk0 kX1_tipsyAt_1) rfl rfl ?_
    show Z D B xX1_tipsyAt _ _ _ 31 [some (.ref p), some (.int (nI k)), some (.int 0), some (.int (nI k)), none, none] _ _ _
    refine z_iconst (pc := 31) (zk1 kX1_tipsyAt_1) (v := 0) (by decide) ?_
    refine z_istore (pc := 32) (zk2 kX1_tipsyAt_1) rfl rfl ?_
    show Z D B xX1_tipsyAt _ _ _ 34 [some (.ref p), some (.int (nI k)), some (.int 0), some (.int (nI k)), some (.int 0), none] _ _ _
    refine z_iload_n (pc := 34) (zk3 kX1_tipsyAt_1) rfl ?_
    refine z_istore (pc := 35) (zk4 kX1_tipsyAt_1) rfl rfl ?_
    show Z D B xX1_tipsyAt _ _ _ 37 [some (.ref p), some (.int (nI k)), some (.int 0), some (.int (nI k)), some (.int 0), some (.int 0)] _ _ _
    have lp37 : ∀ (n_ : Nat) (t : Int32) (i : Nat), k - i < n_ → (i ≤ k) → (t = sum0 (σ 2) i) → Z D B xX1_tipsyAt 0 0 (fun r h1 z1 => r = some (.int (tipsy σ k)) ∧ h1 = h ∧ z1 = sz) 37 [some (.ref p), some (.int (nI k)), some (.int 0), some (.int (nI k)), some (.int t), some (.int (nI i))] [] h sz := by
      intro n_
      induction n_ with
      | zero => intro t i hm_; exact absurd hm_ (Nat.not_lt_zero _)
      | succ n_ ih37 =>
        intro t i hm_ hi ht
        refine z_iload (pc := 37) (zk5 kX1_tipsyAt_1) rfl ?_
        refine z_iload_n (pc := 39) (zk6 kX1_tipsyAt_1) rfl ?_
        refine z_icmp_ge (pc := 40) (zk7 kX1_tipsyAt_1) (tgt := 61) (by decide) (fun c_1 => ?_) (fun c_1 => ?_)
        · refine z_iload (pc := 61) (zk1 kX1_tipsyAt_2) rfl ?_
          exact z_iret (pc := 63) (zk2 kX1_tipsyAt_2) rfl (Nat.zero_le _) (Nat.zero_le _) ⟨by have := (nI_le_iff (a := k) (b := i) (by omega) (by omega)).mp c_1; rw [ht, show i = k by omega, tipsy, if_pos hb], rfl, rfl⟩
        · have hlt : i < k := by
            rcases Nat.lt_or_ge i k with q | q
            · exact q
            · exact absurd ((nI_le_iff (by omega) (by omega)).mpr q) c_1
          refine z_iload (pc := 43) (zk8 kX1_tipsyAt_1) rfl ?_
          refine z_aload_n (pc := 45) (zk9 kX1_tipsyAt_1) rfl ?_
          refine z_getf (pc := 46) (zk10 kX1_tipsyAt_1) flX1_19 hL.1 gLn_2 ?_
          refine z_iload (pc := 49) (zk11 kX1_tipsyAt_1) rfl ?_
          refine z_ialdN (pc := 51) (zk12 kX1_tipsyAt_1) (f := σ 2) (j := i) hL.2.2.1 (by omega) rfl ?_
          refine z_iadd (pc := 52) (zk13 kX1_tipsyAt_1) ?_
          refine z_istore (pc := 53) (zk14 kX1_tipsyAt_1) rfl rfl ?_
          show Z D B xX1_tipsyAt _ _ _ 55 [some (.ref p), some (.int (nI k)), some (.int 0), some (.int (nI k)), some (.int (t + (σ 2 i))), some (.int (nI i))] _ _ _
          refine z_iinc (pc := 55) (zk15 kX1_tipsyAt_1) (v := nI (i + 1)) rfl zinc rfl rfl ?_
          show Z D B xX1_tipsyAt _ _ _ 58 [some (.ref p), some (.int (nI k)), some (.int 0), some (.int (nI k)), some (.int (t + (σ 2 i))), some (.int (nI (i + 1)))] _ _ _
          refine z_goto (pc := 58) (zk0 kX1_tipsyAt_2) (tgt := 37) (by decide) ?_
          exact ih37 (t + (σ 2 i)) (i + 1) (by omega) (by omega) (by rw [ht]; rfl)
    exact lp37 _ 0 0 (Nat.lt_succ_self _) (by omega) rfl
  · refine z_aload_n (pc := 0) (zk0 kX1_tipsyAt_0) rfl ?_
    refine z_getf (pc := 1) (zk1 kX1_tipsyAt_0) flX1_31 hL.1 (v := .int (σ 6 0)) rfl ?_
    refine z_if_eq (pc := 4) (zk2 kX1_tipsyAt_0) (tgt := 13) (by decide) (fun q => absurd q hb) (fun _ => ?_)
    refine z_iload_n (pc := 7) (zk3 kX1_tipsyAt_0) rfl ?_
    refine z_iconst (pc := 8) (zk4 kX1_tipsyAt_0) (v := 1) (by decide) ?_
    refine z_iadd (pc := 9) (zk5 kX1_tipsyAt_0) ?_
    refine z_top (congrArg Value.int (nI_1 k)) ?_
    refine z_goto (pc := 10) (zk6 kX1_tipsyAt_0) (tgt := 14) (by decide) ?_
    refine z_istore_n (pc := 14) (zk8 kX1_tipsyAt_0) rfl rfl ?_
    show Z D B xX1_tipsyAt _ _ _ 15 [some (.ref p), some (.int (nI k)), some (.int (nI (k + 1))), none, none, none] _ _ _
    refine z_aload_n (pc := 15) (zk9 kX1_tipsyAt_0) rfl ?_
    refine z_getf (pc := 16) (zk10 kX1_tipsyAt_0) flX1_31 hL.1 (v := .int (σ 6 0)) rfl ?_
    refine z_if_eq (pc := 19) (zk11 kX1_tipsyAt_0) (tgt := 29) (by decide) (fun q => absurd q hb) (fun _ => ?_)
    refine z_aload_n (pc := 22) (zk12 kX1_tipsyAt_0) rfl ?_
    refine z_getf (pc := 23) (zk13 kX1_tipsyAt_0) flX1_9 hL.1 (v := .int (nI n)) (by rw [← hn]; rfl) ?_
    refine z_goto (pc := 26) (zk14 kX1_tipsyAt_0) (tgt := 30) (by decide) ?_
    refine z_istore_n (pc := 30) (zk0 kX1_tipsyAt_1) rfl rfl ?_
    show Z D B xX1_tipsyAt _ _ _ 31 [some (.ref p), some (.int (nI k)), some (.int (nI (k + 1))), some (.int (nI n)), none, none] _ _ _
    refine z_iconst (pc := 31) (zk1 kX1_tipsyAt_1) (v := 0) (by decide) ?_
    refine z_istore (pc := 32) (zk2 kX1_tipsyAt_1) rfl rfl ?_
    show Z D B xX1_tipsyAt _ _ _ 34 [some (.ref p), some (.int (nI k)), some (.int (nI (k + 1))), some (.int (nI n)), some (.int 0), none] _ _ _
    refine z_iload_n (pc := 34) (zk3 kX1_tipsyAt_1) rfl ?_
    refine z_istore (pc := 35) (zk4 kX1_tipsyAt_1) rfl rfl ?_
    show Z D B xX1_tipsyAt _ _ _ 37 [some (.ref p), some (.int (nI k)), some (.int (nI (k + 1))), some (.int (nI n)), some (.int 0), some (.int (nI (k + 1)))] _ _ _
    have lp37 : ∀ (n_ : Nat) (t : Int32) (i : Nat), n - i < n_ → (k + 1 ≤ i) → (i ≤ n) → (t = sum0 (fun j => σ 2 (k + 1 + j)) (i - (k + 1))) → Z D B xX1_tipsyAt 0 0 (fun r h1 z1 => r = some (.int (tipsy σ k)) ∧ h1 = h ∧ z1 = sz) 37 [some (.ref p), some (.int (nI k)), some (.int (nI (k + 1))), some (.int (nI n)), some (.int t), some (.int (nI i))] [] h sz := by
      intro n_
      induction n_ with
      | zero => intro t i hm_; exact absurd hm_ (Nat.not_lt_zero _)
      | succ n_ ih37 =>
        intro t i hm_ h0 hi ht
        refine z_iload (pc := 37) (zk5 kX1_tipsyAt_1) rfl ?_
        refine z_iload_n (pc := 39) (zk6 kX1_tipsyAt_1) rfl ?_
        refine z_icmp_ge (pc := 40) (zk7 kX1_tipsyAt_1) (tgt := 61) (by decide) (fun c_2 => ?_) (fun c_2 => ?_)
        · refine z_iload (pc := 61) (zk1 kX1_tipsyAt_2) rfl ?_
          exact z_iret (pc := 63) (zk2 kX1_tipsyAt_2) rfl (Nat.zero_le _) (Nat.zero_le _) ⟨by have := (nI_le_iff (a := n) (b := i) (by omega) (by omega)).mp c_2; rw [ht, show i = n by omega, tipsy, if_neg hb, hsN_eq hn h12], rfl, rfl⟩
        · have hlt : i < n := by
            rcases Nat.lt_or_ge i n with q | q
            · exact q
            · exact absurd ((nI_le_iff (by omega) (by omega)).mpr q) c_2
          refine z_iload (pc := 43) (zk8 kX1_tipsyAt_1) rfl ?_
          refine z_aload_n (pc := 45) (zk9 kX1_tipsyAt_1) rfl ?_
          refine z_getf (pc := 46) (zk10 kX1_tipsyAt_1) flX1_19 hL.1 gLn_2 ?_
          refine z_iload (pc := 49) (zk11 kX1_tipsyAt_1) rfl ?_
          refine z_ialdN (pc := 51) (zk12 kX1_tipsyAt_1) (f := σ 2) (j := i) hL.2.2.1 (by omega) rfl ?_
          refine z_iadd (pc := 52) (zk13 kX1_tipsyAt_1) ?_
          refine z_istore (pc := 53) (zk14 kX1_tipsyAt_1) rfl rfl ?_
          show Z D B xX1_tipsyAt _ _ _ 55 [some (.ref p), some (.int (nI k)), some (.int (nI (k + 1))), some (.int (nI n)), some (.int (t + (σ 2 i))), some (.int (nI i))] _ _ _
          refine z_iinc (pc := 55) (zk15 kX1_tipsyAt_1) (v := nI (i + 1)) rfl zinc rfl rfl ?_
          show Z D B xX1_tipsyAt _ _ _ 58 [some (.ref p), some (.int (nI k)), some (.int (nI (k + 1))), some (.int (nI n)), some (.int (t + (σ 2 i))), some (.int (nI (i + 1)))] _ _ _
          refine z_goto (pc := 58) (zk0 kX1_tipsyAt_2) (tgt := 37) (by decide) ?_
          exact ih37 (t + (σ 2 i)) (i + 1) (by omega) (by omega) (by omega) (by rw [ht, show i + 1 - (k + 1) = (i - (k + 1)) + 1 by omega, sum0, show k + 1 + (i - (k + 1)) = i by omega])
    exact lp37 _ 0 (k + 1) (Nat.lt_succ_self _) (Nat.le_refl _) (by omega) (by rw [Nat.sub_self]; rfl)
set_option maxRecDepth 20000 in
theorem c_understands {D : zD} {B : Nat} {h : zH} {sz : Nat} {p l k : Nat} {σ : Ln} (hL : LnAt h p σ) (hl : l < 8) (hk : k < 12) : zRd D B xX1_understands [.ref p, .int (nI l), .int (nI k)] h sz (.int (oI (undB σ l k))) := by
  refine zM.of (by decide) rfl (n := 0) ?_
  show Z D B xX1_understands 0 0 _ 0 [some (.ref p), some (.int (nI l)), some (.int (nI k))] [] h sz
  refine z_iload_n (pc := 0) (zk0 kX1_understands_0) rfl ?_
  refine z_aload_n (pc := 1) (zk1 kX1_understands_0) rfl ?_
  refine z_getf (pc := 2) (zk2 kX1_understands_0) flX1_50 hL.1 gLn_12 ?_
  refine z_iload_n (pc := 5) (zk3 kX1_understands_0) rfl ?_
  refine z_ialdN (pc := 6) (zk4 kX1_understands_0) (f := σ 12) (j := l) hL.2.2.2.2.2.2.2.1 (by omega) rfl ?_
  refine z_icmp_eq (pc := 7) (zk5 kX1_understands_0) (tgt := 29) (by decide) (fun c_1 => ?_) (fun c_1 => ?_)
  · refine z_iconst (pc := 29) (zk3 kX1_understands_1) (v := 1) (by decide) ?_
    refine z_goto (pc := 30) (zk4 kX1_understands_1) (tgt := 34) (by decide) ?_
    exact z_zret (pc := 34) (zk6 kX1_understands_1) rfl (Nat.zero_le _) (Nat.zero_le _) (by decide) ⟨by simp [undB, oI, c_1], rfl, rfl⟩
  · refine z_aload_n (pc := 10) (zk6 kX1_understands_0) rfl ?_
    refine z_getf (pc := 11) (zk7 kX1_understands_0) flX1_22 hL.1 gLn_3 ?_
    refine z_iload_n (pc := 14) (zk8 kX1_understands_0) rfl ?_
    refine z_ialdN (pc := 15) (zk9 kX1_understands_0) (f := σ 3) (j := k) hL.2.2.2.1 (by omega) rfl ?_
    refine z_aload_n (pc := 16) (zk10 kX1_understands_0) rfl ?_
    refine z_getf (pc := 17) (zk11 kX1_understands_0) flX1_47 hL.1 gLn_11 ?_
    refine z_iload_n (pc := 20) (zk12 kX1_understands_0) rfl ?_
    refine z_ialdN (pc := 21) (zk13 kX1_understands_0) (f := σ 11) (j := l) hL.2.2.2.2.2.2.1 (by omega) rfl ?_
    refine z_ishr (pc := 22) (zk14 kX1_understands_0) ?_
    refine z_iconst (pc := 23) (zk15 kX1_understands_0) (v := 1) (by decide) ?_
    refine z_iand (pc := 24) (zk0 kX1_understands_1) ?_
    refine z_iconst (pc := 25) (zk1 kX1_understands_1) (v := 1) (by decide) ?_
    refine z_icmp_ne (pc := 26) (zk2 kX1_understands_1) (tgt := 33) (by decide) (fun c_2 => ?_) (fun c_2 => ?_)
    · refine z_iconst (pc := 33) (zk5 kX1_understands_1) (v := 0) (by decide) ?_
      exact z_zret (pc := 34) (zk6 kX1_understands_1) rfl (Nat.zero_le _) (Nat.zero_le _) (by decide) ⟨by simp [undB, oI, c_1, c_2], rfl, rfl⟩
    · refine z_iconst (pc := 29) (zk3 kX1_understands_1) (v := 1) (by decide) ?_
      refine z_goto (pc := 30) (zk4 kX1_understands_1) (tgt := 34) (by decide) ?_
      exact z_zret (pc := 34) (zk6 kX1_understands_1) rfl (Nat.zero_le _) (Nat.zero_le _) (by decide) ⟨by simp [undB, oI, c_1, c_2], rfl, rfl⟩
set_option maxRecDepth 20000 in
theorem c_isNearTo {D : zD} {B : Nat} {h : zH} {sz : Nat} {p l k : Nat} {σ : Ln} (hL : LnAt h p σ) (hl : l < 8) : zRd D B xX1_isNearTo [.ref p, .int (nI l), .int (nI k)] h sz (.int (oI (nearB σ l k))) := by
  refine zM.of (by decide) rfl (n := 0) ?_
  show Z D B xX1_isNearTo 0 0 _ 0 [some (.ref p), some (.int (nI l)), some (.int (nI k))] [] h sz
  refine z_aload_n (pc := 0) (zk0 kX1_isNearTo_0) rfl ?_
  refine z_getf (pc := 1) (zk1 kX1_isNearTo_0) flX1_50 hL.1 gLn_12 ?_
  refine z_iload_n (pc := 4) (zk2 kX1_isNearTo_0) rfl ?_
  refine z_ialdN (pc := 5) (zk3 kX1_isNearTo_0) (f := σ 12) (j := l) hL.2.2.2.2.2.2.2.1 (by omega) rfl ?_
  refine z_iload_n (pc := 6) (zk4 kX1_isNearTo_0) rfl ?_
  refine z_isub (pc := 7) (zk5 kX1_isNearTo_0) ?_
  refine z_mabs (pc := 8) (zk6 kX1_isNearTo_0) mmX1_91 rfl rfl (Nat.zero_le _) (Nat.zero_le _) ?_
  refine z_iconst (pc := 11) (zk7 kX1_isNearTo_0) (v := 1) (by decide) ?_
  refine z_icmp_gt (pc := 12) (zk8 kX1_isNearTo_0) (tgt := 19) (by decide) (fun c_1 => ?_) (fun c_1 => ?_)
  · refine z_iconst (pc := 19) (zk11 kX1_isNearTo_0) (v := 0) (by decide) ?_
    exact z_zret (pc := 20) (zk12 kX1_isNearTo_0) rfl (Nat.zero_le _) (Nat.zero_le _) (by decide) ⟨by simp [nearB, oI, c_1, Int32.not_le.mpr c_1], rfl, rfl⟩
  · refine z_iconst (pc := 15) (zk9 kX1_isNearTo_0) (v := 1) (by decide) ?_
    refine z_goto (pc := 16) (zk10 kX1_isNearTo_0) (tgt := 20) (by decide) ?_
    exact z_zret (pc := 20) (zk12 kX1_isNearTo_0) rfl (Nat.zero_le _) (Nat.zero_le _) (by decide) ⟨by simp [nearB, oI, c_1, Int32.not_lt.mp c_1], rfl, rfl⟩
set_option maxRecDepth 20000 in
theorem c_heardWith {D : zD} {B : Nat} {h : zH} {sz : Nat} {p l k : Nat} {σ : Ln} {lo : Int32} (hL : LnAt h p σ) (hl : l < 8) (hk : k < 12) : zRd D B xX1_heardWith [.ref p, .int (nI l), .int (nI k), .int lo] h sz (.int (heardW σ l k lo)) := by
  refine zM.of (by decide) rfl (n := 3) ?_
  show Z D B xX1_heardWith 0 0 _ 0 [some (.ref p), some (.int (nI l)), some (.int (nI k)), some (.int lo), none, none, none] [] h sz
  refine z_aload_n (pc := 0) (zk0 kX1_heardWith_0) rfl ?_
  refine z_iload_n (pc := 1) (zk1 kX1_heardWith_0) rfl ?_
  refine z_iload_n (pc := 2) (zk2 kX1_heardWith_0) rfl ?_
  refine z_rdV (pc := 3) (zk3 kX1_heardWith_0) (st := []) lkX1_77 ivX1_readAt hL.1 rfl rfl (c_readAt hL (by omega)) rfl ⟨rfl, rfl⟩ rfl rfl ?_ rfl
  refine z_oif_ne (pc := 6) (zk4 kX1_heardWith_0) (tgt := 11) (by decide) (fun c_1 => ?_) (fun c_1 => ?_)
  · refine z_aload_n (pc := 11) (zk7 kX1_heardWith_0) rfl ?_
    refine z_getf (pc := 12) (zk8 kX1_heardWith_0) flX1_53 hL.1 gLn_13 ?_
    refine z_iload_n (pc := 15) (zk9 kX1_heardWith_0) rfl ?_
    refine z_ialdN (pc := 16) (zk10 kX1_heardWith_0) (f := σ 13) (j := l) hL.2.2.2.2.2.2.2.2 (by omega) rfl ?_
    refine z_istore (pc := 17) (zk11 kX1_heardWith_0) rfl rfl ?_
    show Z D B xX1_heardWith _ _ _ 19 [some (.ref p), some (.int (nI l)), some (.int (nI k)), some (.int lo), some (.int (σ 13 l)), none, none] _ _ _
    refine z_iload (pc := 19) (zk12 kX1_heardWith_0) rfl ?_
    refine z_aload_n (pc := 21) (zk13 kX1_heardWith_0) rfl ?_
    refine z_getf (pc := 22) (zk14 kX1_heardWith_0) flX1_15 hL.1 gLn_1 ?_
    refine z_iload_n (pc := 25) (zk15 kX1_heardWith_0) rfl ?_
    refine z_ialdN (pc := 26) (zk0 kX1_heardWith_1) (f := σ 1) (j := k) hL.2.1 (by omega) rfl ?_
    refine z_isub (pc := 27) (zk1 kX1_heardWith_1) ?_
    refine z_iload_n (pc := 28) (zk2 kX1_heardWith_1) rfl ?_
    refine z_isub (pc := 29) (zk3 kX1_heardWith_1) ?_
    refine z_iload (pc := 30) (zk4 kX1_heardWith_1) rfl ?_
    refine z_rdS (pc := 32) (zk5 kX1_heardWith_1) (st := []) lkX1_81 isX1_within (c_within) rfl ⟨rfl, rfl⟩ rfl rfl ?_ rfl
    refine z_istore (pc := 35) (zk6 kX1_heardWith_1) rfl rfl ?_
    show Z D B xX1_heardWith _ _ _ 37 [some (.ref p), some (.int (nI l)), some (.int (nI k)), some (.int lo), some (.int (σ 13 l)), some (.int (wthn (((σ 13 l) - (σ 1 k)) - lo) (σ 13 l))), none] _ _ _
    refine z_iload (pc := 37) (zk7 kX1_heardWith_1) rfl ?_
    refine z_aload_n (pc := 39) (zk8 kX1_heardWith_1) rfl ?_
    refine z_getf (pc := 40) (zk9 kX1_heardWith_1) flX1_15 hL.1 gLn_1 ?_
    refine z_iload_n (pc := 43) (zk10 kX1_heardWith_1) rfl ?_
    refine z_ialdN (pc := 44) (zk11 kX1_heardWith_1) (f := σ 1) (j := k) hL.2.1 (by omega) rfl ?_
    refine z_iconst (pc := 45) (zk12 kX1_heardWith_1) (v := 2) (by decide) ?_
    refine z_idiv (pc := 46) (zk13 kX1_heardWith_1) (by decide) ?_
    refine z_isub (pc := 47) (zk14 kX1_heardWith_1) ?_
    refine z_iload_n (pc := 48) (zk15 kX1_heardWith_1) rfl ?_
    refine z_isub (pc := 49) (zk0 kX1_heardWith_2) ?_
    refine z_iload (pc := 50) (zk1 kX1_heardWith_2) rfl ?_
    refine z_rdS (pc := 52) (zk2 kX1_heardWith_2) (st := []) lkX1_81 isX1_within (c_within) rfl ⟨rfl, rfl⟩ rfl rfl ?_ rfl
    refine z_istore (pc := 55) (zk3 kX1_heardWith_2) rfl rfl ?_
    show Z D B xX1_heardWith _ _ _ 57 [some (.ref p), some (.int (nI l)), some (.int (nI k)), some (.int lo), some (.int (σ 13 l)), some (.int (wthn (((σ 13 l) - (σ 1 k)) - lo) (σ 13 l))), some (.int (wthn (((σ 13 l) - ((σ 1 k) / 2)) - lo) (σ 13 l)))] _ _ _
    refine z_aload_n (pc := 57) (zk4 kX1_heardWith_2) rfl ?_
    refine z_getf (pc := 58) (zk5 kX1_heardWith_2) flX1_44 hL.1 gLn_10 ?_
    refine z_iload_n (pc := 61) (zk6 kX1_heardWith_2) rfl ?_
    refine z_ialdN (pc := 62) (zk7 kX1_heardWith_2) (f := σ 10) (j := l) hL.2.2.2.2.2.1 (by omega) rfl ?_
    by_cases c_2 : σ 10 l = 1
    · refine z_tableIn (pc := 63) (zk8 kX1_heardWith_2) (off := 33) (tgt := 96) (by rw [c_2]; decide) (by rw [c_2]; decide) (by rw [c_2]; rfl) (by decide) ?_
      refine z_iload (pc := 96) (zk9 kX1_heardWith_2) rfl ?_
      exact z_iret (pc := 98) (zk10 kX1_heardWith_2) rfl (Nat.zero_le _) (Nat.zero_le _) ⟨by simp [heardW, c_1, c_2], rfl, rfl⟩
    by_cases c_3 : σ 10 l = 2
    · refine z_tableIn (pc := 63) (zk8 kX1_heardWith_2) (off := 51) (tgt := 114) (by rw [c_3]; decide) (by rw [c_3]; decide) (by rw [c_3]; rfl) (by decide) ?_
      refine z_aload_n (pc := 114) (zk4 kX1_heardWith_3) rfl ?_
      refine z_iload_n (pc := 115) (zk5 kX1_heardWith_3) rfl ?_
      refine z_iload_n (pc := 116) (zk6 kX1_heardWith_3) rfl ?_
      refine z_rdV (pc := 117) (zk7 kX1_heardWith_3) (st := []) lkX1_85 ivX1_understands hL.1 rfl rfl (c_understands hL (by omega) (by omega)) rfl ⟨rfl, rfl⟩ rfl rfl ?_ rfl
      refine z_oif_eq (pc := 120) (zk8 kX1_heardWith_3) (tgt := 128) (by decide) (fun c_4 => ?_) (fun c_4 => ?_)
      · refine z_iconst (pc := 128) (zk11 kX1_heardWith_3) (v := 0) (by decide) ?_
        exact z_iret (pc := 129) (zk12 kX1_heardWith_3) rfl (Nat.zero_le _) (Nat.zero_le _) ⟨by simp [heardW, c_1, c_2, c_3, c_4], rfl, rfl⟩
      · refine z_iload (pc := 123) (zk9 kX1_heardWith_3) rfl ?_
        refine z_goto (pc := 125) (zk10 kX1_heardWith_3) (tgt := 129) (by decide) ?_
        exact z_iret (pc := 129) (zk12 kX1_heardWith_3) rfl (Nat.zero_le _) (Nat.zero_le _) ⟨by simp [heardW, c_1, c_2, c_3, c_4], rfl, rfl⟩
    by_cases c_5 : σ 10 l = 3
    · refine z_tableIn (pc := 63) (zk8 kX1_heardWith_2) (off := 36) (tgt := 99) (by rw [c_5]; decide) (by rw [c_5]; decide) (by rw [c_5]; rfl) (by decide) ?_
      refine z_iload (pc := 99) (zk11 kX1_heardWith_2) rfl ?_
      refine z_aload_n (pc := 101) (zk12 kX1_heardWith_2) rfl ?_
      refine z_getf (pc := 102) (zk13 kX1_heardWith_2) flX1_47 hL.1 gLn_11 ?_
      refine z_iload_n (pc := 105) (zk14 kX1_heardWith_2) rfl ?_
      refine z_ialdN (pc := 106) (zk15 kX1_heardWith_2) (f := σ 11) (j := l) hL.2.2.2.2.2.2.1 (by omega) rfl ?_
      refine z_iadd (pc := 107) (zk0 kX1_heardWith_3) ?_
      refine z_iload (pc := 108) (zk1 kX1_heardWith_3) rfl ?_
      refine z_rdS (pc := 110) (zk2 kX1_heardWith_3) (st := []) lkX1_81 isX1_within (c_within) rfl ⟨rfl, rfl⟩ rfl rfl ?_ rfl
      exact z_iret (pc := 113) (zk3 kX1_heardWith_3) rfl (Nat.zero_le _) (Nat.zero_le _) ⟨by simp [heardW, c_1, c_2, c_3, c_5], rfl, rfl⟩
    by_cases c_6 : σ 10 l = 4
    · refine z_tableIn (pc := 63) (zk8 kX1_heardWith_2) (off := 67) (tgt := 130) (by rw [c_6]; decide) (by rw [c_6]; decide) (by rw [c_6]; rfl) (by decide) ?_
      refine z_aload_n (pc := 130) (zk13 kX1_heardWith_3) rfl ?_
      refine z_iload_n (pc := 131) (zk14 kX1_heardWith_3) rfl ?_
      refine z_iload_n (pc := 132) (zk15 kX1_heardWith_3) rfl ?_
      refine z_rdV (pc := 133) (zk0 kX1_heardWith_4) (st := []) lkX1_85 ivX1_understands hL.1 rfl rfl (c_understands hL (by omega) (by omega)) rfl ⟨rfl, rfl⟩ rfl rfl ?_ rfl
      refine z_oif_eq (pc := 136) (zk1 kX1_heardWith_4) (tgt := 153) (by decide) (fun c_7 => ?_) (fun c_7 => ?_)
      · refine z_iconst (pc := 153) (zk9 kX1_heardWith_4) (v := 0) (by decide) ?_
        exact z_iret (pc := 154) (zk10 kX1_heardWith_4) rfl (Nat.zero_le _) (Nat.zero_le _) ⟨by simp [heardW, c_1, c_2, c_3, c_5, c_6, c_7], rfl, rfl⟩
      · refine z_aload_n (pc := 139) (zk2 kX1_heardWith_4) rfl ?_
        refine z_iload_n (pc := 140) (zk3 kX1_heardWith_4) rfl ?_
        refine z_iload_n (pc := 141) (zk4 kX1_heardWith_4) rfl ?_
        refine z_rdV (pc := 142) (zk5 kX1_heardWith_4) (st := []) lkX1_88 ivX1_isNearTo hL.1 rfl rfl (c_isNearTo hL (by omega)) rfl ⟨rfl, rfl⟩ rfl rfl ?_ rfl
        refine z_oif_eq (pc := 145) (zk6 kX1_heardWith_4) (tgt := 153) (by decide) (fun c_8 => ?_) (fun c_8 => ?_)
        · refine z_iconst (pc := 153) (zk9 kX1_heardWith_4) (v := 0) (by decide) ?_
          exact z_iret (pc := 154) (zk10 kX1_heardWith_4) rfl (Nat.zero_le _) (Nat.zero_le _) ⟨by simp [heardW, c_1, c_2, c_3, c_5, c_6, c_7, c_8], rfl, rfl⟩
        · refine z_iload (pc := 148) (zk7 kX1_heardWith_4) rfl ?_
          refine z_goto (pc := 150) (zk8 kX1_heardWith_4) (tgt := 154) (by decide) ?_
          exact z_iret (pc := 154) (zk10 kX1_heardWith_4) rfl (Nat.zero_le _) (Nat.zero_le _) ⟨by simp [heardW, c_1, c_2, c_3, c_5, c_6, c_7, c_8], rfl, rfl⟩
    by_cases c_9 : σ 10 l = 5
    · refine z_tableIn (pc := 63) (zk8 kX1_heardWith_2) (off := 92) (tgt := 155) (by rw [c_9]; decide) (by rw [c_9]; decide) (by rw [c_9]; rfl) (by decide) ?_
      refine z_iload_n (pc := 155) (zk11 kX1_heardWith_4) rfl ?_
      refine z_aload_n (pc := 156) (zk12 kX1_heardWith_4) rfl ?_
      refine z_getf (pc := 157) (zk13 kX1_heardWith_4) flX1_50 hL.1 gLn_12 ?_
      refine z_iload_n (pc := 160) (zk14 kX1_heardWith_4) rfl ?_
      refine z_ialdN (pc := 161) (zk15 kX1_heardWith_4) (f := σ 12) (j := l) hL.2.2.2.2.2.2.2.1 (by omega) rfl ?_
      refine z_icmp_ne (pc := 162) (zk0 kX1_heardWith_5) (tgt := 170) (by decide) (fun c_10 => ?_) (fun c_10 => ?_)
      · refine z_iconst (pc := 170) (zk3 kX1_heardWith_5) (v := 0) (by decide) ?_
        exact z_iret (pc := 171) (zk4 kX1_heardWith_5) rfl (Nat.zero_le _) (Nat.zero_le _) ⟨by simp [heardW, c_1, c_2, c_3, c_5, c_6, c_9, c_10], rfl, rfl⟩
      · refine z_iload (pc := 165) (zk1 kX1_heardWith_5) rfl ?_
        refine z_goto (pc := 167) (zk2 kX1_heardWith_5) (tgt := 171) (by decide) ?_
        exact z_iret (pc := 171) (zk4 kX1_heardWith_5) rfl (Nat.zero_le _) (Nat.zero_le _) ⟨by simp [heardW, c_1, c_2, c_3, c_5, c_6, c_9, c_10], rfl, rfl⟩
    refine z_tableOut (pc := 63) (zk8 kX1_heardWith_2) (tgt := 172) (zOut1_5 c_2 c_3 c_5 c_6 c_9) (by decide) ?_
    refine z_iload (pc := 172) (zk5 kX1_heardWith_5) rfl ?_
    exact z_iret (pc := 174) (zk6 kX1_heardWith_5) rfl (Nat.zero_le _) (Nat.zero_le _) ⟨by simp [heardW, c_1, c_2, c_3, c_5, c_6, c_9], rfl, rfl⟩
  · refine z_iconst (pc := 9) (zk5 kX1_heardWith_0) (v := 0) (by decide) ?_
    exact z_iret (pc := 10) (zk6 kX1_heardWith_0) rfl (Nat.zero_le _) (Nat.zero_le _) ⟨by simp [heardW, c_1], rfl, rfl⟩
set_option maxRecDepth 20000 in
theorem c_heardAt {D : zD} {B : Nat} {h : zH} {sz : Nat} {p n l k : Nat} {σ : Ln} (hL : LnAt h p σ) (hn : σ 0 0 = nI n) (h12 : n ≤ 12) (hl : l < 8) (hk : k < n) : zRd D B xX1_heardAt [.ref p, .int (nI l), .int (nI k)] h sz (.int (heardF σ l k)) := by
  refine zM.of (by decide) rfl (n := 0) ?_
  show Z D B xX1_heardAt 0 0 _ 0 [some (.ref p), some (.int (nI l)), some (.int (nI k))] [] h sz
  refine z_aload_n (pc := 0) (zk0 kX1_heardAt_0) rfl ?_
  refine z_iload_n (pc := 1) (zk1 kX1_heardAt_0) rfl ?_
  refine z_iload_n (pc := 2) (zk2 kX1_heardAt_0) rfl ?_
  refine z_aload_n (pc := 3) (zk3 kX1_heardAt_0) rfl ?_
  refine z_aload_n (pc := 4) (zk4 kX1_heardAt_0) rfl ?_
  refine z_iload_n (pc := 5) (zk5 kX1_heardAt_0) rfl ?_
  refine z_rdV (pc := 6) (zk6 kX1_heardAt_0) (st := [.ref p, .int (nI k), .int (nI l), .ref p]) lkX1_66 ivX1_tipsyAt hL.1 rfl rfl (c_tipsyAt hL hn h12 (by omega)) rfl ⟨rfl, rfl⟩ rfl rfl ?_ rfl
  refine z_rdV (pc := 9) (zk7 kX1_heardAt_0) (st := [.int (nI k), .int (nI l), .ref p]) lkX1_70 ivX1_leftOutAfter hL.1 rfl rfl (c_leftOut hL) rfl ⟨rfl, rfl⟩ rfl rfl ?_ rfl
  refine z_rdV (pc := 12) (zk8 kX1_heardAt_0) (st := []) lkX1_73 ivX1_heardWith hL.1 rfl rfl (c_heardWith hL (by omega) (by omega)) rfl ⟨rfl, rfl⟩ rfl rfl ?_ rfl
  exact z_iret (pc := 15) (zk9 kX1_heardAt_0) rfl (Nat.zero_le _) (Nat.zero_le _) ⟨rfl, rfl, rfl⟩
set_option maxRecDepth 20000 in
theorem c_isKnown {D : zD} {B : Nat} {h : zH} {sz : Nat} {p n l k : Nat} {σ : Ln} (hL : LnAt h p σ) (hn : σ 0 0 = nI n) (h12 : n ≤ 12) (hl : l < 8) (hk : k < n) : zRd D B xX1_isKnown [.ref p, .int (nI l), .int (nI k)] h sz (.int (oI (knowB σ l k))) := by
  refine zM.of (by decide) rfl (n := 0) ?_
  show Z D B xX1_isKnown 0 0 _ 0 [some (.ref p), some (.int (nI l)), some (.int (nI k))] [] h sz
  refine z_iconst (pc := 0) (zk0 kX1_isKnown_0) (v := 2) (by decide) ?_
  refine z_aload_n (pc := 1) (zk1 kX1_isKnown_0) rfl ?_
  refine z_iload_n (pc := 2) (zk2 kX1_isKnown_0) rfl ?_
  refine z_iload_n (pc := 3) (zk3 kX1_isKnown_0) rfl ?_
  refine z_rdV (pc := 4) (zk4 kX1_isKnown_0) (st := [.int 2]) lkX1_96 ivX1_heardAt hL.1 rfl rfl (c_heardAt hL hn h12 (by omega) (by omega)) rfl ⟨rfl, rfl⟩ rfl rfl ?_ rfl
  refine z_imul (pc := 7) (zk5 kX1_isKnown_0) ?_
  refine z_aload_n (pc := 8) (zk6 kX1_isKnown_0) rfl ?_
  refine z_getf (pc := 9) (zk7 kX1_isKnown_0) flX1_53 hL.1 gLn_13 ?_
  refine z_iload_n (pc := 12) (zk8 kX1_isKnown_0) rfl ?_
  refine z_ialdN (pc := 13) (zk9 kX1_isKnown_0) (f := σ 13) (j := l) hL.2.2.2.2.2.2.2.2 (by omega) rfl ?_
  refine z_icmp_lt (pc := 14) (zk10 kX1_isKnown_0) (tgt := 21) (by decide) (fun c_1 => ?_) (fun c_1 => ?_)
  · refine z_iconst (pc := 21) (zk13 kX1_isKnown_0) (v := 0) (by decide) ?_
    exact z_zret (pc := 22) (zk14 kX1_isKnown_0) rfl (Nat.zero_le _) (Nat.zero_le _) (by decide) ⟨by simp [knowB, oI, c_1, Int32.not_le.mpr c_1], rfl, rfl⟩
  · refine z_iconst (pc := 17) (zk11 kX1_isKnown_0) (v := 1) (by decide) ?_
    refine z_goto (pc := 18) (zk12 kX1_isKnown_0) (tgt := 22) (by decide) ?_
    exact z_zret (pc := 22) (zk14 kX1_isKnown_0) rfl (Nat.zero_le _) (Nat.zero_le _) (by decide) ⟨by simp [knowB, oI, c_1, Int32.not_lt.mp c_1], rfl, rfl⟩
set_option maxRecDepth 20000 in
theorem c_stepF {D : zD} {B : Nat} {h : zH} {sz : Nat} {p i : Nat} {σ : Ln} (hL : LnAt h p σ) (hb : σ 6 0 = 0) : zRd D B xX1_houseAtStep [.ref p, .int (nI i)] h sz (.int (nI i)) := by
  refine zM.of (by decide) rfl (n := 0) ?_
  show Z D B xX1_houseAtStep 0 0 _ 0 [some (.ref p), some (.int (nI i))] [] h sz
  refine z_aload_n (pc := 0) (zk0 kX1_houseAtStep_0) rfl ?_
  refine z_getf (pc := 1) (zk1 kX1_houseAtStep_0) flX1_31 hL.1 (v := .int (σ 6 0)) rfl ?_
  refine z_if_eq (pc := 4) (zk2 kX1_houseAtStep_0) (tgt := 18) (by decide) (fun _ => ?_) (fun q => absurd hb q)
  refine z_iload_n (pc := 18) (zk10 kX1_houseAtStep_0) rfl ?_
  exact z_iret (pc := 19) (zk11 kX1_houseAtStep_0) rfl (Nat.zero_le _) (Nat.zero_le _) ⟨rfl, rfl, rfl⟩
set_option maxRecDepth 20000 in
theorem c_stepB {D : zD} {B : Nat} {h : zH} {sz : Nat} {p n i : Nat} {σ : Ln} (hL : LnAt h p σ) (hn : σ 0 0 = nI n) (hb : ¬ σ 6 0 = 0) (hi : i < n) : zRd D B xX1_houseAtStep [.ref p, .int (nI i)] h sz (.int (nI (n - 1 - i))) := by
  refine zM.of (by decide) rfl (n := 0) ?_
  show Z D B xX1_houseAtStep 0 0 _ 0 [some (.ref p), some (.int (nI i))] [] h sz
  refine z_aload_n (pc := 0) (zk0 kX1_houseAtStep_0) rfl ?_
  refine z_getf (pc := 1) (zk1 kX1_houseAtStep_0) flX1_31 hL.1 (v := .int (σ 6 0)) rfl ?_
  refine z_if_eq (pc := 4) (zk2 kX1_houseAtStep_0) (tgt := 18) (by decide) (fun q => absurd q hb) (fun _ => ?_)
  refine z_aload_n (pc := 7) (zk3 kX1_houseAtStep_0) rfl ?_
  refine z_getf (pc := 8) (zk4 kX1_houseAtStep_0) flX1_9 hL.1 (v := .int (nI n)) (by rw [← hn]; rfl) ?_
  refine z_iconst (pc := 11) (zk5 kX1_houseAtStep_0) (v := 1) (by decide) ?_
  refine z_isub (pc := 12) (zk6 kX1_houseAtStep_0) ?_
  refine z_top (congrArg Value.int (nI_dec (n := n) (by omega))) ?_
  refine z_iload_n (pc := 13) (zk7 kX1_houseAtStep_0) rfl ?_
  refine z_isub (pc := 14) (zk8 kX1_houseAtStep_0) ?_
  refine z_goto (pc := 15) (zk9 kX1_houseAtStep_0) (tgt := 19) (by decide) ?_
  exact z_iret (pc := 19) (zk11 kX1_houseAtStep_0) rfl (Nat.zero_le _) (Nat.zero_le _) ⟨by rw [nI_sub1 (by omega)], rfl, rfl⟩
set_option maxRecDepth 20000 in
theorem c_hasRoom {D : zD} {B : Nat} {h : zH} {sz : Nat} {p m : Nat} {σ : Ln} (hL : LnAt h p σ) (hm : σ 9 0 = nI m) (h8 : m ≤ 8) : zRd D B xX1_hasRoom [.ref p] h sz (.int (oI (decide (m < 8)))) := by
  refine zM.of (by decide) rfl (n := 0) ?_
  show Z D B xX1_hasRoom 0 0 _ 0 [some (.ref p)] [] h sz
  refine z_aload_n (pc := 0) (zk0 kX1_hasRoom_0) rfl ?_
  refine z_getf (pc := 1) (zk1 kX1_hasRoom_0) flX1_41 hL.1 (v := .int (nI m)) (by rw [← hm]; rfl) ?_
  refine z_bipush (pc := 4) (zk2 kX1_hasRoom_0) (v := 8) (by decide) ?_
  refine z_icmp_ge (pc := 6) (zk3 kX1_hasRoom_0) (tgt := 13) (by decide) (fun c_1 => ?_) (fun c_1 => ?_)
  · refine z_iconst (pc := 13) (zk6 kX1_hasRoom_0) (v := 0) (by decide) ?_
    exact z_zret (pc := 14) (zk7 kX1_hasRoom_0) rfl (Nat.zero_le _) (Nat.zero_le _) (by decide) ⟨by have q := nI_le_iff (a := 8) (b := m) (by omega) (by omega); have c : (8 : Int32) ≤ nI m := c_1; simp only [show (8 : Int32) = nI 8 from rfl, q] at c; simp [oI, c, Nat.not_lt.mpr c], rfl, rfl⟩
  · refine z_iconst (pc := 9) (zk4 kX1_hasRoom_0) (v := 1) (by decide) ?_
    refine z_goto (pc := 10) (zk5 kX1_hasRoom_0) (tgt := 14) (by decide) ?_
    exact z_zret (pc := 14) (zk7 kX1_hasRoom_0) rfl (Nat.zero_le _) (Nat.zero_le _) (by decide) ⟨by have q := nI_le_iff (a := 8) (b := m) (by omega) (by omega); have c : ¬ (8 : Int32) ≤ nI m := c_1; simp only [show (8 : Int32) = nI 8 from rfl, q] at c; simp [oI, c, Nat.not_le.mp c], rfl, rfl⟩
set_option maxRecDepth 20000 in
theorem c_allDrink {D : zD} {B : Nat} {h : zH} {sz : Nat} {p n : Nat} {σ : Ln} (hL : LnAt h p σ) (hn : σ 0 0 = nI n) (h12 : n ≤ 12) : zRd D B xX1_allDrink [.ref p] h sz (.int (sum0 (σ 2) (hsN σ))) := by
  refine zM.of (by decide) rfl (n := 2) ?_
  show Z D B xX1_allDrink 0 0 _ 0 [some (.ref p), none, none] [] h sz
  refine z_iconst (pc := 0) (zk0 kX1_allDrink_0) (v := 0) (by decide) ?_
  refine z_istore_n (pc := 1) (zk1 kX1_allDrink_0) rfl rfl ?_
  show Z D B xX1_allDrink _ _ _ 2 [some (.ref p), some (.int 0), none] _ _ _
  refine z_iconst (pc := 2) (zk2 kX1_allDrink_0) (v := 0) (by decide) ?_
  refine z_istore_n (pc := 3) (zk3 kX1_allDrink_0) rfl rfl ?_
  show Z D B xX1_allDrink _ _ _ 4 [some (.ref p), some (.int 0), some (.int 0)] _ _ _
  have lp4 : ∀ (n_ : Nat) (t : Int32) (i : Nat), n - i < n_ → (i ≤ n) → (t = sum0 (σ 2) i) → Z D B xX1_allDrink 0 0 (fun r h1 z1 => r = some (.int (sum0 (σ 2) (hsN σ))) ∧ h1 = h ∧ z1 = sz) 4 [some (.ref p), some (.int t), some (.int (nI i))] [] h sz := by
    intro n_
    induction n_ with
    | zero => intro t i hm_; exact absurd hm_ (Nat.not_lt_zero _)
    | succ n_ ih4 =>
      intro t i hm_ hi_i ht
      refine z_iload_n (pc := 4) (zk4 kX1_allDrink_0) rfl ?_
      refine z_aload_n (pc := 5) (zk5 kX1_allDrink_0) rfl ?_
      refine z_getf (pc := 6) (zk6 kX1_allDrink_0) flX1_9 hL.1 (v := .int (nI n)) (by rw [← hn]; rfl) ?_
      refine z_icmp_ge (pc := 9) (zk7 kX1_allDrink_0) (tgt := 27) (by decide) (fun c_1 => ?_) (fun c_1 => ?_)
      · have hie_i : i = n := by
          have q := (nI_le_iff (by omega) (by omega)).mp c_1
          omega
        refine z_iload_n (pc := 27) (zk1 kX1_allDrink_1) rfl ?_
        exact z_iret (pc := 28) (zk2 kX1_allDrink_1) rfl (Nat.zero_le _) (Nat.zero_le _) ⟨by rw [ht, hie_i, hsN_eq hn h12], rfl, rfl⟩
      · have hlt_i : i < n := by
          rcases Nat.lt_or_ge i n with q | q
          · exact q
          · exact absurd ((nI_le_iff (by omega) (by omega)).mpr q) c_1
        refine z_iload_n (pc := 12) (zk8 kX1_allDrink_0) rfl ?_
        refine z_aload_n (pc := 13) (zk9 kX1_allDrink_0) rfl ?_
        refine z_getf (pc := 14) (zk10 kX1_allDrink_0) flX1_19 hL.1 gLn_2 ?_
        refine z_iload_n (pc := 17) (zk11 kX1_allDrink_0) rfl ?_
        refine z_ialdN (pc := 18) (zk12 kX1_allDrink_0) (f := σ 2) (j := i) hL.2.2.1 (by omega) rfl ?_
        refine z_iadd (pc := 19) (zk13 kX1_allDrink_0) ?_
        refine z_istore_n (pc := 20) (zk14 kX1_allDrink_0) rfl rfl ?_
        show Z D B xX1_allDrink _ _ _ 21 [some (.ref p), some (.int (t + (σ 2 i))), some (.int (nI i))] _ _ _
        refine z_iinc (pc := 21) (zk15 kX1_allDrink_0) (v := nI (i + 1)) rfl zinc rfl rfl ?_
        show Z D B xX1_allDrink _ _ _ 24 [some (.ref p), some (.int (t + (σ 2 i))), some (.int (nI (i + 1)))] _ _ _
        refine z_goto (pc := 24) (zk0 kX1_allDrink_1) (tgt := 4) (by decide) ?_
        exact ih4 (t + (σ 2 i)) (i + 1) (by omega) (by omega) (by rw [ht]; rfl)
  exact lp4 _ 0 0 (Nat.lt_succ_self _) (by omega) rfl
set_option maxRecDepth 20000 in
theorem c_allEars {D : zD} {B : Nat} {h : zH} {sz : Nat} {p n : Nat} {σ : Ln} (hL : LnAt h p σ) (hn : σ 0 0 = nI n) (h12 : n ≤ 12) : zRd D B xX1_allEars [.ref p] h sz (.int (sum0 (σ 4) (hsN σ))) := by
  refine zM.of (by decide) rfl (n := 2) ?_
  show Z D B xX1_allEars 0 0 _ 0 [some (.ref p), none, none] [] h sz
  refine z_iconst (pc := 0) (zk0 kX1_allEars_0) (v := 0) (by decide) ?_
  refine z_istore_n (pc := 1) (zk1 kX1_allEars_0) rfl rfl ?_
  show Z D B xX1_allEars _ _ _ 2 [some (.ref p), some (.int 0), none] _ _ _
  refine z_iconst (pc := 2) (zk2 kX1_allEars_0) (v := 0) (by decide) ?_
  refine z_istore_n (pc := 3) (zk3 kX1_allEars_0) rfl rfl ?_
  show Z D B xX1_allEars _ _ _ 4 [some (.ref p), some (.int 0), some (.int 0)] _ _ _
  have lp4 : ∀ (n_ : Nat) (t : Int32) (i : Nat), n - i < n_ → (i ≤ n) → (t = sum0 (σ 4) i) → Z D B xX1_allEars 0 0 (fun r h1 z1 => r = some (.int (sum0 (σ 4) (hsN σ))) ∧ h1 = h ∧ z1 = sz) 4 [some (.ref p), some (.int t), some (.int (nI i))] [] h sz := by
    intro n_
    induction n_ with
    | zero => intro t i hm_; exact absurd hm_ (Nat.not_lt_zero _)
    | succ n_ ih4 =>
      intro t i hm_ hi_i ht
      refine z_iload_n (pc := 4) (zk4 kX1_allEars_0) rfl ?_
      refine z_aload_n (pc := 5) (zk5 kX1_allEars_0) rfl ?_
      refine z_getf (pc := 6) (zk6 kX1_allEars_0) flX1_9 hL.1 (v := .int (nI n)) (by rw [← hn]; rfl) ?_
      refine z_icmp_ge (pc := 9) (zk7 kX1_allEars_0) (tgt := 27) (by decide) (fun c_1 => ?_) (fun c_1 => ?_)
      · have hie_i : i = n := by
          have q := (nI_le_iff (by omega) (by omega)).mp c_1
          omega
        refine z_iload_n (pc := 27) (zk1 kX1_allEars_1) rfl ?_
        exact z_iret (pc := 28) (zk2 kX1_allEars_1) rfl (Nat.zero_le _) (Nat.zero_le _) ⟨by rw [ht, hie_i, hsN_eq hn h12], rfl, rfl⟩
      · have hlt_i : i < n := by
          rcases Nat.lt_or_ge i n with q | q
          · exact q
          · exact absurd ((nI_le_iff (by omega) (by omega)).mpr q) c_1
        refine z_iload_n (pc := 12) (zk8 kX1_allEars_0) rfl ?_
        refine z_aload_n (pc := 13) (zk9 kX1_allEars_0) rfl ?_
        refine z_getf (pc := 14) (zk10 kX1_allEars_0) flX1_25 hL.1 gLn_4 ?_
        refine z_iload_n (pc := 17) (zk11 kX1_allEars_0) rfl ?_
        refine z_ialdN (pc := 18) (zk12 kX1_allEars_0) (f := σ 4) (j := i) hL.2.2.2.2.1 (by omega) rfl ?_
        refine z_iadd (pc := 19) (zk13 kX1_allEars_0) ?_
        refine z_istore_n (pc := 20) (zk14 kX1_allEars_0) rfl rfl ?_
        show Z D B xX1_allEars _ _ _ 21 [some (.ref p), some (.int (t + (σ 4 i))), some (.int (nI i))] _ _ _
        refine z_iinc (pc := 21) (zk15 kX1_allEars_0) (v := nI (i + 1)) rfl zinc rfl rfl ?_
        show Z D B xX1_allEars _ _ _ 24 [some (.ref p), some (.int (t + (σ 4 i))), some (.int (nI (i + 1)))] _ _ _
        refine z_goto (pc := 24) (zk0 kX1_allEars_1) (tgt := 4) (by decide) ?_
        exact ih4 (t + (σ 4 i)) (i + 1) (by omega) (by omega) (by rw [ht]; rfl)
  exact lp4 _ 0 0 (Nat.lt_succ_self _) (by omega) rfl
set_option maxRecDepth 20000 in
theorem c_wordsAt {D : zD} {B : Nat} {h : zH} {sz : Nat} {p n m k : Nat} {σ : Ln} (hL : LnAt h p σ) (hn : σ 0 0 = nI n) (h12 : n ≤ 12) (hm : σ 9 0 = nI m) (h8 : m ≤ 8) (hk : k < n) : zRd D B xX1_wordsAt [.ref p, .int (nI k)] h sz (.int (wordsF σ k)) := by
  refine zM.of (by decide) rfl (n := 3) ?_
  show Z D B xX1_wordsAt 0 0 _ 0 [some (.ref p), some (.int (nI k)), none, none, none] [] h sz
  refine z_aload_n (pc := 0) (zk0 kX1_wordsAt_0) rfl ?_
  refine z_aload_n (pc := 1) (zk1 kX1_wordsAt_0) rfl ?_
  refine z_iload_n (pc := 2) (zk2 kX1_wordsAt_0) rfl ?_
  refine z_rdV (pc := 3) (zk3 kX1_wordsAt_0) (st := [.ref p]) lkX1_66 ivX1_tipsyAt hL.1 rfl rfl (c_tipsyAt hL hn h12 (by omega)) rfl ⟨rfl, rfl⟩ rfl rfl ?_ rfl
  refine z_rdV (pc := 6) (zk4 kX1_wordsAt_0) (st := []) lkX1_70 ivX1_leftOutAfter hL.1 rfl rfl (c_leftOut hL) rfl ⟨rfl, rfl⟩ rfl rfl ?_ rfl
  refine z_istore_n (pc := 9) (zk5 kX1_wordsAt_0) rfl rfl ?_
  show Z D B xX1_wordsAt _ _ _ 10 [some (.ref p), some (.int (nI k)), some (.int (lout σ (tipsy σ k))), none, none] _ _ _
  refine z_iconst (pc := 10) (zk6 kX1_wordsAt_0) (v := 0) (by decide) ?_
  refine z_istore_n (pc := 11) (zk7 kX1_wordsAt_0) rfl rfl ?_
  show Z D B xX1_wordsAt _ _ _ 12 [some (.ref p), some (.int (nI k)), some (.int (lout σ (tipsy σ k))), some (.int 0), none] _ _ _
  refine z_iconst (pc := 12) (zk8 kX1_wordsAt_0) (v := 0) (by decide) ?_
  refine z_istore (pc := 13) (zk9 kX1_wordsAt_0) rfl rfl ?_
  show Z D B xX1_wordsAt _ _ _ 15 [some (.ref p), some (.int (nI k)), some (.int (lout σ (tipsy σ k))), some (.int 0), some (.int 0)] _ _ _
  have lp15 : ∀ (n_ : Nat) (t : Int32) (i : Nat), m - i < n_ → (i ≤ m) → (t = sum0 (fun l => heardF σ l k) i) → Z D B xX1_wordsAt 0 0 (fun r h1 z1 => r = some (.int (wordsF σ k)) ∧ h1 = h ∧ z1 = sz) 15 [some (.ref p), some (.int (nI k)), some (.int (lout σ (tipsy σ k))), some (.int t), some (.int (nI i))] [] h sz := by
    intro n_
    induction n_ with
    | zero => intro t i hm_; exact absurd hm_ (Nat.not_lt_zero _)
    | succ n_ ih15 =>
      intro t i hm_ hi_i ht
      refine z_iload (pc := 15) (zk10 kX1_wordsAt_0) rfl ?_
      refine z_aload_n (pc := 17) (zk11 kX1_wordsAt_0) rfl ?_
      refine z_getf (pc := 18) (zk12 kX1_wordsAt_0) flX1_41 hL.1 (v := .int (nI m)) (by rw [← hm]; rfl) ?_
      refine z_icmp_ge (pc := 21) (zk13 kX1_wordsAt_0) (tgt := 41) (by decide) (fun c_1 => ?_) (fun c_1 => ?_)
      · have hie_i : i = m := by
          have q := (nI_le_iff (by omega) (by omega)).mp c_1
          omega
        refine z_iload_n (pc := 41) (zk8 kX1_wordsAt_1) rfl ?_
        exact z_iret (pc := 42) (zk9 kX1_wordsAt_1) rfl (Nat.zero_le _) (Nat.zero_le _) ⟨by rw [ht, hie_i, wordsF, lsN_eq hm h8], rfl, rfl⟩
      · have hlt_i : i < m := by
          rcases Nat.lt_or_ge i m with q | q
          · exact q
          · exact absurd ((nI_le_iff (by omega) (by omega)).mpr q) c_1
        refine z_iload_n (pc := 24) (zk14 kX1_wordsAt_0) rfl ?_
        refine z_aload_n (pc := 25) (zk15 kX1_wordsAt_0) rfl ?_
        refine z_iload (pc := 26) (zk0 kX1_wordsAt_1) rfl ?_
        refine z_iload_n (pc := 28) (zk1 kX1_wordsAt_1) rfl ?_
        refine z_iload_n (pc := 29) (zk2 kX1_wordsAt_1) rfl ?_
        refine z_rdV (pc := 30) (zk3 kX1_wordsAt_1) (st := [.int t]) lkX1_73 ivX1_heardWith hL.1 rfl rfl (c_heardWith hL (by omega) (by omega)) rfl ⟨rfl, rfl⟩ rfl rfl ?_ rfl
        refine z_iadd (pc := 33) (zk4 kX1_wordsAt_1) ?_
        refine z_istore_n (pc := 34) (zk5 kX1_wordsAt_1) rfl rfl ?_
        show Z D B xX1_wordsAt _ _ _ 35 [some (.ref p), some (.int (nI k)), some (.int (lout σ (tipsy σ k))), some (.int (t + (heardW σ i k (lout σ (tipsy σ k))))), some (.int (nI i))] _ _ _
        refine z_iinc (pc := 35) (zk6 kX1_wordsAt_1) (v := nI (i + 1)) rfl zinc rfl rfl ?_
        show Z D B xX1_wordsAt _ _ _ 38 [some (.ref p), some (.int (nI k)), some (.int (lout σ (tipsy σ k))), some (.int (t + (heardW σ i k (lout σ (tipsy σ k))))), some (.int (nI (i + 1)))] _ _ _
        refine z_goto (pc := 38) (zk7 kX1_wordsAt_1) (tgt := 15) (by decide) ?_
        exact ih15 (t + (heardW σ i k (lout σ (tipsy σ k)))) (i + 1) (by omega) (by omega) (by rw [ht]; rfl)
  exact lp15 _ 0 0 (Nat.lt_succ_self _) (by omega) rfl
set_option maxRecDepth 20000 in
theorem c_knownAt {D : zD} {B : Nat} {h : zH} {sz : Nat} {p n m k : Nat} {σ : Ln} (hL : LnAt h p σ) (hn : σ 0 0 = nI n) (h12 : n ≤ 12) (hm : σ 9 0 = nI m) (h8 : m ≤ 8) (hk : k < n) : zRd D B xX1_knownAt [.ref p, .int (nI k)] h sz (.int (knownF σ k)) := by
  refine zM.of (by decide) rfl (n := 3) ?_
  show Z D B xX1_knownAt 0 0 _ 0 [some (.ref p), some (.int (nI k)), none, none, none] [] h sz
  refine z_aload_n (pc := 0) (zk0 kX1_knownAt_0) rfl ?_
  refine z_aload_n (pc := 1) (zk1 kX1_knownAt_0) rfl ?_
  refine z_iload_n (pc := 2) (zk2 kX1_knownAt_0) rfl ?_
  refine z_rdV (pc := 3) (zk3 kX1_knownAt_0) (st := [.ref p]) lkX1_66 ivX1_tipsyAt hL.1 rfl rfl (c_tipsyAt hL hn h12 (by omega)) rfl ⟨rfl, rfl⟩ rfl rfl ?_ rfl
  refine z_rdV (pc := 6) (zk4 kX1_knownAt_0) (st := []) lkX1_70 ivX1_leftOutAfter hL.1 rfl rfl (c_leftOut hL) rfl ⟨rfl, rfl⟩ rfl rfl ?_ rfl
  refine z_istore_n (pc := 9) (zk5 kX1_knownAt_0) rfl rfl ?_
  show Z D B xX1_knownAt _ _ _ 10 [some (.ref p), some (.int (nI k)), some (.int (lout σ (tipsy σ k))), none, none] _ _ _
  refine z_iconst (pc := 10) (zk6 kX1_knownAt_0) (v := 0) (by decide) ?_
  refine z_istore_n (pc := 11) (zk7 kX1_knownAt_0) rfl rfl ?_
  show Z D B xX1_knownAt _ _ _ 12 [some (.ref p), some (.int (nI k)), some (.int (lout σ (tipsy σ k))), some (.int 0), none] _ _ _
  refine z_iconst (pc := 12) (zk8 kX1_knownAt_0) (v := 0) (by decide) ?_
  refine z_istore (pc := 13) (zk9 kX1_knownAt_0) rfl rfl ?_
  show Z D B xX1_knownAt _ _ _ 15 [some (.ref p), some (.int (nI k)), some (.int (lout σ (tipsy σ k))), some (.int 0), some (.int 0)] _ _ _
  have lp15 : ∀ (n_ : Nat) (b : Int32) (i : Nat), m - i < n_ → (i ≤ m) → (b = bitsI (fun l => knowB σ l k) i) → Z D B xX1_knownAt 0 0 (fun r h1 z1 => r = some (.int (knownF σ k)) ∧ h1 = h ∧ z1 = sz) 15 [some (.ref p), some (.int (nI k)), some (.int (lout σ (tipsy σ k))), some (.int b), some (.int (nI i))] [] h sz := by
    intro n_
    induction n_ with
    | zero => intro b i hm_; exact absurd hm_ (Nat.not_lt_zero _)
    | succ n_ ih15 =>
      intro b i hm_ hi_i hb_
      refine z_iload (pc := 15) (zk10 kX1_knownAt_0) rfl ?_
      refine z_aload_n (pc := 17) (zk11 kX1_knownAt_0) rfl ?_
      refine z_getf (pc := 18) (zk12 kX1_knownAt_0) flX1_41 hL.1 (v := .int (nI m)) (by rw [← hm]; rfl) ?_
      refine z_icmp_ge (pc := 21) (zk13 kX1_knownAt_0) (tgt := 57) (by decide) (fun c_1 => ?_) (fun c_1 => ?_)
      · have hie_i : i = m := by
          have q := (nI_le_iff (by omega) (by omega)).mp c_1
          omega
        refine z_iload_n (pc := 57) (zk2 kX1_knownAt_2) rfl ?_
        exact z_iret (pc := 58) (zk3 kX1_knownAt_2) rfl (Nat.zero_le _) (Nat.zero_le _) ⟨by rw [hb_, hie_i, knownF, lsN_eq hm h8], rfl, rfl⟩
      · have hlt_i : i < m := by
          rcases Nat.lt_or_ge i m with q | q
          · exact q
          · exact absurd ((nI_le_iff (by omega) (by omega)).mpr q) c_1
        refine z_iconst (pc := 24) (zk14 kX1_knownAt_0) (v := 2) (by decide) ?_
        refine z_aload_n (pc := 25) (zk15 kX1_knownAt_0) rfl ?_
        refine z_iload (pc := 26) (zk0 kX1_knownAt_1) rfl ?_
        refine z_iload_n (pc := 28) (zk1 kX1_knownAt_1) rfl ?_
        refine z_iload_n (pc := 29) (zk2 kX1_knownAt_1) rfl ?_
        refine z_rdV (pc := 30) (zk3 kX1_knownAt_1) (st := [.int 2]) lkX1_73 ivX1_heardWith hL.1 rfl rfl (c_heardWith hL (by omega) (by omega)) rfl ⟨rfl, rfl⟩ rfl rfl ?_ rfl
        refine z_imul (pc := 33) (zk4 kX1_knownAt_1) ?_
        refine z_aload_n (pc := 34) (zk5 kX1_knownAt_1) rfl ?_
        refine z_getf (pc := 35) (zk6 kX1_knownAt_1) flX1_53 hL.1 gLn_13 ?_
        refine z_iload (pc := 38) (zk7 kX1_knownAt_1) rfl ?_
        refine z_ialdN (pc := 40) (zk8 kX1_knownAt_1) (f := σ 13) (j := i) hL.2.2.2.2.2.2.2.2 (by omega) rfl ?_
        refine z_icmp_lt (pc := 41) (zk9 kX1_knownAt_1) (tgt := 51) (by decide) (fun c_2 => ?_) (fun c_2 => ?_)
        · refine z_iinc (pc := 51) (zk0 kX1_knownAt_2) (v := nI (i + 1)) rfl zinc rfl rfl ?_
          show Z D B xX1_knownAt _ _ _ 54 [some (.ref p), some (.int (nI k)), some (.int (lout σ (tipsy σ k))), some (.int b), some (.int (nI (i + 1)))] _ _ _
          refine z_goto (pc := 54) (zk1 kX1_knownAt_2) (tgt := 15) (by decide) ?_
          exact ih15 b (i + 1) (by omega) (by omega) (by rw [hb_]; exact (bitsI_f (p := fun l => knowB σ l k) (knowN rfl c_2)).symm)
        · refine z_iload_n (pc := 44) (zk10 kX1_knownAt_1) rfl ?_
          refine z_iconst (pc := 45) (zk11 kX1_knownAt_1) (v := 1) (by decide) ?_
          refine z_iload (pc := 46) (zk12 kX1_knownAt_1) rfl ?_
          refine z_ishl (pc := 48) (zk13 kX1_knownAt_1) ?_
          refine z_ior (pc := 49) (zk14 kX1_knownAt_1) ?_
          refine z_istore_n (pc := 50) (zk15 kX1_knownAt_1) rfl rfl ?_
          show Z D B xX1_knownAt _ _ _ 51 [some (.ref p), some (.int (nI k)), some (.int (lout σ (tipsy σ k))), some (.int (b ||| (1 <<< ((nI i) &&& 31)))), some (.int (nI i))] _ _ _
          refine z_iinc (pc := 51) (zk0 kX1_knownAt_2) (v := nI (i + 1)) rfl zinc rfl rfl ?_
          show Z D B xX1_knownAt _ _ _ 54 [some (.ref p), some (.int (nI k)), some (.int (lout σ (tipsy σ k))), some (.int (b ||| (1 <<< ((nI i) &&& 31)))), some (.int (nI (i + 1)))] _ _ _
          refine z_goto (pc := 54) (zk1 kX1_knownAt_2) (tgt := 15) (by decide) ?_
          exact ih15 (b ||| (1 <<< ((nI i) &&& 31))) (i + 1) (by omega) (by omega) (by rw [hb_]; exact (bitsI_t (p := fun l => knowB σ l k) (knowT rfl c_2)).symm)
  exact lp15 _ 0 0 (Nat.lt_succ_self _) (by omega) rfl
set_option maxRecDepth 20000 in
theorem c_reads {D : zD} {B : Nat} {h : zH} {sz : Nat} {p m k : Nat} {σ : Ln} (hL : LnAt h p σ) (hm : σ 9 0 = nI m) (h8 : m ≤ 8) : zRd D B xX1_lettersReadAt [.ref p, .int (nI k)] h sz (.int (readsF σ k)) := by
  refine zM.of (by decide) rfl (n := 2) ?_
  show Z D B xX1_lettersReadAt 0 0 _ 0 [some (.ref p), some (.int (nI k)), none, none] [] h sz
  refine z_iconst (pc := 0) (zk0 kX1_lettersReadAt_0) (v := 0) (by decide) ?_
  refine z_istore_n (pc := 1) (zk1 kX1_lettersReadAt_0) rfl rfl ?_
  show Z D B xX1_lettersReadAt _ _ _ 2 [some (.ref p), some (.int (nI k)), some (.int 0), none] _ _ _
  refine z_iconst (pc := 2) (zk2 kX1_lettersReadAt_0) (v := 0) (by decide) ?_
  refine z_istore_n (pc := 3) (zk3 kX1_lettersReadAt_0) rfl rfl ?_
  show Z D B xX1_lettersReadAt _ _ _ 4 [some (.ref p), some (.int (nI k)), some (.int 0), some (.int 0)] _ _ _
  have lp4 : ∀ (n_ : Nat) (b : Int32) (i : Nat), m - i < n_ → (i ≤ m) → (b = bitsI (fun l => readB σ l k) i) → Z D B xX1_lettersReadAt 0 0 (fun r h1 z1 => r = some (.int (readsF σ k)) ∧ h1 = h ∧ z1 = sz) 4 [some (.ref p), some (.int (nI k)), some (.int b), some (.int (nI i))] [] h sz := by
    intro n_
    induction n_ with
    | zero => intro b i hm_; exact absurd hm_ (Nat.not_lt_zero _)
    | succ n_ ih4 =>
      intro b i hm_ hi_i hb_
      refine z_iload_n (pc := 4) (zk4 kX1_lettersReadAt_0) rfl ?_
      refine z_aload_n (pc := 5) (zk5 kX1_lettersReadAt_0) rfl ?_
      refine z_getf (pc := 6) (zk6 kX1_lettersReadAt_0) flX1_41 hL.1 (v := .int (nI m)) (by rw [← hm]; rfl) ?_
      refine z_icmp_ge (pc := 9) (zk7 kX1_lettersReadAt_0) (tgt := 33) (by decide) (fun c_1 => ?_) (fun c_1 => ?_)
      · have hie_i : i = m := by
          have q := (nI_le_iff (by omega) (by omega)).mp c_1
          omega
        refine z_iload_n (pc := 33) (zk5 kX1_lettersReadAt_1) rfl ?_
        exact z_iret (pc := 34) (zk6 kX1_lettersReadAt_1) rfl (Nat.zero_le _) (Nat.zero_le _) ⟨by rw [hb_, hie_i, readsF, lsN_eq hm h8], rfl, rfl⟩
      · have hlt_i : i < m := by
          rcases Nat.lt_or_ge i m with q | q
          · exact q
          · exact absurd ((nI_le_iff (by omega) (by omega)).mpr q) c_1
        refine z_aload_n (pc := 12) (zk8 kX1_lettersReadAt_0) rfl ?_
        refine z_iload_n (pc := 13) (zk9 kX1_lettersReadAt_0) rfl ?_
        refine z_iload_n (pc := 14) (zk10 kX1_lettersReadAt_0) rfl ?_
        refine z_rdV (pc := 15) (zk11 kX1_lettersReadAt_0) (st := []) lkX1_77 ivX1_readAt hL.1 rfl rfl (c_readAt hL (by omega)) rfl ⟨rfl, rfl⟩ rfl rfl ?_ rfl
        refine z_oif_eq (pc := 18) (zk12 kX1_lettersReadAt_0) (tgt := 27) (by decide) (fun c_2 => ?_) (fun c_2 => ?_)
        · refine z_iinc (pc := 27) (zk3 kX1_lettersReadAt_1) (v := nI (i + 1)) rfl zinc rfl rfl ?_
          show Z D B xX1_lettersReadAt _ _ _ 30 [some (.ref p), some (.int (nI k)), some (.int b), some (.int (nI (i + 1)))] _ _ _
          refine z_goto (pc := 30) (zk4 kX1_lettersReadAt_1) (tgt := 4) (by decide) ?_
          exact ih4 b (i + 1) (by omega) (by omega) (by rw [hb_]; exact (bitsI_f (p := fun l => readB σ l k) c_2).symm)
        · refine z_iload_n (pc := 21) (zk13 kX1_lettersReadAt_0) rfl ?_
          refine z_iconst (pc := 22) (zk14 kX1_lettersReadAt_0) (v := 1) (by decide) ?_
          refine z_iload_n (pc := 23) (zk15 kX1_lettersReadAt_0) rfl ?_
          refine z_ishl (pc := 24) (zk0 kX1_lettersReadAt_1) ?_
          refine z_ior (pc := 25) (zk1 kX1_lettersReadAt_1) ?_
          refine z_istore_n (pc := 26) (zk2 kX1_lettersReadAt_1) rfl rfl ?_
          show Z D B xX1_lettersReadAt _ _ _ 27 [some (.ref p), some (.int (nI k)), some (.int (b ||| (1 <<< ((nI i) &&& 31)))), some (.int (nI i))] _ _ _
          refine z_iinc (pc := 27) (zk3 kX1_lettersReadAt_1) (v := nI (i + 1)) rfl zinc rfl rfl ?_
          show Z D B xX1_lettersReadAt _ _ _ 30 [some (.ref p), some (.int (nI k)), some (.int (b ||| (1 <<< ((nI i) &&& 31)))), some (.int (nI (i + 1)))] _ _ _
          refine z_goto (pc := 30) (zk4 kX1_lettersReadAt_1) (tgt := 4) (by decide) ?_
          exact ih4 (b ||| (1 <<< ((nI i) &&& 31))) (i + 1) (by omega) (by omega) (by rw [hb_]; exact (bitsI_t (p := fun l => readB σ l k) c_2).symm)
  exact lp4 _ 0 0 (Nat.lt_succ_self _) (by omega) rfl
set_option maxRecDepth 20000 in
theorem c_knowers {D : zD} {B : Nat} {h : zH} {sz : Nat} {p n l : Nat} {σ : Ln} (hL : LnAt h p σ) (hn : σ 0 0 = nI n) (h12 : n ≤ 12) (hl : l < 8) : zRd D B xX1_knowers [.ref p, .int (nI l)] h sz (.int (knowersF σ l)) := by
  refine zM.of (by decide) rfl (n := 4) ?_
  show Z D B xX1_knowers 0 0 _ 0 [some (.ref p), some (.int (nI l)), none, none, none, none] [] h sz
  by_cases hb : σ 6 0 = 0
  · refine z_iconst (pc := 0) (zk0 kX1_knowers_0) (v := 0) (by decide) ?_
    refine z_istore_n (pc := 1) (zk1 kX1_knowers_0) rfl rfl ?_
    show Z D B xX1_knowers _ _ _ 2 [some (.ref p), some (.int (nI l)), some (.int 0), none, none, none] _ _ _
    refine z_iconst (pc := 2) (zk2 kX1_knowers_0) (v := 0) (by decide) ?_
    refine z_istore_n (pc := 3) (zk3 kX1_knowers_0) rfl rfl ?_
    show Z D B xX1_knowers _ _ _ 4 [some (.ref p), some (.int (nI l)), some (.int 0), some (.int 0), none, none] _ _ _
    refine z_iconst (pc := 4) (zk4 kX1_knowers_0) (v := 0) (by decide) ?_
    refine z_istore (pc := 5) (zk5 kX1_knowers_0) rfl rfl ?_
    show Z D B xX1_knowers _ _ _ 7 [some (.ref p), some (.int (nI l)), some (.int 0), some (.int 0), some (.int 0), none] _ _ _
    have lp7 : ∀ (n_ : Nat) (b : Int32) (t : Int32) (i : Nat), n - i < n_ → (i ≤ n) → (b = bitsI (fun k => knowB σ l k) i) → (t = sum0 (σ 2) i) → Z D B xX1_knowers 0 0 (fun r h1 z1 => r = some (.int (knowersF σ l)) ∧ h1 = h ∧ z1 = sz) 7 [some (.ref p), some (.int (nI l)), some (.int b), some (.int t), some (.int (nI i)), none] [] h sz := by
      intro n_
      induction n_ with
      | zero => intro b t i hm_; exact absurd hm_ (Nat.not_lt_zero _)
      | succ n_ ih7 =>
        intro b t i hm_ hi_i hb_ ht
        refine z_iload (pc := 7) (zk6 kX1_knowers_0) rfl ?_
        refine z_aload_n (pc := 9) (zk7 kX1_knowers_0) rfl ?_
        refine z_getf (pc := 10) (zk8 kX1_knowers_0) flX1_9 hL.1 (v := .int (nI n)) (by rw [← hn]; rfl) ?_
        refine z_icmp_ge (pc := 13) (zk9 kX1_knowers_0) (tgt := 70) (by decide) (fun c_1 => ?_) (fun c_1 => ?_)
        · have hie_i : i = n := by
            have q := (nI_le_iff (by omega) (by omega)).mp c_1
            omega
          refine z_iload_n (pc := 70) (zk11 kX1_knowers_2) rfl ?_
          exact z_iret (pc := 71) (zk12 kX1_knowers_2) rfl (Nat.zero_le _) (Nat.zero_le _) ⟨by rw [hb_, hie_i, knowersF, hsN_eq hn h12], rfl, rfl⟩
        · have hlt_i : i < n := by
            rcases Nat.lt_or_ge i n with q | q
            · exact q
            · exact absurd ((nI_le_iff (by omega) (by omega)).mpr q) c_1
          refine z_aload_n (pc := 16) (zk10 kX1_knowers_0) rfl ?_
          refine z_iload (pc := 17) (zk11 kX1_knowers_0) rfl ?_
          refine z_rdV (pc := 19) (zk12 kX1_knowers_0) (st := []) lkX1_99 ivX1_houseAtStep hL.1 rfl rfl (c_stepF hL hb) rfl ⟨rfl, rfl⟩ rfl rfl ?_ rfl
          refine z_istore (pc := 22) (zk13 kX1_knowers_0) rfl rfl ?_
          show Z D B xX1_knowers _ _ _ 24 [some (.ref p), some (.int (nI l)), some (.int b), some (.int t), some (.int (nI i)), some (.int (nI i))] _ _ _
          refine z_iconst (pc := 24) (zk14 kX1_knowers_0) (v := 2) (by decide) ?_
          refine z_aload_n (pc := 25) (zk15 kX1_knowers_0) rfl ?_
          refine z_iload_n (pc := 26) (zk0 kX1_knowers_1) rfl ?_
          refine z_iload (pc := 27) (zk1 kX1_knowers_1) rfl ?_
          refine z_aload_n (pc := 29) (zk2 kX1_knowers_1) rfl ?_
          refine z_iload_n (pc := 30) (zk3 kX1_knowers_1) rfl ?_
          refine z_rdV (pc := 31) (zk4 kX1_knowers_1) (st := [.int (nI i), .int (nI l), .ref p, .int 2]) lkX1_70 ivX1_leftOutAfter hL.1 rfl rfl (c_leftOut hL) rfl ⟨rfl, rfl⟩ rfl rfl ?_ rfl
          refine z_rdV (pc := 34) (zk5 kX1_knowers_1) (st := [.int 2]) lkX1_73 ivX1_heardWith hL.1 rfl rfl (c_heardWith hL (by omega) (by omega)) rfl ⟨rfl, rfl⟩ rfl rfl ?_ rfl
          refine z_imul (pc := 37) (zk6 kX1_knowers_1) ?_
          refine z_aload_n (pc := 38) (zk7 kX1_knowers_1) rfl ?_
          refine z_getf (pc := 39) (zk8 kX1_knowers_1) flX1_53 hL.1 gLn_13 ?_
          refine z_iload_n (pc := 42) (zk9 kX1_knowers_1) rfl ?_
          refine z_ialdN (pc := 43) (zk10 kX1_knowers_1) (f := σ 13) (j := l) hL.2.2.2.2.2.2.2.2 (by omega) rfl ?_
          refine z_icmp_lt (pc := 44) (zk11 kX1_knowers_1) (tgt := 54) (by decide) (fun c_2 => ?_) (fun c_2 => ?_)
          · refine z_iload_n (pc := 54) (zk2 kX1_knowers_2) rfl ?_
            refine z_aload_n (pc := 55) (zk3 kX1_knowers_2) rfl ?_
            refine z_getf (pc := 56) (zk4 kX1_knowers_2) flX1_19 hL.1 gLn_2 ?_
            refine z_iload (pc := 59) (zk5 kX1_knowers_2) rfl ?_
            refine z_ialdN (pc := 61) (zk6 kX1_knowers_2) (f := σ 2) (j := i) hL.2.2.1 (by omega) rfl ?_
            refine z_iadd (pc := 62) (zk7 kX1_knowers_2) ?_
            refine z_istore_n (pc := 63) (zk8 kX1_knowers_2) rfl rfl ?_
            show Z D B xX1_knowers _ _ _ 64 [some (.ref p), some (.int (nI l)), some (.int b), some (.int (t + (σ 2 i))), some (.int (nI i)), some (.int (nI i))] _ _ _
            refine z_iinc (pc := 64) (zk9 kX1_knowers_2) (v := nI (i + 1)) rfl zinc rfl rfl ?_
            show Z D B xX1_knowers _ _ _ 67 [some (.ref p), some (.int (nI l)), some (.int b), some (.int (t + (σ 2 i))), some (.int (nI (i + 1))), some (.int (nI i))] _ _ _
            refine z_goto (pc := 67) (zk10 kX1_knowers_2) (tgt := 7) (by decide) ?_
            refine z_kill 5 ?_
            show Z D B xX1_knowers _ _ _ 7 [some (.ref p), some (.int (nI l)), some (.int b), some (.int (t + (σ 2 i))), some (.int (nI (i + 1))), none] _ _ _
            exact ih7 b (t + (σ 2 i)) (i + 1) (by omega) (by omega) (by rw [hb_]; exact (bitsI_f (p := fun k => knowB σ l k) (knowN (by rw [ht, tipsy, if_pos hb]) c_2)).symm) (by rw [ht]; rfl)
          · refine z_iload_n (pc := 47) (zk12 kX1_knowers_1) rfl ?_
            refine z_iconst (pc := 48) (zk13 kX1_knowers_1) (v := 1) (by decide) ?_
            refine z_iload (pc := 49) (zk14 kX1_knowers_1) rfl ?_
            refine z_ishl (pc := 51) (zk15 kX1_knowers_1) ?_
            refine z_ior (pc := 52) (zk0 kX1_knowers_2) ?_
            refine z_istore_n (pc := 53) (zk1 kX1_knowers_2) rfl rfl ?_
            show Z D B xX1_knowers _ _ _ 54 [some (.ref p), some (.int (nI l)), some (.int (b ||| (1 <<< ((nI i) &&& 31)))), some (.int t), some (.int (nI i)), some (.int (nI i))] _ _ _
            refine z_iload_n (pc := 54) (zk2 kX1_knowers_2) rfl ?_
            refine z_aload_n (pc := 55) (zk3 kX1_knowers_2) rfl ?_
            refine z_getf (pc := 56) (zk4 kX1_knowers_2) flX1_19 hL.1 gLn_2 ?_
            refine z_iload (pc := 59) (zk5 kX1_knowers_2) rfl ?_
            refine z_ialdN (pc := 61) (zk6 kX1_knowers_2) (f := σ 2) (j := i) hL.2.2.1 (by omega) rfl ?_
            refine z_iadd (pc := 62) (zk7 kX1_knowers_2) ?_
            refine z_istore_n (pc := 63) (zk8 kX1_knowers_2) rfl rfl ?_
            show Z D B xX1_knowers _ _ _ 64 [some (.ref p), some (.int (nI l)), some (.int (b ||| (1 <<< ((nI i) &&& 31)))), some (.int (t + (σ 2 i))), some (.int (nI i)), some (.int (nI i))] _ _ _
            refine z_iinc (pc := 64) (zk9 kX1_knowers_2) (v := nI (i + 1)) rfl zinc rfl rfl ?_
            show Z D B xX1_knowers _ _ _ 67 [some (.ref p), some (.int (nI l)), some (.int (b ||| (1 <<< ((nI i) &&& 31)))), some (.int (t + (σ 2 i))), some (.int (nI (i + 1))), some (.int (nI i))] _ _ _
            refine z_goto (pc := 67) (zk10 kX1_knowers_2) (tgt := 7) (by decide) ?_
            refine z_kill 5 ?_
            show Z D B xX1_knowers _ _ _ 7 [some (.ref p), some (.int (nI l)), some (.int (b ||| (1 <<< ((nI i) &&& 31)))), some (.int (t + (σ 2 i))), some (.int (nI (i + 1))), none] _ _ _
            exact ih7 (b ||| (1 <<< ((nI i) &&& 31))) (t + (σ 2 i)) (i + 1) (by omega) (by omega) (by rw [hb_]; exact (bitsI_t (p := fun k => knowB σ l k) (knowT (by rw [ht, tipsy, if_pos hb]) c_2)).symm) (by rw [ht]; rfl)
    exact lp7 _ 0 0 0 (Nat.lt_succ_self _) (by omega) rfl rfl
  · refine z_iconst (pc := 0) (zk0 kX1_knowers_0) (v := 0) (by decide) ?_
    refine z_istore_n (pc := 1) (zk1 kX1_knowers_0) rfl rfl ?_
    show Z D B xX1_knowers _ _ _ 2 [some (.ref p), some (.int (nI l)), some (.int 0), none, none, none] _ _ _
    refine z_iconst (pc := 2) (zk2 kX1_knowers_0) (v := 0) (by decide) ?_
    refine z_istore_n (pc := 3) (zk3 kX1_knowers_0) rfl rfl ?_
    show Z D B xX1_knowers _ _ _ 4 [some (.ref p), some (.int (nI l)), some (.int 0), some (.int 0), none, none] _ _ _
    refine z_iconst (pc := 4) (zk4 kX1_knowers_0) (v := 0) (by decide) ?_
    refine z_istore (pc := 5) (zk5 kX1_knowers_0) rfl rfl ?_
    show Z D B xX1_knowers _ _ _ 7 [some (.ref p), some (.int (nI l)), some (.int 0), some (.int 0), some (.int 0), none] _ _ _
    have lp7 : ∀ (n_ : Nat) (b : Int32) (t : Int32) (i : Nat), n - i < n_ → (i ≤ n) → (b ||| bitsI (fun k => knowB σ l k) (n - i) = bitsI (fun k => knowB σ l k) n) → (i < n → t = tipsy σ (n - 1 - i)) → Z D B xX1_knowers 0 0 (fun r h1 z1 => r = some (.int (knowersF σ l)) ∧ h1 = h ∧ z1 = sz) 7 [some (.ref p), some (.int (nI l)), some (.int b), some (.int t), some (.int (nI i)), none] [] h sz := by
      intro n_
      induction n_ with
      | zero => intro b t i hm_; exact absurd hm_ (Nat.not_lt_zero _)
      | succ n_ ih7 =>
        intro b t i hm_ hi_i hb_ ht
        refine z_iload (pc := 7) (zk6 kX1_knowers_0) rfl ?_
        refine z_aload_n (pc := 9) (zk7 kX1_knowers_0) rfl ?_
        refine z_getf (pc := 10) (zk8 kX1_knowers_0) flX1_9 hL.1 (v := .int (nI n)) (by rw [← hn]; rfl) ?_
        refine z_icmp_ge (pc := 13) (zk9 kX1_knowers_0) (tgt := 70) (by decide) (fun c_3 => ?_) (fun c_3 => ?_)
        · have hie_i : i = n := by
            have q := (nI_le_iff (by omega) (by omega)).mp c_3
            omega
          refine z_iload_n (pc := 70) (zk11 kX1_knowers_2) rfl ?_
          exact z_iret (pc := 71) (zk12 kX1_knowers_2) rfl (Nat.zero_le _) (Nat.zero_le _) ⟨by rw [knowersF, hsN_eq hn h12, ← hb_, hie_i, Nat.sub_self]; show some (Value.int b) = some (Value.int (b ||| 0)); rw [Int32.or_zero], rfl, rfl⟩
        · have hlt_i : i < n := by
            rcases Nat.lt_or_ge i n with q | q
            · exact q
            · exact absurd ((nI_le_iff (by omega) (by omega)).mpr q) c_3
          refine z_aload_n (pc := 16) (zk10 kX1_knowers_0) rfl ?_
          refine z_iload (pc := 17) (zk11 kX1_knowers_0) rfl ?_
          refine z_rdV (pc := 19) (zk12 kX1_knowers_0) (st := []) lkX1_99 ivX1_houseAtStep hL.1 rfl rfl (c_stepB hL hn hb (by omega)) rfl ⟨rfl, rfl⟩ rfl rfl ?_ rfl
          refine z_istore (pc := 22) (zk13 kX1_knowers_0) rfl rfl ?_
          show Z D B xX1_knowers _ _ _ 24 [some (.ref p), some (.int (nI l)), some (.int b), some (.int t), some (.int (nI i)), some (.int (nI (n - 1 - i)))] _ _ _
          refine z_iconst (pc := 24) (zk14 kX1_knowers_0) (v := 2) (by decide) ?_
          refine z_aload_n (pc := 25) (zk15 kX1_knowers_0) rfl ?_
          refine z_iload_n (pc := 26) (zk0 kX1_knowers_1) rfl ?_
          refine z_iload (pc := 27) (zk1 kX1_knowers_1) rfl ?_
          refine z_aload_n (pc := 29) (zk2 kX1_knowers_1) rfl ?_
          refine z_iload_n (pc := 30) (zk3 kX1_knowers_1) rfl ?_
          refine z_rdV (pc := 31) (zk4 kX1_knowers_1) (st := [.int (nI (n - 1 - i)), .int (nI l), .ref p, .int 2]) lkX1_70 ivX1_leftOutAfter hL.1 rfl rfl (c_leftOut hL) rfl ⟨rfl, rfl⟩ rfl rfl ?_ rfl
          refine z_rdV (pc := 34) (zk5 kX1_knowers_1) (st := [.int 2]) lkX1_73 ivX1_heardWith hL.1 rfl rfl (c_heardWith hL (by omega) (by omega)) rfl ⟨rfl, rfl⟩ rfl rfl ?_ rfl
          refine z_imul (pc := 37) (zk6 kX1_knowers_1) ?_
          refine z_aload_n (pc := 38) (zk7 kX1_knowers_1) rfl ?_
          refine z_getf (pc := 39) (zk8 kX1_knowers_1) flX1_53 hL.1 gLn_13 ?_
          refine z_iload_n (pc := 42) (zk9 kX1_knowers_1) rfl ?_
          refine z_ialdN (pc := 43) (zk10 kX1_knowers_1) (f := σ 13) (j := l) hL.2.2.2.2.2.2.2.2 (by omega) rfl ?_
          refine z_icmp_lt (pc := 44) (zk11 kX1_knowers_1) (tgt := 54) (by decide) (fun c_4 => ?_) (fun c_4 => ?_)
          · refine z_iload_n (pc := 54) (zk2 kX1_knowers_2) rfl ?_
            refine z_aload_n (pc := 55) (zk3 kX1_knowers_2) rfl ?_
            refine z_getf (pc := 56) (zk4 kX1_knowers_2) flX1_19 hL.1 gLn_2 ?_
            refine z_iload (pc := 59) (zk5 kX1_knowers_2) rfl ?_
            refine z_ialdN (pc := 61) (zk6 kX1_knowers_2) (f := σ 2) (j := n - 1 - i) hL.2.2.1 (by omega) rfl ?_
            refine z_iadd (pc := 62) (zk7 kX1_knowers_2) ?_
            refine z_istore_n (pc := 63) (zk8 kX1_knowers_2) rfl rfl ?_
            show Z D B xX1_knowers _ _ _ 64 [some (.ref p), some (.int (nI l)), some (.int b), some (.int (t + (σ 2 (n - 1 - i)))), some (.int (nI i)), some (.int (nI (n - 1 - i)))] _ _ _
            refine z_iinc (pc := 64) (zk9 kX1_knowers_2) (v := nI (i + 1)) rfl zinc rfl rfl ?_
            show Z D B xX1_knowers _ _ _ 67 [some (.ref p), some (.int (nI l)), some (.int b), some (.int (t + (σ 2 (n - 1 - i)))), some (.int (nI (i + 1))), some (.int (nI (n - 1 - i)))] _ _ _
            refine z_goto (pc := 67) (zk10 kX1_knowers_2) (tgt := 7) (by decide) ?_
            refine z_kill 5 ?_
            show Z D B xX1_knowers _ _ _ 7 [some (.ref p), some (.int (nI l)), some (.int b), some (.int (t + (σ 2 (n - 1 - i)))), some (.int (nI (i + 1))), none] _ _ _
            exact ih7 b (t + (σ 2 (n - 1 - i))) (i + 1) (by omega) (by omega) (by rw [← hb_, show n - i = (n - 1 - i) + 1 by omega, show n - (i + 1) = n - 1 - i by omega]; exact bitsI_bf (p := fun k => knowB σ l k) (knowN (ht hlt_i) c_4)) (fun q => by rw [ht hlt_i, tipsy_b2 hb hn h12 q])
          · refine z_iload_n (pc := 47) (zk12 kX1_knowers_1) rfl ?_
            refine z_iconst (pc := 48) (zk13 kX1_knowers_1) (v := 1) (by decide) ?_
            refine z_iload (pc := 49) (zk14 kX1_knowers_1) rfl ?_
            refine z_ishl (pc := 51) (zk15 kX1_knowers_1) ?_
            refine z_ior (pc := 52) (zk0 kX1_knowers_2) ?_
            refine z_istore_n (pc := 53) (zk1 kX1_knowers_2) rfl rfl ?_
            show Z D B xX1_knowers _ _ _ 54 [some (.ref p), some (.int (nI l)), some (.int (b ||| (1 <<< ((nI (n - 1 - i)) &&& 31)))), some (.int t), some (.int (nI i)), some (.int (nI (n - 1 - i)))] _ _ _
            refine z_iload_n (pc := 54) (zk2 kX1_knowers_2) rfl ?_
            refine z_aload_n (pc := 55) (zk3 kX1_knowers_2) rfl ?_
            refine z_getf (pc := 56) (zk4 kX1_knowers_2) flX1_19 hL.1 gLn_2 ?_
            refine z_iload (pc := 59) (zk5 kX1_knowers_2) rfl ?_
            refine z_ialdN (pc := 61) (zk6 kX1_knowers_2) (f := σ 2) (j := n - 1 - i) hL.2.2.1 (by omega) rfl ?_
            refine z_iadd (pc := 62) (zk7 kX1_knowers_2) ?_
            refine z_istore_n (pc := 63) (zk8 kX1_knowers_2) rfl rfl ?_
            show Z D B xX1_knowers _ _ _ 64 [some (.ref p), some (.int (nI l)), some (.int (b ||| (1 <<< ((nI (n - 1 - i)) &&& 31)))), some (.int (t + (σ 2 (n - 1 - i)))), some (.int (nI i)), some (.int (nI (n - 1 - i)))] _ _ _
            refine z_iinc (pc := 64) (zk9 kX1_knowers_2) (v := nI (i + 1)) rfl zinc rfl rfl ?_
            show Z D B xX1_knowers _ _ _ 67 [some (.ref p), some (.int (nI l)), some (.int (b ||| (1 <<< ((nI (n - 1 - i)) &&& 31)))), some (.int (t + (σ 2 (n - 1 - i)))), some (.int (nI (i + 1))), some (.int (nI (n - 1 - i)))] _ _ _
            refine z_goto (pc := 67) (zk10 kX1_knowers_2) (tgt := 7) (by decide) ?_
            refine z_kill 5 ?_
            show Z D B xX1_knowers _ _ _ 7 [some (.ref p), some (.int (nI l)), some (.int (b ||| (1 <<< ((nI (n - 1 - i)) &&& 31)))), some (.int (t + (σ 2 (n - 1 - i)))), some (.int (nI (i + 1))), none] _ _ _
            exact ih7 (b ||| (1 <<< ((nI (n - 1 - i)) &&& 31))) (t + (σ 2 (n - 1 - i))) (i + 1) (by omega) (by omega) (by rw [← hb_, show n - i = (n - 1 - i) + 1 by omega, show n - (i + 1) = n - 1 - i by omega]; exact bitsI_bt (p := fun k => knowB σ l k) (knowT (ht hlt_i) c_4)) (fun q => by rw [ht hlt_i, tipsy_b2 hb hn h12 q])
    exact lp7 _ 0 0 0 (Nat.lt_succ_self _) (by omega) (by rw [Nat.sub_zero]; exact Int32.zero_or) (fun q => (by rw [Nat.sub_zero, tipsy_last hb hn h12 (by omega)]))
set_option maxRecDepth 20000 in
theorem c_loudestAt {D : zD} {B : Nat} {h : zH} {sz : Nat} {p n m k : Nat} {σ : Ln} (hL : LnAt h p σ) (hn : σ 0 0 = nI n) (h12 : n ≤ 12) (hm : σ 9 0 = nI m) (h8 : m ≤ 8) (hk : k < n) : zRd D B xX1_loudestAt [.ref p, .int (nI k)] h sz (.int (loudF σ k)) := by
  refine zM.of (by decide) rfl (n := 4) ?_
  show Z D B xX1_loudestAt 0 0 _ 0 [some (.ref p), some (.int (nI k)), none, none, none, none] [] h sz
  refine z_iconst (pc := 0) (zk0 kX1_loudestAt_0) (v := 0) (by decide) ?_
  refine z_istore_n (pc := 1) (zk1 kX1_loudestAt_0) rfl rfl ?_
  show Z D B xX1_loudestAt _ _ _ 2 [some (.ref p), some (.int (nI k)), some (.int 0), none, none, none] _ _ _
  refine z_iconst (pc := 2) (zk2 kX1_loudestAt_0) (v := (-1)) (by decide) ?_
  refine z_istore_n (pc := 3) (zk3 kX1_loudestAt_0) rfl rfl ?_
  show Z D B xX1_loudestAt _ _ _ 4 [some (.ref p), some (.int (nI k)), some (.int 0), some (.int (-1)), none, none] _ _ _
  refine z_iconst (pc := 4) (zk4 kX1_loudestAt_0) (v := 0) (by decide) ?_
  refine z_istore (pc := 5) (zk5 kX1_loudestAt_0) rfl rfl ?_
  show Z D B xX1_loudestAt _ _ _ 7 [some (.ref p), some (.int (nI k)), some (.int 0), some (.int (-1)), some (.int 0), none] _ _ _
  have lp7 : ∀ (n_ : Nat) (x : Int32) (y : Int32) (i : Nat), m - i < n_ → (i ≤ m) → (x = (amx (fun l => heardF σ l k) 0 (-1) i).1) → (y = (amx (fun l => heardF σ l k) 0 (-1) i).2) → Z D B xX1_loudestAt 0 0 (fun r h1 z1 => r = some (.int (loudF σ k)) ∧ h1 = h ∧ z1 = sz) 7 [some (.ref p), some (.int (nI k)), some (.int x), some (.int y), some (.int (nI i)), none] [] h sz := by
    intro n_
    induction n_ with
    | zero => intro x y i hm_; exact absurd hm_ (Nat.not_lt_zero _)
    | succ n_ ih7 =>
      intro x y i hm_ hi_i hx hy
      refine z_iload (pc := 7) (zk6 kX1_loudestAt_0) rfl ?_
      refine z_aload_n (pc := 9) (zk7 kX1_loudestAt_0) rfl ?_
      refine z_getf (pc := 10) (zk8 kX1_loudestAt_0) flX1_41 hL.1 (v := .int (nI m)) (by rw [← hm]; rfl) ?_
      refine z_icmp_ge (pc := 13) (zk9 kX1_loudestAt_0) (tgt := 43) (by decide) (fun c_1 => ?_) (fun c_1 => ?_)
      · have hie_i : i = m := by
          have q := (nI_le_iff (by omega) (by omega)).mp c_1
          omega
        refine z_iload_n (pc := 43) (zk8 kX1_loudestAt_1) rfl ?_
        exact z_iret (pc := 44) (zk9 kX1_loudestAt_1) rfl (Nat.zero_le _) (Nat.zero_le _) ⟨by rw [hy, hie_i, loudF, lsN_eq hm h8], rfl, rfl⟩
      · have hlt_i : i < m := by
          rcases Nat.lt_or_ge i m with q | q
          · exact q
          · exact absurd ((nI_le_iff (by omega) (by omega)).mpr q) c_1
        refine z_aload_n (pc := 16) (zk10 kX1_loudestAt_0) rfl ?_
        refine z_iload (pc := 17) (zk11 kX1_loudestAt_0) rfl ?_
        refine z_iload_n (pc := 19) (zk12 kX1_loudestAt_0) rfl ?_
        refine z_rdV (pc := 20) (zk13 kX1_loudestAt_0) (st := []) lkX1_96 ivX1_heardAt hL.1 rfl rfl (c_heardAt hL hn h12 (by omega) (by omega)) rfl ⟨rfl, rfl⟩ rfl rfl ?_ rfl
        refine z_istore (pc := 23) (zk14 kX1_loudestAt_0) rfl rfl ?_
        show Z D B xX1_loudestAt _ _ _ 25 [some (.ref p), some (.int (nI k)), some (.int x), some (.int y), some (.int (nI i)), some (.int (heardF σ i k))] _ _ _
        refine z_iload (pc := 25) (zk15 kX1_loudestAt_0) rfl ?_
        refine z_iload_n (pc := 27) (zk0 kX1_loudestAt_1) rfl ?_
        refine z_icmp_le (pc := 28) (zk1 kX1_loudestAt_1) (tgt := 37) (by decide) (fun c_2 => ?_) (fun c_2 => ?_)
        · refine z_iinc (pc := 37) (zk6 kX1_loudestAt_1) (v := nI (i + 1)) rfl zinc rfl rfl ?_
          show Z D B xX1_loudestAt _ _ _ 40 [some (.ref p), some (.int (nI k)), some (.int x), some (.int y), some (.int (nI (i + 1))), some (.int (heardF σ i k))] _ _ _
          refine z_goto (pc := 40) (zk7 kX1_loudestAt_1) (tgt := 7) (by decide) ?_
          refine z_kill 5 ?_
          show Z D B xX1_loudestAt _ _ _ 7 [some (.ref p), some (.int (nI k)), some (.int x), some (.int y), some (.int (nI (i + 1))), none] _ _ _
          exact ih7 x y (i + 1) (by omega) (by omega) (by rw [amx_f (by rw [← hx]; exact Int32.not_lt.mpr c_2)]; exact hx) (by rw [amx_f (by rw [← hx]; exact Int32.not_lt.mpr c_2)]; exact hy)
        · refine z_iload (pc := 31) (zk2 kX1_loudestAt_1) rfl ?_
          refine z_istore_n (pc := 33) (zk3 kX1_loudestAt_1) rfl rfl ?_
          show Z D B xX1_loudestAt _ _ _ 34 [some (.ref p), some (.int (nI k)), some (.int (heardF σ i k)), some (.int y), some (.int (nI i)), some (.int (heardF σ i k))] _ _ _
          refine z_iload (pc := 34) (zk4 kX1_loudestAt_1) rfl ?_
          refine z_istore_n (pc := 36) (zk5 kX1_loudestAt_1) rfl rfl ?_
          show Z D B xX1_loudestAt _ _ _ 37 [some (.ref p), some (.int (nI k)), some (.int (heardF σ i k)), some (.int (nI i)), some (.int (nI i)), some (.int (heardF σ i k))] _ _ _
          refine z_iinc (pc := 37) (zk6 kX1_loudestAt_1) (v := nI (i + 1)) rfl zinc rfl rfl ?_
          show Z D B xX1_loudestAt _ _ _ 40 [some (.ref p), some (.int (nI k)), some (.int (heardF σ i k)), some (.int (nI i)), some (.int (nI (i + 1))), some (.int (heardF σ i k))] _ _ _
          refine z_goto (pc := 40) (zk7 kX1_loudestAt_1) (tgt := 7) (by decide) ?_
          refine z_kill 5 ?_
          show Z D B xX1_loudestAt _ _ _ 7 [some (.ref p), some (.int (nI k)), some (.int (heardF σ i k)), some (.int (nI i)), some (.int (nI (i + 1))), none] _ _ _
          exact ih7 (heardF σ i k) (nI i) (i + 1) (by omega) (by omega) (by rw [amx_t (by rw [← hx]; exact Int32.not_le.mp c_2)]) (by rw [amx_t (by rw [← hx]; exact Int32.not_le.mp c_2)])
  exact lp7 _ 0 (-1) 0 (Nat.lt_succ_self _) (by omega) rfl rfl
set_option maxRecDepth 20000 in
theorem c_most {D : zD} {B : Nat} {h : zH} {sz : Nat} {p n m : Nat} {σ : Ln} (hL : LnAt h p σ) (hn : σ 0 0 = nI n) (h12 : n ≤ 12) (hm : σ 9 0 = nI m) (h8 : m ≤ 8) (h1 : 1 ≤ n) : zRd D B xX1_houseWithMost [.ref p] h sz (.int (nI (bestN (wordsF σ) (hsN σ)))) := by
  refine zM.of (by decide) rfl (n := 2) ?_
  show Z D B xX1_houseWithMost 0 0 _ 0 [some (.ref p), none, none] [] h sz
  refine z_iconst (pc := 0) (zk0 kX1_houseWithMost_0) (v := 0) (by decide) ?_
  refine z_istore_n (pc := 1) (zk1 kX1_houseWithMost_0) rfl rfl ?_
  show Z D B xX1_houseWithMost _ _ _ 2 [some (.ref p), some (.int 0), none] _ _ _
  refine z_iconst (pc := 2) (zk2 kX1_houseWithMost_0) (v := 1) (by decide) ?_
  refine z_istore_n (pc := 3) (zk3 kX1_houseWithMost_0) rfl rfl ?_
  show Z D B xX1_houseWithMost _ _ _ 4 [some (.ref p), some (.int 0), some (.int 1)] _ _ _
  have lp4 : ∀ (n_ : Nat) (g : Nat) (i : Nat), n - i < n_ → (1 ≤ i) → (i ≤ n) → (g = bestN (wordsF σ) i) → Z D B xX1_houseWithMost 0 0 (fun r h1 z1 => r = some (.int (nI (bestN (wordsF σ) (hsN σ)))) ∧ h1 = h ∧ z1 = sz) 4 [some (.ref p), some (.int (nI g)), some (.int (nI i))] [] h sz := by
    intro n_
    induction n_ with
    | zero => intro g i hm_; exact absurd hm_ (Nat.not_lt_zero _)
    | succ n_ ih4 =>
      intro g i hm_ h0_i hi_i hg
      have hgn : g < i := by rw [hg]; exact bestN_lt (by omega)
      refine z_iload_n (pc := 4) (zk4 kX1_houseWithMost_0) rfl ?_
      refine z_aload_n (pc := 5) (zk5 kX1_houseWithMost_0) rfl ?_
      refine z_getf (pc := 6) (zk6 kX1_houseWithMost_0) flX1_9 hL.1 (v := .int (nI n)) (by rw [← hn]; rfl) ?_
      refine z_icmp_ge (pc := 9) (zk7 kX1_houseWithMost_0) (tgt := 33) (by decide) (fun c_1 => ?_) (fun c_1 => ?_)
      · have hie_i : i = n := by
          have q := (nI_le_iff (by omega) (by omega)).mp c_1
          omega
        refine z_iload_n (pc := 33) (zk3 kX1_houseWithMost_1) rfl ?_
        exact z_iret (pc := 34) (zk4 kX1_houseWithMost_1) rfl (Nat.zero_le _) (Nat.zero_le _) ⟨by rw [hg, hie_i, hsN_eq hn h12], rfl, rfl⟩
      · have hlt_i : i < n := by
          rcases Nat.lt_or_ge i n with q | q
          · exact q
          · exact absurd ((nI_le_iff (by omega) (by omega)).mpr q) c_1
        refine z_aload_n (pc := 12) (zk8 kX1_houseWithMost_0) rfl ?_
        refine z_iload_n (pc := 13) (zk9 kX1_houseWithMost_0) rfl ?_
        refine z_rdV (pc := 14) (zk10 kX1_houseWithMost_0) (st := []) lkX1_110 ivX1_wordsAt hL.1 rfl rfl (c_wordsAt hL hn h12 hm h8 (by omega)) rfl ⟨rfl, rfl⟩ rfl rfl ?_ rfl
        refine z_aload_n (pc := 17) (zk11 kX1_houseWithMost_0) rfl ?_
        refine z_iload_n (pc := 18) (zk12 kX1_houseWithMost_0) rfl ?_
        refine z_rdV (pc := 19) (zk13 kX1_houseWithMost_0) (st := [.int (wordsF σ i)]) lkX1_110 ivX1_wordsAt hL.1 rfl rfl (c_wordsAt hL hn h12 hm h8 (by omega)) rfl ⟨rfl, rfl⟩ rfl rfl ?_ rfl
        refine z_icmp_le (pc := 22) (zk14 kX1_houseWithMost_0) (tgt := 27) (by decide) (fun c_2 => ?_) (fun c_2 => ?_)
        · refine z_iinc (pc := 27) (zk1 kX1_houseWithMost_1) (v := nI (i + 1)) rfl zinc rfl rfl ?_
          show Z D B xX1_houseWithMost _ _ _ 30 [some (.ref p), some (.int (nI g)), some (.int (nI (i + 1)))] _ _ _
          refine z_goto (pc := 30) (zk2 kX1_houseWithMost_1) (tgt := 4) (by decide) ?_
          exact ih4 g (i + 1) (by omega) (by omega) (by omega) (by rw [bestN_f (by omega) (by rw [← hg]; exact Int32.not_lt.mpr c_2)]; exact hg)
        · refine z_iload_n (pc := 25) (zk15 kX1_houseWithMost_0) rfl ?_
          refine z_istore_n (pc := 26) (zk0 kX1_houseWithMost_1) rfl rfl ?_
          show Z D B xX1_houseWithMost _ _ _ 27 [some (.ref p), some (.int (nI i)), some (.int (nI i))] _ _ _
          refine z_iinc (pc := 27) (zk1 kX1_houseWithMost_1) (v := nI (i + 1)) rfl zinc rfl rfl ?_
          show Z D B xX1_houseWithMost _ _ _ 30 [some (.ref p), some (.int (nI i)), some (.int (nI (i + 1)))] _ _ _
          refine z_goto (pc := 30) (zk2 kX1_houseWithMost_1) (tgt := 4) (by decide) ?_
          exact ih4 i (i + 1) (by omega) (by omega) (by omega) (by rw [bestN_t (by omega) (by rw [← hg]; exact Int32.not_le.mp c_2)])
  exact lp4 _ 0 1 (Nat.lt_succ_self _) (by omega) (by omega) rfl
set_option maxRecDepth 20000 in
theorem c_fewest {D : zD} {B : Nat} {h : zH} {sz : Nat} {p n m : Nat} {σ : Ln} (hL : LnAt h p σ) (hn : σ 0 0 = nI n) (h12 : n ≤ 12) (hm : σ 9 0 = nI m) (h8 : m ≤ 8) (h1 : 1 ≤ n) : zRd D B xX1_houseWithFewest [.ref p] h sz (.int (nI (fewN (wordsF σ) (hsN σ)))) := by
  refine zM.of (by decide) rfl (n := 2) ?_
  show Z D B xX1_houseWithFewest 0 0 _ 0 [some (.ref p), none, none] [] h sz
  refine z_iconst (pc := 0) (zk0 kX1_houseWithFewest_0) (v := 0) (by decide) ?_
  refine z_istore_n (pc := 1) (zk1 kX1_houseWithFewest_0) rfl rfl ?_
  show Z D B xX1_houseWithFewest _ _ _ 2 [some (.ref p), some (.int 0), none] _ _ _
  refine z_iconst (pc := 2) (zk2 kX1_houseWithFewest_0) (v := 1) (by decide) ?_
  refine z_istore_n (pc := 3) (zk3 kX1_houseWithFewest_0) rfl rfl ?_
  show Z D B xX1_houseWithFewest _ _ _ 4 [some (.ref p), some (.int 0), some (.int 1)] _ _ _
  have lp4 : ∀ (n_ : Nat) (g : Nat) (i : Nat), n - i < n_ → (1 ≤ i) → (i ≤ n) → (g = fewN (wordsF σ) i) → Z D B xX1_houseWithFewest 0 0 (fun r h1 z1 => r = some (.int (nI (fewN (wordsF σ) (hsN σ)))) ∧ h1 = h ∧ z1 = sz) 4 [some (.ref p), some (.int (nI g)), some (.int (nI i))] [] h sz := by
    intro n_
    induction n_ with
    | zero => intro g i hm_; exact absurd hm_ (Nat.not_lt_zero _)
    | succ n_ ih4 =>
      intro g i hm_ h0_i hi_i hg
      have hgn : g < i := by rw [hg]; exact fewN_lt (by omega)
      refine z_iload_n (pc := 4) (zk4 kX1_houseWithFewest_0) rfl ?_
      refine z_aload_n (pc := 5) (zk5 kX1_houseWithFewest_0) rfl ?_
      refine z_getf (pc := 6) (zk6 kX1_houseWithFewest_0) flX1_9 hL.1 (v := .int (nI n)) (by rw [← hn]; rfl) ?_
      refine z_icmp_ge (pc := 9) (zk7 kX1_houseWithFewest_0) (tgt := 33) (by decide) (fun c_1 => ?_) (fun c_1 => ?_)
      · have hie_i : i = n := by
          have q := (nI_le_iff (by omega) (by omega)).mp c_1
          omega
        refine z_iload_n (pc := 33) (zk3 kX1_houseWithFewest_1) rfl ?_
        exact z_iret (pc := 34) (zk4 kX1_houseWithFewest_1) rfl (Nat.zero_le _) (Nat.zero_le _) ⟨by rw [hg, hie_i, hsN_eq hn h12], rfl, rfl⟩
      · have hlt_i : i < n := by
          rcases Nat.lt_or_ge i n with q | q
          · exact q
          · exact absurd ((nI_le_iff (by omega) (by omega)).mpr q) c_1
        refine z_aload_n (pc := 12) (zk8 kX1_houseWithFewest_0) rfl ?_
        refine z_iload_n (pc := 13) (zk9 kX1_houseWithFewest_0) rfl ?_
        refine z_rdV (pc := 14) (zk10 kX1_houseWithFewest_0) (st := []) lkX1_110 ivX1_wordsAt hL.1 rfl rfl (c_wordsAt hL hn h12 hm h8 (by omega)) rfl ⟨rfl, rfl⟩ rfl rfl ?_ rfl
        refine z_aload_n (pc := 17) (zk11 kX1_houseWithFewest_0) rfl ?_
        refine z_iload_n (pc := 18) (zk12 kX1_houseWithFewest_0) rfl ?_
        refine z_rdV (pc := 19) (zk13 kX1_houseWithFewest_0) (st := [.int (wordsF σ i)]) lkX1_110 ivX1_wordsAt hL.1 rfl rfl (c_wordsAt hL hn h12 hm h8 (by omega)) rfl ⟨rfl, rfl⟩ rfl rfl ?_ rfl
        refine z_icmp_ge (pc := 22) (zk14 kX1_houseWithFewest_0) (tgt := 27) (by decide) (fun c_2 => ?_) (fun c_2 => ?_)
        · refine z_iinc (pc := 27) (zk1 kX1_houseWithFewest_1) (v := nI (i + 1)) rfl zinc rfl rfl ?_
          show Z D B xX1_houseWithFewest _ _ _ 30 [some (.ref p), some (.int (nI g)), some (.int (nI (i + 1)))] _ _ _
          refine z_goto (pc := 30) (zk2 kX1_houseWithFewest_1) (tgt := 4) (by decide) ?_
          exact ih4 g (i + 1) (by omega) (by omega) (by omega) (by rw [fewN_f (by omega) (by rw [← hg]; exact Int32.not_lt.mpr c_2)]; exact hg)
        · refine z_iload_n (pc := 25) (zk15 kX1_houseWithFewest_0) rfl ?_
          refine z_istore_n (pc := 26) (zk0 kX1_houseWithFewest_1) rfl rfl ?_
          show Z D B xX1_houseWithFewest _ _ _ 27 [some (.ref p), some (.int (nI i)), some (.int (nI i))] _ _ _
          refine z_iinc (pc := 27) (zk1 kX1_houseWithFewest_1) (v := nI (i + 1)) rfl zinc rfl rfl ?_
          show Z D B xX1_houseWithFewest _ _ _ 30 [some (.ref p), some (.int (nI i)), some (.int (nI (i + 1)))] _ _ _
          refine z_goto (pc := 30) (zk2 kX1_houseWithFewest_1) (tgt := 4) (by decide) ?_
          exact ih4 i (i + 1) (by omega) (by omega) (by omega) (by rw [fewN_t (by omega) (by rw [← hg]; exact Int32.not_le.mp c_2)])
  exact lp4 _ 0 1 (Nat.lt_succ_self _) (by omega) (by omega) rfl
set_option maxRecDepth 20000 in
theorem c_end_first {D : zD} {B : Nat} {h : zH} {sz : Nat} {p n l : Nat} {σ : Ln} (hL : LnAt h p σ) (hn : σ 0 0 = nI n) (h12 : n ≤ 12) (hl : l < 8) : zRd D B xX1_endKnower [.ref p, .int (nI l), .int 1] h sz (.int (firstF σ l)) := by
  refine zM.of (by decide) rfl (n := 4) ?_
  show Z D B xX1_endKnower 0 0 _ 0 [some (.ref p), some (.int (nI l)), some (.int 1), none, none, none, none] [] h sz
  by_cases hb : σ 6 0 = 0
  · refine z_aload_n (pc := 0) (zk0 kX1_endKnower_0) rfl ?_
    refine z_iload_n (pc := 1) (zk1 kX1_endKnower_0) rfl ?_
    refine z_rdV (pc := 2) (zk2 kX1_endKnower_0) (st := []) lkX1_102 ivX1_knowers hL.1 rfl rfl (c_knowers hL hn h12 (by omega)) rfl ⟨rfl, rfl⟩ rfl rfl ?_ rfl
    refine z_istore_n (pc := 5) (zk3 kX1_endKnower_0) rfl rfl ?_
    show Z D B xX1_endKnower _ _ _ 6 [some (.ref p), some (.int (nI l)), some (.int 1), some (.int (knowersF σ l)), none, none, none] _ _ _
    refine z_iconst (pc := 6) (zk4 kX1_endKnower_0) (v := (-1)) (by decide) ?_
    refine z_istore (pc := 7) (zk5 kX1_endKnower_0) rfl rfl ?_
    show Z D B xX1_endKnower _ _ _ 9 [some (.ref p), some (.int (nI l)), some (.int 1), some (.int (knowersF σ l)), some (.int (-1)), none, none] _ _ _
    refine z_iconst (pc := 9) (zk6 kX1_endKnower_0) (v := 0) (by decide) ?_
    refine z_istore (pc := 10) (zk7 kX1_endKnower_0) rfl rfl ?_
    show Z D B xX1_endKnower _ _ _ 12 [some (.ref p), some (.int (nI l)), some (.int 1), some (.int (knowersF σ l)), some (.int (-1)), some (.int 0), none] _ _ _
    have lp12 : ∀ (n_ : Nat) (i : Nat), n - i < n_ → (i ≤ n) → (fstW (fun k => knowB σ l k) (stepH σ) i = -1) → Z D B xX1_endKnower 0 0 (fun r h1 z1 => r = some (.int (firstF σ l)) ∧ h1 = h ∧ z1 = sz) 12 [some (.ref p), some (.int (nI l)), some (.int 1), some (.int (knowersF σ l)), some (.int (-1)), some (.int (nI i)), none] [] h sz := by
      intro n_
      induction n_ with
      | zero => intro i hm_; exact absurd hm_ (Nat.not_lt_zero _)
      | succ n_ ih12 =>
        intro i hm_ hi_i hf
        refine z_iload (pc := 12) (zk8 kX1_endKnower_0) rfl ?_
        refine z_aload_n (pc := 14) (zk9 kX1_endKnower_0) rfl ?_
        refine z_getf (pc := 15) (zk10 kX1_endKnower_0) flX1_9 hL.1 (v := .int (nI n)) (by rw [← hn]; rfl) ?_
        refine z_icmp_ge (pc := 18) (zk11 kX1_endKnower_0) (tgt := 56) (by decide) (fun c_1 => ?_) (fun c_1 => ?_)
        · have hie_i : i = n := by
            have q := (nI_le_iff (by omega) (by omega)).mp c_1
            omega
          refine z_iload (pc := 56) (zk14 kX1_endKnower_1) rfl ?_
          exact z_iret (pc := 58) (zk15 kX1_endKnower_1) rfl (Nat.zero_le _) (Nat.zero_le _) ⟨by rw [firstF, hsN_eq hn h12, ← hie_i, hf], rfl, rfl⟩
        · have hlt_i : i < n := by
            rcases Nat.lt_or_ge i n with q | q
            · exact q
            · exact absurd ((nI_le_iff (by omega) (by omega)).mpr q) c_1
          refine z_aload_n (pc := 21) (zk12 kX1_endKnower_0) rfl ?_
          refine z_iload (pc := 22) (zk13 kX1_endKnower_0) rfl ?_
          refine z_rdV (pc := 24) (zk14 kX1_endKnower_0) (st := []) lkX1_99 ivX1_houseAtStep hL.1 rfl rfl (c_stepF hL hb) rfl ⟨rfl, rfl⟩ rfl rfl ?_ rfl
          refine z_istore (pc := 27) (zk15 kX1_endKnower_0) rfl rfl ?_
          show Z D B xX1_endKnower _ _ _ 29 [some (.ref p), some (.int (nI l)), some (.int 1), some (.int (knowersF σ l)), some (.int (-1)), some (.int (nI i)), some (.int (nI i))] _ _ _
          refine z_iload_n (pc := 29) (zk0 kX1_endKnower_1) rfl ?_
          refine z_iload (pc := 30) (zk1 kX1_endKnower_1) rfl ?_
          refine z_ishr (pc := 32) (zk2 kX1_endKnower_1) ?_
          refine z_iconst (pc := 33) (zk3 kX1_endKnower_1) (v := 1) (by decide) ?_
          refine z_iand (pc := 34) (zk4 kX1_endKnower_1) ?_
          refine z_iconst (pc := 35) (zk5 kX1_endKnower_1) (v := 1) (by decide) ?_
          refine z_icmp_ne (pc := 36) (zk6 kX1_endKnower_1) (tgt := 50) (by decide) (fun c_2 => ?_) (fun c_2 => ?_)
          · refine z_iinc (pc := 50) (zk12 kX1_endKnower_1) (v := nI (i + 1)) rfl zinc rfl rfl ?_
            show Z D B xX1_endKnower _ _ _ 53 [some (.ref p), some (.int (nI l)), some (.int 1), some (.int (knowersF σ l)), some (.int (-1)), some (.int (nI (i + 1))), some (.int (nI i))] _ _ _
            refine z_goto (pc := 53) (zk13 kX1_endKnower_1) (tgt := 12) (by decide) ?_
            refine z_kill 6 ?_
            show Z D B xX1_endKnower _ _ _ 12 [some (.ref p), some (.int (nI l)), some (.int 1), some (.int (knowersF σ l)), some (.int (-1)), some (.int (nI (i + 1))), none] _ _ _
            exact ih12 (i + 1) (by omega) (by omega) (fst_miss hf (stepF hb) (fun q => c_2 ((know_test hn h12 (by omega)).mpr q)))
          · refine z_iload (pc := 39) (zk7 kX1_endKnower_1) rfl ?_
            refine z_istore (pc := 41) (zk8 kX1_endKnower_1) rfl rfl ?_
            show Z D B xX1_endKnower _ _ _ 43 [some (.ref p), some (.int (nI l)), some (.int 1), some (.int (knowersF σ l)), some (.int (nI i)), some (.int (nI i)), some (.int (nI i))] _ _ _
            refine z_iload_n (pc := 43) (zk9 kX1_endKnower_1) rfl ?_
            refine z_if_eq (pc := 44) (zk10 kX1_endKnower_1) (tgt := 50) (by decide) (fun q => absurd q (by decide)) (fun _ => ?_)
            refine z_goto (pc := 47) (zk11 kX1_endKnower_1) (tgt := 56) (by decide) ?_
            refine z_iload (pc := 56) (zk14 kX1_endKnower_1) rfl ?_
            exact z_iret (pc := 58) (zk15 kX1_endKnower_1) rfl (Nat.zero_le _) (Nat.zero_le _) ⟨by rw [firstF, hsN_eq hn h12, fst_hit hlt_i hf (stepF hb) (by omega) ((know_test hn h12 (by omega)).mp c_2)], rfl, rfl⟩
    exact lp12 _ 0 (Nat.lt_succ_self _) (by omega) rfl
  · refine z_aload_n (pc := 0) (zk0 kX1_endKnower_0) rfl ?_
    refine z_iload_n (pc := 1) (zk1 kX1_endKnower_0) rfl ?_
    refine z_rdV (pc := 2) (zk2 kX1_endKnower_0) (st := []) lkX1_102 ivX1_knowers hL.1 rfl rfl (c_knowers hL hn h12 (by omega)) rfl ⟨rfl, rfl⟩ rfl rfl ?_ rfl
    refine z_istore_n (pc := 5) (zk3 kX1_endKnower_0) rfl rfl ?_
    show Z D B xX1_endKnower _ _ _ 6 [some (.ref p), some (.int (nI l)), some (.int 1), some (.int (knowersF σ l)), none, none, none] _ _ _
    refine z_iconst (pc := 6) (zk4 kX1_endKnower_0) (v := (-1)) (by decide) ?_
    refine z_istore (pc := 7) (zk5 kX1_endKnower_0) rfl rfl ?_
    show Z D B xX1_endKnower _ _ _ 9 [some (.ref p), some (.int (nI l)), some (.int 1), some (.int (knowersF σ l)), some (.int (-1)), none, none] _ _ _
    refine z_iconst (pc := 9) (zk6 kX1_endKnower_0) (v := 0) (by decide) ?_
    refine z_istore (pc := 10) (zk7 kX1_endKnower_0) rfl rfl ?_
    show Z D B xX1_endKnower _ _ _ 12 [some (.ref p), some (.int (nI l)), some (.int 1), some (.int (knowersF σ l)), some (.int (-1)), some (.int 0), none] _ _ _
    have lp12 : ∀ (n_ : Nat) (i : Nat), n - i < n_ → (i ≤ n) → (fstW (fun k => knowB σ l k) (stepH σ) i = -1) → Z D B xX1_endKnower 0 0 (fun r h1 z1 => r = some (.int (firstF σ l)) ∧ h1 = h ∧ z1 = sz) 12 [some (.ref p), some (.int (nI l)), some (.int 1), some (.int (knowersF σ l)), some (.int (-1)), some (.int (nI i)), none] [] h sz := by
      intro n_
      induction n_ with
      | zero => intro i hm_; exact absurd hm_ (Nat.not_lt_zero _)
      | succ n_ ih12 =>
        intro i hm_ hi_i hf
        refine z_iload (pc := 12) (zk8 kX1_endKnower_0) rfl ?_
        refine z_aload_n (pc := 14) (zk9 kX1_endKnower_0) rfl ?_
        refine z_getf (pc := 15) (zk10 kX1_endKnower_0) flX1_9 hL.1 (v := .int (nI n)) (by rw [← hn]; rfl) ?_
        refine z_icmp_ge (pc := 18) (zk11 kX1_endKnower_0) (tgt := 56) (by decide) (fun c_3 => ?_) (fun c_3 => ?_)
        · have hie_i : i = n := by
            have q := (nI_le_iff (by omega) (by omega)).mp c_3
            omega
          refine z_iload (pc := 56) (zk14 kX1_endKnower_1) rfl ?_
          exact z_iret (pc := 58) (zk15 kX1_endKnower_1) rfl (Nat.zero_le _) (Nat.zero_le _) ⟨by rw [firstF, hsN_eq hn h12, ← hie_i, hf], rfl, rfl⟩
        · have hlt_i : i < n := by
            rcases Nat.lt_or_ge i n with q | q
            · exact q
            · exact absurd ((nI_le_iff (by omega) (by omega)).mpr q) c_3
          refine z_aload_n (pc := 21) (zk12 kX1_endKnower_0) rfl ?_
          refine z_iload (pc := 22) (zk13 kX1_endKnower_0) rfl ?_
          refine z_rdV (pc := 24) (zk14 kX1_endKnower_0) (st := []) lkX1_99 ivX1_houseAtStep hL.1 rfl rfl (c_stepB hL hn hb (by omega)) rfl ⟨rfl, rfl⟩ rfl rfl ?_ rfl
          refine z_istore (pc := 27) (zk15 kX1_endKnower_0) rfl rfl ?_
          show Z D B xX1_endKnower _ _ _ 29 [some (.ref p), some (.int (nI l)), some (.int 1), some (.int (knowersF σ l)), some (.int (-1)), some (.int (nI i)), some (.int (nI (n - 1 - i)))] _ _ _
          refine z_iload_n (pc := 29) (zk0 kX1_endKnower_1) rfl ?_
          refine z_iload (pc := 30) (zk1 kX1_endKnower_1) rfl ?_
          refine z_ishr (pc := 32) (zk2 kX1_endKnower_1) ?_
          refine z_iconst (pc := 33) (zk3 kX1_endKnower_1) (v := 1) (by decide) ?_
          refine z_iand (pc := 34) (zk4 kX1_endKnower_1) ?_
          refine z_iconst (pc := 35) (zk5 kX1_endKnower_1) (v := 1) (by decide) ?_
          refine z_icmp_ne (pc := 36) (zk6 kX1_endKnower_1) (tgt := 50) (by decide) (fun c_4 => ?_) (fun c_4 => ?_)
          · refine z_iinc (pc := 50) (zk12 kX1_endKnower_1) (v := nI (i + 1)) rfl zinc rfl rfl ?_
            show Z D B xX1_endKnower _ _ _ 53 [some (.ref p), some (.int (nI l)), some (.int 1), some (.int (knowersF σ l)), some (.int (-1)), some (.int (nI (i + 1))), some (.int (nI (n - 1 - i)))] _ _ _
            refine z_goto (pc := 53) (zk13 kX1_endKnower_1) (tgt := 12) (by decide) ?_
            refine z_kill 6 ?_
            show Z D B xX1_endKnower _ _ _ 12 [some (.ref p), some (.int (nI l)), some (.int 1), some (.int (knowersF σ l)), some (.int (-1)), some (.int (nI (i + 1))), none] _ _ _
            exact ih12 (i + 1) (by omega) (by omega) (fst_miss hf (stepB hb hn h12) (fun q => c_4 ((know_test hn h12 (by omega)).mpr q)))
          · refine z_iload (pc := 39) (zk7 kX1_endKnower_1) rfl ?_
            refine z_istore (pc := 41) (zk8 kX1_endKnower_1) rfl rfl ?_
            show Z D B xX1_endKnower _ _ _ 43 [some (.ref p), some (.int (nI l)), some (.int 1), some (.int (knowersF σ l)), some (.int (nI (n - 1 - i))), some (.int (nI i)), some (.int (nI (n - 1 - i)))] _ _ _
            refine z_iload_n (pc := 43) (zk9 kX1_endKnower_1) rfl ?_
            refine z_if_eq (pc := 44) (zk10 kX1_endKnower_1) (tgt := 50) (by decide) (fun q => absurd q (by decide)) (fun _ => ?_)
            refine z_goto (pc := 47) (zk11 kX1_endKnower_1) (tgt := 56) (by decide) ?_
            refine z_iload (pc := 56) (zk14 kX1_endKnower_1) rfl ?_
            exact z_iret (pc := 58) (zk15 kX1_endKnower_1) rfl (Nat.zero_le _) (Nat.zero_le _) ⟨by rw [firstF, hsN_eq hn h12, fst_hit hlt_i hf (stepB hb hn h12) (by omega) ((know_test hn h12 (by omega)).mp c_4)], rfl, rfl⟩
    exact lp12 _ 0 (Nat.lt_succ_self _) (by omega) rfl
set_option maxRecDepth 20000 in
theorem c_end_last {D : zD} {B : Nat} {h : zH} {sz : Nat} {p n l : Nat} {σ : Ln} (hL : LnAt h p σ) (hn : σ 0 0 = nI n) (h12 : n ≤ 12) (hl : l < 8) : zRd D B xX1_endKnower [.ref p, .int (nI l), .int 0] h sz (.int (lastF σ l)) := by
  refine zM.of (by decide) rfl (n := 4) ?_
  show Z D B xX1_endKnower 0 0 _ 0 [some (.ref p), some (.int (nI l)), some (.int 0), none, none, none, none] [] h sz
  by_cases hb : σ 6 0 = 0
  · refine z_aload_n (pc := 0) (zk0 kX1_endKnower_0) rfl ?_
    refine z_iload_n (pc := 1) (zk1 kX1_endKnower_0) rfl ?_
    refine z_rdV (pc := 2) (zk2 kX1_endKnower_0) (st := []) lkX1_102 ivX1_knowers hL.1 rfl rfl (c_knowers hL hn h12 (by omega)) rfl ⟨rfl, rfl⟩ rfl rfl ?_ rfl
    refine z_istore_n (pc := 5) (zk3 kX1_endKnower_0) rfl rfl ?_
    show Z D B xX1_endKnower _ _ _ 6 [some (.ref p), some (.int (nI l)), some (.int 0), some (.int (knowersF σ l)), none, none, none] _ _ _
    refine z_iconst (pc := 6) (zk4 kX1_endKnower_0) (v := (-1)) (by decide) ?_
    refine z_istore (pc := 7) (zk5 kX1_endKnower_0) rfl rfl ?_
    show Z D B xX1_endKnower _ _ _ 9 [some (.ref p), some (.int (nI l)), some (.int 0), some (.int (knowersF σ l)), some (.int (-1)), none, none] _ _ _
    refine z_iconst (pc := 9) (zk6 kX1_endKnower_0) (v := 0) (by decide) ?_
    refine z_istore (pc := 10) (zk7 kX1_endKnower_0) rfl rfl ?_
    show Z D B xX1_endKnower _ _ _ 12 [some (.ref p), some (.int (nI l)), some (.int 0), some (.int (knowersF σ l)), some (.int (-1)), some (.int 0), none] _ _ _
    have lp12 : ∀ (n_ : Nat) (x : Int32) (i : Nat), n - i < n_ → (i ≤ n) → (x = lstW (fun k => knowB σ l k) (stepH σ) i) → Z D B xX1_endKnower 0 0 (fun r h1 z1 => r = some (.int (lastF σ l)) ∧ h1 = h ∧ z1 = sz) 12 [some (.ref p), some (.int (nI l)), some (.int 0), some (.int (knowersF σ l)), some (.int x), some (.int (nI i)), none] [] h sz := by
      intro n_
      induction n_ with
      | zero => intro x i hm_; exact absurd hm_ (Nat.not_lt_zero _)
      | succ n_ ih12 =>
        intro x i hm_ hi_i hf
        refine z_iload (pc := 12) (zk8 kX1_endKnower_0) rfl ?_
        refine z_aload_n (pc := 14) (zk9 kX1_endKnower_0) rfl ?_
        refine z_getf (pc := 15) (zk10 kX1_endKnower_0) flX1_9 hL.1 (v := .int (nI n)) (by rw [← hn]; rfl) ?_
        refine z_icmp_ge (pc := 18) (zk11 kX1_endKnower_0) (tgt := 56) (by decide) (fun c_1 => ?_) (fun c_1 => ?_)
        · have hie_i : i = n := by
            have q := (nI_le_iff (by omega) (by omega)).mp c_1
            omega
          refine z_iload (pc := 56) (zk14 kX1_endKnower_1) rfl ?_
          exact z_iret (pc := 58) (zk15 kX1_endKnower_1) rfl (Nat.zero_le _) (Nat.zero_le _) ⟨by rw [hf, hie_i, lastF, hsN_eq hn h12], rfl, rfl⟩
        · have hlt_i : i < n := by
            rcases Nat.lt_or_ge i n with q | q
            · exact q
            · exact absurd ((nI_le_iff (by omega) (by omega)).mpr q) c_1
          refine z_aload_n (pc := 21) (zk12 kX1_endKnower_0) rfl ?_
          refine z_iload (pc := 22) (zk13 kX1_endKnower_0) rfl ?_
          refine z_rdV (pc := 24) (zk14 kX1_endKnower_0) (st := []) lkX1_99 ivX1_houseAtStep hL.1 rfl rfl (c_stepF hL hb) rfl ⟨rfl, rfl⟩ rfl rfl ?_ rfl
          refine z_istore (pc := 27) (zk15 kX1_endKnower_0) rfl rfl ?_
          show Z D B xX1_endKnower _ _ _ 29 [some (.ref p), some (.int (nI l)), some (.int 0), some (.int (knowersF σ l)), some (.int x), some (.int (nI i)), some (.int (nI i))] _ _ _
          refine z_iload_n (pc := 29) (zk0 kX1_endKnower_1) rfl ?_
          refine z_iload (pc := 30) (zk1 kX1_endKnower_1) rfl ?_
          refine z_ishr (pc := 32) (zk2 kX1_endKnower_1) ?_
          refine z_iconst (pc := 33) (zk3 kX1_endKnower_1) (v := 1) (by decide) ?_
          refine z_iand (pc := 34) (zk4 kX1_endKnower_1) ?_
          refine z_iconst (pc := 35) (zk5 kX1_endKnower_1) (v := 1) (by decide) ?_
          refine z_icmp_ne (pc := 36) (zk6 kX1_endKnower_1) (tgt := 50) (by decide) (fun c_2 => ?_) (fun c_2 => ?_)
          · refine z_iinc (pc := 50) (zk12 kX1_endKnower_1) (v := nI (i + 1)) rfl zinc rfl rfl ?_
            show Z D B xX1_endKnower _ _ _ 53 [some (.ref p), some (.int (nI l)), some (.int 0), some (.int (knowersF σ l)), some (.int x), some (.int (nI (i + 1))), some (.int (nI i))] _ _ _
            refine z_goto (pc := 53) (zk13 kX1_endKnower_1) (tgt := 12) (by decide) ?_
            refine z_kill 6 ?_
            show Z D B xX1_endKnower _ _ _ 12 [some (.ref p), some (.int (nI l)), some (.int 0), some (.int (knowersF σ l)), some (.int x), some (.int (nI (i + 1))), none] _ _ _
            exact ih12 x (i + 1) (by omega) (by omega) (by rw [lst_miss (stepF hb) (fun q => c_2 ((know_test hn h12 (by omega)).mpr q))]; exact hf)
          · refine z_iload (pc := 39) (zk7 kX1_endKnower_1) rfl ?_
            refine z_istore (pc := 41) (zk8 kX1_endKnower_1) rfl rfl ?_
            show Z D B xX1_endKnower _ _ _ 43 [some (.ref p), some (.int (nI l)), some (.int 0), some (.int (knowersF σ l)), some (.int (nI i)), some (.int (nI i)), some (.int (nI i))] _ _ _
            refine z_iload_n (pc := 43) (zk9 kX1_endKnower_1) rfl ?_
            refine z_if_eq (pc := 44) (zk10 kX1_endKnower_1) (tgt := 50) (by decide) (fun _ => ?_) (fun q => absurd (by decide) q)
            refine z_iinc (pc := 50) (zk12 kX1_endKnower_1) (v := nI (i + 1)) rfl zinc rfl rfl ?_
            show Z D B xX1_endKnower _ _ _ 53 [some (.ref p), some (.int (nI l)), some (.int 0), some (.int (knowersF σ l)), some (.int (nI i)), some (.int (nI (i + 1))), some (.int (nI i))] _ _ _
            refine z_goto (pc := 53) (zk13 kX1_endKnower_1) (tgt := 12) (by decide) ?_
            refine z_kill 6 ?_
            show Z D B xX1_endKnower _ _ _ 12 [some (.ref p), some (.int (nI l)), some (.int 0), some (.int (knowersF σ l)), some (.int (nI i)), some (.int (nI (i + 1))), none] _ _ _
            exact ih12 (nI i) (i + 1) (by omega) (by omega) (lst_hit (stepF hb) ((know_test hn h12 (by omega)).mp c_2)).symm
    exact lp12 _ (-1) 0 (Nat.lt_succ_self _) (by omega) rfl
  · refine z_aload_n (pc := 0) (zk0 kX1_endKnower_0) rfl ?_
    refine z_iload_n (pc := 1) (zk1 kX1_endKnower_0) rfl ?_
    refine z_rdV (pc := 2) (zk2 kX1_endKnower_0) (st := []) lkX1_102 ivX1_knowers hL.1 rfl rfl (c_knowers hL hn h12 (by omega)) rfl ⟨rfl, rfl⟩ rfl rfl ?_ rfl
    refine z_istore_n (pc := 5) (zk3 kX1_endKnower_0) rfl rfl ?_
    show Z D B xX1_endKnower _ _ _ 6 [some (.ref p), some (.int (nI l)), some (.int 0), some (.int (knowersF σ l)), none, none, none] _ _ _
    refine z_iconst (pc := 6) (zk4 kX1_endKnower_0) (v := (-1)) (by decide) ?_
    refine z_istore (pc := 7) (zk5 kX1_endKnower_0) rfl rfl ?_
    show Z D B xX1_endKnower _ _ _ 9 [some (.ref p), some (.int (nI l)), some (.int 0), some (.int (knowersF σ l)), some (.int (-1)), none, none] _ _ _
    refine z_iconst (pc := 9) (zk6 kX1_endKnower_0) (v := 0) (by decide) ?_
    refine z_istore (pc := 10) (zk7 kX1_endKnower_0) rfl rfl ?_
    show Z D B xX1_endKnower _ _ _ 12 [some (.ref p), some (.int (nI l)), some (.int 0), some (.int (knowersF σ l)), some (.int (-1)), some (.int 0), none] _ _ _
    have lp12 : ∀ (n_ : Nat) (x : Int32) (i : Nat), n - i < n_ → (i ≤ n) → (x = lstW (fun k => knowB σ l k) (stepH σ) i) → Z D B xX1_endKnower 0 0 (fun r h1 z1 => r = some (.int (lastF σ l)) ∧ h1 = h ∧ z1 = sz) 12 [some (.ref p), some (.int (nI l)), some (.int 0), some (.int (knowersF σ l)), some (.int x), some (.int (nI i)), none] [] h sz := by
      intro n_
      induction n_ with
      | zero => intro x i hm_; exact absurd hm_ (Nat.not_lt_zero _)
      | succ n_ ih12 =>
        intro x i hm_ hi_i hf
        refine z_iload (pc := 12) (zk8 kX1_endKnower_0) rfl ?_
        refine z_aload_n (pc := 14) (zk9 kX1_endKnower_0) rfl ?_
        refine z_getf (pc := 15) (zk10 kX1_endKnower_0) flX1_9 hL.1 (v := .int (nI n)) (by rw [← hn]; rfl) ?_
        refine z_icmp_ge (pc := 18) (zk11 kX1_endKnower_0) (tgt := 56) (by decide) (fun c_3 => ?_) (fun c_3 => ?_)
        · have hie_i : i = n := by
            have q := (nI_le_iff (by omega) (by omega)).mp c_3
            omega
          refine z_iload (pc := 56) (zk14 kX1_endKnower_1) rfl ?_
          exact z_iret (pc := 58) (zk15 kX1_endKnower_1) rfl (Nat.zero_le _) (Nat.zero_le _) ⟨by rw [hf, hie_i, lastF, hsN_eq hn h12], rfl, rfl⟩
        · have hlt_i : i < n := by
            rcases Nat.lt_or_ge i n with q | q
            · exact q
            · exact absurd ((nI_le_iff (by omega) (by omega)).mpr q) c_3
          refine z_aload_n (pc := 21) (zk12 kX1_endKnower_0) rfl ?_
          refine z_iload (pc := 22) (zk13 kX1_endKnower_0) rfl ?_
          refine z_rdV (pc := 24) (zk14 kX1_endKnower_0) (st := []) lkX1_99 ivX1_houseAtStep hL.1 rfl rfl (c_stepB hL hn hb (by omega)) rfl ⟨rfl, rfl⟩ rfl rfl ?_ rfl
          refine z_istore (pc := 27) (zk15 kX1_endKnower_0) rfl rfl ?_
          show Z D B xX1_endKnower _ _ _ 29 [some (.ref p), some (.int (nI l)), some (.int 0), some (.int (knowersF σ l)), some (.int x), some (.int (nI i)), some (.int (nI (n - 1 - i)))] _ _ _
          refine z_iload_n (pc := 29) (zk0 kX1_endKnower_1) rfl ?_
          refine z_iload (pc := 30) (zk1 kX1_endKnower_1) rfl ?_
          refine z_ishr (pc := 32) (zk2 kX1_endKnower_1) ?_
          refine z_iconst (pc := 33) (zk3 kX1_endKnower_1) (v := 1) (by decide) ?_
          refine z_iand (pc := 34) (zk4 kX1_endKnower_1) ?_
          refine z_iconst (pc := 35) (zk5 kX1_endKnower_1) (v := 1) (by decide) ?_
          refine z_icmp_ne (pc := 36) (zk6 kX1_endKnower_1) (tgt := 50) (by decide) (fun c_4 => ?_) (fun c_4 => ?_)
          · refine z_iinc (pc := 50) (zk12 kX1_endKnower_1) (v := nI (i + 1)) rfl zinc rfl rfl ?_
            show Z D B xX1_endKnower _ _ _ 53 [some (.ref p), some (.int (nI l)), some (.int 0), some (.int (knowersF σ l)), some (.int x), some (.int (nI (i + 1))), some (.int (nI (n - 1 - i)))] _ _ _
            refine z_goto (pc := 53) (zk13 kX1_endKnower_1) (tgt := 12) (by decide) ?_
            refine z_kill 6 ?_
            show Z D B xX1_endKnower _ _ _ 12 [some (.ref p), some (.int (nI l)), some (.int 0), some (.int (knowersF σ l)), some (.int x), some (.int (nI (i + 1))), none] _ _ _
            exact ih12 x (i + 1) (by omega) (by omega) (by rw [lst_miss (stepB hb hn h12) (fun q => c_4 ((know_test hn h12 (by omega)).mpr q))]; exact hf)
          · refine z_iload (pc := 39) (zk7 kX1_endKnower_1) rfl ?_
            refine z_istore (pc := 41) (zk8 kX1_endKnower_1) rfl rfl ?_
            show Z D B xX1_endKnower _ _ _ 43 [some (.ref p), some (.int (nI l)), some (.int 0), some (.int (knowersF σ l)), some (.int (nI (n - 1 - i))), some (.int (nI i)), some (.int (nI (n - 1 - i)))] _ _ _
            refine z_iload_n (pc := 43) (zk9 kX1_endKnower_1) rfl ?_
            refine z_if_eq (pc := 44) (zk10 kX1_endKnower_1) (tgt := 50) (by decide) (fun _ => ?_) (fun q => absurd (by decide) q)
            refine z_iinc (pc := 50) (zk12 kX1_endKnower_1) (v := nI (i + 1)) rfl zinc rfl rfl ?_
            show Z D B xX1_endKnower _ _ _ 53 [some (.ref p), some (.int (nI l)), some (.int 0), some (.int (knowersF σ l)), some (.int (nI (n - 1 - i))), some (.int (nI (i + 1))), some (.int (nI (n - 1 - i)))] _ _ _
            refine z_goto (pc := 53) (zk13 kX1_endKnower_1) (tgt := 12) (by decide) ?_
            refine z_kill 6 ?_
            show Z D B xX1_endKnower _ _ _ 12 [some (.ref p), some (.int (nI l)), some (.int 0), some (.int (knowersF σ l)), some (.int (nI (n - 1 - i))), some (.int (nI (i + 1))), none] _ _ _
            exact ih12 (nI (n - 1 - i)) (i + 1) (by omega) (by omega) (lst_hit (stepB hb hn h12) ((know_test hn h12 (by omega)).mp c_4)).symm
    exact lp12 _ (-1) 0 (Nat.lt_succ_self _) (by omega) rfl
set_option maxRecDepth 20000 in
theorem c_bitCount {D : zD} {B : Nat} {h : zH} {sz : Nat} {v : Nat} (hv : v < 4096) : zRd D B xJ6_bitCount_0f7a4 [.int (nI v)] h sz (.int (nI (popN v))) := by
  refine zM.of (by decide) rfl (n := 0) ?_
  show Z D B xJ6_bitCount_0f7a4 0 0 _ 0 [some (.int (nI v))] [] h sz
  refine z_iload_n (pc := 0) (zk0 kJ6_bitCount_0f7a4_0) rfl ?_
  refine z_iload_n (pc := 1) (zk1 kJ6_bitCount_0f7a4_0) rfl ?_
  refine z_iconst (pc := 2) (zk2 kJ6_bitCount_0f7a4_0) (v := 1) (by decide) ?_
  refine z_iushr (pc := 3) (zk3 kJ6_bitCount_0f7a4_0) ?_
  refine z_ldcw (pc := 4) (zk4 kJ6_bitCount_0f7a4_0) kcJ6_265 ?_
  refine z_iand (pc := 7) (zk5 kJ6_bitCount_0f7a4_0) ?_
  refine z_isub (pc := 8) (zk6 kJ6_bitCount_0f7a4_0) ?_
  refine z_istore_n (pc := 9) (zk7 kJ6_bitCount_0f7a4_0) rfl rfl ?_
  show Z D B xJ6_bitCount_0f7a4 _ _ _ 10 [some (.int ((nI v) - ((((nI v).toUInt32 >>> (Int32.toUInt32 1 &&& Int32.toUInt32 31)).toInt32) &&& 1431655765)))] _ _ _
  refine z_iload_n (pc := 10) (zk8 kJ6_bitCount_0f7a4_0) rfl ?_
  refine z_ldcw (pc := 11) (zk9 kJ6_bitCount_0f7a4_0) kcJ6_266 ?_
  refine z_iand (pc := 14) (zk10 kJ6_bitCount_0f7a4_0) ?_
  refine z_iload_n (pc := 15) (zk11 kJ6_bitCount_0f7a4_0) rfl ?_
  refine z_iconst (pc := 16) (zk12 kJ6_bitCount_0f7a4_0) (v := 2) (by decide) ?_
  refine z_iushr (pc := 17) (zk13 kJ6_bitCount_0f7a4_0) ?_
  refine z_ldcw (pc := 18) (zk14 kJ6_bitCount_0f7a4_0) kcJ6_266 ?_
  refine z_iand (pc := 21) (zk15 kJ6_bitCount_0f7a4_0) ?_
  refine z_iadd (pc := 22) (zk0 kJ6_bitCount_0f7a4_1) ?_
  refine z_istore_n (pc := 23) (zk1 kJ6_bitCount_0f7a4_1) rfl rfl ?_
  show Z D B xJ6_bitCount_0f7a4 _ _ _ 24 [some (.int ((((nI v) - ((((nI v).toUInt32 >>> (Int32.toUInt32 1 &&& Int32.toUInt32 31)).toInt32) &&& 1431655765)) &&& 858993459) + (((((nI v) - ((((nI v).toUInt32 >>> (Int32.toUInt32 1 &&& Int32.toUInt32 31)).toInt32) &&& 1431655765)).toUInt32 >>> (Int32.toUInt32 2 &&& Int32.toUInt32 31)).toInt32) &&& 858993459)))] _ _ _
  refine z_iload_n (pc := 24) (zk2 kJ6_bitCount_0f7a4_1) rfl ?_
  refine z_iload_n (pc := 25) (zk3 kJ6_bitCount_0f7a4_1) rfl ?_
  refine z_iconst (pc := 26) (zk4 kJ6_bitCount_0f7a4_1) (v := 4) (by decide) ?_
  refine z_iushr (pc := 27) (zk5 kJ6_bitCount_0f7a4_1) ?_
  refine z_iadd (pc := 28) (zk6 kJ6_bitCount_0f7a4_1) ?_
  refine z_ldcw (pc := 29) (zk7 kJ6_bitCount_0f7a4_1) kcJ6_267 ?_
  refine z_iand (pc := 32) (zk8 kJ6_bitCount_0f7a4_1) ?_
  refine z_istore_n (pc := 33) (zk9 kJ6_bitCount_0f7a4_1) rfl rfl ?_
  show Z D B xJ6_bitCount_0f7a4 _ _ _ 34 [some (.int ((((((nI v) - ((((nI v).toUInt32 >>> (Int32.toUInt32 1 &&& Int32.toUInt32 31)).toInt32) &&& 1431655765)) &&& 858993459) + (((((nI v) - ((((nI v).toUInt32 >>> (Int32.toUInt32 1 &&& Int32.toUInt32 31)).toInt32) &&& 1431655765)).toUInt32 >>> (Int32.toUInt32 2 &&& Int32.toUInt32 31)).toInt32) &&& 858993459)) + ((((((nI v) - ((((nI v).toUInt32 >>> (Int32.toUInt32 1 &&& Int32.toUInt32 31)).toInt32) &&& 1431655765)) &&& 858993459) + (((((nI v) - ((((nI v).toUInt32 >>> (Int32.toUInt32 1 &&& Int32.toUInt32 31)).toInt32) &&& 1431655765)).toUInt32 >>> (Int32.toUInt32 2 &&& Int32.toUInt32 31)).toInt32) &&& 858993459)).toUInt32 >>> (Int32.toUInt32 4 &&& Int32.toUInt32 31)).toInt32)) &&& 252645135))] _ _ _
  refine z_iload_n (pc := 34) (zk10 kJ6_bitCount_0f7a4_1) rfl ?_
  refine z_iload_n (pc := 35) (zk11 kJ6_bitCount_0f7a4_1) rfl ?_
  refine z_bipush (pc := 36) (zk12 kJ6_bitCount_0f7a4_1) (v := 8) (by decide) ?_
  refine z_iushr (pc := 38) (zk13 kJ6_bitCount_0f7a4_1) ?_
  refine z_iadd (pc := 39) (zk14 kJ6_bitCount_0f7a4_1) ?_
  refine z_istore_n (pc := 40) (zk15 kJ6_bitCount_0f7a4_1) rfl rfl ?_
  show Z D B xJ6_bitCount_0f7a4 _ _ _ 41 [some (.int (((((((nI v) - ((((nI v).toUInt32 >>> (Int32.toUInt32 1 &&& Int32.toUInt32 31)).toInt32) &&& 1431655765)) &&& 858993459) + (((((nI v) - ((((nI v).toUInt32 >>> (Int32.toUInt32 1 &&& Int32.toUInt32 31)).toInt32) &&& 1431655765)).toUInt32 >>> (Int32.toUInt32 2 &&& Int32.toUInt32 31)).toInt32) &&& 858993459)) + ((((((nI v) - ((((nI v).toUInt32 >>> (Int32.toUInt32 1 &&& Int32.toUInt32 31)).toInt32) &&& 1431655765)) &&& 858993459) + (((((nI v) - ((((nI v).toUInt32 >>> (Int32.toUInt32 1 &&& Int32.toUInt32 31)).toInt32) &&& 1431655765)).toUInt32 >>> (Int32.toUInt32 2 &&& Int32.toUInt32 31)).toInt32) &&& 858993459)).toUInt32 >>> (Int32.toUInt32 4 &&& Int32.toUInt32 31)).toInt32)) &&& 252645135) + ((((((((nI v) - ((((nI v).toUInt32 >>> (Int32.toUInt32 1 &&& Int32.toUInt32 31)).toInt32) &&& 1431655765)) &&& 858993459) + (((((nI v) - ((((nI v).toUInt32 >>> (Int32.toUInt32 1 &&& Int32.toUInt32 31)).toInt32) &&& 1431655765)).toUInt32 >>> (Int32.toUInt32 2 &&& Int32.toUInt32 31)).toInt32) &&& 858993459)) + ((((((nI v) - ((((nI v).toUInt32 >>> (Int32.toUInt32 1 &&& Int32.toUInt32 31)).toInt32) &&& 1431655765)) &&& 858993459) + (((((nI v) - ((((nI v).toUInt32 >>> (Int32.toUInt32 1 &&& Int32.toUInt32 31)).toInt32) &&& 1431655765)).toUInt32 >>> (Int32.toUInt32 2 &&& Int32.toUInt32 31)).toInt32) &&& 858993459)).toUInt32 >>> (Int32.toUInt32 4 &&& Int32.toUInt32 31)).toInt32)) &&& 252645135).toUInt32 >>> (Int32.toUInt32 8 &&& Int32.toUInt32 31)).toInt32)))] _ _ _
  refine z_iload_n (pc := 41) (zk0 kJ6_bitCount_0f7a4_2) rfl ?_
  refine z_iload_n (pc := 42) (zk1 kJ6_bitCount_0f7a4_2) rfl ?_
  refine z_bipush (pc := 43) (zk2 kJ6_bitCount_0f7a4_2) (v := 16) (by decide) ?_
  refine z_iushr (pc := 45) (zk3 kJ6_bitCount_0f7a4_2) ?_
  refine z_iadd (pc := 46) (zk4 kJ6_bitCount_0f7a4_2) ?_
  refine z_istore_n (pc := 47) (zk5 kJ6_bitCount_0f7a4_2) rfl rfl ?_
  show Z D B xJ6_bitCount_0f7a4 _ _ _ 48 [some (.int ((((((((nI v) - ((((nI v).toUInt32 >>> (Int32.toUInt32 1 &&& Int32.toUInt32 31)).toInt32) &&& 1431655765)) &&& 858993459) + (((((nI v) - ((((nI v).toUInt32 >>> (Int32.toUInt32 1 &&& Int32.toUInt32 31)).toInt32) &&& 1431655765)).toUInt32 >>> (Int32.toUInt32 2 &&& Int32.toUInt32 31)).toInt32) &&& 858993459)) + ((((((nI v) - ((((nI v).toUInt32 >>> (Int32.toUInt32 1 &&& Int32.toUInt32 31)).toInt32) &&& 1431655765)) &&& 858993459) + (((((nI v) - ((((nI v).toUInt32 >>> (Int32.toUInt32 1 &&& Int32.toUInt32 31)).toInt32) &&& 1431655765)).toUInt32 >>> (Int32.toUInt32 2 &&& Int32.toUInt32 31)).toInt32) &&& 858993459)).toUInt32 >>> (Int32.toUInt32 4 &&& Int32.toUInt32 31)).toInt32)) &&& 252645135) + ((((((((nI v) - ((((nI v).toUInt32 >>> (Int32.toUInt32 1 &&& Int32.toUInt32 31)).toInt32) &&& 1431655765)) &&& 858993459) + (((((nI v) - ((((nI v).toUInt32 >>> (Int32.toUInt32 1 &&& Int32.toUInt32 31)).toInt32) &&& 1431655765)).toUInt32 >>> (Int32.toUInt32 2 &&& Int32.toUInt32 31)).toInt32) &&& 858993459)) + ((((((nI v) - ((((nI v).toUInt32 >>> (Int32.toUInt32 1 &&& Int32.toUInt32 31)).toInt32) &&& 1431655765)) &&& 858993459) + (((((nI v) - ((((nI v).toUInt32 >>> (Int32.toUInt32 1 &&& Int32.toUInt32 31)).toInt32) &&& 1431655765)).toUInt32 >>> (Int32.toUInt32 2 &&& Int32.toUInt32 31)).toInt32) &&& 858993459)).toUInt32 >>> (Int32.toUInt32 4 &&& Int32.toUInt32 31)).toInt32)) &&& 252645135).toUInt32 >>> (Int32.toUInt32 8 &&& Int32.toUInt32 31)).toInt32)) + (((((((((nI v) - ((((nI v).toUInt32 >>> (Int32.toUInt32 1 &&& Int32.toUInt32 31)).toInt32) &&& 1431655765)) &&& 858993459) + (((((nI v) - ((((nI v).toUInt32 >>> (Int32.toUInt32 1 &&& Int32.toUInt32 31)).toInt32) &&& 1431655765)).toUInt32 >>> (Int32.toUInt32 2 &&& Int32.toUInt32 31)).toInt32) &&& 858993459)) + ((((((nI v) - ((((nI v).toUInt32 >>> (Int32.toUInt32 1 &&& Int32.toUInt32 31)).toInt32) &&& 1431655765)) &&& 858993459) + (((((nI v) - ((((nI v).toUInt32 >>> (Int32.toUInt32 1 &&& Int32.toUInt32 31)).toInt32) &&& 1431655765)).toUInt32 >>> (Int32.toUInt32 2 &&& Int32.toUInt32 31)).toInt32) &&& 858993459)).toUInt32 >>> (Int32.toUInt32 4 &&& Int32.toUInt32 31)).toInt32)) &&& 252645135) + ((((((((nI v) - ((((nI v).toUInt32 >>> (Int32.toUInt32 1 &&& Int32.toUInt32 31)).toInt32) &&& 1431655765)) &&& 858993459) + (((((nI v) - ((((nI v).toUInt32 >>> (Int32.toUInt32 1 &&& Int32.toUInt32 31)).toInt32) &&& 1431655765)).toUInt32 >>> (Int32.toUInt32 2 &&& Int32.toUInt32 31)).toInt32) &&& 858993459)) + ((((((nI v) - ((((nI v).toUInt32 >>> (Int32.toUInt32 1 &&& Int32.toUInt32 31)).toInt32) &&& 1431655765)) &&& 858993459) + (((((nI v) - ((((nI v).toUInt32 >>> (Int32.toUInt32 1 &&& Int32.toUInt32 31)).toInt32) &&& 1431655765)).toUInt32 >>> (Int32.toUInt32 2 &&& Int32.toUInt32 31)).toInt32) &&& 858993459)).toUInt32 >>> (Int32.toUInt32 4 &&& Int32.toUInt32 31)).toInt32)) &&& 252645135).toUInt32 >>> (Int32.toUInt32 8 &&& Int32.toUInt32 31)).toInt32)).toUInt32 >>> (Int32.toUInt32 16 &&& Int32.toUInt32 31)).toInt32)))] _ _ _
  refine z_iload_n (pc := 48) (zk6 kJ6_bitCount_0f7a4_2) rfl ?_
  refine z_bipush (pc := 49) (zk7 kJ6_bitCount_0f7a4_2) (v := 63) (by decide) ?_
  refine z_iand (pc := 51) (zk8 kJ6_bitCount_0f7a4_2) ?_
  exact z_iret (pc := 52) (zk9 kJ6_bitCount_0f7a4_2) rfl (Nat.zero_le _) (Nat.zero_le _) ⟨congrArg (fun z => some (Value.int z)) (bc_ok hv), rfl, rfl⟩
theorem c_bitC {D : zD} {B : Nat} {h : zH} {sz : Nat} {x : Int32} (hx : ∃ v, v < 4096 ∧ x = nI v) : zRd D B xJ6_bitCount_0f7a4 [.int x] h sz (.int (popI x)) := by
  obtain ⟨v, hv, rfl⟩ := hx
  rw [popI_nI hv]
  exact c_bitCount hv
set_option maxRecDepth 20000 in
theorem c_allKnowers {D : zD} {B : Nat} {h : zH} {sz : Nat} {p n m : Nat} {σ : Ln} (hL : LnAt h p σ) (hn : σ 0 0 = nI n) (h12 : n ≤ 12) (hm : σ 9 0 = nI m) (h8 : m ≤ 8) : zRd D B xX1_allKnowers [.ref p] h sz (.int (allKnF σ)) := by
  refine zM.of (by decide) rfl (n := 2) ?_
  show Z D B xX1_allKnowers 0 0 _ 0 [some (.ref p), none, none] [] h sz
  refine z_iconst (pc := 0) (zk0 kX1_allKnowers_0) (v := 0) (by decide) ?_
  refine z_istore_n (pc := 1) (zk1 kX1_allKnowers_0) rfl rfl ?_
  show Z D B xX1_allKnowers _ _ _ 2 [some (.ref p), some (.int 0), none] _ _ _
  refine z_iconst (pc := 2) (zk2 kX1_allKnowers_0) (v := 0) (by decide) ?_
  refine z_istore_n (pc := 3) (zk3 kX1_allKnowers_0) rfl rfl ?_
  show Z D B xX1_allKnowers _ _ _ 4 [some (.ref p), some (.int 0), some (.int 0)] _ _ _
  have lp4 : ∀ (n_ : Nat) (t : Int32) (i : Nat), m - i < n_ → (i ≤ m) → (t = sum0 (fun l => popI (knowersF σ l)) i) → Z D B xX1_allKnowers 0 0 (fun r h1 z1 => r = some (.int (allKnF σ)) ∧ h1 = h ∧ z1 = sz) 4 [some (.ref p), some (.int t), some (.int (nI i))] [] h sz := by
    intro n_
    induction n_ with
    | zero => intro t i hm_; exact absurd hm_ (Nat.not_lt_zero _)
    | succ n_ ih4 =>
      intro t i hm_ hi_i ht
      refine z_iload_n (pc := 4) (zk4 kX1_allKnowers_0) rfl ?_
      refine z_aload_n (pc := 5) (zk5 kX1_allKnowers_0) rfl ?_
      refine z_getf (pc := 6) (zk6 kX1_allKnowers_0) flX1_41 hL.1 (v := .int (nI m)) (by rw [← hm]; rfl) ?_
      refine z_icmp_ge (pc := 9) (zk7 kX1_allKnowers_0) (tgt := 29) (by decide) (fun c_1 => ?_) (fun c_1 => ?_)
      · have hie_i : i = m := by
          have q := (nI_le_iff (by omega) (by omega)).mp c_1
          omega
        refine z_iload_n (pc := 29) (zk1 kX1_allKnowers_1) rfl ?_
        exact z_iret (pc := 30) (zk2 kX1_allKnowers_1) rfl (Nat.zero_le _) (Nat.zero_le _) ⟨by rw [ht, hie_i, allKnF, lsN_eq hm h8], rfl, rfl⟩
      · have hlt_i : i < m := by
          rcases Nat.lt_or_ge i m with q | q
          · exact q
          · exact absurd ((nI_le_iff (by omega) (by omega)).mpr q) c_1
        refine z_iload_n (pc := 12) (zk8 kX1_allKnowers_0) rfl ?_
        refine z_aload_n (pc := 13) (zk9 kX1_allKnowers_0) rfl ?_
        refine z_iload_n (pc := 14) (zk10 kX1_allKnowers_0) rfl ?_
        refine z_rdV (pc := 15) (zk11 kX1_allKnowers_0) (st := [.int t]) lkX1_102 ivX1_knowers hL.1 rfl rfl (c_knowers hL hn h12 (by omega)) rfl ⟨rfl, rfl⟩ rfl rfl ?_ rfl
        refine z_rdS (pc := 18) (zk12 kX1_allKnowers_0) (st := [.int t]) lkX1_105 isJ6_bitCount_0f7a4 (c_bitC (knowersF_eq _ _ (by rw [hsN_eq hn h12]; exact h12))) rfl ⟨rfl, rfl⟩ rfl rfl ?_ rfl
        refine z_iadd (pc := 21) (zk13 kX1_allKnowers_0) ?_
        refine z_istore_n (pc := 22) (zk14 kX1_allKnowers_0) rfl rfl ?_
        show Z D B xX1_allKnowers _ _ _ 23 [some (.ref p), some (.int (t + (popI (knowersF σ i)))), some (.int (nI i))] _ _ _
        refine z_iinc (pc := 23) (zk15 kX1_allKnowers_0) (v := nI (i + 1)) rfl zinc rfl rfl ?_
        show Z D B xX1_allKnowers _ _ _ 26 [some (.ref p), some (.int (t + (popI (knowersF σ i)))), some (.int (nI (i + 1)))] _ _ _
        refine z_goto (pc := 26) (zk0 kX1_allKnowers_1) (tgt := 4) (by decide) ?_
        exact ih4 (t + (popI (knowersF σ i))) (i + 1) (by omega) (by omega) (by rw [ht]; rfl)
  exact lp4 _ 0 0 (Nat.lt_succ_self _) (by omega) rfl
set_option maxRecDepth 20000 in
theorem c_learn {D : zD} {B : Nat} {h : zH} {sz : Nat} {p k : Nat} {σ : Ln} {c : Int32} (hL : LnAt h p σ) (hB : B ≤ p) (hk : k < 12) : zM D B xX1_learn [.ref p, .int (nI k), .int c] h sz (fun r h1 z1 => r = none ∧ LnAt h1 p (learnF σ k c) ∧ Upd h h1 p 9 ∧ z1 = sz) := by
  have hU : Upd h h p 9 := Upd.rf
  refine zM.of (by decide) rfl (n := 0) ?_
  show Z D B xX1_learn 0 0 _ 0 [some (.ref p), some (.int (nI k)), some (.int c)] [] h sz
  refine z_aload_n (pc := 0) (zk0 kX1_learn_0) rfl ?_
  refine z_getf (pc := 1) (zk1 kX1_learn_0) flX1_22 hL.1 gLn_3 ?_
  refine z_iload_n (pc := 4) (zk2 kX1_learn_0) rfl ?_
  refine z_dup2 (pc := 5) (zk3 kX1_learn_0) rfl rfl ?_
  refine z_ialdN (pc := 6) (zk4 kX1_learn_0) (f := σ 3) (j := k) hL.2.2.2.1 (by omega) rfl ?_
  refine z_iconst (pc := 7) (zk5 kX1_learn_0) (v := 1) (by decide) ?_
  refine z_iload_n (pc := 8) (zk6 kX1_learn_0) rfl ?_
  refine z_ishl (pc := 9) (zk7 kX1_learn_0) ?_
  refine z_ior (pc := 10) (zk8 kX1_learn_0) ?_
  refine z_Ln_s3 (pc := 11) (zk9 kX1_learn_0) (j := k) hL (by omega) (by omega) (fun h_1 hR hU_2 => ?_)
  replace hU := hU.tr hU_2 (by omega) (by omega)
  replace hL := hR; clear hR
  exact z_vret (pc := 12) (zk10 kX1_learn_0) rfl (Nat.zero_le _) (Nat.zero_le _) ⟨rfl, hL, hU, rfl⟩
set_option maxRecDepth 20000 in
theorem c_addLetter {D : zD} {B : Nat} {h : zH} {sz : Nat} {p m : Nat} {σ : Ln} {k a t g : Int32} (hL : LnAt h p σ) (hB : B ≤ p) (hm : σ 9 0 = nI m) (h8 : m < 8) : zM D B xX1_addLetter [.ref p, .int k, .int a, .int t, .int g] h sz (fun r h1 z1 => r = some (.int (nI m)) ∧ LnAt h1 p (addF σ m k a t g) ∧ Upd h h1 p 9 ∧ z1 = sz) := by
  have hU : Upd h h p 9 := Upd.rf
  refine zM.of (by decide) rfl (n := 1) ?_
  show Z D B xX1_addLetter 0 0 _ 0 [some (.ref p), some (.int k), some (.int a), some (.int t), some (.int g), none] [] h sz
  refine z_aload_n (pc := 0) (zk0 kX1_addLetter_0) rfl ?_
  refine z_rdV (pc := 1) (zk1 kX1_addLetter_0) (st := []) lkX1_62 ivX1_hasRoom hL.1 rfl rfl (c_hasRoom hL hm (by omega)) rfl ⟨rfl, rfl⟩ rfl rfl ?_ rfl
  refine z_oif_ne (pc := 4) (zk2 kX1_addLetter_0) (tgt := 9) (by decide) (fun _ => ?_) (fun q => by rw [(decide_eq_true h8)] at q; cases q)
  refine z_aload_n (pc := 9) (zk5 kX1_addLetter_0) rfl ?_
  refine z_getf (pc := 10) (zk6 kX1_addLetter_0) flX1_41 hL.1 (v := .int (nI m)) (by rw [← hm]; rfl) ?_
  refine z_istore (pc := 13) (zk7 kX1_addLetter_0) rfl rfl ?_
  show Z D B xX1_addLetter _ _ _ 15 [some (.ref p), some (.int k), some (.int a), some (.int t), some (.int g), some (.int (nI m))] _ _ _
  refine z_aload_n (pc := 15) (zk8 kX1_addLetter_0) rfl ?_
  refine z_getf (pc := 16) (zk9 kX1_addLetter_0) flX1_44 hL.1 gLn_10 ?_
  refine z_iload (pc := 19) (zk10 kX1_addLetter_0) rfl ?_
  refine z_iload_n (pc := 21) (zk11 kX1_addLetter_0) rfl ?_
  refine z_Ln_s5 (pc := 22) (zk12 kX1_addLetter_0) (j := m) hL (by omega) (by omega) (fun h_1 hR hU_2 => ?_)
  replace hU := hU.tr hU_2 (by omega) (by omega)
  replace hL := hR; clear hR
  refine z_aload_n (pc := 23) (zk13 kX1_addLetter_0) rfl ?_
  refine z_getf (pc := 24) (zk14 kX1_addLetter_0) flX1_47 hL.1 gLn_11 ?_
  refine z_iload (pc := 27) (zk15 kX1_addLetter_0) rfl ?_
  refine z_iload_n (pc := 29) (zk0 kX1_addLetter_1) rfl ?_
  refine z_Ln_s6 (pc := 30) (zk1 kX1_addLetter_1) (j := m) hL (by omega) (by omega) (fun h_3 hR hU_4 => ?_)
  replace hU := hU.tr hU_4 (by omega) (by omega)
  replace hL := hR; clear hR
  refine z_aload_n (pc := 31) (zk2 kX1_addLetter_1) rfl ?_
  refine z_getf (pc := 32) (zk3 kX1_addLetter_1) flX1_50 hL.1 gLn_12 ?_
  refine z_iload (pc := 35) (zk4 kX1_addLetter_1) rfl ?_
  refine z_iload_n (pc := 37) (zk5 kX1_addLetter_1) rfl ?_
  refine z_Ln_s7 (pc := 38) (zk6 kX1_addLetter_1) (j := m) hL (by omega) (by omega) (fun h_5 hR hU_6 => ?_)
  replace hU := hU.tr hU_6 (by omega) (by omega)
  replace hL := hR; clear hR
  refine z_aload_n (pc := 39) (zk7 kX1_addLetter_1) rfl ?_
  refine z_getf (pc := 40) (zk8 kX1_addLetter_1) flX1_53 hL.1 gLn_13 ?_
  refine z_iload (pc := 43) (zk9 kX1_addLetter_1) rfl ?_
  refine z_iload (pc := 45) (zk10 kX1_addLetter_1) rfl ?_
  refine z_Ln_s8 (pc := 47) (zk11 kX1_addLetter_1) (j := m) hL (by omega) (by omega) (fun h_7 hR hU_8 => ?_)
  replace hU := hU.tr hU_8 (by omega) (by omega)
  replace hL := hR; clear hR
  refine z_aload_n (pc := 48) (zk12 kX1_addLetter_1) rfl ?_
  refine z_iload (pc := 49) (zk13 kX1_addLetter_1) rfl ?_
  refine z_iconst (pc := 51) (zk14 kX1_addLetter_1) (v := 1) (by decide) ?_
  refine z_iadd (pc := 52) (zk15 kX1_addLetter_1) ?_
  refine z_top (congrArg Value.int (nI_1 m)) ?_
  refine z_Ln_w9 (pc := 53) (zk0 kX1_addLetter_2) flX1_41 hL (by omega) (fun h_9 hR hU_10 => ?_)
  replace hU := hU.tr hU_10 (by omega) (by omega)
  replace hL := hR; clear hR
  refine z_iload (pc := 56) (zk1 kX1_addLetter_2) rfl ?_
  exact z_iret (pc := 58) (zk2 kX1_addLetter_2) rfl (Nat.zero_le _) (Nat.zero_le _) ⟨rfl, hL, hU, rfl⟩
set_option maxRecDepth 20000 in
theorem c_draw {D : zD} {B : Nat} {h : zH} {sz : Nat} {p b : Nat} {σ : Ln} (hL : LnAt h p σ) (hB : B ≤ p) (h0 : 0 < b) (hb : b ≤ 1000) : zM D B xX1_draw [.ref p, .int (nI b)] h sz (fun r h1 z1 => r = some (.int (nI (drwN (nextS (σ 8 0)) b))) ∧ LnAt h1 p (up2 σ 8 0 (nextS (σ 8 0))) ∧ Upd h h1 p 9 ∧ z1 = sz) := by
  have hU : Upd h h p 9 := Upd.rf
  refine zM.of (by decide) rfl (n := 0) ?_
  show Z D B xX1_draw 0 0 _ 0 [some (.ref p), some (.int (nI b))] [] h sz
  refine z_aload_n (pc := 0) (zk0 kX1_draw_0) rfl ?_
  refine z_aload_n (pc := 1) (zk1 kX1_draw_0) rfl ?_
  refine z_getf (pc := 2) (zk2 kX1_draw_0) flX1_38 hL.1 (v := .int (σ 8 0)) rfl ?_
  refine z_ldc (pc := 5) (zk3 kX1_draw_0) kcX1_119 ?_
  refine z_imul (pc := 7) (zk4 kX1_draw_0) ?_
  refine z_sipush (pc := 8) (zk5 kX1_draw_0) (v := 12345) (by decide) ?_
  refine z_iadd (pc := 11) (zk6 kX1_draw_0) ?_
  refine z_Ln_w8 (pc := 12) (zk7 kX1_draw_0) flX1_38 hL (by omega) (fun h_1 hR hU_2 => ?_)
  replace hU := hU.tr hU_2 (by omega) (by omega)
  replace hL := hR; clear hR
  refine z_iload_n (pc := 15) (zk8 kX1_draw_0) rfl ?_
  refine z_if_le (pc := 16) (zk9 kX1_draw_0) (tgt := 31) (by decide) (fun q => absurd q (nI_nle h0 (by omega))) (fun _ => ?_)
  refine z_aload_n (pc := 19) (zk10 kX1_draw_0) rfl ?_
  refine z_getf (pc := 20) (zk11 kX1_draw_0) flX1_38 hL.1 (v := .int (((σ 8 0) * 1103515245) + 12345)) rfl ?_
  refine z_bipush (pc := 23) (zk12 kX1_draw_0) (v := 16) (by decide) ?_
  refine z_iushr (pc := 25) (zk13 kX1_draw_0) ?_
  refine z_iload_n (pc := 26) (zk14 kX1_draw_0) rfl ?_
  refine z_irem (pc := 27) (zk15 kX1_draw_0) (nI_ne0 h0 (by omega)) ?_
  refine z_goto (pc := 28) (zk0 kX1_draw_1) (tgt := 32) (by decide) ?_
  exact z_iret (pc := 32) (zk2 kX1_draw_1) rfl (Nat.zero_le _) (Nat.zero_le _) ⟨congrArg (fun z => some (Value.int z)) (drw_eq (nextS (σ 8 0)) h0 hb), hL, hU, rfl⟩
set_option maxRecDepth 20000 in
theorem c_goRound {D : zD} {B : Nat} {h : zH} {sz : Nat} {p n m : Nat} {σ : Ln} (hL : LnAt h p σ) (hn : σ 0 0 = nI n) (h12 : n ≤ 12) (hm : σ 9 0 = nI m) (h8 : m ≤ 8) (hB : B ≤ p) : zM D B xX1_goRound [.ref p] h sz (fun r h1 z1 => r = none ∧ LnAt h1 p (roundF σ) ∧ Upd h h1 p 9 ∧ z1 = sz) := by
  have hU : Upd h h p 9 := Upd.rf
  refine zM.of (by decide) rfl (n := 1) ?_
  show Z D B xX1_goRound 0 0 _ 0 [some (.ref p), none] [] h sz
  refine z_iconst (pc := 0) (zk0 kX1_goRound_0) (v := 0) (by decide) ?_
  refine z_istore_n (pc := 1) (zk1 kX1_goRound_0) rfl rfl ?_
  show Z D B xX1_goRound _ _ _ 2 [some (.ref p), some (.int 0)] _ _ _
  have lp2 : ∀ (n_ : Nat) (g : zH) (i : Nat), n - i < n_ → (i ≤ n) → (LnAt g p (eUp σ i)) → (Upd h g p 9) → Z D B xX1_goRound 0 0 (fun r h1 z1 => r = none ∧ LnAt h1 p (roundF σ) ∧ Upd h h1 p 9 ∧ z1 = sz) 2 [some (.ref p), some (.int (nI i))] [] g sz := by
    intro n_
    induction n_ with
    | zero => intro g i hm_; exact absurd hm_ (Nat.not_lt_zero _)
    | succ n_ ih2 =>
      intro g i hm_ hi_i hL hU
      refine z_iload_n (pc := 2) (zk2 kX1_goRound_0) rfl ?_
      refine z_aload_n (pc := 3) (zk3 kX1_goRound_0) rfl ?_
      refine z_getf (pc := 4) (zk4 kX1_goRound_0) flX1_9 hL.1 (v := .int (nI n)) (by rw [← hn]; rfl) ?_
      refine z_icmp_ge (pc := 7) (zk5 kX1_goRound_0) (tgt := 30) (by decide) (fun c_1 => ?_) (fun c_1 => ?_)
      · have hie_i : i = n := by
          have q := (nI_le_iff (by omega) (by omega)).mp c_1
          omega
        refine z_aload_n (pc := 30) (zk2 kX1_goRound_1) rfl ?_
        refine z_dup (pc := 31) (zk3 kX1_goRound_1) rfl ?_
        refine z_getf (pc := 32) (zk4 kX1_goRound_1) flX1_35 hL.1 (v := .int ((eUp σ i) 7 0)) rfl ?_
        refine z_iconst (pc := 35) (zk5 kX1_goRound_1) (v := 1) (by decide) ?_
        refine z_iadd (pc := 36) (zk6 kX1_goRound_1) ?_
        refine z_Ln_w7 (pc := 37) (zk7 kX1_goRound_1) flX1_35 hL (by omega) (fun h_2 hR hU_3 => ?_)
        replace hU := hU.tr hU_3 (by omega) (by omega)
        replace hL := hR; clear hR
        exact z_vret (pc := 40) (zk8 kX1_goRound_1) rfl (Nat.zero_le _) (Nat.zero_le _) ⟨rfl, by rw [roundF, hsN_eq hn h12, ← hie_i]; exact hL, hU, rfl⟩
      · have hlt_i : i < n := by
          rcases Nat.lt_or_ge i n with q | q
          · exact q
          · exact absurd ((nI_le_iff (by omega) (by omega)).mpr q) c_1
        refine z_aload_n (pc := 10) (zk6 kX1_goRound_0) rfl ?_
        refine z_getf (pc := 11) (zk7 kX1_goRound_0) flX1_25 hL.1 gLn_4 ?_
        refine z_iload_n (pc := 14) (zk8 kX1_goRound_0) rfl ?_
        refine z_dup2 (pc := 15) (zk9 kX1_goRound_0) rfl rfl ?_
        refine z_ialdN (pc := 16) (zk10 kX1_goRound_0) (f := (eUp σ i) 4) (j := i) hL.2.2.2.2.1 (by omega) rfl ?_
        refine z_aload_n (pc := 17) (zk11 kX1_goRound_0) rfl ?_
        refine z_iload_n (pc := 18) (zk12 kX1_goRound_0) rfl ?_
        refine z_rdV (pc := 19) (zk13 kX1_goRound_0) (st := [.int ((eUp σ i) 4 i), .int (nI i), .ref (p + 4)]) lkX1_110 ivX1_wordsAt hL.1 rfl rfl (c_wordsAt hL hn h12 hm h8 (by omega)) rfl ⟨rfl, rfl⟩ rfl rfl ?_ rfl
        refine z_iadd (pc := 22) (zk14 kX1_goRound_0) ?_
        refine z_Ln_s4 (pc := 23) (zk15 kX1_goRound_0) (j := i) hL (by omega) (by omega) (fun h_4 hR hU_5 => ?_)
        replace hU := hU.tr hU_5 (by omega) (by omega)
        replace hL := hR; clear hR
        refine z_iinc (pc := 24) (zk0 kX1_goRound_1) (v := nI (i + 1)) rfl zinc rfl rfl ?_
        show Z D B xX1_goRound _ _ _ 27 [some (.ref p), some (.int (nI (i + 1)))] _ _ _
        refine z_goto (pc := 27) (zk1 kX1_goRound_1) (tgt := 2) (by decide) ?_
        exact ih2 h_4 (i + 1) (by omega) (by omega) (by rw [← eUp_s]; exact hL) hU
  exact lp2 _ h 0 (Nat.lt_succ_self _) (by omega) (by rw [eUp_0]; exact hL) hU
set_option maxRecDepth 20000 in
theorem c_goDrawnDay {D : zD} {B : Nat} {h : zH} {sz : Nat} {p n m : Nat} {σ : Ln} (hL : LnAt h p σ) (hn : σ 0 0 = nI n) (h12 : n ≤ 12) (hm : σ 9 0 = nI m) (h8 : m ≤ 8) (hB : B ≤ p) (h1 : 0 < n) : zM D B xX1_goDrawnDay [.ref p] h sz (fun r h1 z1 => r = none ∧ LnAt h1 p (dayF σ) ∧ Upd h h1 p 9 ∧ z1 = sz) := by
  have hU : Upd h h p 9 := Upd.rf
  refine zM.of (by decide) rfl (n := 2) ?_
  show Z D B xX1_goDrawnDay 0 0 _ 0 [some (.ref p), none, none] [] h sz
  refine z_aload_n (pc := 0) (zk0 kX1_goDrawnDay_0) rfl ?_
  refine z_aload_n (pc := 1) (zk1 kX1_goDrawnDay_0) rfl ?_
  refine z_getf (pc := 2) (zk2 kX1_goDrawnDay_0) flX1_9 hL.1 (v := .int (nI n)) (by rw [← hn]; rfl) ?_
  refine z_efV (pc := 5) (zk3 kX1_goDrawnDay_0) (st := []) lkX1_113 ivX1_draw hL.1 rfl rfl (c_draw hL hB (by omega) (by omega)) rfl ⟨rfl, rfl⟩ rfl rfl (fun r_ h_2 z_ q_1 => ?_) rfl
  obtain ⟨er_, hR, hU_3, ez_⟩ := q_1
  rw [er_, ez_]
  clear er_ ez_
  replace hU := hU.tr hU_3 (by omega) (by omega)
  replace hL := hR; clear hR
  show Z D B xX1_goDrawnDay _ _ _ 8 _ [.int (nI (drwN (nextS (σ 8 0)) n))] _ _
  refine z_istore_n (pc := 8) (zk4 kX1_goDrawnDay_0) rfl rfl ?_
  show Z D B xX1_goDrawnDay _ _ _ 9 [some (.ref p), some (.int (nI (drwN (nextS (σ 8 0)) n))), none] _ _ _
  refine z_aload_n (pc := 9) (zk5 kX1_goDrawnDay_0) rfl ?_
  refine z_getf (pc := 10) (zk6 kX1_goDrawnDay_0) flX1_15 hL.1 gLn_1 ?_
  refine z_iload_n (pc := 13) (zk7 kX1_goDrawnDay_0) rfl ?_
  refine z_aload_n (pc := 14) (zk8 kX1_goDrawnDay_0) rfl ?_
  refine z_bipush (pc := 15) (zk9 kX1_goDrawnDay_0) (v := 10) (by decide) ?_
  refine z_efV (pc := 17) (zk10 kX1_goDrawnDay_0) (st := [.int (nI (drwN (nextS (σ 8 0)) n)), .ref (p + 1)]) lkX1_113 ivX1_draw hL.1 rfl rfl (c_draw hL hB (by decide) (by decide)) rfl ⟨rfl, rfl⟩ rfl rfl (fun r_ h_5 z_ q_4 => ?_) rfl
  obtain ⟨er_, hR, hU_6, ez_⟩ := q_4
  rw [er_, ez_]
  clear er_ ez_
  replace hU := hU.tr hU_6 (by omega) (by omega)
  replace hL := hR; clear hR
  show Z D B xX1_goDrawnDay _ _ _ 20 _ [.int (nI (drwN (nextS (nextS (σ 8 0))) 10)), .int (nI (drwN (nextS (σ 8 0)) n)), .ref (p + 1)] _ _
  refine z_Ln_s1 (pc := 20) (zk11 kX1_goDrawnDay_0) (j := drwN (nextS (σ 8 0)) n) hL (by omega) (Nat.lt_of_lt_of_le (drwN_lt _ (by omega)) (by omega)) (fun h_7 hR hU_8 => ?_)
  replace hU := hU.tr hU_8 (by omega) (by omega)
  replace hL := hR; clear hR
  refine z_aload_n (pc := 21) (zk12 kX1_goDrawnDay_0) rfl ?_
  refine z_aload_n (pc := 22) (zk13 kX1_goDrawnDay_0) rfl ?_
  refine z_getf (pc := 23) (zk14 kX1_goDrawnDay_0) flX1_9 hL.1 (v := .int (nI n)) (by rw [← hn]; rfl) ?_
  refine z_efV (pc := 26) (zk15 kX1_goDrawnDay_0) (st := []) lkX1_113 ivX1_draw hL.1 rfl rfl (c_draw hL hB (by omega) (by omega)) rfl ⟨rfl, rfl⟩ rfl rfl (fun r_ h_10 z_ q_9 => ?_) rfl
  obtain ⟨er_, hR, hU_11, ez_⟩ := q_9
  rw [er_, ez_]
  clear er_ ez_
  replace hU := hU.tr hU_11 (by omega) (by omega)
  replace hL := hR; clear hR
  show Z D B xX1_goDrawnDay _ _ _ 29 _ [.int (nI (drwN (nextS (nextS (nextS (σ 8 0)))) n))] _ _
  refine z_istore_n (pc := 29) (zk0 kX1_goDrawnDay_1) rfl rfl ?_
  show Z D B xX1_goDrawnDay _ _ _ 30 [some (.ref p), some (.int (nI (drwN (nextS (σ 8 0)) n))), some (.int (nI (drwN (nextS (nextS (nextS (σ 8 0)))) n)))] _ _ _
  refine z_aload_n (pc := 30) (zk1 kX1_goDrawnDay_1) rfl ?_
  refine z_getf (pc := 31) (zk2 kX1_goDrawnDay_1) flX1_19 hL.1 gLn_2 ?_
  refine z_iload_n (pc := 34) (zk3 kX1_goDrawnDay_1) rfl ?_
  refine z_aload_n (pc := 35) (zk4 kX1_goDrawnDay_1) rfl ?_
  refine z_bipush (pc := 36) (zk5 kX1_goDrawnDay_1) (v := 10) (by decide) ?_
  refine z_efV (pc := 38) (zk6 kX1_goDrawnDay_1) (st := [.int (nI (drwN (nextS (nextS (nextS (σ 8 0)))) n)), .ref (p + 2)]) lkX1_113 ivX1_draw hL.1 rfl rfl (c_draw hL hB (by decide) (by decide)) rfl ⟨rfl, rfl⟩ rfl rfl (fun r_ h_13 z_ q_12 => ?_) rfl
  obtain ⟨er_, hR, hU_14, ez_⟩ := q_12
  rw [er_, ez_]
  clear er_ ez_
  replace hU := hU.tr hU_14 (by omega) (by omega)
  replace hL := hR; clear hR
  show Z D B xX1_goDrawnDay _ _ _ 41 _ [.int (nI (drwN (nextS (nextS (nextS (nextS (σ 8 0))))) 10)), .int (nI (drwN (nextS (nextS (nextS (σ 8 0)))) n)), .ref (p + 2)] _ _
  refine z_Ln_s2 (pc := 41) (zk7 kX1_goDrawnDay_1) (j := drwN (nextS (nextS (nextS (σ 8 0)))) n) hL (by omega) (Nat.lt_of_lt_of_le (drwN_lt _ (by omega)) (by omega)) (fun h_15 hR hU_16 => ?_)
  replace hU := hU.tr hU_16 (by omega) (by omega)
  replace hL := hR; clear hR
  refine z_aload_n (pc := 42) (zk8 kX1_goDrawnDay_1) rfl ?_
  refine z_efV (pc := 43) (zk9 kX1_goDrawnDay_1) (st := []) lkX1_116 ivX1_goRound hL.1 rfl rfl (c_goRound hL hn h12 hm h8 hB) rfl ⟨rfl, rfl⟩ rfl rfl (fun r_ h_18 z_ q_17 => ?_) rfl
  obtain ⟨er_, hR, hU_19, ez_⟩ := q_17
  rw [er_, ez_]
  clear er_ ez_
  replace hU := hU.tr hU_19 (by omega) (by omega)
  replace hL := hR; clear hR
  show Z D B xX1_goDrawnDay _ _ _ 46 _ [] _ _
  exact z_vret (pc := 46) (zk10 kX1_goDrawnDay_1) rfl (Nat.zero_le _) (Nat.zero_le _) ⟨rfl, by rw [dayF, hsN_eq hn h12]; exact hL, hU, rfl⟩
theorem zcpX4_93 : zCp RX4 93 := have h : zChk [315, 317, 316, 77] [Cond.methodLink RX4 93 arraycopyName, Cond.native arraycopyName, Cond.static arraycopyName, Cond.initialized "java/lang/System"] = true := by decide +kernel
  ⟨zChk_ok h _ (.head _), zChk_ok h _ (.tail _ (.head _)), zChk_ok h _ (.tail _ (.tail _ (.head _))), zChk_ok h _ (.tail _ (.tail _ (.tail _ (.head _))))⟩
theorem zcpX1_56 : zCp RX1 56 := have h : zChk [473, 317, 316, 77] [Cond.methodLink RX1 56 arraycopyName, Cond.native arraycopyName, Cond.static arraycopyName, Cond.initialized "java/lang/System"] = true := by decide +kernel
  ⟨zChk_ok h _ (.head _), zChk_ok h _ (.tail _ (.head _)), zChk_ok h _ (.tail _ (.tail _ (.head _))), zChk_ok h _ (.tail _ (.tail _ (.tail _ (.head _))))⟩
set_option maxRecDepth 20000 in
theorem c_takeFrom {D : zD} {B : Nat} {h : zH} {sz : Nat} {p q : Nat} {σ τ : Ln} (hL : LnAt h p σ) (hO : LnAt h q τ) (hB : B ≤ p) (hd : p + 9 ≤ q ∨ q + 9 ≤ p) (hbk : τ 6 0 = 0 ∨ τ 6 0 = 1) : zM D B xX1_takeFrom [.ref p, .ref q] h sz (fun r h1 z1 => r = none ∧ LnAt h1 p τ ∧ LnAt h1 q τ ∧ Upd h h1 p 9 ∧ z1 = sz) := by
  have hU : Upd h h p 9 := Upd.rf
  refine zM.of (by decide) rfl (n := 0) ?_
  show Z D B xX1_takeFrom 0 0 _ 0 [some (.ref p), some (.ref q)] [] h sz
  refine z_aload_n (pc := 0) (zk0 kX1_takeFrom_0) rfl ?_
  refine z_aload_n (pc := 1) (zk1 kX1_takeFrom_0) rfl ?_
  refine z_getf (pc := 2) (zk2 kX1_takeFrom_0) flX1_9 hO.1 (v := .int (τ 0 0)) rfl ?_
  refine z_Ln_w0 (pc := 5) (zk3 kX1_takeFrom_0) flX1_9 hL (by omega) (fun h_1 hR hU_2 => ?_)
  replace hO := LnAt.fr hO hU_2 (by omega)
  replace hU := hU.tr hU_2 (by omega) (by omega)
  replace hL := hR; clear hR
  refine z_aload_n (pc := 8) (zk4 kX1_takeFrom_0) rfl ?_
  refine z_getf (pc := 9) (zk5 kX1_takeFrom_0) flX1_15 hO.1 gLn_1 ?_
  refine z_iconst (pc := 12) (zk6 kX1_takeFrom_0) (v := 0) (by decide) ?_
  refine z_aload_n (pc := 13) (zk7 kX1_takeFrom_0) rfl ?_
  refine z_getf (pc := 14) (zk8 kX1_takeFrom_0) flX1_15 hL.1 gLn_1 ?_
  refine z_iconst (pc := 17) (zk9 kX1_takeFrom_0) (v := 0) (by decide) ?_
  refine z_bipush (pc := 18) (zk10 kX1_takeFrom_0) (v := 12) (by decide) ?_
  refine z_copyA (pc := 20) (zk11 kX1_takeFrom_0) (f := τ 1) zcpX1_56 hO.2.1 hL.2.1 (by omega) (n := 12) rfl rfl rfl rfl ?_
  have hU_3 : Upd h_1 (zup h_1 (p + 1) (zI 12 (τ 1))) (p + 1) 1 := Upd.one
  have hR := LnAt.c1 (f := τ 1) hL
  generalize zup h_1 (p + 1) (zI 12 (τ 1)) = h_4 at hU_3 hR ⊢
  replace hO := LnAt.fr hO hU_3 (by omega)
  replace hU := hU.tr hU_3 (by omega) (by omega)
  replace hL := hR; clear hR
  refine z_aload_n (pc := 23) (zk12 kX1_takeFrom_0) rfl ?_
  refine z_getf (pc := 24) (zk13 kX1_takeFrom_0) flX1_19 hO.1 gLn_2 ?_
  refine z_iconst (pc := 27) (zk14 kX1_takeFrom_0) (v := 0) (by decide) ?_
  refine z_aload_n (pc := 28) (zk15 kX1_takeFrom_0) rfl ?_
  refine z_getf (pc := 29) (zk0 kX1_takeFrom_1) flX1_19 hL.1 gLn_2 ?_
  refine z_iconst (pc := 32) (zk1 kX1_takeFrom_1) (v := 0) (by decide) ?_
  refine z_bipush (pc := 33) (zk2 kX1_takeFrom_1) (v := 12) (by decide) ?_
  refine z_copyA (pc := 35) (zk3 kX1_takeFrom_1) (f := τ 2) zcpX1_56 hO.2.2.1 hL.2.2.1 (by omega) (n := 12) rfl rfl rfl rfl ?_
  have hU_5 : Upd h_4 (zup h_4 (p + 2) (zI 12 (τ 2))) (p + 2) 1 := Upd.one
  have hR := LnAt.c2 (f := τ 2) hL
  generalize zup h_4 (p + 2) (zI 12 (τ 2)) = h_6 at hU_5 hR ⊢
  replace hO := LnAt.fr hO hU_5 (by omega)
  replace hU := hU.tr hU_5 (by omega) (by omega)
  replace hL := hR; clear hR
  refine z_aload_n (pc := 38) (zk4 kX1_takeFrom_1) rfl ?_
  refine z_getf (pc := 39) (zk5 kX1_takeFrom_1) flX1_22 hO.1 gLn_3 ?_
  refine z_iconst (pc := 42) (zk6 kX1_takeFrom_1) (v := 0) (by decide) ?_
  refine z_aload_n (pc := 43) (zk7 kX1_takeFrom_1) rfl ?_
  refine z_getf (pc := 44) (zk8 kX1_takeFrom_1) flX1_22 hL.1 gLn_3 ?_
  refine z_iconst (pc := 47) (zk9 kX1_takeFrom_1) (v := 0) (by decide) ?_
  refine z_bipush (pc := 48) (zk10 kX1_takeFrom_1) (v := 12) (by decide) ?_
  refine z_copyA (pc := 50) (zk11 kX1_takeFrom_1) (f := τ 3) zcpX1_56 hO.2.2.2.1 hL.2.2.2.1 (by omega) (n := 12) rfl rfl rfl rfl ?_
  have hU_7 : Upd h_6 (zup h_6 (p + 3) (zI 12 (τ 3))) (p + 3) 1 := Upd.one
  have hR := LnAt.c3 (f := τ 3) hL
  generalize zup h_6 (p + 3) (zI 12 (τ 3)) = h_8 at hU_7 hR ⊢
  replace hO := LnAt.fr hO hU_7 (by omega)
  replace hU := hU.tr hU_7 (by omega) (by omega)
  replace hL := hR; clear hR
  refine z_aload_n (pc := 53) (zk12 kX1_takeFrom_1) rfl ?_
  refine z_getf (pc := 54) (zk13 kX1_takeFrom_1) flX1_25 hO.1 gLn_4 ?_
  refine z_iconst (pc := 57) (zk14 kX1_takeFrom_1) (v := 0) (by decide) ?_
  refine z_aload_n (pc := 58) (zk15 kX1_takeFrom_1) rfl ?_
  refine z_getf (pc := 59) (zk0 kX1_takeFrom_2) flX1_25 hL.1 gLn_4 ?_
  refine z_iconst (pc := 62) (zk1 kX1_takeFrom_2) (v := 0) (by decide) ?_
  refine z_bipush (pc := 63) (zk2 kX1_takeFrom_2) (v := 12) (by decide) ?_
  refine z_copyA (pc := 65) (zk3 kX1_takeFrom_2) (f := τ 4) zcpX1_56 hO.2.2.2.2.1 hL.2.2.2.2.1 (by omega) (n := 12) rfl rfl rfl rfl ?_
  have hU_9 : Upd h_8 (zup h_8 (p + 4) (zI 12 (τ 4))) (p + 4) 1 := Upd.one
  have hR := LnAt.c4 (f := τ 4) hL
  generalize zup h_8 (p + 4) (zI 12 (τ 4)) = h_10 at hU_9 hR ⊢
  replace hO := LnAt.fr hO hU_9 (by omega)
  replace hU := hU.tr hU_9 (by omega) (by omega)
  replace hL := hR; clear hR
  refine z_aload_n (pc := 68) (zk4 kX1_takeFrom_2) rfl ?_
  refine z_aload_n (pc := 69) (zk5 kX1_takeFrom_2) rfl ?_
  refine z_getf (pc := 70) (zk6 kX1_takeFrom_2) flX1_28 hO.1 (v := .int (τ 5 0)) rfl ?_
  refine z_Ln_w5 (pc := 73) (zk7 kX1_takeFrom_2) flX1_28 hL (by omega) (fun h_11 hR hU_12 => ?_)
  replace hO := LnAt.fr hO hU_12 (by omega)
  replace hU := hU.tr hU_12 (by omega) (by omega)
  replace hL := hR; clear hR
  refine z_aload_n (pc := 76) (zk8 kX1_takeFrom_2) rfl ?_
  refine z_aload_n (pc := 77) (zk9 kX1_takeFrom_2) rfl ?_
  refine z_getf (pc := 78) (zk10 kX1_takeFrom_2) flX1_31 hO.1 (v := .int (τ 6 0)) rfl ?_
  refine z_Ln_w6 (pc := 81) (zk11 kX1_takeFrom_2) flX1_31 hL (by omega) (by assumption) (fun h_13 hR hU_14 => ?_)
  replace hO := LnAt.fr hO hU_14 (by omega)
  replace hU := hU.tr hU_14 (by omega) (by omega)
  replace hL := hR; clear hR
  refine z_aload_n (pc := 84) (zk12 kX1_takeFrom_2) rfl ?_
  refine z_aload_n (pc := 85) (zk13 kX1_takeFrom_2) rfl ?_
  refine z_getf (pc := 86) (zk14 kX1_takeFrom_2) flX1_35 hO.1 (v := .int (τ 7 0)) rfl ?_
  refine z_Ln_w7 (pc := 89) (zk15 kX1_takeFrom_2) flX1_35 hL (by omega) (fun h_15 hR hU_16 => ?_)
  replace hO := LnAt.fr hO hU_16 (by omega)
  replace hU := hU.tr hU_16 (by omega) (by omega)
  replace hL := hR; clear hR
  refine z_aload_n (pc := 92) (zk0 kX1_takeFrom_3) rfl ?_
  refine z_aload_n (pc := 93) (zk1 kX1_takeFrom_3) rfl ?_
  refine z_getf (pc := 94) (zk2 kX1_takeFrom_3) flX1_38 hO.1 (v := .int (τ 8 0)) rfl ?_
  refine z_Ln_w8 (pc := 97) (zk3 kX1_takeFrom_3) flX1_38 hL (by omega) (fun h_17 hR hU_18 => ?_)
  replace hO := LnAt.fr hO hU_18 (by omega)
  replace hU := hU.tr hU_18 (by omega) (by omega)
  replace hL := hR; clear hR
  refine z_aload_n (pc := 100) (zk4 kX1_takeFrom_3) rfl ?_
  refine z_aload_n (pc := 101) (zk5 kX1_takeFrom_3) rfl ?_
  refine z_getf (pc := 102) (zk6 kX1_takeFrom_3) flX1_41 hO.1 (v := .int (τ 9 0)) rfl ?_
  refine z_Ln_w9 (pc := 105) (zk7 kX1_takeFrom_3) flX1_41 hL (by omega) (fun h_19 hR hU_20 => ?_)
  replace hO := LnAt.fr hO hU_20 (by omega)
  replace hU := hU.tr hU_20 (by omega) (by omega)
  replace hL := hR; clear hR
  refine z_aload_n (pc := 108) (zk8 kX1_takeFrom_3) rfl ?_
  refine z_getf (pc := 109) (zk9 kX1_takeFrom_3) flX1_44 hO.1 gLn_10 ?_
  refine z_iconst (pc := 112) (zk10 kX1_takeFrom_3) (v := 0) (by decide) ?_
  refine z_aload_n (pc := 113) (zk11 kX1_takeFrom_3) rfl ?_
  refine z_getf (pc := 114) (zk12 kX1_takeFrom_3) flX1_44 hL.1 gLn_10 ?_
  refine z_iconst (pc := 117) (zk13 kX1_takeFrom_3) (v := 0) (by decide) ?_
  refine z_bipush (pc := 118) (zk14 kX1_takeFrom_3) (v := 8) (by decide) ?_
  refine z_copyA (pc := 120) (zk15 kX1_takeFrom_3) (f := τ 10) zcpX1_56 hO.2.2.2.2.2.1 hL.2.2.2.2.2.1 (by omega) (n := 8) rfl rfl rfl rfl ?_
  have hU_21 : Upd h_19 (zup h_19 (p + 5) (zI 8 (τ 10))) (p + 5) 1 := Upd.one
  have hR := LnAt.c5 (f := τ 10) hL
  generalize zup h_19 (p + 5) (zI 8 (τ 10)) = h_22 at hU_21 hR ⊢
  replace hO := LnAt.fr hO hU_21 (by omega)
  replace hU := hU.tr hU_21 (by omega) (by omega)
  replace hL := hR; clear hR
  refine z_aload_n (pc := 123) (zk0 kX1_takeFrom_4) rfl ?_
  refine z_getf (pc := 124) (zk1 kX1_takeFrom_4) flX1_47 hO.1 gLn_11 ?_
  refine z_iconst (pc := 127) (zk2 kX1_takeFrom_4) (v := 0) (by decide) ?_
  refine z_aload_n (pc := 128) (zk3 kX1_takeFrom_4) rfl ?_
  refine z_getf (pc := 129) (zk4 kX1_takeFrom_4) flX1_47 hL.1 gLn_11 ?_
  refine z_iconst (pc := 132) (zk5 kX1_takeFrom_4) (v := 0) (by decide) ?_
  refine z_bipush (pc := 133) (zk6 kX1_takeFrom_4) (v := 8) (by decide) ?_
  refine z_copyA (pc := 135) (zk7 kX1_takeFrom_4) (f := τ 11) zcpX1_56 hO.2.2.2.2.2.2.1 hL.2.2.2.2.2.2.1 (by omega) (n := 8) rfl rfl rfl rfl ?_
  have hU_23 : Upd h_22 (zup h_22 (p + 6) (zI 8 (τ 11))) (p + 6) 1 := Upd.one
  have hR := LnAt.c6 (f := τ 11) hL
  generalize zup h_22 (p + 6) (zI 8 (τ 11)) = h_24 at hU_23 hR ⊢
  replace hO := LnAt.fr hO hU_23 (by omega)
  replace hU := hU.tr hU_23 (by omega) (by omega)
  replace hL := hR; clear hR
  refine z_aload_n (pc := 138) (zk8 kX1_takeFrom_4) rfl ?_
  refine z_getf (pc := 139) (zk9 kX1_takeFrom_4) flX1_50 hO.1 gLn_12 ?_
  refine z_iconst (pc := 142) (zk10 kX1_takeFrom_4) (v := 0) (by decide) ?_
  refine z_aload_n (pc := 143) (zk11 kX1_takeFrom_4) rfl ?_
  refine z_getf (pc := 144) (zk12 kX1_takeFrom_4) flX1_50 hL.1 gLn_12 ?_
  refine z_iconst (pc := 147) (zk13 kX1_takeFrom_4) (v := 0) (by decide) ?_
  refine z_bipush (pc := 148) (zk14 kX1_takeFrom_4) (v := 8) (by decide) ?_
  refine z_copyA (pc := 150) (zk15 kX1_takeFrom_4) (f := τ 12) zcpX1_56 hO.2.2.2.2.2.2.2.1 hL.2.2.2.2.2.2.2.1 (by omega) (n := 8) rfl rfl rfl rfl ?_
  have hU_25 : Upd h_24 (zup h_24 (p + 7) (zI 8 (τ 12))) (p + 7) 1 := Upd.one
  have hR := LnAt.c7 (f := τ 12) hL
  generalize zup h_24 (p + 7) (zI 8 (τ 12)) = h_26 at hU_25 hR ⊢
  replace hO := LnAt.fr hO hU_25 (by omega)
  replace hU := hU.tr hU_25 (by omega) (by omega)
  replace hL := hR; clear hR
  refine z_aload_n (pc := 153) (zk0 kX1_takeFrom_5) rfl ?_
  refine z_getf (pc := 154) (zk1 kX1_takeFrom_5) flX1_53 hO.1 gLn_13 ?_
  refine z_iconst (pc := 157) (zk2 kX1_takeFrom_5) (v := 0) (by decide) ?_
  refine z_aload_n (pc := 158) (zk3 kX1_takeFrom_5) rfl ?_
  refine z_getf (pc := 159) (zk4 kX1_takeFrom_5) flX1_53 hL.1 gLn_13 ?_
  refine z_iconst (pc := 162) (zk5 kX1_takeFrom_5) (v := 0) (by decide) ?_
  refine z_bipush (pc := 163) (zk6 kX1_takeFrom_5) (v := 8) (by decide) ?_
  refine z_copyA (pc := 165) (zk7 kX1_takeFrom_5) (f := τ 13) zcpX1_56 hO.2.2.2.2.2.2.2.2 hL.2.2.2.2.2.2.2.2 (by omega) (n := 8) rfl rfl rfl rfl ?_
  have hU_27 : Upd h_26 (zup h_26 (p + 8) (zI 8 (τ 13))) (p + 8) 1 := Upd.one
  have hR := LnAt.c8 (f := τ 13) hL
  generalize zup h_26 (p + 8) (zI 8 (τ 13)) = h_28 at hU_27 hR ⊢
  replace hO := LnAt.fr hO hU_27 (by omega)
  replace hU := hU.tr hU_27 (by omega) (by omega)
  replace hL := hR; clear hR
  exact z_vret (pc := 168) (zk8 kX1_takeFrom_5) rfl (Nat.zero_le _) (Nat.zero_le _) ⟨rfl, hL, hO, hU, rfl⟩
