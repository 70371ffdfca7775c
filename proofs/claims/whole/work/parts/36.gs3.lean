theorem bit_and {v k : Nat} (hv : v < 4096) (hk : k < 12) : (nI v &&& (1 <<< (nI k &&& 31)) = 0) ↔ ¬ ((nI v >>> (nI k &&& 31)) &&& 1 = 1) := by
  have e : v &&& 2 ^ k = if v.testBit k = true then 2 ^ k else 0 := by
    apply Nat.eq_of_testBit_eq
    intro j
    rw [Nat.testBit_and, Nat.testBit_two_pow]
    by_cases q : k = j
    · subst q
      cases hb : v.testBit k <;> simp [Nat.testBit_two_pow]
    · cases hb : v.testBit k <;> simp [Nat.testBit_two_pow, q]
  rw [bx_1 k (by omega), bx_and, bx_test (by omega) (by omega), e]
  by_cases hb : v.testBit k = true
  · rw [if_pos hb, if_pos hb]
    exact ⟨fun q => absurd q (nI_ne0 (Nat.two_pow_pos k) (Nat.lt_of_lt_of_le (Nat.pow_lt_pow_right (by omega) hk) (by omega))), fun q => absurd rfl q⟩
  · rw [if_neg hb, if_neg hb]
    exact ⟨fun _ => by decide, fun _ => rfl⟩
set_option maxRecDepth 20000 in
theorem c_gHushed {D : zD} {B : Nat} {h : zH} {sz : Nat} {p n l : Nat} {σ : Ln} {t : Int32} {mk tl : Nat → Int32} (hG : GuAt h p mk tl) (hγ : LnAt h (p + 1) σ) (hn : σ 0 0 = nI n) (h12 : n ≤ 12) (hl : l < 8) (htl : ∃ t, t < n ∧ σ 12 l = nI t) (hst : ∃ v, v < 4096 ∧ t = nI v)  : zRd D B xX0_isHushed [.ref p, .int (nI l), .int t] h sz (.int (oI (hushB σ l t))) := by
  have hU : Upd h h p 12 := Upd.rf
  obtain ⟨t_, ht_, et_⟩ := htl
  obtain ⟨v_, hv_, ev_⟩ := hst
  obtain ⟨u_, hu_, eu_⟩ := knowersF_eq σ l (hsN_le hn h12)
  have kt_ := know_test (l := l) hn h12 ht_
  rw [eu_] at kt_
  refine zM.of (by decide) rfl (n := 3) ?_
  show Z D B xX0_isHushed 0 0 _ 0 [some (.ref p), some (.int (nI l)), some (.int t), none, none, none] [] h sz
  refine z_aload_n (pc := 0) (zk0 kX0_isHushed_0) rfl ?_
  refine z_getf (pc := 1) (zk1 kX0_isHushed_0) flX0_12 hG.1 gGu_0 ?_
  refine z_iload_n (pc := 4) (zk2 kX0_isHushed_0) rfl ?_
  refine z_rdV (pc := 5) (zk3 kX0_isHushed_0) (st := []) lkX0_41 ivX1_knowers hγ.1 rfl rfl (c_knowers hγ hn h12 (show l < 8 by omega)) rfl ⟨rfl, rfl⟩ rfl rfl ?_ rfl
  refine z_istore_n (pc := 8) (zk4 kX0_isHushed_0) rfl rfl ?_
  show Z D B xX0_isHushed _ _ _ 9 [some (.ref p), some (.int (nI l)), some (.int t), some (.int (knowersF σ l)), none, none] _ _ _
  refine z_iconst (pc := 9) (zk5 kX0_isHushed_0) (v := 1) (by decide) ?_
  refine z_aload_n (pc := 10) (zk6 kX0_isHushed_0) rfl ?_
  refine z_getf (pc := 11) (zk7 kX0_isHushed_0) flX0_12 hG.1 gGu_0 ?_
  refine z_getf (pc := 14) (zk8 kX0_isHushed_0) flX0_38 hγ.1 gLn_12 ?_
  refine z_iload_n (pc := 17) (zk9 kX0_isHushed_0) rfl ?_
  refine z_ialdN (pc := 18) (zk10 kX0_isHushed_0) (f := σ 12) (j := l) hγ.2.2.2.2.2.2.2.1 (show l < 8 by omega) rfl ?_
  refine z_top (congrArg Value.int et_) ?_
  refine z_ishl (pc := 19) (zk11 kX0_isHushed_0) ?_
  refine z_istore (pc := 20) (zk12 kX0_isHushed_0) rfl rfl ?_
  show Z D B xX0_isHushed _ _ _ 22 [some (.ref p), some (.int (nI l)), some (.int t), some (.int (knowersF σ l)), some (.int (1 <<< ((nI t_) &&& 31))), none] _ _ _
  refine z_iload_n (pc := 22) (zk13 kX0_isHushed_0) rfl ?_
  refine z_iload (pc := 23) (zk14 kX0_isHushed_0) rfl ?_
  refine z_iand (pc := 25) (zk15 kX0_isHushed_0) ?_
  refine z_if_ne (pc := 26) (zk0 kX0_isHushed_1) (tgt := 36) (by decide) (fun c_1 => ?_) (fun c_1 => ?_)
  · refine z_iconst (pc := 36) (zk5 kX0_isHushed_1) (v := 1) (by decide) ?_
    refine z_goto (pc := 37) (zk6 kX0_isHushed_1) (tgt := 41) (by decide) ?_
    refine z_istore (pc := 41) (zk8 kX0_isHushed_1) rfl rfl ?_
    show Z D B xX0_isHushed _ _ _ 43 [some (.ref p), some (.int (nI l)), some (.int t), some (.int (knowersF σ l)), some (.int (1 <<< ((nI t_) &&& 31))), some (.int 1)] _ _ _
    refine z_iload_n (pc := 43) (zk9 kX0_isHushed_1) rfl ?_
    refine z_iload_n (pc := 44) (zk10 kX0_isHushed_1) rfl ?_
    refine z_iand (pc := 45) (zk11 kX0_isHushed_1) ?_
    refine z_if_ne (pc := 46) (zk12 kX0_isHushed_1) (tgt := 58) (by decide) (fun c_2 => ?_) (fun c_2 => ?_)
    · refine z_iconst (pc := 58) (zk1 kX0_isHushed_2) (v := 0) (by decide) ?_
      exact z_zret (pc := 59) (zk2 kX0_isHushed_2) rfl (Nat.zero_le _) (Nat.zero_le _) (by decide) ⟨by subst ev_; simp [hushB, oI, et_, ix_nI (show t_ ≤ 1000 by omega), Classical.not_not.mp (fun z => c_1 ((bit_and hv_ (show t_ < 12 by omega)).mpr z)), c_2], rfl, rfl⟩
    · refine z_iload (pc := 49) (zk13 kX0_isHushed_1) rfl ?_
      refine z_if_eq (pc := 51) (zk14 kX0_isHushed_1) (tgt := 58) (by decide) (fun q => absurd q (by decide)) (fun _ => ?_)
      refine z_iconst (pc := 54) (zk15 kX0_isHushed_1) (v := 1) (by decide) ?_
      refine z_goto (pc := 55) (zk0 kX0_isHushed_2) (tgt := 59) (by decide) ?_
      exact z_zret (pc := 59) (zk2 kX0_isHushed_2) rfl (Nat.zero_le _) (Nat.zero_le _) (by decide) ⟨by subst ev_; simp [hushB, oI, et_, ix_nI (show t_ ≤ 1000 by omega), Classical.not_not.mp (fun z => c_1 ((bit_and hv_ (show t_ < 12 by omega)).mpr z)), c_2], rfl, rfl⟩
  · refine z_iload_n (pc := 29) (zk1 kX0_isHushed_1) rfl ?_
    refine z_iload (pc := 30) (zk2 kX0_isHushed_1) rfl ?_
    refine z_iand (pc := 32) (zk3 kX0_isHushed_1) ?_
    refine z_if_eq (pc := 33) (zk4 kX0_isHushed_1) (tgt := 40) (by decide) (fun c_3 => ?_) (fun c_3 => ?_)
    · refine z_iconst (pc := 40) (zk7 kX0_isHushed_1) (v := 0) (by decide) ?_
      refine z_istore (pc := 41) (zk8 kX0_isHushed_1) rfl rfl ?_
      show Z D B xX0_isHushed _ _ _ 43 [some (.ref p), some (.int (nI l)), some (.int t), some (.int (knowersF σ l)), some (.int (1 <<< ((nI t_) &&& 31))), some (.int 0)] _ _ _
      refine z_iload_n (pc := 43) (zk9 kX0_isHushed_1) rfl ?_
      refine z_iload_n (pc := 44) (zk10 kX0_isHushed_1) rfl ?_
      refine z_iand (pc := 45) (zk11 kX0_isHushed_1) ?_
      refine z_if_ne (pc := 46) (zk12 kX0_isHushed_1) (tgt := 58) (by decide) (fun c_4 => ?_) (fun c_4 => ?_)
      · refine z_iconst (pc := 58) (zk1 kX0_isHushed_2) (v := 0) (by decide) ?_
        exact z_zret (pc := 59) (zk2 kX0_isHushed_2) rfl (Nat.zero_le _) (Nat.zero_le _) (by decide) ⟨by subst ev_; simp [hushB, oI, et_, ix_nI (show t_ ≤ 1000 by omega), (bit_and hv_ (show t_ < 12 by omega)).mp c_1, Bool.eq_false_iff.mpr (fun z => (bit_and hu_ (show t_ < 12 by omega)).mp (show nI u_ &&& 1 <<< (nI t_ &&& 31) = 0 from by rw [← eu_]; exact c_3) (kt_.mpr z)), c_4], rfl, rfl⟩
      · refine z_iload (pc := 49) (zk13 kX0_isHushed_1) rfl ?_
        refine z_if_eq (pc := 51) (zk14 kX0_isHushed_1) (tgt := 58) (by decide) (fun _ => ?_) (fun q => absurd (by decide) q)
        refine z_iconst (pc := 58) (zk1 kX0_isHushed_2) (v := 0) (by decide) ?_
        exact z_zret (pc := 59) (zk2 kX0_isHushed_2) rfl (Nat.zero_le _) (Nat.zero_le _) (by decide) ⟨by subst ev_; simp [hushB, oI, et_, ix_nI (show t_ ≤ 1000 by omega), (bit_and hv_ (show t_ < 12 by omega)).mp c_1, Bool.eq_false_iff.mpr (fun z => (bit_and hu_ (show t_ < 12 by omega)).mp (show nI u_ &&& 1 <<< (nI t_ &&& 31) = 0 from by rw [← eu_]; exact c_3) (kt_.mpr z)), c_4], rfl, rfl⟩
    · refine z_iconst (pc := 36) (zk5 kX0_isHushed_1) (v := 1) (by decide) ?_
      refine z_goto (pc := 37) (zk6 kX0_isHushed_1) (tgt := 41) (by decide) ?_
      refine z_istore (pc := 41) (zk8 kX0_isHushed_1) rfl rfl ?_
      show Z D B xX0_isHushed _ _ _ 43 [some (.ref p), some (.int (nI l)), some (.int t), some (.int (knowersF σ l)), some (.int (1 <<< ((nI t_) &&& 31))), some (.int 1)] _ _ _
      refine z_iload_n (pc := 43) (zk9 kX0_isHushed_1) rfl ?_
      refine z_iload_n (pc := 44) (zk10 kX0_isHushed_1) rfl ?_
      refine z_iand (pc := 45) (zk11 kX0_isHushed_1) ?_
      refine z_if_ne (pc := 46) (zk12 kX0_isHushed_1) (tgt := 58) (by decide) (fun c_5 => ?_) (fun c_5 => ?_)
      · refine z_iconst (pc := 58) (zk1 kX0_isHushed_2) (v := 0) (by decide) ?_
        exact z_zret (pc := 59) (zk2 kX0_isHushed_2) rfl (Nat.zero_le _) (Nat.zero_le _) (by decide) ⟨by subst ev_; simp [hushB, oI, et_, ix_nI (show t_ ≤ 1000 by omega), (bit_and hv_ (show t_ < 12 by omega)).mp c_1, kt_.mp (Classical.not_not.mp (fun z => (show ¬ nI u_ &&& 1 <<< (nI t_ &&& 31) = 0 from by rw [← eu_]; exact c_3) ((bit_and hu_ (show t_ < 12 by omega)).mpr z))), c_5], rfl, rfl⟩
      · refine z_iload (pc := 49) (zk13 kX0_isHushed_1) rfl ?_
        refine z_if_eq (pc := 51) (zk14 kX0_isHushed_1) (tgt := 58) (by decide) (fun q => absurd q (by decide)) (fun _ => ?_)
        refine z_iconst (pc := 54) (zk15 kX0_isHushed_1) (v := 1) (by decide) ?_
        refine z_goto (pc := 55) (zk0 kX0_isHushed_2) (tgt := 59) (by decide) ?_
        exact z_zret (pc := 59) (zk2 kX0_isHushed_2) rfl (Nat.zero_le _) (Nat.zero_le _) (by decide) ⟨by subst ev_; simp [hushB, oI, et_, ix_nI (show t_ ≤ 1000 by omega), (bit_and hv_ (show t_ < 12 by omega)).mp c_1, kt_.mp (Classical.not_not.mp (fun z => (show ¬ nI u_ &&& 1 <<< (nI t_ &&& 31) = 0 from by rw [← eu_]; exact c_3) ((bit_and hu_ (show t_ < 12 by omega)).mpr z))), c_5], rfl, rfl⟩
set_option maxRecDepth 20000 in
theorem c_hushH0 {D : zD} {B : Nat} {h : zH} {sz : Nat} {p po : Nat} {σ γ : Ln} {mk tl : Nat → Int32} {n l : Nat} {t : Int32} (hG : GuAt h p mk tl) (hγ : LnAt h (p + 1) γ) (hL : LnAt h po σ) (hB : B ≤ p) (hd : p + 12 ≤ po ∨ po + 9 ≤ p) (hbk : σ 6 0 = 0 ∨ σ 6 0 = 1) (hn : σ 0 0 = nI n) (h12 : n ≤ 12) (hl : l < 8) : zM D B xX0_hushHouse [.ref p, .ref po, .int (nI l), .int t, .int 0] h sz (gQ h p sz (-1)) := by
  have hU : Upd h h p 12 := Upd.rf
  refine zM.of (by decide) rfl (n := 1) ?_
  show Z D B xX0_hushHouse 0 0 _ 0 [some (.ref p), some (.ref po), some (.int (nI l)), some (.int t), some (.int 0), none] [] h sz
  refine z_iload (pc := 0) (zk0 kX0_hushHouse_0) rfl ?_
  refine z_if_ne (pc := 2) (zk1 kX0_hushHouse_0) (tgt := 7) (by decide) (fun q => absurd (by decide) q) (fun _ => ?_)
  refine z_iconst (pc := 5) (zk2 kX0_hushHouse_0) (v := (-1)) (by decide) ?_
  exact z_iret (pc := 6) (zk3 kX0_hushHouse_0) rfl (Nat.zero_le _) (Nat.zero_le _) ⟨by rfl, ⟨_, _, _, hG, hγ⟩, hU, rfl⟩
set_option maxRecDepth 20000 in
theorem c_hushH {D : zD} {B : Nat} {h : zH} {sz : Nat} {p po : Nat} {σ γ : Ln} {mk tl : Nat → Int32} {n l x : Nat} {t : Int32} (hG : GuAt h p mk tl) (hγ : LnAt h (p + 1) γ) (hL : LnAt h po σ) (hB : B ≤ p) (hd : p + 12 ≤ po ∨ po + 9 ≤ p) (hbk : σ 6 0 = 0 ∨ σ 6 0 = 1) (hn : σ 0 0 = nI n) (h12 : n ≤ 12) (hl : l < 8) (htl : ∃ t, t < n ∧ σ 12 l = nI t) (hst : ∃ v, v < 4096 ∧ t = nI v) (hx0 : 0 < x) (hx : x ≤ 1000) : zM D B xX0_hushHouse [.ref p, .ref po, .int (nI l), .int t, .int (nI x)] h sz (gQ h p sz (hshW σ l t x)) := by
  have hU : Upd h h p 12 := Upd.rf
  refine zM.of (by decide) rfl (n := 1) ?_
  show Z D B xX0_hushHouse 0 0 _ 0 [some (.ref p), some (.ref po), some (.int (nI l)), some (.int t), some (.int (nI x)), none] [] h sz
  refine z_iload (pc := 0) (zk0 kX0_hushHouse_0) rfl ?_
  refine z_if_ne (pc := 2) (zk1 kX0_hushHouse_0) (tgt := 7) (by decide) (fun _ => ?_) (fun q => absurd q (nI_ne0 hx0 (by omega)))
  refine z_aload_n (pc := 7) (zk4 kX0_hushHouse_0) rfl ?_
  refine z_aload_n (pc := 8) (zk5 kX0_hushHouse_0) rfl ?_
  refine z_efV (pc := 9) (zk6 kX0_hushHouse_0) (st := []) lkX0_30 ivX0_freshFrom hG.1 rfl rfl (c_fresh hG hγ hL (by omega) (by omega) hbk) rfl ⟨rfl, rfl⟩ rfl rfl (fun r_ h_2 z_ q_1 => ?_) rfl
  obtain ⟨er_, hR, hU_3, ez_⟩ := q_1
  rw [er_, ez_]
  clear er_ ez_
  replace hG := GuAt.fr hG hU_3 (by omega)
  replace hL := LnAt.fr hL hU_3 (by omega)
  replace hU := hU.tr hU_3 (by omega) (by omega)
  replace hγ := hR; clear hR
  show Z D B xX0_hushHouse _ _ _ 12 _ [.ref (p + 1)] _ _
  refine z_pop (pc := 12) (zk7 kX0_hushHouse_0) rfl ?_
  refine z_iconst (pc := 13) (zk8 kX0_hushHouse_0) (v := 0) (by decide) ?_
  refine z_istore (pc := 14) (zk9 kX0_hushHouse_0) rfl rfl ?_
  show Z D B xX0_hushHouse _ _ _ 16 [some (.ref p), some (.ref po), some (.int (nI l)), some (.int t), some (.int (nI x)), some (.int 0)] _ _ _
  have lp16 : ∀ (n_ : Nat) (g : zH) (i : Nat), n - i < n_ → (i ≤ n) → (lstD (fun k => hushB (pourD σ k (nI x)) l t) i (n - i) = lstD (fun k => hushB (pourD σ k (nI x)) l t) 0 n) → (LnAt g (p + 1) σ) → (GuAt g p mk tl) → (LnAt g po σ) → (Upd h g p 12) → Z D B xX0_hushHouse 0 0 (gQ h p sz (hshW σ l t x)) 16 [some (.ref p), some (.ref po), some (.int (nI l)), some (.int t), some (.int (nI x)), some (.int (nI i))] [] g sz := by
    intro n_
    induction n_ with
    | zero => intro g i hm_; exact absurd hm_ (Nat.not_lt_zero _)
    | succ n_ ih16 =>
      intro g i hm_ hi_i ha_ hγ hG hL hU
      refine z_iload (pc := 16) (zk10 kX0_hushHouse_0) rfl ?_
      refine z_aload_n (pc := 18) (zk11 kX0_hushHouse_0) rfl ?_
      refine z_getf (pc := 19) (zk12 kX0_hushHouse_0) flX0_12 hG.1 gGu_0 ?_
      refine z_getf (pc := 22) (zk13 kX0_hushHouse_0) flX0_34 hγ.1 (v := .int (nI n)) (by rw [← hn]; rfl) ?_
      refine z_icmp_ge (pc := 25) (zk14 kX0_hushHouse_0) (tgt := 76) (by decide) (fun c_4 => ?_) (fun c_4 => ?_)
      · have hie_i : i = n := nI_ge_yes (a := n) (by omega) (by omega) (by omega) c_4
        refine z_iconst (pc := 76) (zk10 kX0_hushHouse_2) (v := (-1)) (by decide) ?_
        exact z_iret (pc := 77) (zk11 kX0_hushHouse_2) rfl (Nat.zero_le _) (Nat.zero_le _) ⟨by rw [hshW, hsN_eq hn h12, ← ha_, lstD_e hie_i], ⟨_, _, _, hG, hγ⟩, hU, rfl⟩
      · have hlt_i : i < n := nI_ge_not (a := n) (by omega) (by omega) c_4
        refine z_aload_n (pc := 28) (zk15 kX0_hushHouse_0) rfl ?_
        refine z_getf (pc := 29) (zk0 kX0_hushHouse_1) flX0_12 hG.1 gGu_0 ?_
        refine z_getf (pc := 32) (zk1 kX0_hushHouse_1) flX0_53 hγ.1 gLn_2 ?_
        refine z_iload (pc := 35) (zk2 kX0_hushHouse_1) rfl ?_
        refine z_dup2 (pc := 37) (zk3 kX0_hushHouse_1) rfl rfl ?_
        refine z_ialdN (pc := 38) (zk4 kX0_hushHouse_1) (f := σ 2) (j := i) hγ.2.2.1 (show i < 12 by omega) rfl ?_
        refine z_iload (pc := 39) (zk5 kX0_hushHouse_1) rfl ?_
        refine z_iadd (pc := 41) (zk6 kX0_hushHouse_1) ?_
        refine z_Ln_s2 (pc := 42) (zk7 kX0_hushHouse_1) (j := i) hγ (by omega) (show i < 12 by omega) (fun h_5 hR hU_6 => ?_)
        replace hG := GuAt.fr hG hU_6 (by omega)
        replace hL := LnAt.fr hL hU_6 (by omega)
        replace hU := hU.tr hU_6 (by omega) (by omega)
        replace hγ := hR; clear hR
        refine z_aload_n (pc := 43) (zk8 kX0_hushHouse_1) rfl ?_
        refine z_iload_n (pc := 44) (zk9 kX0_hushHouse_1) rfl ?_
        refine z_iload_n (pc := 45) (zk10 kX0_hushHouse_1) rfl ?_
        refine z_rdV (pc := 46) (zk11 kX0_hushHouse_1) (st := []) lkX0_45 ivX0_isHushed hG.1 rfl rfl (c_gHushed hG hγ hn h12 (show l < 8 by omega) htl hst) rfl ⟨rfl, rfl⟩ rfl rfl ?_ rfl
        refine z_oif_eq (pc := 49) (zk12 kX0_hushHouse_1) (tgt := 55) (by decide) (fun c_7 => ?_) (fun c_7 => ?_)
        · refine z_aload_n (pc := 55) (zk15 kX0_hushHouse_1) rfl ?_
          refine z_getf (pc := 56) (zk0 kX0_hushHouse_2) flX0_12 hG.1 gGu_0 ?_
          refine z_getf (pc := 59) (zk1 kX0_hushHouse_2) flX0_53 hγ.1 gLn_2 ?_
          refine z_iload (pc := 62) (zk2 kX0_hushHouse_2) rfl ?_
          refine z_dup2 (pc := 64) (zk3 kX0_hushHouse_2) rfl rfl ?_
          refine z_ialdN (pc := 65) (zk4 kX0_hushHouse_2) (f := upd (σ 2) i ((σ 2 i) + (nI x))) (j := i) hγ.2.2.1 (show i < 12 by omega) rfl ?_
          refine z_iload (pc := 66) (zk5 kX0_hushHouse_2) rfl ?_
          refine z_isub (pc := 68) (zk6 kX0_hushHouse_2) ?_
          refine z_Ln_s2 (pc := 69) (zk7 kX0_hushHouse_2) (j := i) hγ (by omega) (show i < 12 by omega) (fun h_8 hR hU_9 => ?_)
          replace hG := GuAt.fr hG hU_9 (by omega)
          replace hL := LnAt.fr hL hU_9 (by omega)
          replace hU := hU.tr hU_9 (by omega) (by omega)
          replace hγ := hR; clear hR
          rw [up2_up2, upd_i, Int32.add_sub_cancel, up2_id] at hγ
          refine z_iinc (pc := 70) (zk8 kX0_hushHouse_2) (v := nI (i + 1)) rfl zinc rfl rfl ?_
          show Z D B xX0_hushHouse _ _ _ 73 [some (.ref p), some (.ref po), some (.int (nI l)), some (.int t), some (.int (nI x)), some (.int (nI (i + 1)))] _ _ _
          refine z_goto (pc := 73) (zk9 kX0_hushHouse_2) (tgt := 16) (by decide) ?_
          exact ih16 h_8 (i + 1) (by omega) (by omega) (by rw [← ha_]; exact (lstD_n hlt_i (by simp [pourD, c_4, Int32.not_le.mp c_4, c_7])).symm) hγ hG hL hU
        · refine z_iload (pc := 52) (zk13 kX0_hushHouse_1) rfl ?_
          exact z_iret (pc := 54) (zk14 kX0_hushHouse_1) rfl (Nat.zero_le _) (Nat.zero_le _) ⟨by rw [hshW, hsN_eq hn h12, ← ha_, lstD_h hlt_i (by simp [pourD, c_4, Int32.not_le.mp c_4, c_7])], ⟨_, _, _, hG, hγ⟩, hU, rfl⟩
  exact lp16 _ h_2 0 (Nat.lt_succ_self _) (by omega) rfl hγ hG hL hU
theorem hshF_n {σ : Ln} {l i m : Nat} {t : Int32} (h : i < m) (c : hshW σ l t i = -1) : hshF σ l t i (m - i) = hshF σ l t (i + 1) (m - (i + 1)) := by
  rw [show m - i = (m - (i + 1)) + 1 by omega, hshF, if_pos c]
theorem hshF_h {σ : Ln} {l i m : Nat} {t : Int32} (h : i < m) (c : ¬ hshW σ l t i = -1) : hshF σ l t i (m - i) = (nI i, hshW σ l t i) := by
  rw [show m - i = (m - (i + 1)) + 1 by omega, hshF, if_neg c]
theorem hshF_e {σ : Ln} {l i m : Nat} {t : Int32} (h : i = m) : hshF σ l t i (m - i) = (-1, -1) := by
  rw [h, Nat.sub_self]; rfl
theorem hshF_w {σ : Ln} {l : Nat} {t : Int32} : ∀ (n x : Nat), hshF σ l t x n = (-1, -1) ∨ ∃ y, x ≤ y ∧ y < x + n ∧ hshF σ l t x n = (nI y, hshW σ l t y)
  | 0, x => Or.inl rfl
  | n + 1, x => by
    rw [hshF]
    by_cases c : hshW σ l t x = -1
    · rw [if_pos c]
      rcases hshF_w n (x + 1) with q | ⟨y, h1, h2, h3⟩
      · exact Or.inl q
      · exact Or.inr ⟨y, by omega, by omega, h3⟩
    · rw [if_neg c]
      exact Or.inr ⟨x, by omega, by omega, rfl⟩
theorem hshA_w (σ : Ln) (l : Nat) (t : Int32) : hshA σ l t = (-1, -1) ∨ hshA σ l t = (0, -1) ∨ ∃ y, 0 < y ∧ y ≤ 40 ∧ hshA σ l t = (nI y, hshW σ l t y) := by
  unfold hshA
  by_cases c : hushB σ l t = true
  · rw [if_pos c]; exact Or.inr (Or.inl rfl)
  · rw [if_neg c]
    rcases hshF_w (σ := σ) (l := l) (t := t) 40 1 with q | ⟨y, h1, h2, h3⟩
    · exact Or.inl q
    · exact Or.inr (Or.inr ⟨y, by omega, by omega, h3⟩)
set_option maxRecDepth 20000 in
theorem c_leastHush {D : zD} {B : Nat} {h : zH} {sz : Nat} {p po : Nat} {σ γ : Ln} {mk tl : Nat → Int32} {n l : Nat} {t : Int32} (hG : GuAt h p mk tl) (hγ : LnAt h (p + 1) γ) (hL : LnAt h po σ) (hB : B ≤ p) (hd : p + 12 ≤ po ∨ po + 9 ≤ p) (hbk : σ 6 0 = 0 ∨ σ 6 0 = 1) (hn : σ 0 0 = nI n) (h12 : n ≤ 12) (hl : l < 8) (htl : ∃ t, t < n ∧ σ 12 l = nI t) (hst : ∃ v, v < 4096 ∧ t = nI v)  : zM D B xX0_leastHush [.ref p, .ref po, .int (nI l), .int t] h sz (gQ h p sz ((hshA σ l t).1)) := by
  have hU : Upd h h p 12 := Upd.rf
  refine zM.of (by decide) rfl (n := 1) ?_
  show Z D B xX0_leastHush 0 0 _ 0 [some (.ref p), some (.ref po), some (.int (nI l)), some (.int t), none] [] h sz
  refine z_aload_n (pc := 0) (zk0 kX0_leastHush_0) rfl ?_
  refine z_aload_n (pc := 1) (zk1 kX0_leastHush_0) rfl ?_
  refine z_efV (pc := 2) (zk2 kX0_leastHush_0) (st := []) lkX0_30 ivX0_freshFrom hG.1 rfl rfl (c_fresh hG hγ hL (by omega) (by omega) hbk) rfl ⟨rfl, rfl⟩ rfl rfl (fun r_ h_2 z_ q_1 => ?_) rfl
  obtain ⟨er_, hR, hU_3, ez_⟩ := q_1
  rw [er_, ez_]
  clear er_ ez_
  replace hG := GuAt.fr hG hU_3 (by omega)
  replace hL := LnAt.fr hL hU_3 (by omega)
  replace hU := hU.tr hU_3 (by omega) (by omega)
  replace hγ := hR; clear hR
  show Z D B xX0_leastHush _ _ _ 5 _ [.ref (p + 1)] _ _
  refine z_pop (pc := 5) (zk3 kX0_leastHush_0) rfl ?_
  refine z_aload_n (pc := 6) (zk4 kX0_leastHush_0) rfl ?_
  refine z_iload_n (pc := 7) (zk5 kX0_leastHush_0) rfl ?_
  refine z_iload_n (pc := 8) (zk6 kX0_leastHush_0) rfl ?_
  refine z_rdV (pc := 9) (zk7 kX0_leastHush_0) (st := []) lkX0_45 ivX0_isHushed hG.1 rfl rfl (c_gHushed hG hγ hn h12 (show l < 8 by omega) htl hst) rfl ⟨rfl, rfl⟩ rfl rfl ?_ rfl
  refine z_oif_eq (pc := 12) (zk8 kX0_leastHush_0) (tgt := 17) (by decide) (fun c_4 => ?_) (fun c_4 => ?_)
  · refine z_iconst (pc := 17) (zk11 kX0_leastHush_0) (v := 1) (by decide) ?_
    refine z_istore (pc := 18) (zk12 kX0_leastHush_0) rfl rfl ?_
    show Z D B xX0_leastHush _ _ _ 20 [some (.ref p), some (.ref po), some (.int (nI l)), some (.int t), some (.int 1)] _ _ _
    have lp20 : ∀ (n_ : Nat) (g : zH) (mk1 : Nat → Int32) (tl1 : Nat → Int32) (g1 : Ln) (i : Nat), 41 - i < n_ → (1 ≤ i) → (i ≤ 41) → (hshF σ l t i (41 - i) = hshF σ l t 1 40) → (LnAt g (p + 1) g1) → (GuAt g p mk1 tl1) → (LnAt g po σ) → (Upd h g p 12) → Z D B xX0_leastHush 0 0 (gQ h p sz ((hshA σ l t).1)) 20 [some (.ref p), some (.ref po), some (.int (nI l)), some (.int t), some (.int (nI i))] [] g sz := by
      intro n_
      induction n_ with
      | zero => intro g mk1 tl1 g1 i hm_; exact absurd hm_ (Nat.not_lt_zero _)
      | succ n_ ih20 =>
        intro g mk1 tl1 g1 i hm_ h0_i hi_i ha_ hγ hG hL hU
        refine z_iload (pc := 20) (zk13 kX0_leastHush_0) rfl ?_
        refine z_bipush (pc := 22) (zk14 kX0_leastHush_0) (v := 40) (by decide) ?_
        refine z_icmp_gt (pc := 24) (zk15 kX0_leastHush_0) (tgt := 49) (by decide) (fun c_5 => ?_) (fun c_5 => ?_)
        · have hie_i : i = 41 := nI_gt_yes (a := 40) (by omega) (by omega) c_5
          refine z_iconst (pc := 49) (zk12 kX0_leastHush_1) (v := (-1)) (by decide) ?_
          exact z_iret (pc := 50) (zk13 kX0_leastHush_1) rfl (Nat.zero_le _) (Nat.zero_le _) ⟨by rw [hshA, if_neg (show ¬ hushB σ l t = true by rw [c_4]; decide), ← ha_, hshF_e hie_i], ⟨_, _, _, hG, hγ⟩, hU, rfl⟩
        · have hlt_i : i < 41 := nI_gt_not (a := 40) (by omega) c_5
          refine z_aload_n (pc := 27) (zk0 kX0_leastHush_1) rfl ?_
          refine z_aload_n (pc := 28) (zk1 kX0_leastHush_1) rfl ?_
          refine z_iload_n (pc := 29) (zk2 kX0_leastHush_1) rfl ?_
          refine z_iload_n (pc := 30) (zk3 kX0_leastHush_1) rfl ?_
          refine z_iload (pc := 31) (zk4 kX0_leastHush_1) rfl ?_
          refine z_efV (pc := 33) (zk5 kX0_leastHush_1) (st := []) lkX0_49 ivX0_hushHouse hG.1 rfl rfl (c_hushH hG hγ hL (by omega) (by omega) hbk hn h12 (show l < 8 by omega) htl hst (by omega) (by omega)) rfl ⟨rfl, rfl⟩ rfl rfl (fun r_ h_7 z_ q_6 => ?_) rfl
          obtain ⟨er_, ⟨mk_9, tl_10, γ_11, hG_, hγ_⟩, hU_8, ez_⟩ := q_6
          rw [er_, ez_]
          clear er_ ez_
          replace hL := LnAt.fr hL hU_8 (by omega)
          replace hU := hU.tr hU_8 (by omega) (by omega)
          replace hG := hG_; replace hγ := hγ_; clear hG_ hγ_
          show Z D B xX0_leastHush _ _ _ 36 _ [.int (hshW σ l t i)] _ _
          refine z_iconst (pc := 36) (zk6 kX0_leastHush_1) (v := (-1)) (by decide) ?_
          refine z_icmp_eq (pc := 37) (zk7 kX0_leastHush_1) (tgt := 43) (by decide) (fun c_12 => ?_) (fun c_12 => ?_)
          · refine z_iinc (pc := 43) (zk10 kX0_leastHush_1) (v := nI (i + 1)) rfl zinc rfl rfl ?_
            show Z D B xX0_leastHush _ _ _ 46 [some (.ref p), some (.ref po), some (.int (nI l)), some (.int t), some (.int (nI (i + 1)))] _ _ _
            refine z_goto (pc := 46) (zk11 kX0_leastHush_1) (tgt := 20) (by decide) ?_
            exact ih20 h_7 mk_9 tl_10 γ_11 (i + 1) (by omega) (by omega) (by omega) (by rw [← ha_]; exact (hshF_n hlt_i c_12).symm) hγ hG hL hU
          · refine z_iload (pc := 40) (zk8 kX0_leastHush_1) rfl ?_
            exact z_iret (pc := 42) (zk9 kX0_leastHush_1) rfl (Nat.zero_le _) (Nat.zero_le _) ⟨by rw [hshA, if_neg (show ¬ hushB σ l t = true by rw [c_4]; decide), ← ha_, hshF_h hlt_i c_12], ⟨_, _, _, hG, hγ⟩, hU, rfl⟩
    exact lp20 _ h_2 mk tl σ 1 (Nat.lt_succ_self _) (by omega) (by omega) rfl hγ hG hL hU
  · refine z_iconst (pc := 15) (zk9 kX0_leastHush_0) (v := 0) (by decide) ?_
    exact z_iret (pc := 16) (zk10 kX0_leastHush_0) rfl (Nat.zero_le _) (Nat.zero_le _) ⟨by rw [hshA, if_pos c_4], ⟨_, _, _, hG, hγ⟩, hU, rfl⟩
set_option maxRecDepth 20000 in
theorem c_fitsHeard {D : zD} {B : Nat} {h : zH} {sz : Nat} {p ps : Nat} {σ : Ln} {mk tl : Nat → Int32} {he sn : Int32} {el : Nat → Int64} {n ct l : Nat} (hG : GuAt h p mk tl) (hγ : LnAt h (p + 1) σ) (hS : ShAt h ps he sn el) (hn : σ 0 0 = nI n) (h12 : n ≤ 12) (hl : l < 8) (hq : ct ≤ n) : zRd D B xX0_fitsHeard [.ref p, .ref ps, .int (nI ct), .int (nI l)] h sz (.int (oI (sndB σ el l ct))) := by
  have hU : Upd h h p 12 := Upd.rf
  refine zM.of (by decide) rfl (n := 1) ?_
  show Z D B xX0_fitsHeard 0 0 _ 0 [some (.ref p), some (.ref ps), some (.int (nI ct)), some (.int (nI l)), none] [] h sz
  refine z_iconst (pc := 0) (zk0 kX0_fitsHeard_0) (v := 0) (by decide) ?_
  refine z_istore (pc := 1) (zk1 kX0_fitsHeard_0) rfl rfl ?_
  show Z D B xX0_fitsHeard _ _ _ 3 [some (.ref p), some (.ref ps), some (.int (nI ct)), some (.int (nI l)), some (.int 0)] _ _ _
  have lp3 : ∀ (n_ : Nat) (i : Nat), ct - i < n_ → (i ≤ ct) → (sndB σ el l i = true) → Z D B xX0_fitsHeard 0 0 (fun r h1 z1 => r = some (.int (oI (sndB σ el l ct))) ∧ h1 = h ∧ z1 = sz) 3 [some (.ref p), some (.ref ps), some (.int (nI ct)), some (.int (nI l)), some (.int (nI i))] [] h sz := by
    intro n_
    induction n_ with
    | zero => intro i hm_; exact absurd hm_ (Nat.not_lt_zero _)
    | succ n_ ih3 =>
      intro i hm_ hi_i hs_
      refine z_iload (pc := 3) (zk2 kX0_fitsHeard_0) rfl ?_
      refine z_iload_n (pc := 5) (zk3 kX0_fitsHeard_0) rfl ?_
      refine z_icmp_ge (pc := 6) (zk4 kX0_fitsHeard_0) (tgt := 39) (by decide) (fun c_1 => ?_) (fun c_1 => ?_)
      · have hie_i : i = ct := nI_ge_yes (a := ct) (by omega) (by omega) (by omega) c_1
        refine z_iconst (pc := 39) (zk5 kX0_fitsHeard_1) (v := 1) (by decide) ?_
        exact z_zret (pc := 40) (zk6 kX0_fitsHeard_1) rfl (Nat.zero_le _) (Nat.zero_le _) (by decide) ⟨by rw [← hie_i, hs_]; rfl, rfl, rfl⟩
      · have hlt_i : i < ct := nI_ge_not (a := ct) (by omega) (by omega) c_1
        refine z_aload_n (pc := 9) (zk5 kX0_fitsHeard_0) rfl ?_
        refine z_getf (pc := 10) (zk6 kX0_fitsHeard_0) flX0_12 hG.1 gGu_0 ?_
        refine z_iload_n (pc := 13) (zk7 kX0_fitsHeard_0) rfl ?_
        refine z_iload (pc := 14) (zk8 kX0_fitsHeard_0) rfl ?_
        refine z_rdV (pc := 16) (zk9 kX0_fitsHeard_0) (st := []) lkX0_65 ivX1_heardAt hγ.1 rfl rfl (c_heardAt hγ hn h12 (show l < 8 by omega) (show i < n by omega)) rfl ⟨rfl, rfl⟩ rfl rfl ?_ rfl
        refine z_i2l (pc := 19) (zk10 kX0_fitsHeard_0) ?_
        refine z_aload_n (pc := 20) (zk11 kX0_fitsHeard_0) rfl ?_
        refine z_getf (pc := 21) (zk12 kX0_fitsHeard_0) flX0_69 hS.1 gSh_2 ?_
        refine z_iload (pc := 24) (zk13 kX0_fitsHeard_0) rfl ?_
        refine z_laldN (pc := 26) (zk14 kX0_fitsHeard_0) (f := el) (j := i) hS.2 (show i < 40 by omega) rfl ?_
        refine z_lcmp (pc := 27) (zk15 kX0_fitsHeard_0) ?_
        refine z_lif_eq (pc := 28) (zk0 kX0_fitsHeard_1) (tgt := 33) (by decide) (fun c_2 => ?_) (fun c_2 => ?_)
        · refine z_iinc (pc := 33) (zk3 kX0_fitsHeard_1) (v := nI (i + 1)) rfl zinc rfl rfl ?_
          show Z D B xX0_fitsHeard _ _ _ 36 [some (.ref p), some (.ref ps), some (.int (nI ct)), some (.int (nI l)), some (.int (nI (i + 1)))] _ _ _
          refine z_goto (pc := 36) (zk4 kX0_fitsHeard_1) (tgt := 3) (by decide) ?_
          exact ih3 (i + 1) (by omega) (by omega) (by rw [sndB, hs_, decide_eq_true c_2]; rfl)
        · refine z_iconst (pc := 31) (zk1 kX0_fitsHeard_1) (v := 0) (by decide) ?_
          exact z_zret (pc := 32) (zk2 kX0_fitsHeard_1) rfl (Nat.zero_le _) (Nat.zero_le _) (by decide) ⟨by rw [sndB_f c_2 hlt_i]; rfl, rfl, rfl⟩
  exact lp3 _ 0 (Nat.lt_succ_self _) (by omega) rfl
theorem wndB_n {σ : Ln} {e : Nat → Int64} {k j q : Nat} (c : ¬ (heardF σ j k).toInt64 = e j) (h : j < q) : wndB σ e k q = false :=
  wndB_f (j := j + 1) (by rw [wndB, decide_eq_false c, Bool.and_false]) (by omega)
set_option maxRecDepth 20000 in
theorem c_fitsHouse {D : zD} {B : Nat} {h : zH} {sz : Nat} {p ps : Nat} {σ : Ln} {mk tl : Nat → Int32} {he sn : Int32} {el : Nat → Int64} {n ct k : Nat} (hG : GuAt h p mk tl) (hγ : LnAt h (p + 1) σ) (hS : ShAt h ps he sn el) (hn : σ 0 0 = nI n) (h12 : n ≤ 12) (hk : k < n) (hq : ct ≤ 8) : zRd D B xX0_fitsHouse [.ref p, .ref ps, .int (nI ct), .int (nI k)] h sz (.int (oI (wndB σ el k ct))) := by
  have hU : Upd h h p 12 := Upd.rf
  refine zM.of (by decide) rfl (n := 1) ?_
  show Z D B xX0_fitsHouse 0 0 _ 0 [some (.ref p), some (.ref ps), some (.int (nI ct)), some (.int (nI k)), none] [] h sz
  refine z_iconst (pc := 0) (zk0 kX0_fitsHouse_0) (v := 0) (by decide) ?_
  refine z_istore (pc := 1) (zk1 kX0_fitsHouse_0) rfl rfl ?_
  show Z D B xX0_fitsHouse _ _ _ 3 [some (.ref p), some (.ref ps), some (.int (nI ct)), some (.int (nI k)), some (.int 0)] _ _ _
  have lp3 : ∀ (n_ : Nat) (i : Nat), ct - i < n_ → (i ≤ ct) → (wndB σ el k i = true) → Z D B xX0_fitsHouse 0 0 (fun r h1 z1 => r = some (.int (oI (wndB σ el k ct))) ∧ h1 = h ∧ z1 = sz) 3 [some (.ref p), some (.ref ps), some (.int (nI ct)), some (.int (nI k)), some (.int (nI i))] [] h sz := by
    intro n_
    induction n_ with
    | zero => intro i hm_; exact absurd hm_ (Nat.not_lt_zero _)
    | succ n_ ih3 =>
      intro i hm_ hi_i hs_
      refine z_iload (pc := 3) (zk2 kX0_fitsHouse_0) rfl ?_
      refine z_iload_n (pc := 5) (zk3 kX0_fitsHouse_0) rfl ?_
      refine z_icmp_ge (pc := 6) (zk4 kX0_fitsHouse_0) (tgt := 39) (by decide) (fun c_1 => ?_) (fun c_1 => ?_)
      · have hie_i : i = ct := nI_ge_yes (a := ct) (by omega) (by omega) (by omega) c_1
        refine z_iconst (pc := 39) (zk5 kX0_fitsHouse_1) (v := 1) (by decide) ?_
        exact z_zret (pc := 40) (zk6 kX0_fitsHouse_1) rfl (Nat.zero_le _) (Nat.zero_le _) (by decide) ⟨by rw [← hie_i, hs_]; rfl, rfl, rfl⟩
      · have hlt_i : i < ct := nI_ge_not (a := ct) (by omega) (by omega) c_1
        refine z_aload_n (pc := 9) (zk5 kX0_fitsHouse_0) rfl ?_
        refine z_getf (pc := 10) (zk6 kX0_fitsHouse_0) flX0_12 hG.1 gGu_0 ?_
        refine z_iload (pc := 13) (zk7 kX0_fitsHouse_0) rfl ?_
        refine z_iload_n (pc := 15) (zk8 kX0_fitsHouse_0) rfl ?_
        refine z_rdV (pc := 16) (zk9 kX0_fitsHouse_0) (st := []) lkX0_65 ivX1_heardAt hγ.1 rfl rfl (c_heardAt hγ hn h12 (show i < 8 by omega) (show k < n by omega)) rfl ⟨rfl, rfl⟩ rfl rfl ?_ rfl
        refine z_i2l (pc := 19) (zk10 kX0_fitsHouse_0) ?_
        refine z_aload_n (pc := 20) (zk11 kX0_fitsHouse_0) rfl ?_
        refine z_getf (pc := 21) (zk12 kX0_fitsHouse_0) flX0_69 hS.1 gSh_2 ?_
        refine z_iload (pc := 24) (zk13 kX0_fitsHouse_0) rfl ?_
        refine z_laldN (pc := 26) (zk14 kX0_fitsHouse_0) (f := el) (j := i) hS.2 (show i < 40 by omega) rfl ?_
        refine z_lcmp (pc := 27) (zk15 kX0_fitsHouse_0) ?_
        refine z_lif_eq (pc := 28) (zk0 kX0_fitsHouse_1) (tgt := 33) (by decide) (fun c_2 => ?_) (fun c_2 => ?_)
        · refine z_iinc (pc := 33) (zk3 kX0_fitsHouse_1) (v := nI (i + 1)) rfl zinc rfl rfl ?_
          show Z D B xX0_fitsHouse _ _ _ 36 [some (.ref p), some (.ref ps), some (.int (nI ct)), some (.int (nI k)), some (.int (nI (i + 1)))] _ _ _
          refine z_goto (pc := 36) (zk4 kX0_fitsHouse_1) (tgt := 3) (by decide) ?_
          exact ih3 (i + 1) (by omega) (by omega) (by rw [wndB, hs_, decide_eq_true c_2]; rfl)
        · refine z_iconst (pc := 31) (zk1 kX0_fitsHouse_1) (v := 0) (by decide) ?_
          exact z_zret (pc := 32) (zk2 kX0_fitsHouse_1) rfl (Nat.zero_le _) (Nat.zero_le _) (by decide) ⟨by rw [wndB_n c_2 hlt_i]; rfl, rfl, rfl⟩
  exact lp3 _ 0 (Nat.lt_succ_self _) (by omega) rfl
set_option maxRecDepth 20000 in
theorem c_kinds {D : zD} {B : Nat} {h : zH} {sz : Nat} {p po : Nat} {σ γ : Ln} {mk tl : Nat → Int32} {ps : Nat} {he sn : Int32} {el : Nat → Int64} {n ct l : Nat} (hG : GuAt h p mk tl) (hγ : LnAt h (p + 1) γ) (hL : LnAt h po σ) (hB : B ≤ p) (hd : p + 12 ≤ po ∨ po + 9 ≤ p) (hbk : σ 6 0 = 0 ∨ σ 6 0 = 1) (hS : ShAt h ps he sn el) (hds : p + 12 ≤ ps ∨ ps + 2 ≤ p) (hn : σ 0 0 = nI n) (h12 : n ≤ 12) (hl : l < 8) (hq : ct ≤ n) : zM D B xX0_fittingKinds [.ref p, .ref po, .ref ps, .int (nI ct), .int (nI l)] h sz (gQ h p sz (bitsI (fun k => sndB (up2 σ 10 l (nI k)) el l ct) 6)) := by
  have hU : Upd h h p 12 := Upd.rf
  refine zM.of (by decide) rfl (n := 2) ?_
  show Z D B xX0_fittingKinds 0 0 _ 0 [some (.ref p), some (.ref po), some (.ref ps), some (.int (nI ct)), some (.int (nI l)), none, none] [] h sz
  refine z_aload_n (pc := 0) (zk0 kX0_fittingKinds_0) rfl ?_
  refine z_aload_n (pc := 1) (zk1 kX0_fittingKinds_0) rfl ?_
  refine z_efV (pc := 2) (zk2 kX0_fittingKinds_0) (st := []) lkX0_30 ivX0_freshFrom hG.1 rfl rfl (c_fresh hG hγ hL (by omega) (by omega) hbk) rfl ⟨rfl, rfl⟩ rfl rfl (fun r_ h_2 z_ q_1 => ?_) rfl
  obtain ⟨er_, hR, hU_3, ez_⟩ := q_1
  rw [er_, ez_]
  clear er_ ez_
  replace hG := GuAt.fr hG hU_3 (by omega)
  replace hL := LnAt.fr hL hU_3 (by omega)
  replace hS := ShAt.fr hS hU_3 (by omega)
  replace hU := hU.tr hU_3 (by omega) (by omega)
  replace hγ := hR; clear hR
  show Z D B xX0_fittingKinds _ _ _ 5 _ [.ref (p + 1)] _ _
  refine z_pop (pc := 5) (zk3 kX0_fittingKinds_0) rfl ?_
  refine z_iconst (pc := 6) (zk4 kX0_fittingKinds_0) (v := 0) (by decide) ?_
  refine z_istore (pc := 7) (zk5 kX0_fittingKinds_0) rfl rfl ?_
  show Z D B xX0_fittingKinds _ _ _ 9 [some (.ref p), some (.ref po), some (.ref ps), some (.int (nI ct)), some (.int (nI l)), some (.int 0), none] _ _ _
  refine z_iconst (pc := 9) (zk6 kX0_fittingKinds_0) (v := 0) (by decide) ?_
  refine z_istore (pc := 10) (zk7 kX0_fittingKinds_0) rfl rfl ?_
  show Z D B xX0_fittingKinds _ _ _ 12 [some (.ref p), some (.ref po), some (.ref ps), some (.int (nI ct)), some (.int (nI l)), some (.int 0), some (.int 0)] _ _ _
  have lp12 : ∀ (n_ : Nat) (g : zH) (q : Int32) (b : Int32) (i : Nat), 6 - i < n_ → (i ≤ 6) → (b = bitsI (fun k => sndB (up2 σ 10 l (nI k)) el l ct) i) → (LnAt g (p + 1) (up2 σ 10 l q)) → (GuAt g p mk tl) → (LnAt g po σ) → (Upd h g p 12) → (ShAt g ps he sn el) → Z D B xX0_fittingKinds 0 0 (gQ h p sz (bitsI (fun k => sndB (up2 σ 10 l (nI k)) el l ct) 6)) 12 [some (.ref p), some (.ref po), some (.ref ps), some (.int (nI ct)), some (.int (nI l)), some (.int b), some (.int (nI i))] [] g sz := by
    intro n_
    induction n_ with
    | zero => intro g q b i hm_; exact absurd hm_ (Nat.not_lt_zero _)
    | succ n_ ih12 =>
      intro g q b i hm_ hi_i hb_ hγ hG hL hU hS
      refine z_iload (pc := 12) (zk8 kX0_fittingKinds_0) rfl ?_
      refine z_iconst (pc := 14) (zk9 kX0_fittingKinds_0) (v := 5) (by decide) ?_
      refine z_icmp_gt (pc := 15) (zk10 kX0_fittingKinds_0) (tgt := 56) (by decide) (fun c_4 => ?_) (fun c_4 => ?_)
      · have hie_i : i = 6 := nI_gt_yes (a := 5) (by omega) (by omega) c_4
        refine z_iload (pc := 56) (zk15 kX0_fittingKinds_1) rfl ?_
        exact z_iret (pc := 58) (zk0 kX0_fittingKinds_2) rfl (Nat.zero_le _) (Nat.zero_le _) ⟨by rw [hb_, hie_i], ⟨_, _, _, hG, hγ⟩, hU, rfl⟩
      · have hlt_i : i < 6 := nI_gt_not (a := 5) (by omega) c_4
        refine z_aload_n (pc := 18) (zk11 kX0_fittingKinds_0) rfl ?_
        refine z_getf (pc := 19) (zk12 kX0_fittingKinds_0) flX0_12 hG.1 gGu_0 ?_
        refine z_getf (pc := 22) (zk13 kX0_fittingKinds_0) flX0_56 hγ.1 gLn_10 ?_
        refine z_iload (pc := 25) (zk14 kX0_fittingKinds_0) rfl ?_
        refine z_iload (pc := 27) (zk15 kX0_fittingKinds_0) rfl ?_
        refine z_Ln_s5 (pc := 29) (zk0 kX0_fittingKinds_1) (j := l) hγ (by omega) (show l < 8 by omega) (fun h_5 hR hU_6 => ?_)
        replace hG := GuAt.fr hG hU_6 (by omega)
        replace hL := LnAt.fr hL hU_6 (by omega)
        replace hS := ShAt.fr hS hU_6 (by omega)
        replace hU := hU.tr hU_6 (by omega) (by omega)
        replace hγ := hR; clear hR
        rw [up2_up2] at hγ
        refine z_aload_n (pc := 30) (zk1 kX0_fittingKinds_1) rfl ?_
        refine z_aload_n (pc := 31) (zk2 kX0_fittingKinds_1) rfl ?_
        refine z_iload_n (pc := 32) (zk3 kX0_fittingKinds_1) rfl ?_
        refine z_iload (pc := 33) (zk4 kX0_fittingKinds_1) rfl ?_
        refine z_rdV (pc := 35) (zk5 kX0_fittingKinds_1) (st := []) lkX0_75 ivX0_fitsHeard hG.1 rfl rfl (c_fitsHeard hG hγ hS hn h12 (show l < 8 by omega) (by omega)) rfl ⟨rfl, rfl⟩ rfl rfl ?_ rfl
        refine z_oif_eq (pc := 38) (zk6 kX0_fittingKinds_1) (tgt := 50) (by decide) (fun c_7 => ?_) (fun c_7 => ?_)
        · refine z_iinc (pc := 50) (zk13 kX0_fittingKinds_1) (v := nI (i + 1)) rfl zinc rfl rfl ?_
          show Z D B xX0_fittingKinds _ _ _ 53 [some (.ref p), some (.ref po), some (.ref ps), some (.int (nI ct)), some (.int (nI l)), some (.int b), some (.int (nI (i + 1)))] _ _ _
          refine z_goto (pc := 53) (zk14 kX0_fittingKinds_1) (tgt := 12) (by decide) ?_
          exact ih12 h_5 (nI i) b (i + 1) (by omega) (by omega) (by rw [hb_]; exact (bitsI_f (p := (fun k => sndB (up2 σ 10 l (nI k)) el l ct)) c_7).symm) hγ hG hL hU hS
        · refine z_iload (pc := 41) (zk7 kX0_fittingKinds_1) rfl ?_
          refine z_iconst (pc := 43) (zk8 kX0_fittingKinds_1) (v := 1) (by decide) ?_
          refine z_iload (pc := 44) (zk9 kX0_fittingKinds_1) rfl ?_
          refine z_ishl (pc := 46) (zk10 kX0_fittingKinds_1) ?_
          refine z_ior (pc := 47) (zk11 kX0_fittingKinds_1) ?_
          refine z_istore (pc := 48) (zk12 kX0_fittingKinds_1) rfl rfl ?_
          show Z D B xX0_fittingKinds _ _ _ 50 [some (.ref p), some (.ref po), some (.ref ps), some (.int (nI ct)), some (.int (nI l)), some (.int (b ||| (1 <<< ((nI i) &&& 31)))), some (.int (nI i))] _ _ _
          refine z_iinc (pc := 50) (zk13 kX0_fittingKinds_1) (v := nI (i + 1)) rfl zinc rfl rfl ?_
          show Z D B xX0_fittingKinds _ _ _ 53 [some (.ref p), some (.ref po), some (.ref ps), some (.int (nI ct)), some (.int (nI l)), some (.int (b ||| (1 <<< ((nI i) &&& 31)))), some (.int (nI (i + 1)))] _ _ _
          refine z_goto (pc := 53) (zk14 kX0_fittingKinds_1) (tgt := 12) (by decide) ?_
          exact ih12 h_5 (nI i) (b ||| (1 <<< ((nI i) &&& 31))) (i + 1) (by omega) (by omega) (by rw [hb_]; exact (bitsI_t (p := (fun k => sndB (up2 σ 10 l (nI k)) el l ct)) c_7).symm) hγ hG hL hU hS
  exact lp12 _ h_2 (σ 10 l) 0 0 (Nat.lt_succ_self _) (by omega) rfl (by rw [up2_id]; exact hγ) hG hL hU hS
set_option maxRecDepth 20000 in
theorem c_tos {D : zD} {B : Nat} {h : zH} {sz : Nat} {p po : Nat} {σ γ : Ln} {mk tl : Nat → Int32} {ps : Nat} {he sn : Int32} {el : Nat → Int64} {n ct l : Nat} (hG : GuAt h p mk tl) (hγ : LnAt h (p + 1) γ) (hL : LnAt h po σ) (hB : B ≤ p) (hd : p + 12 ≤ po ∨ po + 9 ≤ p) (hbk : σ 6 0 = 0 ∨ σ 6 0 = 1) (hS : ShAt h ps he sn el) (hds : p + 12 ≤ ps ∨ ps + 2 ≤ p) (hn : σ 0 0 = nI n) (h12 : n ≤ 12) (hl : l < 8) (hq : ct ≤ n) : zM D B xX0_fittingTos [.ref p, .ref po, .ref ps, .int (nI ct), .int (nI l)] h sz (gQ h p sz (bitsI (fun k => sndB (up2 σ 12 l (nI k)) el l ct) (hsN σ))) := by
  have hU : Upd h h p 12 := Upd.rf
  refine zM.of (by decide) rfl (n := 2) ?_
  show Z D B xX0_fittingTos 0 0 _ 0 [some (.ref p), some (.ref po), some (.ref ps), some (.int (nI ct)), some (.int (nI l)), none, none] [] h sz
  refine z_aload_n (pc := 0) (zk0 kX0_fittingTos_0) rfl ?_
  refine z_aload_n (pc := 1) (zk1 kX0_fittingTos_0) rfl ?_
  refine z_efV (pc := 2) (zk2 kX0_fittingTos_0) (st := []) lkX0_30 ivX0_freshFrom hG.1 rfl rfl (c_fresh hG hγ hL (by omega) (by omega) hbk) rfl ⟨rfl, rfl⟩ rfl rfl (fun r_ h_2 z_ q_1 => ?_) rfl
  obtain ⟨er_, hR, hU_3, ez_⟩ := q_1
  rw [er_, ez_]
  clear er_ ez_
  replace hG := GuAt.fr hG hU_3 (by omega)
  replace hL := LnAt.fr hL hU_3 (by omega)
  replace hS := ShAt.fr hS hU_3 (by omega)
  replace hU := hU.tr hU_3 (by omega) (by omega)
  replace hγ := hR; clear hR
  show Z D B xX0_fittingTos _ _ _ 5 _ [.ref (p + 1)] _ _
  refine z_pop (pc := 5) (zk3 kX0_fittingTos_0) rfl ?_
  refine z_iconst (pc := 6) (zk4 kX0_fittingTos_0) (v := 0) (by decide) ?_
  refine z_istore (pc := 7) (zk5 kX0_fittingTos_0) rfl rfl ?_
  show Z D B xX0_fittingTos _ _ _ 9 [some (.ref p), some (.ref po), some (.ref ps), some (.int (nI ct)), some (.int (nI l)), some (.int 0), none] _ _ _
  refine z_iconst (pc := 9) (zk6 kX0_fittingTos_0) (v := 0) (by decide) ?_
  refine z_istore (pc := 10) (zk7 kX0_fittingTos_0) rfl rfl ?_
  show Z D B xX0_fittingTos _ _ _ 12 [some (.ref p), some (.ref po), some (.ref ps), some (.int (nI ct)), some (.int (nI l)), some (.int 0), some (.int 0)] _ _ _
  have lp12 : ∀ (n_ : Nat) (g : zH) (q : Int32) (b : Int32) (i : Nat), n - i < n_ → (i ≤ n) → (b = bitsI (fun k => sndB (up2 σ 12 l (nI k)) el l ct) i) → (LnAt g (p + 1) (up2 σ 12 l q)) → (GuAt g p mk tl) → (LnAt g po σ) → (Upd h g p 12) → (ShAt g ps he sn el) → Z D B xX0_fittingTos 0 0 (gQ h p sz (bitsI (fun k => sndB (up2 σ 12 l (nI k)) el l ct) (hsN σ))) 12 [some (.ref p), some (.ref po), some (.ref ps), some (.int (nI ct)), some (.int (nI l)), some (.int b), some (.int (nI i))] [] g sz := by
    intro n_
    induction n_ with
    | zero => intro g q b i hm_; exact absurd hm_ (Nat.not_lt_zero _)
    | succ n_ ih12 =>
      intro g q b i hm_ hi_i hb_ hγ hG hL hU hS
      refine z_iload (pc := 12) (zk8 kX0_fittingTos_0) rfl ?_
      refine z_aload_n (pc := 14) (zk9 kX0_fittingTos_0) rfl ?_
      refine z_getf (pc := 15) (zk10 kX0_fittingTos_0) flX0_12 hG.1 gGu_0 ?_
      refine z_getf (pc := 18) (zk11 kX0_fittingTos_0) flX0_34 hγ.1 (v := .int (nI n)) (by rw [← hn]; rfl) ?_
      refine z_icmp_ge (pc := 21) (zk12 kX0_fittingTos_0) (tgt := 62) (by decide) (fun c_4 => ?_) (fun c_4 => ?_)
      · have hie_i : i = n := nI_ge_yes (a := n) (by omega) (by omega) (by omega) c_4
        refine z_iload (pc := 62) (zk1 kX0_fittingTos_2) rfl ?_
        exact z_iret (pc := 64) (zk2 kX0_fittingTos_2) rfl (Nat.zero_le _) (Nat.zero_le _) ⟨by rw [hb_, hie_i, hsN_eq hn h12], ⟨_, _, _, hG, hγ⟩, hU, rfl⟩
      · have hlt_i : i < n := nI_ge_not (a := n) (by omega) (by omega) c_4
        refine z_aload_n (pc := 24) (zk13 kX0_fittingTos_0) rfl ?_
        refine z_getf (pc := 25) (zk14 kX0_fittingTos_0) flX0_12 hG.1 gGu_0 ?_
        refine z_getf (pc := 28) (zk15 kX0_fittingTos_0) flX0_38 hγ.1 gLn_12 ?_
        refine z_iload (pc := 31) (zk0 kX0_fittingTos_1) rfl ?_
        refine z_iload (pc := 33) (zk1 kX0_fittingTos_1) rfl ?_
        refine z_Ln_s7 (pc := 35) (zk2 kX0_fittingTos_1) (j := l) hγ (by omega) (show l < 8 by omega) (fun h_5 hR hU_6 => ?_)
        replace hG := GuAt.fr hG hU_6 (by omega)
        replace hL := LnAt.fr hL hU_6 (by omega)
        replace hS := ShAt.fr hS hU_6 (by omega)
        replace hU := hU.tr hU_6 (by omega) (by omega)
        replace hγ := hR; clear hR
        rw [up2_up2] at hγ
        refine z_aload_n (pc := 36) (zk3 kX0_fittingTos_1) rfl ?_
        refine z_aload_n (pc := 37) (zk4 kX0_fittingTos_1) rfl ?_
        refine z_iload_n (pc := 38) (zk5 kX0_fittingTos_1) rfl ?_
        refine z_iload (pc := 39) (zk6 kX0_fittingTos_1) rfl ?_
        refine z_rdV (pc := 41) (zk7 kX0_fittingTos_1) (st := []) lkX0_75 ivX0_fitsHeard hG.1 rfl rfl (c_fitsHeard hG hγ hS hn h12 (show l < 8 by omega) (by omega)) rfl ⟨rfl, rfl⟩ rfl rfl ?_ rfl
        refine z_oif_eq (pc := 44) (zk8 kX0_fittingTos_1) (tgt := 56) (by decide) (fun c_7 => ?_) (fun c_7 => ?_)
        · refine z_iinc (pc := 56) (zk15 kX0_fittingTos_1) (v := nI (i + 1)) rfl zinc rfl rfl ?_
          show Z D B xX0_fittingTos _ _ _ 59 [some (.ref p), some (.ref po), some (.ref ps), some (.int (nI ct)), some (.int (nI l)), some (.int b), some (.int (nI (i + 1)))] _ _ _
          refine z_goto (pc := 59) (zk0 kX0_fittingTos_2) (tgt := 12) (by decide) ?_
          exact ih12 h_5 (nI i) b (i + 1) (by omega) (by omega) (by rw [hb_]; exact (bitsI_f (p := (fun k => sndB (up2 σ 12 l (nI k)) el l ct)) c_7).symm) hγ hG hL hU hS
        · refine z_iload (pc := 47) (zk9 kX0_fittingTos_1) rfl ?_
          refine z_iconst (pc := 49) (zk10 kX0_fittingTos_1) (v := 1) (by decide) ?_
          refine z_iload (pc := 50) (zk11 kX0_fittingTos_1) rfl ?_
          refine z_ishl (pc := 52) (zk12 kX0_fittingTos_1) ?_
          refine z_ior (pc := 53) (zk13 kX0_fittingTos_1) ?_
          refine z_istore (pc := 54) (zk14 kX0_fittingTos_1) rfl rfl ?_
          show Z D B xX0_fittingTos _ _ _ 56 [some (.ref p), some (.ref po), some (.ref ps), some (.int (nI ct)), some (.int (nI l)), some (.int (b ||| (1 <<< ((nI i) &&& 31)))), some (.int (nI i))] _ _ _
          refine z_iinc (pc := 56) (zk15 kX0_fittingTos_1) (v := nI (i + 1)) rfl zinc rfl rfl ?_
          show Z D B xX0_fittingTos _ _ _ 59 [some (.ref p), some (.ref po), some (.ref ps), some (.int (nI ct)), some (.int (nI l)), some (.int (b ||| (1 <<< ((nI i) &&& 31)))), some (.int (nI (i + 1)))] _ _ _
          refine z_goto (pc := 59) (zk0 kX0_fittingTos_2) (tgt := 12) (by decide) ?_
          exact ih12 h_5 (nI i) (b ||| (1 <<< ((nI i) &&& 31))) (i + 1) (by omega) (by omega) (by rw [hb_]; exact (bitsI_t (p := (fun k => sndB (up2 σ 12 l (nI k)) el l ct)) c_7).symm) hγ hG hL hU hS
  exact lp12 _ h_2 (σ 12 l) 0 0 (Nat.lt_succ_self _) (by omega) rfl (by rw [up2_id]; exact hγ) hG hL hU hS
set_option maxRecDepth 20000 in
theorem c_winds {D : zD} {B : Nat} {h : zH} {sz : Nat} {p po : Nat} {σ γ : Ln} {mk tl : Nat → Int32} {ps : Nat} {he sn : Int32} {el : Nat → Int64} {n ct c : Nat} (hG : GuAt h p mk tl) (hγ : LnAt h (p + 1) γ) (hL : LnAt h po σ) (hB : B ≤ p) (hd : p + 12 ≤ po ∨ po + 9 ≤ p) (hbk : σ 6 0 = 0 ∨ σ 6 0 = 1) (hS : ShAt h ps he sn el) (hds : p + 12 ≤ ps ∨ ps + 2 ≤ p) (hn : σ 0 0 = nI n) (h12 : n ≤ 12) (hk : c < n) (hq : ct ≤ 8) : zM D B xX0_fittingWinds [.ref p, .ref po, .ref ps, .int (nI ct), .int (nI c)] h sz (gQ h p sz (bitsI (fun k => wndB (up2 σ 1 c (nI k)) el c ct) 10)) := by
  have hU : Upd h h p 12 := Upd.rf
  refine zM.of (by decide) rfl (n := 2) ?_
  show Z D B xX0_fittingWinds 0 0 _ 0 [some (.ref p), some (.ref po), some (.ref ps), some (.int (nI ct)), some (.int (nI c)), none, none] [] h sz
  refine z_aload_n (pc := 0) (zk0 kX0_fittingWinds_0) rfl ?_
  refine z_aload_n (pc := 1) (zk1 kX0_fittingWinds_0) rfl ?_
  refine z_efV (pc := 2) (zk2 kX0_fittingWinds_0) (st := []) lkX0_30 ivX0_freshFrom hG.1 rfl rfl (c_fresh hG hγ hL (by omega) (by omega) hbk) rfl ⟨rfl, rfl⟩ rfl rfl (fun r_ h_2 z_ q_1 => ?_) rfl
  obtain ⟨er_, hR, hU_3, ez_⟩ := q_1
  rw [er_, ez_]
  clear er_ ez_
  replace hG := GuAt.fr hG hU_3 (by omega)
  replace hL := LnAt.fr hL hU_3 (by omega)
  replace hS := ShAt.fr hS hU_3 (by omega)
  replace hU := hU.tr hU_3 (by omega) (by omega)
  replace hγ := hR; clear hR
  show Z D B xX0_fittingWinds _ _ _ 5 _ [.ref (p + 1)] _ _
  refine z_pop (pc := 5) (zk3 kX0_fittingWinds_0) rfl ?_
  refine z_iconst (pc := 6) (zk4 kX0_fittingWinds_0) (v := 0) (by decide) ?_
  refine z_istore (pc := 7) (zk5 kX0_fittingWinds_0) rfl rfl ?_
  show Z D B xX0_fittingWinds _ _ _ 9 [some (.ref p), some (.ref po), some (.ref ps), some (.int (nI ct)), some (.int (nI c)), some (.int 0), none] _ _ _
  refine z_iconst (pc := 9) (zk6 kX0_fittingWinds_0) (v := 0) (by decide) ?_
  refine z_istore (pc := 10) (zk7 kX0_fittingWinds_0) rfl rfl ?_
  show Z D B xX0_fittingWinds _ _ _ 12 [some (.ref p), some (.ref po), some (.ref ps), some (.int (nI ct)), some (.int (nI c)), some (.int 0), some (.int 0)] _ _ _
  have lp12 : ∀ (n_ : Nat) (g : zH) (q : Int32) (b : Int32) (i : Nat), 10 - i < n_ → (i ≤ 10) → (b = bitsI (fun k => wndB (up2 σ 1 c (nI k)) el c ct) i) → (LnAt g (p + 1) (up2 σ 1 c q)) → (GuAt g p mk tl) → (LnAt g po σ) → (Upd h g p 12) → (ShAt g ps he sn el) → Z D B xX0_fittingWinds 0 0 (gQ h p sz (bitsI (fun k => wndB (up2 σ 1 c (nI k)) el c ct) 10)) 12 [some (.ref p), some (.ref po), some (.ref ps), some (.int (nI ct)), some (.int (nI c)), some (.int b), some (.int (nI i))] [] g sz := by
    intro n_
    induction n_ with
    | zero => intro g q b i hm_; exact absurd hm_ (Nat.not_lt_zero _)
    | succ n_ ih12 =>
      intro g q b i hm_ hi_i hb_ hγ hG hL hU hS
      refine z_iload (pc := 12) (zk8 kX0_fittingWinds_0) rfl ?_
      refine z_bipush (pc := 14) (zk9 kX0_fittingWinds_0) (v := 9) (by decide) ?_
      refine z_icmp_gt (pc := 16) (zk10 kX0_fittingWinds_0) (tgt := 57) (by decide) (fun c_4 => ?_) (fun c_4 => ?_)
      · have hie_i : i = 10 := nI_gt_yes (a := 9) (by omega) (by omega) c_4
        refine z_iload (pc := 57) (zk15 kX0_fittingWinds_1) rfl ?_
        exact z_iret (pc := 59) (zk0 kX0_fittingWinds_2) rfl (Nat.zero_le _) (Nat.zero_le _) ⟨by rw [hb_, hie_i], ⟨_, _, _, hG, hγ⟩, hU, rfl⟩
      · have hlt_i : i < 10 := nI_gt_not (a := 9) (by omega) c_4
        refine z_aload_n (pc := 19) (zk11 kX0_fittingWinds_0) rfl ?_
        refine z_getf (pc := 20) (zk12 kX0_fittingWinds_0) flX0_12 hG.1 gGu_0 ?_
        refine z_getf (pc := 23) (zk13 kX0_fittingWinds_0) flX0_91 hγ.1 gLn_1 ?_
        refine z_iload (pc := 26) (zk14 kX0_fittingWinds_0) rfl ?_
        refine z_iload (pc := 28) (zk15 kX0_fittingWinds_0) rfl ?_
        refine z_Ln_s1 (pc := 30) (zk0 kX0_fittingWinds_1) (j := c) hγ (by omega) (show c < 12 by omega) (fun h_5 hR hU_6 => ?_)
        replace hG := GuAt.fr hG hU_6 (by omega)
        replace hL := LnAt.fr hL hU_6 (by omega)
        replace hS := ShAt.fr hS hU_6 (by omega)
        replace hU := hU.tr hU_6 (by omega) (by omega)
        replace hγ := hR; clear hR
        rw [up2_up2] at hγ
        refine z_aload_n (pc := 31) (zk1 kX0_fittingWinds_1) rfl ?_
        refine z_aload_n (pc := 32) (zk2 kX0_fittingWinds_1) rfl ?_
        refine z_iload_n (pc := 33) (zk3 kX0_fittingWinds_1) rfl ?_
        refine z_iload (pc := 34) (zk4 kX0_fittingWinds_1) rfl ?_
        refine z_rdV (pc := 36) (zk5 kX0_fittingWinds_1) (st := []) lkX0_94 ivX0_fitsHouse hG.1 rfl rfl (c_fitsHouse hG hγ hS hn h12 (show c < n by omega) (by omega)) rfl ⟨rfl, rfl⟩ rfl rfl ?_ rfl
        refine z_oif_eq (pc := 39) (zk6 kX0_fittingWinds_1) (tgt := 51) (by decide) (fun c_7 => ?_) (fun c_7 => ?_)
        · refine z_iinc (pc := 51) (zk13 kX0_fittingWinds_1) (v := nI (i + 1)) rfl zinc rfl rfl ?_
          show Z D B xX0_fittingWinds _ _ _ 54 [some (.ref p), some (.ref po), some (.ref ps), some (.int (nI ct)), some (.int (nI c)), some (.int b), some (.int (nI (i + 1)))] _ _ _
          refine z_goto (pc := 54) (zk14 kX0_fittingWinds_1) (tgt := 12) (by decide) ?_
          exact ih12 h_5 (nI i) b (i + 1) (by omega) (by omega) (by rw [hb_]; exact (bitsI_f (p := (fun k => wndB (up2 σ 1 c (nI k)) el c ct)) c_7).symm) hγ hG hL hU hS
        · refine z_iload (pc := 42) (zk7 kX0_fittingWinds_1) rfl ?_
          refine z_iconst (pc := 44) (zk8 kX0_fittingWinds_1) (v := 1) (by decide) ?_
          refine z_iload (pc := 45) (zk9 kX0_fittingWinds_1) rfl ?_
          refine z_ishl (pc := 47) (zk10 kX0_fittingWinds_1) ?_
          refine z_ior (pc := 48) (zk11 kX0_fittingWinds_1) ?_
          refine z_istore (pc := 49) (zk12 kX0_fittingWinds_1) rfl rfl ?_
          show Z D B xX0_fittingWinds _ _ _ 51 [some (.ref p), some (.ref po), some (.ref ps), some (.int (nI ct)), some (.int (nI c)), some (.int (b ||| (1 <<< ((nI i) &&& 31)))), some (.int (nI i))] _ _ _
          refine z_iinc (pc := 51) (zk13 kX0_fittingWinds_1) (v := nI (i + 1)) rfl zinc rfl rfl ?_
          show Z D B xX0_fittingWinds _ _ _ 54 [some (.ref p), some (.ref po), some (.ref ps), some (.int (nI ct)), some (.int (nI c)), some (.int (b ||| (1 <<< ((nI i) &&& 31)))), some (.int (nI (i + 1)))] _ _ _
          refine z_goto (pc := 54) (zk14 kX0_fittingWinds_1) (tgt := 12) (by decide) ?_
          exact ih12 h_5 (nI i) (b ||| (1 <<< ((nI i) &&& 31))) (i + 1) (by omega) (by omega) (by rw [hb_]; exact (bitsI_t (p := (fun k => wndB (up2 σ 1 c (nI k)) el c ct)) c_7).symm) hγ hG hL hU hS
  exact lp12 _ h_2 (σ 1 c) 0 0 (Nat.lt_succ_self _) (by omega) rfl (by rw [up2_id]; exact hγ) hG hL hU hS
