/-! ===== Guess ===== -/
abbrev gQ (h : zH) (p sz : Nat) (v : Int32) : zQ := fun r h1 z1 => r = some (.int v) ∧ (∃ mk tl γ, GuAt h1 p mk tl ∧ LnAt h1 (p + 1) γ) ∧ Upd h h1 p 12 ∧ z1 = sz
theorem lstD_n {p : Nat → Bool} {n i : Nat} (h : i < n) (c : p i = false) : lstD p i (n - i) = lstD p (i + 1) (n - (i + 1)) := by
  rw [show n - i = (n - (i + 1)) + 1 by omega, lstD, c]; rfl
theorem lstD_h {p : Nat → Bool} {n i : Nat} (h : i < n) (c : p i = true) : lstD p i (n - i) = nI i := by
  rw [show n - i = (n - (i + 1)) + 1 by omega, lstD, if_pos c]
theorem lstD_e {p : Nat → Bool} {n i : Nat} (h : i = n) : lstD p i (n - i) = -1 := by
  rw [h, Nat.sub_self]; rfl
set_option maxRecDepth 20000 in
theorem c_fresh {D : zD} {B : Nat} {h : zH} {sz : Nat} {p po : Nat} {σ γ : Ln} {mk tl : Nat → Int32} (hG : GuAt h p mk tl) (hγ : LnAt h (p + 1) γ) (hL : LnAt h po σ) (hB : B ≤ p) (hd : p + 12 ≤ po ∨ po + 9 ≤ p) (hbk : σ 6 0 = 0 ∨ σ 6 0 = 1) : zM D B xX0_freshFrom [.ref p, .ref po] h sz (fun r h1 z1 => r = some (.ref (p + 1)) ∧ LnAt h1 (p + 1) σ ∧ Upd h h1 (p + 1) 9 ∧ z1 = sz) := by
  have hU : Upd h h (p + 1) 9 := Upd.rf
  refine zM.of (by decide) rfl (n := 0) ?_
  show Z D B xX0_freshFrom 0 0 _ 0 [some (.ref p), some (.ref po)] [] h sz
  refine z_aload_n (pc := 0) (zk0 kX0_freshFrom_0) rfl ?_
  refine z_getf (pc := 1) (zk1 kX0_freshFrom_0) flX0_12 hG.1 gGu_0 ?_
  refine z_aload_n (pc := 4) (zk2 kX0_freshFrom_0) rfl ?_
  refine z_efV (pc := 5) (zk3 kX0_freshFrom_0) (st := []) lkX0_26 ivX1_takeFrom hγ.1 rfl rfl (c_takeFrom hγ hL (by omega) (by omega) hbk) rfl ⟨rfl, rfl⟩ rfl rfl (fun r_ h_2 z_ q_1 => ?_) rfl
  obtain ⟨er_, hR, hO_, hU_3, ez_⟩ := q_1
  rw [er_, ez_]
  clear er_ ez_ hO_
  replace hG := GuAt.fr hG hU_3 (by omega)
  replace hL := LnAt.fr hL hU_3 (by omega)
  replace hU := hU.tr hU_3 (by omega) (by omega)
  replace hγ := hR; clear hR
  show Z D B xX0_freshFrom _ _ _ 8 _ [] _ _
  refine z_aload_n (pc := 8) (zk4 kX0_freshFrom_0) rfl ?_
  refine z_getf (pc := 9) (zk5 kX0_freshFrom_0) flX0_12 hG.1 gGu_0 ?_
  exact z_aret (pc := 12) (zk6 kX0_freshFrom_0) rfl (Nat.zero_le _) (Nat.zero_le _) ⟨rfl, hγ, hU, rfl⟩
set_option maxRecDepth 20000 in
theorem c_addressFor {D : zD} {B : Nat} {h : zH} {sz : Nat} {p po : Nat} {σ γ : Ln} {mk tl : Nat → Int32} {n l : Nat} {t : Int32} (hG : GuAt h p mk tl) (hγ : LnAt h (p + 1) γ) (hL : LnAt h po σ) (hB : B ≤ p) (hd : p + 12 ≤ po ∨ po + 9 ≤ p) (hbk : σ 6 0 = 0 ∨ σ 6 0 = 1) (hn : σ 0 0 = nI n) (h12 : n ≤ 12) (hl : l < 8) : zM D B xX0_addressFor [.ref p, .ref po, .int (nI l), .int t] h sz (gQ h p sz (lstD (fun k => decide (knowersF (up2 σ 12 l (nI k)) l = t)) 0 (hsN σ))) := by
  have hU : Upd h h p 12 := Upd.rf
  refine zM.of (by decide) rfl (n := 1) ?_
  show Z D B xX0_addressFor 0 0 _ 0 [some (.ref p), some (.ref po), some (.int (nI l)), some (.int t), none] [] h sz
  refine z_aload_n (pc := 0) (zk0 kX0_addressFor_0) rfl ?_
  refine z_aload_n (pc := 1) (zk1 kX0_addressFor_0) rfl ?_
  refine z_efV (pc := 2) (zk2 kX0_addressFor_0) (st := []) lkX0_30 ivX0_freshFrom hG.1 rfl rfl (c_fresh hG hγ hL (by omega) (by omega) hbk) rfl ⟨rfl, rfl⟩ rfl rfl (fun r_ h_2 z_ q_1 => ?_) rfl
  obtain ⟨er_, hR, hU_3, ez_⟩ := q_1
  rw [er_, ez_]
  clear er_ ez_
  replace hG := GuAt.fr hG hU_3 (by omega)
  replace hL := LnAt.fr hL hU_3 (by omega)
  replace hU := hU.tr hU_3 (by omega) (by omega)
  replace hγ := hR; clear hR
  show Z D B xX0_addressFor _ _ _ 5 _ [.ref (p + 1)] _ _
  refine z_pop (pc := 5) (zk3 kX0_addressFor_0) rfl ?_
  refine z_iconst (pc := 6) (zk4 kX0_addressFor_0) (v := 0) (by decide) ?_
  refine z_istore (pc := 7) (zk5 kX0_addressFor_0) rfl rfl ?_
  show Z D B xX0_addressFor _ _ _ 9 [some (.ref p), some (.ref po), some (.int (nI l)), some (.int t), some (.int 0)] _ _ _
  have lp9 : ∀ (n_ : Nat) (g : zH) (q : Int32) (i : Nat), n - i < n_ → (i ≤ n) → (lstD (fun k => decide (knowersF (up2 σ 12 l (nI k)) l = t)) i (n - i) = lstD (fun k => decide (knowersF (up2 σ 12 l (nI k)) l = t)) 0 (n)) → (LnAt g (p + 1) (up2 σ 12 l q)) → (GuAt g p mk tl) → (LnAt g po σ) → (Upd h g p 12) → Z D B xX0_addressFor 0 0 (gQ h p sz (lstD (fun k => decide (knowersF (up2 σ 12 l (nI k)) l = t)) 0 (hsN σ))) 9 [some (.ref p), some (.ref po), some (.int (nI l)), some (.int t), some (.int (nI i))] [] g sz := by
    intro n_
    induction n_ with
    | zero => intro g q i hm_; exact absurd hm_ (Nat.not_lt_zero _)
    | succ n_ ih9 =>
      intro g q i hm_ hi_i ha_ hγ hG hL hU
      refine z_iload (pc := 9) (zk6 kX0_addressFor_0) rfl ?_
      refine z_aload_n (pc := 11) (zk7 kX0_addressFor_0) rfl ?_
      refine z_getf (pc := 12) (zk8 kX0_addressFor_0) flX0_12 hG.1 gGu_0 ?_
      refine z_getf (pc := 15) (zk9 kX0_addressFor_0) flX0_34 hγ.1 (v := .int (nI n)) (by rw [← hn]; rfl) ?_
      refine z_icmp_ge (pc := 18) (zk10 kX0_addressFor_0) (tgt := 53) (by decide) (fun c_4 => ?_) (fun c_4 => ?_)
      · have hie_i : i = n := nI_ge_yes (a := n) (by omega) (by omega) (by omega) c_4
        refine z_iconst (pc := 53) (zk11 kX0_addressFor_1) (v := (-1)) (by decide) ?_
        exact z_iret (pc := 54) (zk12 kX0_addressFor_1) rfl (Nat.zero_le _) (Nat.zero_le _) ⟨by rw [hsN_eq hn h12, ← ha_, lstD_e hie_i], ⟨_, _, _, hG, hγ⟩, hU, rfl⟩
      · have hlt_i : i < n := nI_ge_not (a := n) (by omega) (by omega) c_4
        refine z_aload_n (pc := 21) (zk11 kX0_addressFor_0) rfl ?_
        refine z_getf (pc := 22) (zk12 kX0_addressFor_0) flX0_12 hG.1 gGu_0 ?_
        refine z_getf (pc := 25) (zk13 kX0_addressFor_0) flX0_38 hγ.1 gLn_12 ?_
        refine z_iload_n (pc := 28) (zk14 kX0_addressFor_0) rfl ?_
        refine z_iload (pc := 29) (zk15 kX0_addressFor_0) rfl ?_
        refine z_Ln_s7 (pc := 31) (zk0 kX0_addressFor_1) (j := l) hγ (by omega) (show l < 8 by omega) (fun h_5 hR hU_6 => ?_)
        replace hG := GuAt.fr hG hU_6 (by omega)
        replace hL := LnAt.fr hL hU_6 (by omega)
        replace hU := hU.tr hU_6 (by omega) (by omega)
        replace hγ := hR; clear hR
        rw [up2_up2] at hγ
        refine z_aload_n (pc := 32) (zk1 kX0_addressFor_1) rfl ?_
        refine z_getf (pc := 33) (zk2 kX0_addressFor_1) flX0_12 hG.1 gGu_0 ?_
        refine z_iload_n (pc := 36) (zk3 kX0_addressFor_1) rfl ?_
        refine z_rdV (pc := 37) (zk4 kX0_addressFor_1) (st := []) lkX0_41 ivX1_knowers hγ.1 rfl rfl (c_knowers hγ hn h12 (show l < 8 by omega)) rfl ⟨rfl, rfl⟩ rfl rfl ?_ rfl
        refine z_iload_n (pc := 40) (zk5 kX0_addressFor_1) rfl ?_
        refine z_icmp_ne (pc := 41) (zk6 kX0_addressFor_1) (tgt := 47) (by decide) (fun c_7 => ?_) (fun c_7 => ?_)
        · refine z_iinc (pc := 47) (zk9 kX0_addressFor_1) (v := nI (i + 1)) rfl zinc rfl rfl ?_
          show Z D B xX0_addressFor _ _ _ 50 [some (.ref p), some (.ref po), some (.int (nI l)), some (.int t), some (.int (nI (i + 1)))] _ _ _
          refine z_goto (pc := 50) (zk10 kX0_addressFor_1) (tgt := 9) (by decide) ?_
          exact ih9 h_5 (nI i) (i + 1) (by omega) (by omega) (by rw [← ha_]; exact (lstD_n hlt_i (by simp [c_4, Int32.not_le.mp c_4, c_7])).symm) hγ hG hL hU
        · refine z_iload (pc := 44) (zk7 kX0_addressFor_1) rfl ?_
          exact z_iret (pc := 46) (zk8 kX0_addressFor_1) rfl (Nat.zero_le _) (Nat.zero_le _) ⟨by rw [hsN_eq hn h12, ← ha_, lstD_h hlt_i (by simp [c_4, Int32.not_le.mp c_4, c_7])], ⟨_, _, _, hG, hγ⟩, hU, rfl⟩
  exact lp9 _ h_2 (σ 12 l) 0 (Nat.lt_succ_self _) (by omega) rfl (by rw [up2_id]; exact hγ) hG hL hU
set_option maxRecDepth 20000 in
theorem c_sealFor {D : zD} {B : Nat} {h : zH} {sz : Nat} {p po : Nat} {σ γ : Ln} {mk tl : Nat → Int32} {n l : Nat} {t : Int32} (hG : GuAt h p mk tl) (hγ : LnAt h (p + 1) γ) (hL : LnAt h po σ) (hB : B ≤ p) (hd : p + 12 ≤ po ∨ po + 9 ≤ p) (hbk : σ 6 0 = 0 ∨ σ 6 0 = 1) (hn : σ 0 0 = nI n) (h12 : n ≤ 12) (hl : l < 8) : zM D B xX0_sealFor [.ref p, .ref po, .int (nI l), .int t] h sz (gQ h p sz (lstD (fun k => decide (knowersF (up2 σ 10 l (nI k)) l = t)) 0 6)) := by
  have hU : Upd h h p 12 := Upd.rf
  refine zM.of (by decide) rfl (n := 1) ?_
  show Z D B xX0_sealFor 0 0 _ 0 [some (.ref p), some (.ref po), some (.int (nI l)), some (.int t), none] [] h sz
  refine z_aload_n (pc := 0) (zk0 kX0_sealFor_0) rfl ?_
  refine z_aload_n (pc := 1) (zk1 kX0_sealFor_0) rfl ?_
  refine z_efV (pc := 2) (zk2 kX0_sealFor_0) (st := []) lkX0_30 ivX0_freshFrom hG.1 rfl rfl (c_fresh hG hγ hL (by omega) (by omega) hbk) rfl ⟨rfl, rfl⟩ rfl rfl (fun r_ h_2 z_ q_1 => ?_) rfl
  obtain ⟨er_, hR, hU_3, ez_⟩ := q_1
  rw [er_, ez_]
  clear er_ ez_
  replace hG := GuAt.fr hG hU_3 (by omega)
  replace hL := LnAt.fr hL hU_3 (by omega)
  replace hU := hU.tr hU_3 (by omega) (by omega)
  replace hγ := hR; clear hR
  show Z D B xX0_sealFor _ _ _ 5 _ [.ref (p + 1)] _ _
  refine z_pop (pc := 5) (zk3 kX0_sealFor_0) rfl ?_
  refine z_iconst (pc := 6) (zk4 kX0_sealFor_0) (v := 0) (by decide) ?_
  refine z_istore (pc := 7) (zk5 kX0_sealFor_0) rfl rfl ?_
  show Z D B xX0_sealFor _ _ _ 9 [some (.ref p), some (.ref po), some (.int (nI l)), some (.int t), some (.int 0)] _ _ _
  have lp9 : ∀ (n_ : Nat) (g : zH) (q : Int32) (i : Nat), 6 - i < n_ → (i ≤ 6) → (lstD (fun k => decide (knowersF (up2 σ 10 l (nI k)) l = t)) i (6 - i) = lstD (fun k => decide (knowersF (up2 σ 10 l (nI k)) l = t)) 0 (6)) → (LnAt g (p + 1) (up2 σ 10 l q)) → (GuAt g p mk tl) → (LnAt g po σ) → (Upd h g p 12) → Z D B xX0_sealFor 0 0 (gQ h p sz (lstD (fun k => decide (knowersF (up2 σ 10 l (nI k)) l = t)) 0 6)) 9 [some (.ref p), some (.ref po), some (.int (nI l)), some (.int t), some (.int (nI i))] [] g sz := by
    intro n_
    induction n_ with
    | zero => intro g q i hm_; exact absurd hm_ (Nat.not_lt_zero _)
    | succ n_ ih9 =>
      intro g q i hm_ hi_i ha_ hγ hG hL hU
      refine z_iload (pc := 9) (zk6 kX0_sealFor_0) rfl ?_
      refine z_iconst (pc := 11) (zk7 kX0_sealFor_0) (v := 5) (by decide) ?_
      refine z_icmp_gt (pc := 12) (zk8 kX0_sealFor_0) (tgt := 47) (by decide) (fun c_4 => ?_) (fun c_4 => ?_)
      · have hie_i : i = 6 := nI_gt_yes (a := 5) (by omega) (by omega) c_4
        refine z_iconst (pc := 47) (zk9 kX0_sealFor_1) (v := (-1)) (by decide) ?_
        exact z_iret (pc := 48) (zk10 kX0_sealFor_1) rfl (Nat.zero_le _) (Nat.zero_le _) ⟨by rw [← ha_, lstD_e hie_i], ⟨_, _, _, hG, hγ⟩, hU, rfl⟩
      · have hlt_i : i < 6 := nI_gt_not (a := 5) (by omega) c_4
        refine z_aload_n (pc := 15) (zk9 kX0_sealFor_0) rfl ?_
        refine z_getf (pc := 16) (zk10 kX0_sealFor_0) flX0_12 hG.1 gGu_0 ?_
        refine z_getf (pc := 19) (zk11 kX0_sealFor_0) flX0_56 hγ.1 gLn_10 ?_
        refine z_iload_n (pc := 22) (zk12 kX0_sealFor_0) rfl ?_
        refine z_iload (pc := 23) (zk13 kX0_sealFor_0) rfl ?_
        refine z_Ln_s5 (pc := 25) (zk14 kX0_sealFor_0) (j := l) hγ (by omega) (show l < 8 by omega) (fun h_5 hR hU_6 => ?_)
        replace hG := GuAt.fr hG hU_6 (by omega)
        replace hL := LnAt.fr hL hU_6 (by omega)
        replace hU := hU.tr hU_6 (by omega) (by omega)
        replace hγ := hR; clear hR
        rw [up2_up2] at hγ
        refine z_aload_n (pc := 26) (zk15 kX0_sealFor_0) rfl ?_
        refine z_getf (pc := 27) (zk0 kX0_sealFor_1) flX0_12 hG.1 gGu_0 ?_
        refine z_iload_n (pc := 30) (zk1 kX0_sealFor_1) rfl ?_
        refine z_rdV (pc := 31) (zk2 kX0_sealFor_1) (st := []) lkX0_41 ivX1_knowers hγ.1 rfl rfl (c_knowers hγ hn h12 (show l < 8 by omega)) rfl ⟨rfl, rfl⟩ rfl rfl ?_ rfl
        refine z_iload_n (pc := 34) (zk3 kX0_sealFor_1) rfl ?_
        refine z_icmp_ne (pc := 35) (zk4 kX0_sealFor_1) (tgt := 41) (by decide) (fun c_7 => ?_) (fun c_7 => ?_)
        · refine z_iinc (pc := 41) (zk7 kX0_sealFor_1) (v := nI (i + 1)) rfl zinc rfl rfl ?_
          show Z D B xX0_sealFor _ _ _ 44 [some (.ref p), some (.ref po), some (.int (nI l)), some (.int t), some (.int (nI (i + 1)))] _ _ _
          refine z_goto (pc := 44) (zk8 kX0_sealFor_1) (tgt := 9) (by decide) ?_
          exact ih9 h_5 (nI i) (i + 1) (by omega) (by omega) (by rw [← ha_]; exact (lstD_n hlt_i (by simp [c_4, Int32.not_lt.mp c_4, c_7])).symm) hγ hG hL hU
        · refine z_iload (pc := 38) (zk5 kX0_sealFor_1) rfl ?_
          exact z_iret (pc := 40) (zk6 kX0_sealFor_1) rfl (Nat.zero_le _) (Nat.zero_le _) ⟨by rw [← ha_, lstD_h hlt_i (by simp [c_4, Int32.not_lt.mp c_4, c_7])], ⟨_, _, _, hG, hγ⟩, hU, rfl⟩
  exact lp9 _ h_2 (σ 10 l) 0 (Nat.lt_succ_self _) (by omega) rfl (by rw [up2_id]; exact hγ) hG hL hU
set_option maxRecDepth 20000 in
theorem c_leastLength {D : zD} {B : Nat} {h : zH} {sz : Nat} {p po : Nat} {σ γ : Ln} {mk tl : Nat → Int32} {n l c : Nat} (hG : GuAt h p mk tl) (hγ : LnAt h (p + 1) γ) (hL : LnAt h po σ) (hB : B ≤ p) (hd : p + 12 ≤ po ∨ po + 9 ≤ p) (hbk : σ 6 0 = 0 ∨ σ 6 0 = 1) (hn : σ 0 0 = nI n) (h12 : n ≤ 12) (hl : l < 8) (hk : c < n) : zM D B xX0_leastLength [.ref p, .ref po, .int (nI l), .int (nI c)] h sz (gQ h p sz (lstD (fun k => knowB (up2 σ 13 l (nI k)) l c) 1 40)) := by
  have hU : Upd h h p 12 := Upd.rf
  refine zM.of (by decide) rfl (n := 1) ?_
  show Z D B xX0_leastLength 0 0 _ 0 [some (.ref p), some (.ref po), some (.int (nI l)), some (.int (nI c)), none] [] h sz
  refine z_aload_n (pc := 0) (zk0 kX0_leastLength_0) rfl ?_
  refine z_aload_n (pc := 1) (zk1 kX0_leastLength_0) rfl ?_
  refine z_efV (pc := 2) (zk2 kX0_leastLength_0) (st := []) lkX0_30 ivX0_freshFrom hG.1 rfl rfl (c_fresh hG hγ hL (by omega) (by omega) hbk) rfl ⟨rfl, rfl⟩ rfl rfl (fun r_ h_2 z_ q_1 => ?_) rfl
  obtain ⟨er_, hR, hU_3, ez_⟩ := q_1
  rw [er_, ez_]
  clear er_ ez_
  replace hG := GuAt.fr hG hU_3 (by omega)
  replace hL := LnAt.fr hL hU_3 (by omega)
  replace hU := hU.tr hU_3 (by omega) (by omega)
  replace hγ := hR; clear hR
  show Z D B xX0_leastLength _ _ _ 5 _ [.ref (p + 1)] _ _
  refine z_pop (pc := 5) (zk3 kX0_leastLength_0) rfl ?_
  refine z_iconst (pc := 6) (zk4 kX0_leastLength_0) (v := 1) (by decide) ?_
  refine z_istore (pc := 7) (zk5 kX0_leastLength_0) rfl rfl ?_
  show Z D B xX0_leastLength _ _ _ 9 [some (.ref p), some (.ref po), some (.int (nI l)), some (.int (nI c)), some (.int 1)] _ _ _
  have lp9 : ∀ (n_ : Nat) (g : zH) (q : Int32) (i : Nat), 41 - i < n_ → (1 ≤ i) → (i ≤ 41) → (lstD (fun k => knowB (up2 σ 13 l (nI k)) l c) i (41 - i) = lstD (fun k => knowB (up2 σ 13 l (nI k)) l c) 1 (40)) → (LnAt g (p + 1) (up2 σ 13 l q)) → (GuAt g p mk tl) → (LnAt g po σ) → (Upd h g p 12) → Z D B xX0_leastLength 0 0 (gQ h p sz (lstD (fun k => knowB (up2 σ 13 l (nI k)) l c) 1 40)) 9 [some (.ref p), some (.ref po), some (.int (nI l)), some (.int (nI c)), some (.int (nI i))] [] g sz := by
    intro n_
    induction n_ with
    | zero => intro g q i hm_; exact absurd hm_ (Nat.not_lt_zero _)
    | succ n_ ih9 =>
      intro g q i hm_ h0_i hi_i ha_ hγ hG hL hU
      refine z_iload (pc := 9) (zk6 kX0_leastLength_0) rfl ?_
      refine z_bipush (pc := 11) (zk7 kX0_leastLength_0) (v := 40) (by decide) ?_
      refine z_icmp_gt (pc := 13) (zk8 kX0_leastLength_0) (tgt := 48) (by decide) (fun c_4 => ?_) (fun c_4 => ?_)
      · have hie_i : i = 41 := nI_gt_yes (a := 40) (by omega) (by omega) c_4
        refine z_iconst (pc := 48) (zk9 kX0_leastLength_1) (v := (-1)) (by decide) ?_
        exact z_iret (pc := 49) (zk10 kX0_leastLength_1) rfl (Nat.zero_le _) (Nat.zero_le _) ⟨by rw [← ha_, lstD_e hie_i], ⟨_, _, _, hG, hγ⟩, hU, rfl⟩
      · have hlt_i : i < 41 := nI_gt_not (a := 40) (by omega) c_4
        refine z_aload_n (pc := 16) (zk9 kX0_leastLength_0) rfl ?_
        refine z_getf (pc := 17) (zk10 kX0_leastLength_0) flX0_12 hG.1 gGu_0 ?_
        refine z_getf (pc := 20) (zk11 kX0_leastLength_0) flX0_59 hγ.1 gLn_13 ?_
        refine z_iload_n (pc := 23) (zk12 kX0_leastLength_0) rfl ?_
        refine z_iload (pc := 24) (zk13 kX0_leastLength_0) rfl ?_
        refine z_Ln_s8 (pc := 26) (zk14 kX0_leastLength_0) (j := l) hγ (by omega) (show l < 8 by omega) (fun h_5 hR hU_6 => ?_)
        replace hG := GuAt.fr hG hU_6 (by omega)
        replace hL := LnAt.fr hL hU_6 (by omega)
        replace hU := hU.tr hU_6 (by omega) (by omega)
        replace hγ := hR; clear hR
        rw [up2_up2] at hγ
        refine z_aload_n (pc := 27) (zk15 kX0_leastLength_0) rfl ?_
        refine z_getf (pc := 28) (zk0 kX0_leastLength_1) flX0_12 hG.1 gGu_0 ?_
        refine z_iload_n (pc := 31) (zk1 kX0_leastLength_1) rfl ?_
        refine z_iload_n (pc := 32) (zk2 kX0_leastLength_1) rfl ?_
        refine z_rdV (pc := 33) (zk3 kX0_leastLength_1) (st := []) lkX0_62 ivX1_isKnown hγ.1 rfl rfl (c_isKnown hγ hn h12 (show l < 8 by omega) (show c < n by omega)) rfl ⟨rfl, rfl⟩ rfl rfl ?_ rfl
        refine z_oif_eq (pc := 36) (zk4 kX0_leastLength_1) (tgt := 42) (by decide) (fun c_7 => ?_) (fun c_7 => ?_)
        · refine z_iinc (pc := 42) (zk7 kX0_leastLength_1) (v := nI (i + 1)) rfl zinc rfl rfl ?_
          show Z D B xX0_leastLength _ _ _ 45 [some (.ref p), some (.ref po), some (.int (nI l)), some (.int (nI c)), some (.int (nI (i + 1)))] _ _ _
          refine z_goto (pc := 45) (zk8 kX0_leastLength_1) (tgt := 9) (by decide) ?_
          exact ih9 h_5 (nI i) (i + 1) (by omega) (by omega) (by omega) (by rw [← ha_]; exact (lstD_n hlt_i (by simp [c_4, Int32.not_lt.mp c_4, c_7])).symm) hγ hG hL hU
        · refine z_iload (pc := 39) (zk5 kX0_leastLength_1) rfl ?_
          exact z_iret (pc := 41) (zk6 kX0_leastLength_1) rfl (Nat.zero_le _) (Nat.zero_le _) ⟨by rw [← ha_, lstD_h hlt_i (by simp [c_4, Int32.not_lt.mp c_4, c_7])], ⟨_, _, _, hG, hγ⟩, hU, rfl⟩
  exact lp9 _ h_2 (σ 13 l) 1 (Nat.lt_succ_self _) (by omega) (by omega) rfl (by rw [up2_id]; exact hγ) hG hL hU
set_option maxRecDepth 20000 in
theorem c_leastCold {D : zD} {B : Nat} {h : zH} {sz : Nat} {p po : Nat} {σ γ : Ln} {mk tl : Nat → Int32} {n l c : Nat} (hG : GuAt h p mk tl) (hγ : LnAt h (p + 1) γ) (hL : LnAt h po σ) (hB : B ≤ p) (hd : p + 12 ≤ po ∨ po + 9 ≤ p) (hbk : σ 6 0 = 0 ∨ σ 6 0 = 1) (hn : σ 0 0 = nI n) (h12 : n ≤ 12) (hl : l < 8) (hk : c < n) : zM D B xX0_leastCold [.ref p, .ref po, .int (nI l), .int (nI c)] h sz (gQ h p sz (lstD (fun k => !knowB (up2 σ 5 0 (nI k)) l c) 0 10)) := by
  have hU : Upd h h p 12 := Upd.rf
  refine zM.of (by decide) rfl (n := 1) ?_
  show Z D B xX0_leastCold 0 0 _ 0 [some (.ref p), some (.ref po), some (.int (nI l)), some (.int (nI c)), none] [] h sz
  refine z_aload_n (pc := 0) (zk0 kX0_leastCold_0) rfl ?_
  refine z_aload_n (pc := 1) (zk1 kX0_leastCold_0) rfl ?_
  refine z_efV (pc := 2) (zk2 kX0_leastCold_0) (st := []) lkX0_30 ivX0_freshFrom hG.1 rfl rfl (c_fresh hG hγ hL (by omega) (by omega) hbk) rfl ⟨rfl, rfl⟩ rfl rfl (fun r_ h_2 z_ q_1 => ?_) rfl
  obtain ⟨er_, hR, hU_3, ez_⟩ := q_1
  rw [er_, ez_]
  clear er_ ez_
  replace hG := GuAt.fr hG hU_3 (by omega)
  replace hL := LnAt.fr hL hU_3 (by omega)
  replace hU := hU.tr hU_3 (by omega) (by omega)
  replace hγ := hR; clear hR
  show Z D B xX0_leastCold _ _ _ 5 _ [.ref (p + 1)] _ _
  refine z_pop (pc := 5) (zk3 kX0_leastCold_0) rfl ?_
  refine z_iconst (pc := 6) (zk4 kX0_leastCold_0) (v := 0) (by decide) ?_
  refine z_istore (pc := 7) (zk5 kX0_leastCold_0) rfl rfl ?_
  show Z D B xX0_leastCold _ _ _ 9 [some (.ref p), some (.ref po), some (.int (nI l)), some (.int (nI c)), some (.int 0)] _ _ _
  have lp9 : ∀ (n_ : Nat) (g : zH) (q : Int32) (i : Nat), 10 - i < n_ → (i ≤ 10) → (lstD (fun k => !knowB (up2 σ 5 0 (nI k)) l c) i (10 - i) = lstD (fun k => !knowB (up2 σ 5 0 (nI k)) l c) 0 (10)) → (LnAt g (p + 1) (up2 σ 5 0 q)) → (GuAt g p mk tl) → (LnAt g po σ) → (Upd h g p 12) → Z D B xX0_leastCold 0 0 (gQ h p sz (lstD (fun k => !knowB (up2 σ 5 0 (nI k)) l c) 0 10)) 9 [some (.ref p), some (.ref po), some (.int (nI l)), some (.int (nI c)), some (.int (nI i))] [] g sz := by
    intro n_
    induction n_ with
    | zero => intro g q i hm_; exact absurd hm_ (Nat.not_lt_zero _)
    | succ n_ ih9 =>
      intro g q i hm_ hi_i ha_ hγ hG hL hU
      refine z_iload (pc := 9) (zk6 kX0_leastCold_0) rfl ?_
      refine z_bipush (pc := 11) (zk7 kX0_leastCold_0) (v := 9) (by decide) ?_
      refine z_icmp_gt (pc := 13) (zk8 kX0_leastCold_0) (tgt := 46) (by decide) (fun c_4 => ?_) (fun c_4 => ?_)
      · have hie_i : i = 10 := nI_gt_yes (a := 9) (by omega) (by omega) c_4
        refine z_iconst (pc := 46) (zk7 kX0_leastCold_1) (v := (-1)) (by decide) ?_
        exact z_iret (pc := 47) (zk8 kX0_leastCold_1) rfl (Nat.zero_le _) (Nat.zero_le _) ⟨by rw [← ha_, lstD_e hie_i], ⟨_, _, _, hG, hγ⟩, hU, rfl⟩
      · have hlt_i : i < 10 := nI_gt_not (a := 9) (by omega) c_4
        refine z_aload_n (pc := 16) (zk9 kX0_leastCold_0) rfl ?_
        refine z_getf (pc := 17) (zk10 kX0_leastCold_0) flX0_12 hG.1 gGu_0 ?_
        refine z_iload (pc := 20) (zk11 kX0_leastCold_0) rfl ?_
        refine z_Ln_w5 (pc := 22) (zk12 kX0_leastCold_0) flX0_117 hγ (by omega) (fun h_5 hR hU_6 => ?_)
        replace hG := GuAt.fr hG hU_6 (by omega)
        replace hL := LnAt.fr hL hU_6 (by omega)
        replace hU := hU.tr hU_6 (by omega) (by omega)
        replace hγ := hR; clear hR
        rw [up2_up2] at hγ
        refine z_aload_n (pc := 25) (zk13 kX0_leastCold_0) rfl ?_
        refine z_getf (pc := 26) (zk14 kX0_leastCold_0) flX0_12 hG.1 gGu_0 ?_
        refine z_iload_n (pc := 29) (zk15 kX0_leastCold_0) rfl ?_
        refine z_iload_n (pc := 30) (zk0 kX0_leastCold_1) rfl ?_
        refine z_rdV (pc := 31) (zk1 kX0_leastCold_1) (st := []) lkX0_62 ivX1_isKnown hγ.1 rfl rfl (c_isKnown hγ hn h12 (show l < 8 by omega) (show c < n by omega)) rfl ⟨rfl, rfl⟩ rfl rfl ?_ rfl
        refine z_oif_ne (pc := 34) (zk2 kX0_leastCold_1) (tgt := 40) (by decide) (fun c_7 => ?_) (fun c_7 => ?_)
        · refine z_iinc (pc := 40) (zk5 kX0_leastCold_1) (v := nI (i + 1)) rfl zinc rfl rfl ?_
          show Z D B xX0_leastCold _ _ _ 43 [some (.ref p), some (.ref po), some (.int (nI l)), some (.int (nI c)), some (.int (nI (i + 1)))] _ _ _
          refine z_goto (pc := 43) (zk6 kX0_leastCold_1) (tgt := 9) (by decide) ?_
          exact ih9 h_5 (nI i) (i + 1) (by omega) (by omega) (by rw [← ha_]; exact (lstD_n hlt_i (by simp [c_4, Int32.not_lt.mp c_4, c_7])).symm) hγ hG hL hU
        · refine z_iload (pc := 37) (zk3 kX0_leastCold_1) rfl ?_
          exact z_iret (pc := 39) (zk4 kX0_leastCold_1) rfl (Nat.zero_le _) (Nat.zero_le _) ⟨by rw [← ha_, lstD_h hlt_i (by simp [c_4, Int32.not_lt.mp c_4, c_7])], ⟨_, _, _, hG, hγ⟩, hU, rfl⟩
  exact lp9 _ h_2 (σ 5 0) 0 (Nat.lt_succ_self _) (by omega) rfl (by rw [up2_id]; exact hγ) hG hL hU
set_option maxRecDepth 20000 in
theorem c_leastQuiet {D : zD} {B : Nat} {h : zH} {sz : Nat} {p po : Nat} {σ γ : Ln} {mk tl : Nat → Int32} {n m c : Nat} (hG : GuAt h p mk tl) (hγ : LnAt h (p + 1) γ) (hL : LnAt h po σ) (hB : B ≤ p) (hd : p + 12 ≤ po ∨ po + 9 ≤ p) (hbk : σ 6 0 = 0 ∨ σ 6 0 = 1) (hn : σ 0 0 = nI n) (h12 : n ≤ 12) (hm : σ 9 0 = nI m) (h8 : m ≤ 8) (hk : c < n) : zM D B xX0_leastQuietWind [.ref p, .ref po, .int (nI c)] h sz (gQ h p sz (lstD (fun k => decide (knownF (up2 σ 1 c (nI k)) c = 0)) 0 10)) := by
  have hU : Upd h h p 12 := Upd.rf
  refine zM.of (by decide) rfl (n := 1) ?_
  show Z D B xX0_leastQuietWind 0 0 _ 0 [some (.ref p), some (.ref po), some (.int (nI c)), none] [] h sz
  refine z_aload_n (pc := 0) (zk0 kX0_leastQuietWind_0) rfl ?_
  refine z_aload_n (pc := 1) (zk1 kX0_leastQuietWind_0) rfl ?_
  refine z_efV (pc := 2) (zk2 kX0_leastQuietWind_0) (st := []) lkX0_30 ivX0_freshFrom hG.1 rfl rfl (c_fresh hG hγ hL (by omega) (by omega) hbk) rfl ⟨rfl, rfl⟩ rfl rfl (fun r_ h_2 z_ q_1 => ?_) rfl
  obtain ⟨er_, hR, hU_3, ez_⟩ := q_1
  rw [er_, ez_]
  clear er_ ez_
  replace hG := GuAt.fr hG hU_3 (by omega)
  replace hL := LnAt.fr hL hU_3 (by omega)
  replace hU := hU.tr hU_3 (by omega) (by omega)
  replace hγ := hR; clear hR
  show Z D B xX0_leastQuietWind _ _ _ 5 _ [.ref (p + 1)] _ _
  refine z_pop (pc := 5) (zk3 kX0_leastQuietWind_0) rfl ?_
  refine z_iconst (pc := 6) (zk4 kX0_leastQuietWind_0) (v := 0) (by decide) ?_
  refine z_istore_n (pc := 7) (zk5 kX0_leastQuietWind_0) rfl rfl ?_
  show Z D B xX0_leastQuietWind _ _ _ 8 [some (.ref p), some (.ref po), some (.int (nI c)), some (.int 0)] _ _ _
  have lp8 : ∀ (n_ : Nat) (g : zH) (q : Int32) (i : Nat), 10 - i < n_ → (i ≤ 10) → (lstD (fun k => decide (knownF (up2 σ 1 c (nI k)) c = 0)) i (10 - i) = lstD (fun k => decide (knownF (up2 σ 1 c (nI k)) c = 0)) 0 (10)) → (LnAt g (p + 1) (up2 σ 1 c q)) → (GuAt g p mk tl) → (LnAt g po σ) → (Upd h g p 12) → Z D B xX0_leastQuietWind 0 0 (gQ h p sz (lstD (fun k => decide (knownF (up2 σ 1 c (nI k)) c = 0)) 0 10)) 8 [some (.ref p), some (.ref po), some (.int (nI c)), some (.int (nI i))] [] g sz := by
    intro n_
    induction n_ with
    | zero => intro g q i hm_; exact absurd hm_ (Nat.not_lt_zero _)
    | succ n_ ih8 =>
      intro g q i hm_ hi_i ha_ hγ hG hL hU
      refine z_iload_n (pc := 8) (zk6 kX0_leastQuietWind_0) rfl ?_
      refine z_bipush (pc := 9) (zk7 kX0_leastQuietWind_0) (v := 9) (by decide) ?_
      refine z_icmp_gt (pc := 11) (zk8 kX0_leastQuietWind_0) (tgt := 43) (by decide) (fun c_4 => ?_) (fun c_4 => ?_)
      · have hie_i : i = 10 := nI_gt_yes (a := 9) (by omega) (by omega) c_4
        refine z_iconst (pc := 43) (zk8 kX0_leastQuietWind_1) (v := (-1)) (by decide) ?_
        exact z_iret (pc := 44) (zk9 kX0_leastQuietWind_1) rfl (Nat.zero_le _) (Nat.zero_le _) ⟨by rw [← ha_, lstD_e hie_i], ⟨_, _, _, hG, hγ⟩, hU, rfl⟩
      · have hlt_i : i < 10 := nI_gt_not (a := 9) (by omega) c_4
        refine z_aload_n (pc := 14) (zk9 kX0_leastQuietWind_0) rfl ?_
        refine z_getf (pc := 15) (zk10 kX0_leastQuietWind_0) flX0_12 hG.1 gGu_0 ?_
        refine z_getf (pc := 18) (zk11 kX0_leastQuietWind_0) flX0_91 hγ.1 gLn_1 ?_
        refine z_iload_n (pc := 21) (zk12 kX0_leastQuietWind_0) rfl ?_
        refine z_iload_n (pc := 22) (zk13 kX0_leastQuietWind_0) rfl ?_
        refine z_Ln_s1 (pc := 23) (zk14 kX0_leastQuietWind_0) (j := c) hγ (by omega) (show c < 12 by omega) (fun h_5 hR hU_6 => ?_)
        replace hG := GuAt.fr hG hU_6 (by omega)
        replace hL := LnAt.fr hL hU_6 (by omega)
        replace hU := hU.tr hU_6 (by omega) (by omega)
        replace hγ := hR; clear hR
        rw [up2_up2] at hγ
        refine z_aload_n (pc := 24) (zk15 kX0_leastQuietWind_0) rfl ?_
        refine z_getf (pc := 25) (zk0 kX0_leastQuietWind_1) flX0_12 hG.1 gGu_0 ?_
        refine z_iload_n (pc := 28) (zk1 kX0_leastQuietWind_1) rfl ?_
        refine z_rdV (pc := 29) (zk2 kX0_leastQuietWind_1) (st := []) lkX0_123 ivX1_knownAt hγ.1 rfl rfl (c_knownAt hγ hn h12 hm h8 (show c < n by omega)) rfl ⟨rfl, rfl⟩ rfl rfl ?_ rfl
        refine z_if_ne (pc := 32) (zk3 kX0_leastQuietWind_1) (tgt := 37) (by decide) (fun c_7 => ?_) (fun c_7 => ?_)
        · refine z_iinc (pc := 37) (zk6 kX0_leastQuietWind_1) (v := nI (i + 1)) rfl zinc rfl rfl ?_
          show Z D B xX0_leastQuietWind _ _ _ 40 [some (.ref p), some (.ref po), some (.int (nI c)), some (.int (nI (i + 1)))] _ _ _
          refine z_goto (pc := 40) (zk7 kX0_leastQuietWind_1) (tgt := 8) (by decide) ?_
          exact ih8 h_5 (nI i) (i + 1) (by omega) (by omega) (by rw [← ha_]; exact (lstD_n hlt_i (by simp [c_4, Int32.not_lt.mp c_4, c_7])).symm) hγ hG hL hU
        · refine z_iload_n (pc := 35) (zk4 kX0_leastQuietWind_1) rfl ?_
          exact z_iret (pc := 36) (zk5 kX0_leastQuietWind_1) rfl (Nat.zero_le _) (Nat.zero_le _) ⟨by rw [← ha_, lstD_h hlt_i (by simp [c_4, Int32.not_lt.mp c_4, c_7])], ⟨_, _, _, hG, hγ⟩, hU, rfl⟩
  exact lp8 _ h_2 (σ 1 c) 0 (Nat.lt_succ_self _) (by omega) rfl (by rw [up2_id]; exact hγ) hG hL hU
