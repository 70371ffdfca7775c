set_option maxRecDepth 20000 in
theorem c_knowersIfTo {D : zD} {B : Nat} {h : zH} {sz : Nat} {p po : Nat} {σ γ : Ln} {mk tl : Nat → Int32} {n l c : Nat} (hG : GuAt h p mk tl) (hγ : LnAt h (p + 1) γ) (hL : LnAt h po σ) (hB : B ≤ p) (hd : p + 12 ≤ po ∨ po + 9 ≤ p) (hbk : σ 6 0 = 0 ∨ σ 6 0 = 1) (hn : σ 0 0 = nI n) (h12 : n ≤ 12) (hl : l < 8) : zM D B xX0_knowersIfTo [.ref p, .ref po, .int (nI l), .int (nI c)] h sz (gQ h p sz (popI (knowersF (up2 σ 12 l (nI c)) l))) := by
  have hU : Upd h h p 12 := Upd.rf
  refine zM.of (by decide) rfl (n := 0) ?_
  show Z D B xX0_knowersIfTo 0 0 _ 0 [some (.ref p), some (.ref po), some (.int (nI l)), some (.int (nI c))] [] h sz
  refine z_aload_n (pc := 0) (zk0 kX0_knowersIfTo_0) rfl ?_
  refine z_aload_n (pc := 1) (zk1 kX0_knowersIfTo_0) rfl ?_
  refine z_efV (pc := 2) (zk2 kX0_knowersIfTo_0) (st := []) lkX0_30 ivX0_freshFrom hG.1 rfl rfl (c_fresh hG hγ hL (by omega) (by omega) hbk) rfl ⟨rfl, rfl⟩ rfl rfl (fun r_ h_2 z_ q_1 => ?_) rfl
  obtain ⟨er_, hR, hU_3, ez_⟩ := q_1
  rw [er_, ez_]
  clear er_ ez_
  replace hG := GuAt.fr hG hU_3 (by omega)
  replace hL := LnAt.fr hL hU_3 (by omega)
  replace hU := hU.tr hU_3 (by omega) (by omega)
  replace hγ := hR; clear hR
  show Z D B xX0_knowersIfTo _ _ _ 5 _ [.ref (p + 1)] _ _
  refine z_pop (pc := 5) (zk3 kX0_knowersIfTo_0) rfl ?_
  refine z_aload_n (pc := 6) (zk4 kX0_knowersIfTo_0) rfl ?_
  refine z_getf (pc := 7) (zk5 kX0_knowersIfTo_0) flX0_12 hG.1 gGu_0 ?_
  refine z_getf (pc := 10) (zk6 kX0_knowersIfTo_0) flX0_38 hγ.1 gLn_12 ?_
  refine z_iload_n (pc := 13) (zk7 kX0_knowersIfTo_0) rfl ?_
  refine z_iload_n (pc := 14) (zk8 kX0_knowersIfTo_0) rfl ?_
  refine z_Ln_s7 (pc := 15) (zk9 kX0_knowersIfTo_0) (j := l) hγ (by omega) (show l < 8 by omega) (fun h_4 hR hU_5 => ?_)
  replace hG := GuAt.fr hG hU_5 (by omega)
  replace hL := LnAt.fr hL hU_5 (by omega)
  replace hU := hU.tr hU_5 (by omega) (by omega)
  replace hγ := hR; clear hR
  refine z_aload_n (pc := 16) (zk10 kX0_knowersIfTo_0) rfl ?_
  refine z_getf (pc := 17) (zk11 kX0_knowersIfTo_0) flX0_12 hG.1 gGu_0 ?_
  refine z_iload_n (pc := 20) (zk12 kX0_knowersIfTo_0) rfl ?_
  refine z_rdV (pc := 21) (zk13 kX0_knowersIfTo_0) (st := []) lkX0_41 ivX1_knowers hγ.1 rfl rfl (c_knowers hγ hn h12 (show l < 8 by omega)) rfl ⟨rfl, rfl⟩ rfl rfl ?_ rfl
  refine z_rdS (pc := 24) (zk14 kX0_knowersIfTo_0) (st := []) lkX0_112 isJ6_bitCount_0f7a4 (c_bitC (knowersF_eq (up2 σ 12 l (nI c)) l (hsN_le (σ := (up2 σ 12 l (nI c))) hn h12))) rfl ⟨rfl, rfl⟩ rfl rfl ?_ rfl
  exact z_iret (pc := 27) (zk15 kX0_knowersIfTo_0) rfl (Nat.zero_le _) (Nat.zero_le _) ⟨by rfl, ⟨_, _, _, hG, hγ⟩, hU, rfl⟩
set_option maxRecDepth 20000 in
theorem c_turned {D : zD} {B : Nat} {h : zH} {sz : Nat} {p po : Nat} {σ γ : Ln} {mk tl : Nat → Int32} {n l : Nat} (hG : GuAt h p mk tl) (hγ : LnAt h (p + 1) γ) (hL : LnAt h po σ) (hB : B ≤ p) (hd : p + 12 ≤ po ∨ po + 9 ≤ p) (hbk : σ 6 0 = 0 ∨ σ 6 0 = 1) (hn : σ 0 0 = nI n) (h12 : n ≤ 12) (hl : l < 8) : zM D B xX0_knowersTurned [.ref p, .ref po, .int (nI l)] h sz (gQ h p sz (popI (knowersF (up2 σ 6 0 (oI (decide (σ 6 0 = 0)))) l))) := by
  have hU : Upd h h p 12 := Upd.rf
  refine zM.of (by decide) rfl (n := 0) ?_
  show Z D B xX0_knowersTurned 0 0 _ 0 [some (.ref p), some (.ref po), some (.int (nI l))] [] h sz
  refine z_aload_n (pc := 0) (zk0 kX0_knowersTurned_0) rfl ?_
  refine z_aload_n (pc := 1) (zk1 kX0_knowersTurned_0) rfl ?_
  refine z_efV (pc := 2) (zk2 kX0_knowersTurned_0) (st := []) lkX0_30 ivX0_freshFrom hG.1 rfl rfl (c_fresh hG hγ hL (by omega) (by omega) hbk) rfl ⟨rfl, rfl⟩ rfl rfl (fun r_ h_2 z_ q_1 => ?_) rfl
  obtain ⟨er_, hR, hU_3, ez_⟩ := q_1
  rw [er_, ez_]
  clear er_ ez_
  replace hG := GuAt.fr hG hU_3 (by omega)
  replace hL := LnAt.fr hL hU_3 (by omega)
  replace hU := hU.tr hU_3 (by omega) (by omega)
  replace hγ := hR; clear hR
  show Z D B xX0_knowersTurned _ _ _ 5 _ [.ref (p + 1)] _ _
  refine z_pop (pc := 5) (zk3 kX0_knowersTurned_0) rfl ?_
  refine z_aload_n (pc := 6) (zk4 kX0_knowersTurned_0) rfl ?_
  refine z_getf (pc := 7) (zk5 kX0_knowersTurned_0) flX0_12 hG.1 gGu_0 ?_
  refine z_aload_n (pc := 10) (zk6 kX0_knowersTurned_0) rfl ?_
  refine z_getf (pc := 11) (zk7 kX0_knowersTurned_0) flX0_12 hG.1 gGu_0 ?_
  refine z_getf (pc := 14) (zk8 kX0_knowersTurned_0) flX0_108 hγ.1 (v := .int (σ 6 0)) rfl ?_
  refine z_if_ne (pc := 17) (zk9 kX0_knowersTurned_0) (tgt := 24) (by decide) (fun c_4 => ?_) (fun c_4 => ?_)
  · refine z_iconst (pc := 24) (zk12 kX0_knowersTurned_0) (v := 0) (by decide) ?_
    refine z_Ln_w6 (pc := 25) (zk13 kX0_knowersTurned_0) flX0_108 hγ (by omega) (by decide) (fun h_5 hR hU_6 => ?_)
    replace hG := GuAt.fr hG hU_6 (by omega)
    replace hL := LnAt.fr hL hU_6 (by omega)
    replace hU := hU.tr hU_6 (by omega) (by omega)
    replace hγ := hR; clear hR
    refine z_aload_n (pc := 28) (zk14 kX0_knowersTurned_0) rfl ?_
    refine z_getf (pc := 29) (zk15 kX0_knowersTurned_0) flX0_12 hG.1 gGu_0 ?_
    refine z_iload_n (pc := 32) (zk0 kX0_knowersTurned_1) rfl ?_
    refine z_rdV (pc := 33) (zk1 kX0_knowersTurned_1) (st := []) lkX0_41 ivX1_knowers hγ.1 rfl rfl (c_knowers hγ hn h12 (show l < 8 by omega)) rfl ⟨rfl, rfl⟩ rfl rfl ?_ rfl
    refine z_rdS (pc := 36) (zk2 kX0_knowersTurned_1) (st := []) lkX0_112 isJ6_bitCount_0f7a4 (c_bitC (knowersF_eq (up2 σ 6 0 0) l (hsN_le (σ := (up2 σ 6 0 0)) hn h12))) rfl ⟨rfl, rfl⟩ rfl rfl ?_ rfl
    exact z_iret (pc := 39) (zk3 kX0_knowersTurned_1) rfl (Nat.zero_le _) (Nat.zero_le _) ⟨by simp [oI, c_4], ⟨_, _, _, hG, hγ⟩, hU, rfl⟩
  · refine z_iconst (pc := 20) (zk10 kX0_knowersTurned_0) (v := 1) (by decide) ?_
    refine z_goto (pc := 21) (zk11 kX0_knowersTurned_0) (tgt := 25) (by decide) ?_
    refine z_Ln_w6 (pc := 25) (zk13 kX0_knowersTurned_0) flX0_108 hγ (by omega) (by decide) (fun h_7 hR hU_8 => ?_)
    replace hG := GuAt.fr hG hU_8 (by omega)
    replace hL := LnAt.fr hL hU_8 (by omega)
    replace hU := hU.tr hU_8 (by omega) (by omega)
    replace hγ := hR; clear hR
    refine z_aload_n (pc := 28) (zk14 kX0_knowersTurned_0) rfl ?_
    refine z_getf (pc := 29) (zk15 kX0_knowersTurned_0) flX0_12 hG.1 gGu_0 ?_
    refine z_iload_n (pc := 32) (zk0 kX0_knowersTurned_1) rfl ?_
    refine z_rdV (pc := 33) (zk1 kX0_knowersTurned_1) (st := []) lkX0_41 ivX1_knowers hγ.1 rfl rfl (c_knowers hγ hn h12 (show l < 8 by omega)) rfl ⟨rfl, rfl⟩ rfl rfl ?_ rfl
    refine z_rdS (pc := 36) (zk2 kX0_knowersTurned_1) (st := []) lkX0_112 isJ6_bitCount_0f7a4 (c_bitC (knowersF_eq (up2 σ 6 0 1) l (hsN_le (σ := (up2 σ 6 0 1)) hn h12))) rfl ⟨rfl, rfl⟩ rfl rfl ?_ rfl
    exact z_iret (pc := 39) (zk3 kX0_knowersTurned_1) rfl (Nat.zero_le _) (Nat.zero_le _) ⟨by simp [oI, c_4], ⟨_, _, _, hG, hγ⟩, hU, rfl⟩
set_option maxRecDepth 20000 in
theorem c_allIfDrink {D : zD} {B : Nat} {h : zH} {sz : Nat} {p po : Nat} {σ γ : Ln} {mk tl : Nat → Int32} {n m c : Nat} {v : Int32} (hG : GuAt h p mk tl) (hγ : LnAt h (p + 1) γ) (hL : LnAt h po σ) (hB : B ≤ p) (hd : p + 12 ≤ po ∨ po + 9 ≤ p) (hbk : σ 6 0 = 0 ∨ σ 6 0 = 1) (hn : σ 0 0 = nI n) (h12 : n ≤ 12) (hm : σ 9 0 = nI m) (h8 : m ≤ 8) (hk : c < n) : zM D B xX0_allKnowersIfDrink [.ref p, .ref po, .int (nI c), .int v] h sz (gQ h p sz (allKnF (up2 σ 2 c v))) := by
  have hU : Upd h h p 12 := Upd.rf
  refine zM.of (by decide) rfl (n := 0) ?_
  show Z D B xX0_allKnowersIfDrink 0 0 _ 0 [some (.ref p), some (.ref po), some (.int (nI c)), some (.int v)] [] h sz
  refine z_aload_n (pc := 0) (zk0 kX0_allKnowersIfDrink_0) rfl ?_
  refine z_aload_n (pc := 1) (zk1 kX0_allKnowersIfDrink_0) rfl ?_
  refine z_efV (pc := 2) (zk2 kX0_allKnowersIfDrink_0) (st := []) lkX0_30 ivX0_freshFrom hG.1 rfl rfl (c_fresh hG hγ hL (by omega) (by omega) hbk) rfl ⟨rfl, rfl⟩ rfl rfl (fun r_ h_2 z_ q_1 => ?_) rfl
  obtain ⟨er_, hR, hU_3, ez_⟩ := q_1
  rw [er_, ez_]
  clear er_ ez_
  replace hG := GuAt.fr hG hU_3 (by omega)
  replace hL := LnAt.fr hL hU_3 (by omega)
  replace hU := hU.tr hU_3 (by omega) (by omega)
  replace hγ := hR; clear hR
  show Z D B xX0_allKnowersIfDrink _ _ _ 5 _ [.ref (p + 1)] _ _
  refine z_pop (pc := 5) (zk3 kX0_allKnowersIfDrink_0) rfl ?_
  refine z_aload_n (pc := 6) (zk4 kX0_allKnowersIfDrink_0) rfl ?_
  refine z_getf (pc := 7) (zk5 kX0_allKnowersIfDrink_0) flX0_12 hG.1 gGu_0 ?_
  refine z_getf (pc := 10) (zk6 kX0_allKnowersIfDrink_0) flX0_53 hγ.1 gLn_2 ?_
  refine z_iload_n (pc := 13) (zk7 kX0_allKnowersIfDrink_0) rfl ?_
  refine z_iload_n (pc := 14) (zk8 kX0_allKnowersIfDrink_0) rfl ?_
  refine z_Ln_s2 (pc := 15) (zk9 kX0_allKnowersIfDrink_0) (j := c) hγ (by omega) (show c < 12 by omega) (fun h_4 hR hU_5 => ?_)
  replace hG := GuAt.fr hG hU_5 (by omega)
  replace hL := LnAt.fr hL hU_5 (by omega)
  replace hU := hU.tr hU_5 (by omega) (by omega)
  replace hγ := hR; clear hR
  refine z_aload_n (pc := 16) (zk10 kX0_allKnowersIfDrink_0) rfl ?_
  refine z_getf (pc := 17) (zk11 kX0_allKnowersIfDrink_0) flX0_12 hG.1 gGu_0 ?_
  refine z_rdV (pc := 20) (zk12 kX0_allKnowersIfDrink_0) (st := []) lkX0_126 ivX1_allKnowers hγ.1 rfl rfl (c_allKnowers hγ hn h12 hm h8) rfl ⟨rfl, rfl⟩ rfl rfl ?_ rfl
  exact z_iret (pc := 23) (zk13 kX0_allKnowersIfDrink_0) rfl (Nat.zero_le _) (Nat.zero_le _) ⟨by rfl, ⟨_, _, _, hG, hγ⟩, hU, rfl⟩
set_option maxRecDepth 20000 in
theorem c_taught {D : zD} {B : Nat} {h : zH} {sz : Nat} {p po : Nat} {σ γ : Ln} {mk tl : Nat → Int32} {n l c : Nat} (hG : GuAt h p mk tl) (hγ : LnAt h (p + 1) γ) (hL : LnAt h po σ) (hB : B ≤ p) (hd : p + 12 ≤ po ∨ po + 9 ≤ p) (hbk : σ 6 0 = 0 ∨ σ 6 0 = 1) (hn : σ 0 0 = nI n) (h12 : n ≤ 12) (hl : l < 8) (hk : c < n) : zM D B xX0_isKnownIfTaught [.ref p, .ref po, .int (nI l), .int (nI c)] h sz (gQ h p sz (oI (knowB (learnF σ c (σ 11 l)) l c))) := by
  have hU : Upd h h p 12 := Upd.rf
  refine zM.of (by decide) rfl (n := 0) ?_
  show Z D B xX0_isKnownIfTaught 0 0 _ 0 [some (.ref p), some (.ref po), some (.int (nI l)), some (.int (nI c))] [] h sz
  refine z_aload_n (pc := 0) (zk0 kX0_isKnownIfTaught_0) rfl ?_
  refine z_aload_n (pc := 1) (zk1 kX0_isKnownIfTaught_0) rfl ?_
  refine z_efV (pc := 2) (zk2 kX0_isKnownIfTaught_0) (st := []) lkX0_30 ivX0_freshFrom hG.1 rfl rfl (c_fresh hG hγ hL (by omega) (by omega) hbk) rfl ⟨rfl, rfl⟩ rfl rfl (fun r_ h_2 z_ q_1 => ?_) rfl
  obtain ⟨er_, hR, hU_3, ez_⟩ := q_1
  rw [er_, ez_]
  clear er_ ez_
  replace hG := GuAt.fr hG hU_3 (by omega)
  replace hL := LnAt.fr hL hU_3 (by omega)
  replace hU := hU.tr hU_3 (by omega) (by omega)
  replace hγ := hR; clear hR
  show Z D B xX0_isKnownIfTaught _ _ _ 5 _ [.ref (p + 1)] _ _
  refine z_pop (pc := 5) (zk3 kX0_isKnownIfTaught_0) rfl ?_
  refine z_aload_n (pc := 6) (zk4 kX0_isKnownIfTaught_0) rfl ?_
  refine z_getf (pc := 7) (zk5 kX0_isKnownIfTaught_0) flX0_12 hG.1 gGu_0 ?_
  refine z_iload_n (pc := 10) (zk6 kX0_isKnownIfTaught_0) rfl ?_
  refine z_aload_n (pc := 11) (zk7 kX0_isKnownIfTaught_0) rfl ?_
  refine z_getf (pc := 12) (zk8 kX0_isKnownIfTaught_0) flX0_12 hG.1 gGu_0 ?_
  refine z_getf (pc := 15) (zk9 kX0_isKnownIfTaught_0) flX0_130 hγ.1 gLn_11 ?_
  refine z_iload_n (pc := 18) (zk10 kX0_isKnownIfTaught_0) rfl ?_
  refine z_ialdN (pc := 19) (zk11 kX0_isKnownIfTaught_0) (f := σ 11) (j := l) hγ.2.2.2.2.2.2.1 (show l < 8 by omega) rfl ?_
  refine z_efV (pc := 20) (zk12 kX0_isKnownIfTaught_0) (st := []) lkX0_133 ivX1_learn hγ.1 rfl rfl (c_learn hγ (by omega) (show c < 12 by omega)) rfl ⟨rfl, rfl⟩ rfl rfl (fun r_ h_5 z_ q_4 => ?_) rfl
  obtain ⟨er_, hR, hU_6, ez_⟩ := q_4
  rw [er_, ez_]
  clear er_ ez_
  replace hG := GuAt.fr hG hU_6 (by omega)
  replace hL := LnAt.fr hL hU_6 (by omega)
  replace hU := hU.tr hU_6 (by omega) (by omega)
  replace hγ := hR; clear hR
  show Z D B xX0_isKnownIfTaught _ _ _ 23 _ [] _ _
  refine z_aload_n (pc := 23) (zk13 kX0_isKnownIfTaught_0) rfl ?_
  refine z_getf (pc := 24) (zk14 kX0_isKnownIfTaught_0) flX0_12 hG.1 gGu_0 ?_
  refine z_iload_n (pc := 27) (zk15 kX0_isKnownIfTaught_0) rfl ?_
  refine z_iload_n (pc := 28) (zk0 kX0_isKnownIfTaught_1) rfl ?_
  refine z_rdV (pc := 29) (zk1 kX0_isKnownIfTaught_1) (st := []) lkX0_62 ivX1_isKnown hγ.1 rfl rfl (c_isKnown hγ hn h12 (show l < 8 by omega) (show c < n by omega)) rfl ⟨rfl, rfl⟩ rfl rfl ?_ rfl
  exact z_zret (pc := 32) (zk2 kX0_isKnownIfTaught_1) rfl (Nat.zero_le _) (Nat.zero_le _) (oI_01 _) ⟨by rfl, ⟨_, _, _, hG, hγ⟩, hU, rfl⟩
set_option maxRecDepth 20000 in
theorem c_byC {D : zD} {B : Nat} {h : zH} {sz : Nat} {p po : Nat} {σ γ : Ln} {mk tl : Nat → Int32} {n l c : Nat} (hG : GuAt h p mk tl) (hγ : LnAt h (p + 1) γ) (hL : LnAt h po σ) (hB : B ≤ p) (hd : p + 12 ≤ po ∨ po + 9 ≤ p) (hbk : σ 6 0 = 0 ∨ σ 6 0 = 1) (hn : σ 0 0 = nI n) (h12 : n ≤ 12) (hl : l < 8) (hk : c < n) : zM D B xX0_windsOfKnowing [.ref p, .ref po, .int (nI l), .int (nI c)] h sz (gQ h p sz (byC σ l c)) := by
  have hU : Upd h h p 12 := Upd.rf
  refine zM.of (by decide) rfl (n := 2) ?_
  show Z D B xX0_windsOfKnowing 0 0 _ 0 [some (.ref p), some (.ref po), some (.int (nI l)), some (.int (nI c)), none, none] [] h sz
  refine z_aload_n (pc := 0) (zk0 kX0_windsOfKnowing_0) rfl ?_
  refine z_aload_n (pc := 1) (zk1 kX0_windsOfKnowing_0) rfl ?_
  refine z_efV (pc := 2) (zk2 kX0_windsOfKnowing_0) (st := []) lkX0_30 ivX0_freshFrom hG.1 rfl rfl (c_fresh hG hγ hL (by omega) (by omega) hbk) rfl ⟨rfl, rfl⟩ rfl rfl (fun r_ h_2 z_ q_1 => ?_) rfl
  obtain ⟨er_, hR, hU_3, ez_⟩ := q_1
  rw [er_, ez_]
  clear er_ ez_
  replace hG := GuAt.fr hG hU_3 (by omega)
  replace hL := LnAt.fr hL hU_3 (by omega)
  replace hU := hU.tr hU_3 (by omega) (by omega)
  replace hγ := hR; clear hR
  show Z D B xX0_windsOfKnowing _ _ _ 5 _ [.ref (p + 1)] _ _
  refine z_pop (pc := 5) (zk3 kX0_windsOfKnowing_0) rfl ?_
  refine z_iconst (pc := 6) (zk4 kX0_windsOfKnowing_0) (v := 0) (by decide) ?_
  refine z_istore (pc := 7) (zk5 kX0_windsOfKnowing_0) rfl rfl ?_
  show Z D B xX0_windsOfKnowing _ _ _ 9 [some (.ref p), some (.ref po), some (.int (nI l)), some (.int (nI c)), some (.int 0), none] _ _ _
  refine z_iconst (pc := 9) (zk6 kX0_windsOfKnowing_0) (v := 0) (by decide) ?_
  refine z_istore (pc := 10) (zk7 kX0_windsOfKnowing_0) rfl rfl ?_
  show Z D B xX0_windsOfKnowing _ _ _ 12 [some (.ref p), some (.ref po), some (.int (nI l)), some (.int (nI c)), some (.int 0), some (.int 0)] _ _ _
  have lp12 : ∀ (n_ : Nat) (g : zH) (q : Int32) (t : Int32) (i : Nat), 10 - i < n_ → (i ≤ 10) → (t = sum0 (fun v => oI (knowB (up2 σ 1 c (nI v)) l c)) i) → (LnAt g (p + 1) (up2 σ 1 c q)) → (GuAt g p mk tl) → (LnAt g po σ) → (Upd h g p 12) → Z D B xX0_windsOfKnowing 0 0 (gQ h p sz (byC σ l c)) 12 [some (.ref p), some (.ref po), some (.int (nI l)), some (.int (nI c)), some (.int t), some (.int (nI i))] [] g sz := by
    intro n_
    induction n_ with
    | zero => intro g q t i hm_; exact absurd hm_ (Nat.not_lt_zero _)
    | succ n_ ih12 =>
      intro g q t i hm_ hi_i ht hγ hG hL hU
      refine z_iload (pc := 12) (zk8 kX0_windsOfKnowing_0) rfl ?_
      refine z_bipush (pc := 14) (zk9 kX0_windsOfKnowing_0) (v := 9) (by decide) ?_
      refine z_icmp_gt (pc := 16) (zk10 kX0_windsOfKnowing_0) (tgt := 53) (by decide) (fun c_4 => ?_) (fun c_4 => ?_)
      · have hie_i : i = 10 := nI_gt_yes (a := 9) (by omega) (by omega) c_4
        refine z_iload (pc := 53) (zk12 kX0_windsOfKnowing_1) rfl ?_
        exact z_iret (pc := 55) (zk13 kX0_windsOfKnowing_1) rfl (Nat.zero_le _) (Nat.zero_le _) ⟨by rw [ht, hie_i]; rfl, ⟨_, _, _, hG, hγ⟩, hU, rfl⟩
      · have hlt_i : i < 10 := nI_gt_not (a := 9) (by omega) c_4
        refine z_aload_n (pc := 19) (zk11 kX0_windsOfKnowing_0) rfl ?_
        refine z_getf (pc := 20) (zk12 kX0_windsOfKnowing_0) flX0_12 hG.1 gGu_0 ?_
        refine z_getf (pc := 23) (zk13 kX0_windsOfKnowing_0) flX0_91 hγ.1 gLn_1 ?_
        refine z_iload_n (pc := 26) (zk14 kX0_windsOfKnowing_0) rfl ?_
        refine z_iload (pc := 27) (zk15 kX0_windsOfKnowing_0) rfl ?_
        refine z_Ln_s1 (pc := 29) (zk0 kX0_windsOfKnowing_1) (j := c) hγ (by omega) (show c < 12 by omega) (fun h_5 hR hU_6 => ?_)
        replace hG := GuAt.fr hG hU_6 (by omega)
        replace hL := LnAt.fr hL hU_6 (by omega)
        replace hU := hU.tr hU_6 (by omega) (by omega)
        replace hγ := hR; clear hR
        rw [up2_up2] at hγ
        refine z_iload (pc := 30) (zk1 kX0_windsOfKnowing_1) rfl ?_
        refine z_aload_n (pc := 32) (zk2 kX0_windsOfKnowing_1) rfl ?_
        refine z_getf (pc := 33) (zk3 kX0_windsOfKnowing_1) flX0_12 hG.1 gGu_0 ?_
        refine z_iload_n (pc := 36) (zk4 kX0_windsOfKnowing_1) rfl ?_
        refine z_iload_n (pc := 37) (zk5 kX0_windsOfKnowing_1) rfl ?_
        refine z_rdV (pc := 38) (zk6 kX0_windsOfKnowing_1) (st := [.int t]) lkX0_62 ivX1_isKnown hγ.1 rfl rfl (c_isKnown hγ hn h12 (show l < 8 by omega) (show c < n by omega)) rfl ⟨rfl, rfl⟩ rfl rfl ?_ rfl
        refine z_rdSN (pc := 41) (zk7 kX0_windsOfKnowing_1) (st := [.int t]) lkX0_79 isX4_asNumber (c_asNumber) rfl ⟨rfl, rfl⟩ rfl rfl ?_ rfl
        refine z_iadd (pc := 44) (zk8 kX0_windsOfKnowing_1) ?_
        refine z_istore (pc := 45) (zk9 kX0_windsOfKnowing_1) rfl rfl ?_
        show Z D B xX0_windsOfKnowing _ _ _ 47 [some (.ref p), some (.ref po), some (.int (nI l)), some (.int (nI c)), some (.int (t + (oI (knowB (up2 σ 1 c (nI i)) l c)))), some (.int (nI i))] _ _ _
        refine z_iinc (pc := 47) (zk10 kX0_windsOfKnowing_1) (v := nI (i + 1)) rfl zinc rfl rfl ?_
        show Z D B xX0_windsOfKnowing _ _ _ 50 [some (.ref p), some (.ref po), some (.int (nI l)), some (.int (nI c)), some (.int (t + (oI (knowB (up2 σ 1 c (nI i)) l c)))), some (.int (nI (i + 1)))] _ _ _
        refine z_goto (pc := 50) (zk11 kX0_windsOfKnowing_1) (tgt := 12) (by decide) ?_
        exact ih12 h_5 (nI i) (t + (oI (knowB (up2 σ 1 c (nI i)) l c))) (i + 1) (by omega) (by omega) (by rw [ht]; rfl) hγ hG hL hU
  exact lp12 _ h_2 (σ 1 c) 0 0 (Nat.lt_succ_self _) (by omega) rfl (by rw [up2_id]; exact hγ) hG hL hU
set_option maxRecDepth 20000 in
theorem c_widestTo {D : zD} {B : Nat} {h : zH} {sz : Nat} {p po : Nat} {σ γ : Ln} {mk tl : Nat → Int32} {n l : Nat} (hG : GuAt h p mk tl) (hγ : LnAt h (p + 1) γ) (hL : LnAt h po σ) (hB : B ≤ p) (hd : p + 12 ≤ po ∨ po + 9 ≤ p) (hbk : σ 6 0 = 0 ∨ σ 6 0 = 1) (hn : σ 0 0 = nI n) (h12 : n ≤ 12) (hl : l < 8) : zM D B xX0_widestTo [.ref p, .ref po, .int (nI l)] h sz (gQ h p sz ((wdF σ l).2)) := by
  have hU : Upd h h p 12 := Upd.rf
  refine zM.of (by decide) rfl (n := 4) ?_
  show Z D B xX0_widestTo 0 0 _ 0 [some (.ref p), some (.ref po), some (.int (nI l)), none, none, none, none] [] h sz
  refine z_iconst (pc := 0) (zk0 kX0_widestTo_0) (v := (-1)) (by decide) ?_
  refine z_istore_n (pc := 1) (zk1 kX0_widestTo_0) rfl rfl ?_
  show Z D B xX0_widestTo _ _ _ 2 [some (.ref p), some (.ref po), some (.int (nI l)), some (.int (-1)), none, none, none] _ _ _
  refine z_iconst (pc := 2) (zk2 kX0_widestTo_0) (v := 0) (by decide) ?_
  refine z_istore (pc := 3) (zk3 kX0_widestTo_0) rfl rfl ?_
  show Z D B xX0_widestTo _ _ _ 5 [some (.ref p), some (.ref po), some (.int (nI l)), some (.int (-1)), some (.int 0), none, none] _ _ _
  refine z_iconst (pc := 5) (zk4 kX0_widestTo_0) (v := 0) (by decide) ?_
  refine z_istore (pc := 6) (zk5 kX0_widestTo_0) rfl rfl ?_
  show Z D B xX0_widestTo _ _ _ 8 [some (.ref p), some (.ref po), some (.int (nI l)), some (.int (-1)), some (.int 0), some (.int 0), none] _ _ _
  have lp8 : ∀ (n_ : Nat) (g : zH) (mk1 : Nat → Int32) (tl1 : Nat → Int32) (g1 : Ln) (x : Int32) (y : Int32) (i : Nat), n - i < n_ → (i ≤ n) → (x = (amx (fun k => popI (knowersF (up2 σ 12 l (nI k)) l)) (-1) 0 i).1) → (y = (amx (fun k => popI (knowersF (up2 σ 12 l (nI k)) l)) (-1) 0 i).2) → (LnAt g (p + 1) g1) → (GuAt g p mk1 tl1) → (LnAt g po σ) → (Upd h g p 12) → Z D B xX0_widestTo 0 0 (gQ h p sz ((wdF σ l).2)) 8 [some (.ref p), some (.ref po), some (.int (nI l)), some (.int x), some (.int y), some (.int (nI i)), none] [] g sz := by
    intro n_
    induction n_ with
    | zero => intro g mk1 tl1 g1 x y i hm_; exact absurd hm_ (Nat.not_lt_zero _)
    | succ n_ ih8 =>
      intro g mk1 tl1 g1 x y i hm_ hi_i hx hy hγ hG hL hU
      refine z_iload (pc := 8) (zk6 kX0_widestTo_0) rfl ?_
      refine z_aload_n (pc := 10) (zk7 kX0_widestTo_0) rfl ?_
      refine z_getf (pc := 11) (zk8 kX0_widestTo_0) flX0_34 hL.1 (v := .int (nI n)) (by rw [← hn]; rfl) ?_
      refine z_icmp_ge (pc := 14) (zk9 kX0_widestTo_0) (tgt := 46) (by decide) (fun c_1 => ?_) (fun c_1 => ?_)
      · have hie_i : i = n := nI_ge_yes (a := n) (by omega) (by omega) (by omega) c_1
        refine z_iload (pc := 46) (zk9 kX0_widestTo_1) rfl ?_
        exact z_iret (pc := 48) (zk10 kX0_widestTo_1) rfl (Nat.zero_le _) (Nat.zero_le _) ⟨by rw [hy, hie_i, wdF, hsN_eq hn h12], ⟨_, _, _, hG, hγ⟩, hU, rfl⟩
      · have hlt_i : i < n := nI_ge_not (a := n) (by omega) (by omega) c_1
        refine z_aload_n (pc := 17) (zk10 kX0_widestTo_0) rfl ?_
        refine z_aload_n (pc := 18) (zk11 kX0_widestTo_0) rfl ?_
        refine z_iload_n (pc := 19) (zk12 kX0_widestTo_0) rfl ?_
        refine z_iload (pc := 20) (zk13 kX0_widestTo_0) rfl ?_
        refine z_efV (pc := 22) (zk14 kX0_widestTo_0) (st := []) lkX0_120 ivX0_knowersIfTo hG.1 rfl rfl (c_knowersIfTo hG hγ hL (by omega) (by omega) hbk hn h12 (show l < 8 by omega)) rfl ⟨rfl, rfl⟩ rfl rfl (fun r_ h_3 z_ q_2 => ?_) rfl
        obtain ⟨er_, ⟨mk_5, tl_6, γ_7, hG_, hγ_⟩, hU_4, ez_⟩ := q_2
        rw [er_, ez_]
        clear er_ ez_
        replace hL := LnAt.fr hL hU_4 (by omega)
        replace hU := hU.tr hU_4 (by omega) (by omega)
        replace hG := hG_; replace hγ := hγ_; clear hG_ hγ_
        show Z D B xX0_widestTo _ _ _ 25 _ [.int (popI (knowersF (up2 σ 12 l (nI i)) l))] _ _
        refine z_istore (pc := 25) (zk15 kX0_widestTo_0) rfl rfl ?_
        show Z D B xX0_widestTo _ _ _ 27 [some (.ref p), some (.ref po), some (.int (nI l)), some (.int x), some (.int y), some (.int (nI i)), some (.int (popI (knowersF (up2 σ 12 l (nI i)) l)))] _ _ _
        refine z_iload (pc := 27) (zk0 kX0_widestTo_1) rfl ?_
        refine z_iload_n (pc := 29) (zk1 kX0_widestTo_1) rfl ?_
        refine z_icmp_le (pc := 30) (zk2 kX0_widestTo_1) (tgt := 40) (by decide) (fun c_8 => ?_) (fun c_8 => ?_)
        · refine z_iinc (pc := 40) (zk7 kX0_widestTo_1) (v := nI (i + 1)) rfl zinc rfl rfl ?_
          show Z D B xX0_widestTo _ _ _ 43 [some (.ref p), some (.ref po), some (.int (nI l)), some (.int x), some (.int y), some (.int (nI (i + 1))), some (.int (popI (knowersF (up2 σ 12 l (nI i)) l)))] _ _ _
          refine z_goto (pc := 43) (zk8 kX0_widestTo_1) (tgt := 8) (by decide) ?_
          refine z_kill 6 ?_
          show Z D B xX0_widestTo _ _ _ 8 [some (.ref p), some (.ref po), some (.int (nI l)), some (.int x), some (.int y), some (.int (nI (i + 1))), none] _ _ _
          exact ih8 h_3 mk_5 tl_6 γ_7 x y (i + 1) (by omega) (by omega) (by rw [amx_f (by rw [← hx]; exact Int32.not_lt.mpr c_8)]; exact hx) (by rw [amx_f (by rw [← hx]; exact Int32.not_lt.mpr c_8)]; exact hy) hγ hG hL hU
        · refine z_iload (pc := 33) (zk3 kX0_widestTo_1) rfl ?_
          refine z_istore_n (pc := 35) (zk4 kX0_widestTo_1) rfl rfl ?_
          show Z D B xX0_widestTo _ _ _ 36 [some (.ref p), some (.ref po), some (.int (nI l)), some (.int (popI (knowersF (up2 σ 12 l (nI i)) l))), some (.int y), some (.int (nI i)), some (.int (popI (knowersF (up2 σ 12 l (nI i)) l)))] _ _ _
          refine z_iload (pc := 36) (zk5 kX0_widestTo_1) rfl ?_
          refine z_istore (pc := 38) (zk6 kX0_widestTo_1) rfl rfl ?_
          show Z D B xX0_widestTo _ _ _ 40 [some (.ref p), some (.ref po), some (.int (nI l)), some (.int (popI (knowersF (up2 σ 12 l (nI i)) l))), some (.int (nI i)), some (.int (nI i)), some (.int (popI (knowersF (up2 σ 12 l (nI i)) l)))] _ _ _
          refine z_iinc (pc := 40) (zk7 kX0_widestTo_1) (v := nI (i + 1)) rfl zinc rfl rfl ?_
          show Z D B xX0_widestTo _ _ _ 43 [some (.ref p), some (.ref po), some (.int (nI l)), some (.int (popI (knowersF (up2 σ 12 l (nI i)) l))), some (.int (nI i)), some (.int (nI (i + 1))), some (.int (popI (knowersF (up2 σ 12 l (nI i)) l)))] _ _ _
          refine z_goto (pc := 43) (zk8 kX0_widestTo_1) (tgt := 8) (by decide) ?_
          refine z_kill 6 ?_
          show Z D B xX0_widestTo _ _ _ 8 [some (.ref p), some (.ref po), some (.int (nI l)), some (.int (popI (knowersF (up2 σ 12 l (nI i)) l))), some (.int (nI i)), some (.int (nI (i + 1))), none] _ _ _
          exact ih8 h_3 mk_5 tl_6 γ_7 (popI (knowersF (up2 σ 12 l (nI i)) l)) (nI i) (i + 1) (by omega) (by omega) (by rw [amx_t (by rw [← hx]; exact Int32.not_le.mp c_8)]) (by rw [amx_t (by rw [← hx]; exact Int32.not_le.mp c_8)]) hγ hG hL hU
  exact lp8 _ h mk tl γ (-1) 0 0 (Nat.lt_succ_self _) (by omega) rfl rfl hγ hG hL hU
set_option maxRecDepth 20000 in
theorem c_merriest {D : zD} {B : Nat} {h : zH} {sz : Nat} {p po : Nat} {σ γ : Ln} {mk tl : Nat → Int32} {n l : Nat} (hG : GuAt h p mk tl) (hγ : LnAt h (p + 1) γ) (hL : LnAt h po σ) (hB : B ≤ p) (hd : p + 12 ≤ po ∨ po + 9 ≤ p) (hbk : σ 6 0 = 0 ∨ σ 6 0 = 1) (hn : σ 0 0 = nI n) (h12 : n ≤ 12) (hl : l < 8) : zM D B xX0_merriestHouse [.ref p, .ref po, .int (nI l)] h sz (gQ h p sz ((amx (fun k => popI (knowersF (up2 σ 2 k 0) l)) (-1) 0 (hsN σ)).2)) := by
  have hU : Upd h h p 12 := Upd.rf
  refine zM.of (by decide) rfl (n := 4) ?_
  show Z D B xX0_merriestHouse 0 0 _ 0 [some (.ref p), some (.ref po), some (.int (nI l)), none, none, none, none] [] h sz
  refine z_iconst (pc := 0) (zk0 kX0_merriestHouse_0) (v := (-1)) (by decide) ?_
  refine z_istore_n (pc := 1) (zk1 kX0_merriestHouse_0) rfl rfl ?_
  show Z D B xX0_merriestHouse _ _ _ 2 [some (.ref p), some (.ref po), some (.int (nI l)), some (.int (-1)), none, none, none] _ _ _
  refine z_iconst (pc := 2) (zk2 kX0_merriestHouse_0) (v := 0) (by decide) ?_
  refine z_istore (pc := 3) (zk3 kX0_merriestHouse_0) rfl rfl ?_
  show Z D B xX0_merriestHouse _ _ _ 5 [some (.ref p), some (.ref po), some (.int (nI l)), some (.int (-1)), some (.int 0), none, none] _ _ _
  refine z_iconst (pc := 5) (zk4 kX0_merriestHouse_0) (v := 0) (by decide) ?_
  refine z_istore (pc := 6) (zk5 kX0_merriestHouse_0) rfl rfl ?_
  show Z D B xX0_merriestHouse _ _ _ 8 [some (.ref p), some (.ref po), some (.int (nI l)), some (.int (-1)), some (.int 0), some (.int 0), none] _ _ _
  have lp8 : ∀ (n_ : Nat) (g : zH) (mk1 : Nat → Int32) (tl1 : Nat → Int32) (g1 : Ln) (x : Int32) (y : Int32) (i : Nat), n - i < n_ → (i ≤ n) → (x = (amx (fun k => popI (knowersF (up2 σ 2 k 0) l)) (-1) 0 i).1) → (y = (amx (fun k => popI (knowersF (up2 σ 2 k 0) l)) (-1) 0 i).2) → (LnAt g (p + 1) g1) → (GuAt g p mk1 tl1) → (LnAt g po σ) → (Upd h g p 12) → Z D B xX0_merriestHouse 0 0 (gQ h p sz ((amx (fun k => popI (knowersF (up2 σ 2 k 0) l)) (-1) 0 (hsN σ)).2)) 8 [some (.ref p), some (.ref po), some (.int (nI l)), some (.int x), some (.int y), some (.int (nI i)), none] [] g sz := by
    intro n_
    induction n_ with
    | zero => intro g mk1 tl1 g1 x y i hm_; exact absurd hm_ (Nat.not_lt_zero _)
    | succ n_ ih8 =>
      intro g mk1 tl1 g1 x y i hm_ hi_i hx hy hγ hG hL hU
      refine z_iload (pc := 8) (zk6 kX0_merriestHouse_0) rfl ?_
      refine z_aload_n (pc := 10) (zk7 kX0_merriestHouse_0) rfl ?_
      refine z_getf (pc := 11) (zk8 kX0_merriestHouse_0) flX0_34 hL.1 (v := .int (nI n)) (by rw [← hn]; rfl) ?_
      refine z_icmp_ge (pc := 14) (zk9 kX0_merriestHouse_0) (tgt := 66) (by decide) (fun c_1 => ?_) (fun c_1 => ?_)
      · have hie_i : i = n := nI_ge_yes (a := n) (by omega) (by omega) (by omega) c_1
        refine z_iload (pc := 66) (zk3 kX0_merriestHouse_2) rfl ?_
        exact z_iret (pc := 68) (zk4 kX0_merriestHouse_2) rfl (Nat.zero_le _) (Nat.zero_le _) ⟨by rw [hy, hie_i, hsN_eq hn h12], ⟨_, _, _, hG, hγ⟩, hU, rfl⟩
      · have hlt_i : i < n := nI_ge_not (a := n) (by omega) (by omega) c_1
        refine z_aload_n (pc := 17) (zk10 kX0_merriestHouse_0) rfl ?_
        refine z_aload_n (pc := 18) (zk11 kX0_merriestHouse_0) rfl ?_
        refine z_efV (pc := 19) (zk12 kX0_merriestHouse_0) (st := []) lkX0_30 ivX0_freshFrom hG.1 rfl rfl (c_fresh hG hγ hL (by omega) (by omega) hbk) rfl ⟨rfl, rfl⟩ rfl rfl (fun r_ h_3 z_ q_2 => ?_) rfl
        obtain ⟨er_, hR, hU_4, ez_⟩ := q_2
        rw [er_, ez_]
        clear er_ ez_
        replace hG := GuAt.fr hG hU_4 (by omega)
        replace hL := LnAt.fr hL hU_4 (by omega)
        replace hU := hU.tr hU_4 (by omega) (by omega)
        replace hγ := hR; clear hR
        show Z D B xX0_merriestHouse _ _ _ 22 _ [.ref (p + 1)] _ _
        refine z_pop (pc := 22) (zk13 kX0_merriestHouse_0) rfl ?_
        refine z_aload_n (pc := 23) (zk14 kX0_merriestHouse_0) rfl ?_
        refine z_getf (pc := 24) (zk15 kX0_merriestHouse_0) flX0_12 hG.1 gGu_0 ?_
        refine z_getf (pc := 27) (zk0 kX0_merriestHouse_1) flX0_53 hγ.1 gLn_2 ?_
        refine z_iload (pc := 30) (zk1 kX0_merriestHouse_1) rfl ?_
        refine z_iconst (pc := 32) (zk2 kX0_merriestHouse_1) (v := 0) (by decide) ?_
        refine z_Ln_s2 (pc := 33) (zk3 kX0_merriestHouse_1) (j := i) hγ (by omega) (show i < 12 by omega) (fun h_5 hR hU_6 => ?_)
        replace hG := GuAt.fr hG hU_6 (by omega)
        replace hL := LnAt.fr hL hU_6 (by omega)
        replace hU := hU.tr hU_6 (by omega) (by omega)
        replace hγ := hR; clear hR
        refine z_aload_n (pc := 34) (zk4 kX0_merriestHouse_1) rfl ?_
        refine z_getf (pc := 35) (zk5 kX0_merriestHouse_1) flX0_12 hG.1 gGu_0 ?_
        refine z_iload_n (pc := 38) (zk6 kX0_merriestHouse_1) rfl ?_
        refine z_rdV (pc := 39) (zk7 kX0_merriestHouse_1) (st := []) lkX0_41 ivX1_knowers hγ.1 rfl rfl (c_knowers hγ hn h12 (show l < 8 by omega)) rfl ⟨rfl, rfl⟩ rfl rfl ?_ rfl
        refine z_rdS (pc := 42) (zk8 kX0_merriestHouse_1) (st := []) lkX0_112 isJ6_bitCount_0f7a4 (c_bitC (knowersF_eq (up2 σ 2 i 0) l (hsN_le (σ := (up2 σ 2 i 0)) hn h12))) rfl ⟨rfl, rfl⟩ rfl rfl ?_ rfl
        refine z_istore (pc := 45) (zk9 kX0_merriestHouse_1) rfl rfl ?_
        show Z D B xX0_merriestHouse _ _ _ 47 [some (.ref p), some (.ref po), some (.int (nI l)), some (.int x), some (.int y), some (.int (nI i)), some (.int (popI (knowersF (up2 σ 2 i 0) l)))] _ _ _
        refine z_iload (pc := 47) (zk10 kX0_merriestHouse_1) rfl ?_
        refine z_iload_n (pc := 49) (zk11 kX0_merriestHouse_1) rfl ?_
        refine z_icmp_le (pc := 50) (zk12 kX0_merriestHouse_1) (tgt := 60) (by decide) (fun c_7 => ?_) (fun c_7 => ?_)
        · refine z_iinc (pc := 60) (zk1 kX0_merriestHouse_2) (v := nI (i + 1)) rfl zinc rfl rfl ?_
          show Z D B xX0_merriestHouse _ _ _ 63 [some (.ref p), some (.ref po), some (.int (nI l)), some (.int x), some (.int y), some (.int (nI (i + 1))), some (.int (popI (knowersF (up2 σ 2 i 0) l)))] _ _ _
          refine z_goto (pc := 63) (zk2 kX0_merriestHouse_2) (tgt := 8) (by decide) ?_
          refine z_kill 6 ?_
          show Z D B xX0_merriestHouse _ _ _ 8 [some (.ref p), some (.ref po), some (.int (nI l)), some (.int x), some (.int y), some (.int (nI (i + 1))), none] _ _ _
          exact ih8 h_5 mk1 tl1 (up2 σ 2 i 0) x y (i + 1) (by omega) (by omega) (by rw [amx_f (by rw [← hx]; exact Int32.not_lt.mpr c_7)]; exact hx) (by rw [amx_f (by rw [← hx]; exact Int32.not_lt.mpr c_7)]; exact hy) hγ hG hL hU
        · refine z_iload (pc := 53) (zk13 kX0_merriestHouse_1) rfl ?_
          refine z_istore_n (pc := 55) (zk14 kX0_merriestHouse_1) rfl rfl ?_
          show Z D B xX0_merriestHouse _ _ _ 56 [some (.ref p), some (.ref po), some (.int (nI l)), some (.int (popI (knowersF (up2 σ 2 i 0) l))), some (.int y), some (.int (nI i)), some (.int (popI (knowersF (up2 σ 2 i 0) l)))] _ _ _
          refine z_iload (pc := 56) (zk15 kX0_merriestHouse_1) rfl ?_
          refine z_istore (pc := 58) (zk0 kX0_merriestHouse_2) rfl rfl ?_
          show Z D B xX0_merriestHouse _ _ _ 60 [some (.ref p), some (.ref po), some (.int (nI l)), some (.int (popI (knowersF (up2 σ 2 i 0) l))), some (.int (nI i)), some (.int (nI i)), some (.int (popI (knowersF (up2 σ 2 i 0) l)))] _ _ _
          refine z_iinc (pc := 60) (zk1 kX0_merriestHouse_2) (v := nI (i + 1)) rfl zinc rfl rfl ?_
          show Z D B xX0_merriestHouse _ _ _ 63 [some (.ref p), some (.ref po), some (.int (nI l)), some (.int (popI (knowersF (up2 σ 2 i 0) l))), some (.int (nI i)), some (.int (nI (i + 1))), some (.int (popI (knowersF (up2 σ 2 i 0) l)))] _ _ _
          refine z_goto (pc := 63) (zk2 kX0_merriestHouse_2) (tgt := 8) (by decide) ?_
          refine z_kill 6 ?_
          show Z D B xX0_merriestHouse _ _ _ 8 [some (.ref p), some (.ref po), some (.int (nI l)), some (.int (popI (knowersF (up2 σ 2 i 0) l))), some (.int (nI i)), some (.int (nI (i + 1))), none] _ _ _
          exact ih8 h_5 mk1 tl1 (up2 σ 2 i 0) (popI (knowersF (up2 σ 2 i 0) l)) (nI i) (i + 1) (by omega) (by omega) (by rw [amx_t (by rw [← hx]; exact Int32.not_le.mp c_7)]) (by rw [amx_t (by rw [← hx]; exact Int32.not_le.mp c_7)]) hγ hG hL hU
  exact lp8 _ h mk tl γ (-1) 0 0 (Nat.lt_succ_self _) (by omega) rfl rfl hγ hG hL hU
theorem byC_no {σ : Ln} {l k : Nat} (h0 : 0 < σ 13 l) (hr : readB σ l k = false) : byC σ l k = 0 := by
  have hk : ∀ v, knowB (up2 σ 1 k (nI v)) l k = false := by
    intro v
    have hh : heardF (up2 σ 1 k (nI v)) l k = 0 := by
      rw [heardF, heardW, show readB (up2 σ 1 k (nI v)) l k = readB σ l k from rfl, hr]; rfl
    rw [knowB, hh, show up2 σ 1 k (nI v) 13 l = σ 13 l from rfl]
    exact decide_eq_false (Int32.not_le.mpr h0)
  rw [byC, sum0_cong (g := fun _ => 0) (fun j _ => by rw [hk j]; rfl)]
  rfl
theorem by_10 {σ : Ln} {l k : Nat} (h0 : 0 < σ 13 l) (c : byC σ l k = 10) : readB σ l k = true := by
  cases hr : readB σ l k with
  | true => rfl
  | false => rw [byC_no h0 hr] at c; exact absurd c (by decide)
set_option maxRecDepth 20000 in
theorem c_sureKn {D : zD} {B : Nat} {h : zH} {sz : Nat} {p po : Nat} {σ γ : Ln} {mk tl : Nat → Int32} {n l : Nat} (hG : GuAt h p mk tl) (hγ : LnAt h (p + 1) γ) (hL : LnAt h po σ) (hB : B ≤ p) (hd : p + 12 ≤ po ∨ po + 9 ≤ p) (hbk : σ 6 0 = 0 ∨ σ 6 0 = 1) (hn : σ 0 0 = nI n) (h12 : n ≤ 12) (hl : l < 8) (h0 : 0 < σ 13 l) : zM D B xX0_sureKnowers [.ref p, .ref po, .int (nI l)] h sz (gQ h p sz (sum0 (fun k => oI (sureB σ l k)) (hsN σ))) := by
  have hU : Upd h h p 12 := Upd.rf
  refine zM.of (by decide) rfl (n := 2) ?_
  show Z D B xX0_sureKnowers 0 0 _ 0 [some (.ref p), some (.ref po), some (.int (nI l)), none, none] [] h sz
  refine z_iconst (pc := 0) (zk0 kX0_sureKnowers_0) (v := 0) (by decide) ?_
  refine z_istore_n (pc := 1) (zk1 kX0_sureKnowers_0) rfl rfl ?_
  show Z D B xX0_sureKnowers _ _ _ 2 [some (.ref p), some (.ref po), some (.int (nI l)), some (.int 0), none] _ _ _
  refine z_iconst (pc := 2) (zk2 kX0_sureKnowers_0) (v := 0) (by decide) ?_
  refine z_istore (pc := 3) (zk3 kX0_sureKnowers_0) rfl rfl ?_
  show Z D B xX0_sureKnowers _ _ _ 5 [some (.ref p), some (.ref po), some (.int (nI l)), some (.int 0), some (.int 0)] _ _ _
  have lp5 : ∀ (n_ : Nat) (g : zH) (mk1 : Nat → Int32) (tl1 : Nat → Int32) (g1 : Ln) (t : Int32) (i : Nat), n - i < n_ → (i ≤ n) → (t = sum0 (fun k => oI (sureB σ l k)) i) → (LnAt g (p + 1) g1) → (GuAt g p mk1 tl1) → (LnAt g po σ) → (Upd h g p 12) → Z D B xX0_sureKnowers 0 0 (gQ h p sz (sum0 (fun k => oI (sureB σ l k)) (hsN σ))) 5 [some (.ref p), some (.ref po), some (.int (nI l)), some (.int t), some (.int (nI i))] [] g sz := by
    intro n_
    induction n_ with
    | zero => intro g mk1 tl1 g1 t i hm_; exact absurd hm_ (Nat.not_lt_zero _)
    | succ n_ ih5 =>
      intro g mk1 tl1 g1 t i hm_ hi_i ht hγ hG hL hU
      refine z_iload (pc := 5) (zk4 kX0_sureKnowers_0) rfl ?_
      refine z_aload_n (pc := 7) (zk5 kX0_sureKnowers_0) rfl ?_
      refine z_getf (pc := 8) (zk6 kX0_sureKnowers_0) flX0_34 hL.1 (v := .int (nI n)) (by rw [← hn]; rfl) ?_
      refine z_icmp_ge (pc := 11) (zk7 kX0_sureKnowers_0) (tgt := 55) (by decide) (fun c_1 => ?_) (fun c_1 => ?_)
      · have hie_i : i = n := nI_ge_yes (a := n) (by omega) (by omega) (by omega) c_1
        refine z_iload_n (pc := 55) (zk14 kX0_sureKnowers_1) rfl ?_
        exact z_iret (pc := 56) (zk15 kX0_sureKnowers_1) rfl (Nat.zero_le _) (Nat.zero_le _) ⟨by rw [ht, hie_i, hsN_eq hn h12], ⟨_, _, _, hG, hγ⟩, hU, rfl⟩
      · have hlt_i : i < n := nI_ge_not (a := n) (by omega) (by omega) c_1
        refine z_iload (pc := 14) (zk8 kX0_sureKnowers_0) rfl ?_
        refine z_aload_n (pc := 16) (zk9 kX0_sureKnowers_0) rfl ?_
        refine z_getf (pc := 17) (zk10 kX0_sureKnowers_0) flX0_38 hL.1 gLn_12 ?_
        refine z_iload_n (pc := 20) (zk11 kX0_sureKnowers_0) rfl ?_
        refine z_ialdN (pc := 21) (zk12 kX0_sureKnowers_0) (f := σ 12) (j := l) hL.2.2.2.2.2.2.2.1 (show l < 8 by omega) rfl ?_
        refine z_icmp_eq (pc := 22) (zk13 kX0_sureKnowers_0) (tgt := 49) (by decide) (fun c_2 => ?_) (fun c_2 => ?_)
        · refine z_iinc (pc := 49) (zk12 kX0_sureKnowers_1) (v := nI (i + 1)) rfl zinc rfl rfl ?_
          show Z D B xX0_sureKnowers _ _ _ 52 [some (.ref p), some (.ref po), some (.int (nI l)), some (.int t), some (.int (nI (i + 1)))] _ _ _
          refine z_goto (pc := 52) (zk13 kX0_sureKnowers_1) (tgt := 5) (by decide) ?_
          exact ih5 g mk1 tl1 g1 t (i + 1) (by omega) (by omega) (by rw [ht, sum0]; simp [sureB, oI, c_1, Int32.not_le.mp c_1, c_2]) hγ hG hL hU
        · refine z_iload_n (pc := 25) (zk14 kX0_sureKnowers_0) rfl ?_
          refine z_aload_n (pc := 26) (zk15 kX0_sureKnowers_0) rfl ?_
          refine z_aload_n (pc := 27) (zk0 kX0_sureKnowers_1) rfl ?_
          refine z_iload_n (pc := 28) (zk1 kX0_sureKnowers_1) rfl ?_
          refine z_iload (pc := 29) (zk2 kX0_sureKnowers_1) rfl ?_
          refine z_efV (pc := 31) (zk3 kX0_sureKnowers_1) (st := [.int t]) lkX0_104 ivX0_windsOfKnowing hG.1 rfl rfl (c_byC hG hγ hL (by omega) (by omega) hbk hn h12 (show l < 8 by omega) (show i < n by omega)) rfl ⟨rfl, rfl⟩ rfl rfl (fun r_ h_4 z_ q_3 => ?_) rfl
          obtain ⟨er_, ⟨mk_6, tl_7, γ_8, hG_, hγ_⟩, hU_5, ez_⟩ := q_3
          rw [er_, ez_]
          clear er_ ez_
          replace hL := LnAt.fr hL hU_5 (by omega)
          replace hU := hU.tr hU_5 (by omega) (by omega)
          replace hG := hG_; replace hγ := hγ_; clear hG_ hγ_
          show Z D B xX0_sureKnowers _ _ _ 34 _ [.int (byC σ l i), .int t] _ _
          refine z_bipush (pc := 34) (zk4 kX0_sureKnowers_1) (v := 10) (by decide) ?_
          refine z_icmp_ne (pc := 36) (zk5 kX0_sureKnowers_1) (tgt := 43) (by decide) (fun c_9 => ?_) (fun c_9 => ?_)
          · refine z_iconst (pc := 43) (zk8 kX0_sureKnowers_1) (v := 0) (by decide) ?_
            refine z_rdSN (pc := 44) (zk9 kX0_sureKnowers_1) (st := [.int t]) lkX0_79 isX4_asNumber (c_asNumber (b := false)) rfl ⟨rfl, rfl⟩ rfl rfl ?_ rfl
            refine z_iadd (pc := 47) (zk10 kX0_sureKnowers_1) ?_
            refine z_istore_n (pc := 48) (zk11 kX0_sureKnowers_1) rfl rfl ?_
            show Z D B xX0_sureKnowers _ _ _ 49 [some (.ref p), some (.ref po), some (.int (nI l)), some (.int (t + 0)), some (.int (nI i))] _ _ _
            refine z_iinc (pc := 49) (zk12 kX0_sureKnowers_1) (v := nI (i + 1)) rfl zinc rfl rfl ?_
            show Z D B xX0_sureKnowers _ _ _ 52 [some (.ref p), some (.ref po), some (.int (nI l)), some (.int (t + 0)), some (.int (nI (i + 1)))] _ _ _
            refine z_goto (pc := 52) (zk13 kX0_sureKnowers_1) (tgt := 5) (by decide) ?_
            exact ih5 h_4 mk_6 tl_7 γ_8 (t + 0) (i + 1) (by omega) (by omega) (by rw [ht, sum0]; simp [sureB, oI, c_1, Int32.not_le.mp c_1, c_2, c_9]) hγ hG hL hU
          · refine z_iconst (pc := 39) (zk6 kX0_sureKnowers_1) (v := 1) (by decide) ?_
            refine z_goto (pc := 40) (zk7 kX0_sureKnowers_1) (tgt := 44) (by decide) ?_
            refine z_rdSN (pc := 44) (zk9 kX0_sureKnowers_1) (st := [.int t]) lkX0_79 isX4_asNumber (c_asNumber (b := true)) rfl ⟨rfl, rfl⟩ rfl rfl ?_ rfl
            refine z_iadd (pc := 47) (zk10 kX0_sureKnowers_1) ?_
            refine z_istore_n (pc := 48) (zk11 kX0_sureKnowers_1) rfl rfl ?_
            show Z D B xX0_sureKnowers _ _ _ 49 [some (.ref p), some (.ref po), some (.int (nI l)), some (.int (t + 1)), some (.int (nI i))] _ _ _
            refine z_iinc (pc := 49) (zk12 kX0_sureKnowers_1) (v := nI (i + 1)) rfl zinc rfl rfl ?_
            show Z D B xX0_sureKnowers _ _ _ 52 [some (.ref p), some (.ref po), some (.int (nI l)), some (.int (t + 1)), some (.int (nI (i + 1)))] _ _ _
            refine z_goto (pc := 52) (zk13 kX0_sureKnowers_1) (tgt := 5) (by decide) ?_
            exact ih5 h_4 mk_6 tl_7 γ_8 (t + 1) (i + 1) (by omega) (by omega) (by rw [ht, sum0]; simp [sureB, oI, c_1, Int32.not_le.mp c_1, c_2, c_9, by_10 h0 c_9]) hγ hG hL hU
  exact lp5 _ h mk tl γ 0 0 (Nat.lt_succ_self _) (by omega) rfl hγ hG hL hU
set_option maxRecDepth 20000 in
theorem c_sober {D : zD} {B : Nat} {h : zH} {sz : Nat} {p po : Nat} {σ γ : Ln} {mk tl : Nat → Int32} {n l : Nat} (hG : GuAt h p mk tl) (hγ : LnAt h (p + 1) γ) (hL : LnAt h po σ) (hB : B ≤ p) (hd : p + 12 ≤ po ∨ po + 9 ≤ p) (hbk : σ 6 0 = 0 ∨ σ 6 0 = 1) (hn : σ 0 0 = nI n) (h12 : n ≤ 12) (hl : l < 8) : zM D B xX0_knowersSober [.ref p, .ref po, .int (nI l)] h sz (gQ h p sz (popI (knowersF (dry σ (hsN σ)) l))) := by
  have hU : Upd h h p 12 := Upd.rf
  refine zM.of (by decide) rfl (n := 1) ?_
  show Z D B xX0_knowersSober 0 0 _ 0 [some (.ref p), some (.ref po), some (.int (nI l)), none] [] h sz
  refine z_aload_n (pc := 0) (zk0 kX0_knowersSober_0) rfl ?_
  refine z_aload_n (pc := 1) (zk1 kX0_knowersSober_0) rfl ?_
  refine z_efV (pc := 2) (zk2 kX0_knowersSober_0) (st := []) lkX0_30 ivX0_freshFrom hG.1 rfl rfl (c_fresh hG hγ hL (by omega) (by omega) hbk) rfl ⟨rfl, rfl⟩ rfl rfl (fun r_ h_2 z_ q_1 => ?_) rfl
  obtain ⟨er_, hR, hU_3, ez_⟩ := q_1
  rw [er_, ez_]
  clear er_ ez_
  replace hG := GuAt.fr hG hU_3 (by omega)
  replace hL := LnAt.fr hL hU_3 (by omega)
  replace hU := hU.tr hU_3 (by omega) (by omega)
  replace hγ := hR; clear hR
  show Z D B xX0_knowersSober _ _ _ 5 _ [.ref (p + 1)] _ _
  refine z_pop (pc := 5) (zk3 kX0_knowersSober_0) rfl ?_
  refine z_iconst (pc := 6) (zk4 kX0_knowersSober_0) (v := 0) (by decide) ?_
  refine z_istore_n (pc := 7) (zk5 kX0_knowersSober_0) rfl rfl ?_
  show Z D B xX0_knowersSober _ _ _ 8 [some (.ref p), some (.ref po), some (.int (nI l)), some (.int 0)] _ _ _
  have lp8 : ∀ (n_ : Nat) (g : zH) (i : Nat), n - i < n_ → (i ≤ n) → (LnAt g (p + 1) (dry σ i)) → (GuAt g p mk tl) → (LnAt g po σ) → (Upd h g p 12) → Z D B xX0_knowersSober 0 0 (gQ h p sz (popI (knowersF (dry σ (hsN σ)) l))) 8 [some (.ref p), some (.ref po), some (.int (nI l)), some (.int (nI i))] [] g sz := by
    intro n_
    induction n_ with
    | zero => intro g i hm_; exact absurd hm_ (Nat.not_lt_zero _)
    | succ n_ ih8 =>
      intro g i hm_ hi_i hγ hG hL hU
      refine z_iload_n (pc := 8) (zk6 kX0_knowersSober_0) rfl ?_
      refine z_aload_n (pc := 9) (zk7 kX0_knowersSober_0) rfl ?_
      refine z_getf (pc := 10) (zk8 kX0_knowersSober_0) flX0_12 hG.1 gGu_0 ?_
      refine z_getf (pc := 13) (zk9 kX0_knowersSober_0) flX0_34 hγ.1 (v := .int (nI n)) (by rw [← hn]; rfl) ?_
      refine z_icmp_ge (pc := 16) (zk10 kX0_knowersSober_0) (tgt := 35) (by decide) (fun c_4 => ?_) (fun c_4 => ?_)
      · have hie_i : i = n := nI_ge_yes (a := n) (by omega) (by omega) (by omega) c_4
        refine z_aload_n (pc := 35) (zk3 kX0_knowersSober_1) rfl ?_
        refine z_getf (pc := 36) (zk4 kX0_knowersSober_1) flX0_12 hG.1 gGu_0 ?_
        refine z_iload_n (pc := 39) (zk5 kX0_knowersSober_1) rfl ?_
        refine z_rdV (pc := 40) (zk6 kX0_knowersSober_1) (st := []) lkX0_41 ivX1_knowers hγ.1 rfl rfl (c_knowers hγ hn h12 (show l < 8 by omega)) rfl ⟨rfl, rfl⟩ rfl rfl ?_ rfl
        refine z_rdS (pc := 43) (zk7 kX0_knowersSober_1) (st := []) lkX0_112 isJ6_bitCount_0f7a4 (c_bitC (knowersF_eq (dry σ i) l (hsN_le (σ := (dry σ i)) hn h12))) rfl ⟨rfl, rfl⟩ rfl rfl ?_ rfl
        exact z_iret (pc := 46) (zk8 kX0_knowersSober_1) rfl (Nat.zero_le _) (Nat.zero_le _) ⟨by rw [hie_i, hsN_eq hn h12], ⟨_, _, _, hG, hγ⟩, hU, rfl⟩
      · have hlt_i : i < n := nI_ge_not (a := n) (by omega) (by omega) c_4
        refine z_aload_n (pc := 19) (zk11 kX0_knowersSober_0) rfl ?_
        refine z_getf (pc := 20) (zk12 kX0_knowersSober_0) flX0_12 hG.1 gGu_0 ?_
        refine z_getf (pc := 23) (zk13 kX0_knowersSober_0) flX0_53 hγ.1 gLn_2 ?_
        refine z_iload_n (pc := 26) (zk14 kX0_knowersSober_0) rfl ?_
        refine z_iconst (pc := 27) (zk15 kX0_knowersSober_0) (v := 0) (by decide) ?_
        refine z_Ln_s2 (pc := 28) (zk0 kX0_knowersSober_1) (j := i) hγ (by omega) (show i < 12 by omega) (fun h_5 hR hU_6 => ?_)
        replace hG := GuAt.fr hG hU_6 (by omega)
        replace hL := LnAt.fr hL hU_6 (by omega)
        replace hU := hU.tr hU_6 (by omega) (by omega)
        replace hγ := hR; clear hR
        refine z_iinc (pc := 29) (zk1 kX0_knowersSober_1) (v := nI (i + 1)) rfl zinc rfl rfl ?_
        show Z D B xX0_knowersSober _ _ _ 32 [some (.ref p), some (.ref po), some (.int (nI l)), some (.int (nI (i + 1)))] _ _ _
        refine z_goto (pc := 32) (zk2 kX0_knowersSober_1) (tgt := 8) (by decide) ?_
        exact ih8 h_5 (i + 1) (by omega) (by omega) (by rw [← dry_s]; exact hγ) hG hL hU
  exact lp8 _ h_2 0 (Nat.lt_succ_self _) (by omega) (by rw [dry_0]; exact hγ) hG hL hU
