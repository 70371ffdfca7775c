def rdQ (h : zH) (pt pl sz : Nat) (τ : Ln) (R : Except Nat (Ln × Nat)) : zQ := fun r h1 z1 => r = none ∧ (∃ ω1, TaAt h1 pt τ ω1 ∧ ((∃ σ1 e, R = .ok (σ1, e) ∧ LnAt h1 pl σ1 ∧ ω1 12 0 = -1 ∧ ω1 10 0 = nI e) ∨ (∃ x γ, R = .error x ∧ LnAt h1 pl γ ∧ ω1 12 0 = nI x))) ∧ Up2 h h1 pt 2 pl 9 ∧ z1 = sz
theorem hi_ok {σ : Ln} {n : Nat} (hn : σ 0 0 = nI n) (h12 : n ≤ 12) : σ 0 0 - 1 < 1000 := by
  rw [hn]
  have : ∀ n, n < 13 → nI n - 1 < 1000 := by decide
  exact this n (by omega)
set_option maxRecDepth 20000 in
theorem c_rdHouses {D : zD} {B : Nat} {h : zH} {sz : Nat} {pt pl N a n : Nat} {τ ω σ : Ln}  (hT : TaAt h pt τ ω) (hL : LnAt h pl σ) (hd : pt + 2 ≤ pl ∨ pl + 9 ≤ pt) (hN : τ 6 0 = nI N) (hN2 : N ≤ 250) (ha : ω 10 0 = nI a) (ha2 : a ≤ N) (hf : ω 12 0 = -1) (hB : B ≤ pt) (hBl : B ≤ pl) (hn : σ 0 0 = nI n) (h12 : n ≤ 12)  : zM D B xX3_readHouses [.ref pt, .ref pl] h sz (rdQ h pt pl sz τ (st_houses (τ 5) N σ a)) := by
  have hU : Up2 h h pt 2 pl 9 := Up2.rf
  refine zM.of (by decide) rfl (n := 1) ?_
  show Z D B xX3_readHouses 0 0 _ 0 [some (.ref pt), some (.ref pl), none] [] h sz
  refine z_aload_n (pc := 0) (zk0 kX3_readHouses_0) rfl ?_
  refine z_aload_n (pc := 1) (zk1 kX3_readHouses_0) rfl ?_
  refine z_getf (pc := 2) (zk2 kX3_readHouses_0) flX3_91 hL.1 (v := .int (σ 0 0)) rfl ?_
  refine z_bipush (pc := 5) (zk3 kX3_readHouses_0) (v := 12) (by decide) ?_
  refine z_efV (pc := 7) (zk4 kX3_readHouses_0) (st := []) lkX3_93 ivX3_readNumber hT.1 rfl rfl (c_rn hT hN hN2 ha (by omega) hf (by decide) (by omega)) rfl ⟨rfl, rfl⟩ rfl rfl (fun r_ h_2 z_ q_1 => ?_) rfl
  obtain ⟨q_, hU_4, ez_⟩ := q_1
  rw [ez_]
  clear ez_
  rcases q_ with ⟨v_k_3, e_k_3, w_k_3, en_k_3, er_, hR, ef_k_3, ee_k_3⟩ | ⟨x_k_3, w_k_3, en_k_3, er_, hR, ef_k_3⟩
  · rw [er_]
    clear er_
    replace hL := LnAt.fr hL hU_4 (by omega)
    replace hU := Up2.tr hU hU_4 (by omega)
    replace hT := hR; clear hR
    have ho_k_3 := numR_ok (by omega) en_k_3
    show Z D B xX3_readHouses _ _ _ 10 _ [.int v_k_3] _ _
    refine z_istore_n (pc := 10) (zk5 kX3_readHouses_0) rfl rfl ?_
    show Z D B xX3_readHouses _ _ _ 11 [some (.ref pt), some (.ref pl), some (.int v_k_3)] _ _ _
    refine z_aload_n (pc := 11) (zk6 kX3_readHouses_0) rfl ?_
    refine z_getf (pc := 12) (zk7 kX3_readHouses_0) flX3_28 hT.1 (v := .int (-1)) (by rw [← ef_k_3]; rfl) ?_
    refine z_iconst (pc := 15) (zk8 kX3_readHouses_0) (v := (-1)) (by decide) ?_
    refine z_icmp_ne (pc := 16) (zk9 kX3_readHouses_0) (tgt := 24) (by decide) (fun q => absurd (by decide) q) (fun _ => ?_)
    refine z_aload_n (pc := 19) (zk10 kX3_readHouses_0) rfl ?_
    refine z_iload_n (pc := 20) (zk11 kX3_readHouses_0) rfl ?_
    refine z_Ln_w0 (pc := 21) (zk12 kX3_readHouses_0) flX3_91 hL (by omega) (fun h_5 hR hU_6 => ?_)
    replace hT := TaAt.fr hT hU_6 (by omega)
    replace hU := Up2.tr hU hU_6 (by omega)
    replace hL := hR; clear hR
    exact z_vret (pc := 24) (zk13 kX3_readHouses_0) rfl (Nat.zero_le _) (Nat.zero_le _) ⟨rfl, ⟨_, hT, Or.inl ⟨_, _, by rw [st_houses, stN_y en_k_3], hL, ef_k_3, ee_k_3⟩⟩, hU, rfl⟩
  · rw [er_]
    clear er_
    replace hL := LnAt.fr hL hU_4 (by omega)
    replace hU := Up2.tr hU hU_4 (by omega)
    replace hT := hR; clear hR
    have hx_k_3 := numR_err (by omega) en_k_3
    show Z D B xX3_readHouses _ _ _ 10 _ [.int (σ 0 0)] _ _
    refine z_istore_n (pc := 10) (zk5 kX3_readHouses_0) rfl rfl ?_
    show Z D B xX3_readHouses _ _ _ 11 [some (.ref pt), some (.ref pl), some (.int (σ 0 0))] _ _ _
    refine z_aload_n (pc := 11) (zk6 kX3_readHouses_0) rfl ?_
    refine z_getf (pc := 12) (zk7 kX3_readHouses_0) flX3_28 hT.1 (v := .int (nI x_k_3)) (by rw [← ef_k_3]; rfl) ?_
    refine z_iconst (pc := 15) (zk8 kX3_readHouses_0) (v := (-1)) (by decide) ?_
    refine z_icmp_ne (pc := 16) (zk9 kX3_readHouses_0) (tgt := 24) (by decide) (fun _ => ?_) (fun q => absurd q (nI_ne_m1 (show x_k_3 ≤ 1000 by omega)))
    exact z_vret (pc := 24) (zk13 kX3_readHouses_0) rfl (Nat.zero_le _) (Nat.zero_le _) ⟨rfl, ⟨_, hT, Or.inr ⟨_, _, by rw [st_houses, stN_n en_k_3], hL, ef_k_3⟩⟩, hU, rfl⟩
set_option maxRecDepth 20000 in
theorem c_rdCold {D : zD} {B : Nat} {h : zH} {sz : Nat} {pt pl N a n : Nat} {τ ω σ : Ln}  (hT : TaAt h pt τ ω) (hL : LnAt h pl σ) (hd : pt + 2 ≤ pl ∨ pl + 9 ≤ pt) (hN : τ 6 0 = nI N) (hN2 : N ≤ 250) (ha : ω 10 0 = nI a) (ha2 : a ≤ N) (hf : ω 12 0 = -1) (hB : B ≤ pt) (hBl : B ≤ pl) (hn : σ 0 0 = nI n) (h12 : n ≤ 12)  : zM D B xX3_readCold [.ref pt, .ref pl] h sz (rdQ h pt pl sz τ (st_cold (τ 5) N σ a)) := by
  have hU : Up2 h h pt 2 pl 9 := Up2.rf
  refine zM.of (by decide) rfl (n := 1) ?_
  show Z D B xX3_readCold 0 0 _ 0 [some (.ref pt), some (.ref pl), none] [] h sz
  refine z_aload_n (pc := 0) (zk0 kX3_readCold_0) rfl ?_
  refine z_iconst (pc := 1) (zk1 kX3_readCold_0) (v := 0) (by decide) ?_
  refine z_bipush (pc := 2) (zk2 kX3_readCold_0) (v := 9) (by decide) ?_
  refine z_efV (pc := 4) (zk3 kX3_readCold_0) (st := []) lkX3_93 ivX3_readNumber hT.1 rfl rfl (c_rn hT hN hN2 ha (by omega) hf (by decide) (by omega)) rfl ⟨rfl, rfl⟩ rfl rfl (fun r_ h_2 z_ q_1 => ?_) rfl
  obtain ⟨q_, hU_4, ez_⟩ := q_1
  rw [ez_]
  clear ez_
  rcases q_ with ⟨v_k_3, e_k_3, w_k_3, en_k_3, er_, hR, ef_k_3, ee_k_3⟩ | ⟨x_k_3, w_k_3, en_k_3, er_, hR, ef_k_3⟩
  · rw [er_]
    clear er_
    replace hL := LnAt.fr hL hU_4 (by omega)
    replace hU := Up2.tr hU hU_4 (by omega)
    replace hT := hR; clear hR
    have ho_k_3 := numR_ok (by omega) en_k_3
    show Z D B xX3_readCold _ _ _ 7 _ [.int v_k_3] _ _
    refine z_istore_n (pc := 7) (zk4 kX3_readCold_0) rfl rfl ?_
    show Z D B xX3_readCold _ _ _ 8 [some (.ref pt), some (.ref pl), some (.int v_k_3)] _ _ _
    refine z_aload_n (pc := 8) (zk5 kX3_readCold_0) rfl ?_
    refine z_getf (pc := 9) (zk6 kX3_readCold_0) flX3_28 hT.1 (v := .int (-1)) (by rw [← ef_k_3]; rfl) ?_
    refine z_iconst (pc := 12) (zk7 kX3_readCold_0) (v := (-1)) (by decide) ?_
    refine z_icmp_ne (pc := 13) (zk8 kX3_readCold_0) (tgt := 21) (by decide) (fun q => absurd (by decide) q) (fun _ => ?_)
    refine z_aload_n (pc := 16) (zk9 kX3_readCold_0) rfl ?_
    refine z_iload_n (pc := 17) (zk10 kX3_readCold_0) rfl ?_
    refine z_Ln_w5 (pc := 18) (zk11 kX3_readCold_0) flX3_106 hL (by omega) (fun h_5 hR hU_6 => ?_)
    replace hT := TaAt.fr hT hU_6 (by omega)
    replace hU := Up2.tr hU hU_6 (by omega)
    replace hL := hR; clear hR
    exact z_vret (pc := 21) (zk12 kX3_readCold_0) rfl (Nat.zero_le _) (Nat.zero_le _) ⟨rfl, ⟨_, hT, Or.inl ⟨_, _, by rw [st_cold, stN_y en_k_3], hL, ef_k_3, ee_k_3⟩⟩, hU, rfl⟩
  · rw [er_]
    clear er_
    replace hL := LnAt.fr hL hU_4 (by omega)
    replace hU := Up2.tr hU hU_4 (by omega)
    replace hT := hR; clear hR
    have hx_k_3 := numR_err (by omega) en_k_3
    show Z D B xX3_readCold _ _ _ 7 _ [.int 0] _ _
    refine z_istore_n (pc := 7) (zk4 kX3_readCold_0) rfl rfl ?_
    show Z D B xX3_readCold _ _ _ 8 [some (.ref pt), some (.ref pl), some (.int 0)] _ _ _
    refine z_aload_n (pc := 8) (zk5 kX3_readCold_0) rfl ?_
    refine z_getf (pc := 9) (zk6 kX3_readCold_0) flX3_28 hT.1 (v := .int (nI x_k_3)) (by rw [← ef_k_3]; rfl) ?_
    refine z_iconst (pc := 12) (zk7 kX3_readCold_0) (v := (-1)) (by decide) ?_
    refine z_icmp_ne (pc := 13) (zk8 kX3_readCold_0) (tgt := 21) (by decide) (fun _ => ?_) (fun q => absurd q (nI_ne_m1 (show x_k_3 ≤ 1000 by omega)))
    exact z_vret (pc := 21) (zk12 kX3_readCold_0) rfl (Nat.zero_le _) (Nat.zero_le _) ⟨rfl, ⟨_, hT, Or.inr ⟨_, _, by rw [st_cold, stN_n en_k_3], hL, ef_k_3⟩⟩, hU, rfl⟩
set_option maxRecDepth 20000 in
theorem c_rdCode {D : zD} {B : Nat} {h : zH} {sz : Nat} {pt pl N a n : Nat} {τ ω σ : Ln}  (hT : TaAt h pt τ ω) (hL : LnAt h pl σ) (hd : pt + 2 ≤ pl ∨ pl + 9 ≤ pt) (hN : τ 6 0 = nI N) (hN2 : N ≤ 250) (ha : ω 10 0 = nI a) (ha2 : a ≤ N) (hf : ω 12 0 = -1) (hB : B ≤ pt) (hBl : B ≤ pl) (hn : σ 0 0 = nI n) (h12 : n ≤ 12)  : zM D B xX3_readCode [.ref pt, .ref pl] h sz (rdQ h pt pl sz τ (st_code (τ 5) N σ a)) := by
  have hU : Up2 h h pt 2 pl 9 := Up2.rf
  refine zM.of (by decide) rfl (n := 2) ?_
  show Z D B xX3_readCode 0 0 _ 0 [some (.ref pt), some (.ref pl), none, none] [] h sz
  refine z_aload_n (pc := 0) (zk0 kX3_readCode_0) rfl ?_
  refine z_iconst (pc := 1) (zk1 kX3_readCode_0) (v := 0) (by decide) ?_
  refine z_aload_n (pc := 2) (zk2 kX3_readCode_0) rfl ?_
  refine z_getf (pc := 3) (zk3 kX3_readCode_0) flX3_91 hL.1 (v := .int (σ 0 0)) rfl ?_
  refine z_iconst (pc := 6) (zk4 kX3_readCode_0) (v := 1) (by decide) ?_
  refine z_isub (pc := 7) (zk5 kX3_readCode_0) ?_
  refine z_efV (pc := 8) (zk6 kX3_readCode_0) (st := []) lkX3_93 ivX3_readNumber hT.1 rfl rfl (c_rn hT hN hN2 ha (by omega) hf (hi_ok hn h12) (by omega)) rfl ⟨rfl, rfl⟩ rfl rfl (fun r_ h_2 z_ q_1 => ?_) rfl
  obtain ⟨q_, hU_4, ez_⟩ := q_1
  rw [ez_]
  clear ez_
  rcases q_ with ⟨v_k_3, e_k_3, w_k_3, en_k_3, er_, hR, ef_k_3, ee_k_3⟩ | ⟨x_k_3, w_k_3, en_k_3, er_, hR, ef_k_3⟩
  · rw [er_]
    clear er_
    replace hL := LnAt.fr hL hU_4 (by omega)
    replace hU := Up2.tr hU hU_4 (by omega)
    replace hT := hR; clear hR
    have ho_k_3 := numR_ok (by omega) en_k_3
    show Z D B xX3_readCode _ _ _ 11 _ [.int v_k_3] _ _
    refine z_istore_n (pc := 11) (zk7 kX3_readCode_0) rfl rfl ?_
    show Z D B xX3_readCode _ _ _ 12 [some (.ref pt), some (.ref pl), some (.int v_k_3), none] _ _ _
    refine z_aload_n (pc := 12) (zk8 kX3_readCode_0) rfl ?_
    refine z_iconst (pc := 13) (zk9 kX3_readCode_0) (v := 0) (by decide) ?_
    refine z_bipush (pc := 14) (zk10 kX3_readCode_0) (v := 9) (by decide) ?_
    refine z_efV (pc := 16) (zk11 kX3_readCode_0) (st := []) lkX3_93 ivX3_readNumber hT.1 rfl rfl (c_rn hT hN hN2 ee_k_3 (by omega) ef_k_3 (by decide) (by omega)) rfl ⟨rfl, rfl⟩ rfl rfl (fun r_ h_6 z_ q_5 => ?_) rfl
    obtain ⟨q_, hU_8, ez_⟩ := q_5
    rw [ez_]
    clear ez_
    rcases q_ with ⟨v_k_7, e_k_7, w_k_7, en_k_7, er_, hR, ef_k_7, ee_k_7⟩ | ⟨x_k_7, w_k_7, en_k_7, er_, hR, ef_k_7⟩
    · rw [er_]
      clear er_
      replace hL := LnAt.fr hL hU_8 (by omega)
      replace hU := Up2.tr hU hU_8 (by omega)
      replace hT := hR; clear hR
      have ho_k_7 := numR_ok (by omega) en_k_7
      show Z D B xX3_readCode _ _ _ 19 _ [.int v_k_7] _ _
      refine z_istore_n (pc := 19) (zk12 kX3_readCode_0) rfl rfl ?_
      show Z D B xX3_readCode _ _ _ 20 [some (.ref pt), some (.ref pl), some (.int v_k_3), some (.int v_k_7)] _ _ _
      refine z_aload_n (pc := 20) (zk13 kX3_readCode_0) rfl ?_
      refine z_getf (pc := 21) (zk14 kX3_readCode_0) flX3_28 hT.1 (v := .int (-1)) (by rw [← ef_k_7]; rfl) ?_
      refine z_iconst (pc := 24) (zk15 kX3_readCode_0) (v := (-1)) (by decide) ?_
      refine z_icmp_ne (pc := 25) (zk0 kX3_readCode_1) (tgt := 34) (by decide) (fun q => absurd (by decide) q) (fun _ => ?_)
      obtain ⟨kv_k_3, hkv_k_3, rfl⟩ := okR_nI (n := n) (by omega) (by rw [← hn]; exact ho_k_3.1)
      refine z_aload_n (pc := 28) (zk1 kX3_readCode_1) rfl ?_
      refine z_iload_n (pc := 29) (zk2 kX3_readCode_1) rfl ?_
      refine z_iload_n (pc := 30) (zk3 kX3_readCode_1) rfl ?_
      refine z_efV (pc := 31) (zk4 kX3_readCode_1) (st := []) lkX3_102 ivX1_learn hL.1 rfl rfl (c_learn hL (by omega) (show kv_k_3 < 12 by omega)) rfl ⟨rfl, rfl⟩ rfl rfl (fun r_ h_10 z_ q_9 => ?_) rfl
      obtain ⟨er_, hR, hU_11, ez_⟩ := q_9
      rw [er_, ez_]
      clear er_ ez_
      replace hT := TaAt.fr hT hU_11 (by omega)
      replace hU := Up2.tr hU hU_11 (by omega)
      replace hL := hR; clear hR
      show Z D B xX3_readCode _ _ _ 34 _ [] _ _
      exact z_vret (pc := 34) (zk5 kX3_readCode_1) rfl (Nat.zero_le _) (Nat.zero_le _) ⟨rfl, ⟨_, hT, Or.inl ⟨_, _, by rw [st_code, stN_y en_k_3, stN_y en_k_7, ix_nI (show kv_k_3 ≤ 1000 by omega)], hL, ef_k_7, ee_k_7⟩⟩, hU, rfl⟩
    · rw [er_]
      clear er_
      replace hL := LnAt.fr hL hU_8 (by omega)
      replace hU := Up2.tr hU hU_8 (by omega)
      replace hT := hR; clear hR
      have hx_k_7 := numR_err (by omega) en_k_7
      show Z D B xX3_readCode _ _ _ 19 _ [.int 0] _ _
      refine z_istore_n (pc := 19) (zk12 kX3_readCode_0) rfl rfl ?_
      show Z D B xX3_readCode _ _ _ 20 [some (.ref pt), some (.ref pl), some (.int v_k_3), some (.int 0)] _ _ _
      refine z_aload_n (pc := 20) (zk13 kX3_readCode_0) rfl ?_
      refine z_getf (pc := 21) (zk14 kX3_readCode_0) flX3_28 hT.1 (v := .int (nI x_k_7)) (by rw [← ef_k_7]; rfl) ?_
      refine z_iconst (pc := 24) (zk15 kX3_readCode_0) (v := (-1)) (by decide) ?_
      refine z_icmp_ne (pc := 25) (zk0 kX3_readCode_1) (tgt := 34) (by decide) (fun _ => ?_) (fun q => absurd q (nI_ne_m1 (show x_k_7 ≤ 1000 by omega)))
      exact z_vret (pc := 34) (zk5 kX3_readCode_1) rfl (Nat.zero_le _) (Nat.zero_le _) ⟨rfl, ⟨_, hT, Or.inr ⟨_, _, by rw [st_code, stN_y en_k_3, stN_n en_k_7], hL, ef_k_7⟩⟩, hU, rfl⟩
  · rw [er_]
    clear er_
    replace hL := LnAt.fr hL hU_4 (by omega)
    replace hU := Up2.tr hU hU_4 (by omega)
    replace hT := hR; clear hR
    have hx_k_3 := numR_err (by omega) en_k_3
    show Z D B xX3_readCode _ _ _ 11 _ [.int 0] _ _
    refine z_istore_n (pc := 11) (zk7 kX3_readCode_0) rfl rfl ?_
    show Z D B xX3_readCode _ _ _ 12 [some (.ref pt), some (.ref pl), some (.int 0), none] _ _ _
    refine z_aload_n (pc := 12) (zk8 kX3_readCode_0) rfl ?_
    refine z_iconst (pc := 13) (zk9 kX3_readCode_0) (v := 0) (by decide) ?_
    refine z_bipush (pc := 14) (zk10 kX3_readCode_0) (v := 9) (by decide) ?_
    refine z_rdV (pc := 16) (zk11 kX3_readCode_0) (st := []) lkX3_93 ivX3_readNumber hT.1 rfl rfl (c_rnF (x := 0) hT (by rw [ef_k_3]; exact nI_ne_m1 (by omega))) rfl ⟨rfl, rfl⟩ rfl rfl ?_ rfl
    refine z_istore_n (pc := 19) (zk12 kX3_readCode_0) rfl rfl ?_
    show Z D B xX3_readCode _ _ _ 20 [some (.ref pt), some (.ref pl), some (.int 0), some (.int 0)] _ _ _
    refine z_aload_n (pc := 20) (zk13 kX3_readCode_0) rfl ?_
    refine z_getf (pc := 21) (zk14 kX3_readCode_0) flX3_28 hT.1 (v := .int (nI x_k_3)) (by rw [← ef_k_3]; rfl) ?_
    refine z_iconst (pc := 24) (zk15 kX3_readCode_0) (v := (-1)) (by decide) ?_
    refine z_icmp_ne (pc := 25) (zk0 kX3_readCode_1) (tgt := 34) (by decide) (fun _ => ?_) (fun q => absurd q (nI_ne_m1 (show x_k_3 ≤ 1000 by omega)))
    exact z_vret (pc := 34) (zk5 kX3_readCode_1) rfl (Nat.zero_le _) (Nat.zero_le _) ⟨rfl, ⟨_, hT, Or.inr ⟨_, _, by rw [st_code, stN_n en_k_3], hL, ef_k_3⟩⟩, hU, rfl⟩
set_option maxRecDepth 20000 in
theorem c_rdH1 {D : zD} {B : Nat} {h : zH} {sz : Nat} {pt pl N a n : Nat} {τ ω σ : Ln}  (hT : TaAt h pt τ ω) (hL : LnAt h pl σ) (hd : pt + 2 ≤ pl ∨ pl + 9 ≤ pt) (hN : τ 6 0 = nI N) (hN2 : N ≤ 250) (ha : ω 10 0 = nI a) (ha2 : a ≤ N) (hf : ω 12 0 = -1) (hB : B ≤ pt) (hBl : B ≤ pl) (hn : σ 0 0 = nI n) (h12 : n ≤ 12)  : zM D B xX3_readIntoHouse [.ref pt, .ref pl, .ref (pl + 1)] h sz (rdQ h pt pl sz τ (st_house (τ 5) N σ 1 a)) := by
  have hU : Up2 h h pt 2 pl 9 := Up2.rf
  refine zM.of (by decide) rfl (n := 2) ?_
  show Z D B xX3_readIntoHouse 0 0 _ 0 [some (.ref pt), some (.ref pl), some (.ref (pl + 1)), none, none] [] h sz
  refine z_aload_n (pc := 0) (zk0 kX3_readIntoHouse_0) rfl ?_
  refine z_iconst (pc := 1) (zk1 kX3_readIntoHouse_0) (v := 0) (by decide) ?_
  refine z_aload_n (pc := 2) (zk2 kX3_readIntoHouse_0) rfl ?_
  refine z_getf (pc := 3) (zk3 kX3_readIntoHouse_0) flX3_91 hL.1 (v := .int (σ 0 0)) rfl ?_
  refine z_iconst (pc := 6) (zk4 kX3_readIntoHouse_0) (v := 1) (by decide) ?_
  refine z_isub (pc := 7) (zk5 kX3_readIntoHouse_0) ?_
  refine z_efV (pc := 8) (zk6 kX3_readIntoHouse_0) (st := []) lkX3_93 ivX3_readNumber hT.1 rfl rfl (c_rn hT hN hN2 ha (by omega) hf (hi_ok hn h12) (by omega)) rfl ⟨rfl, rfl⟩ rfl rfl (fun r_ h_2 z_ q_1 => ?_) rfl
  obtain ⟨q_, hU_4, ez_⟩ := q_1
  rw [ez_]
  clear ez_
  rcases q_ with ⟨v_k_3, e_k_3, w_k_3, en_k_3, er_, hR, ef_k_3, ee_k_3⟩ | ⟨x_k_3, w_k_3, en_k_3, er_, hR, ef_k_3⟩
  · rw [er_]
    clear er_
    replace hL := LnAt.fr hL hU_4 (by omega)
    replace hU := Up2.tr hU hU_4 (by omega)
    replace hT := hR; clear hR
    have ho_k_3 := numR_ok (by omega) en_k_3
    show Z D B xX3_readIntoHouse _ _ _ 11 _ [.int v_k_3] _ _
    refine z_istore_n (pc := 11) (zk7 kX3_readIntoHouse_0) rfl rfl ?_
    show Z D B xX3_readIntoHouse _ _ _ 12 [some (.ref pt), some (.ref pl), some (.ref (pl + 1)), some (.int v_k_3), none] _ _ _
    refine z_aload_n (pc := 12) (zk8 kX3_readIntoHouse_0) rfl ?_
    refine z_iconst (pc := 13) (zk9 kX3_readIntoHouse_0) (v := 0) (by decide) ?_
    refine z_bipush (pc := 14) (zk10 kX3_readIntoHouse_0) (v := 9) (by decide) ?_
    refine z_efV (pc := 16) (zk11 kX3_readIntoHouse_0) (st := []) lkX3_93 ivX3_readNumber hT.1 rfl rfl (c_rn hT hN hN2 ee_k_3 (by omega) ef_k_3 (by decide) (by omega)) rfl ⟨rfl, rfl⟩ rfl rfl (fun r_ h_6 z_ q_5 => ?_) rfl
    obtain ⟨q_, hU_8, ez_⟩ := q_5
    rw [ez_]
    clear ez_
    rcases q_ with ⟨v_k_7, e_k_7, w_k_7, en_k_7, er_, hR, ef_k_7, ee_k_7⟩ | ⟨x_k_7, w_k_7, en_k_7, er_, hR, ef_k_7⟩
    · rw [er_]
      clear er_
      replace hL := LnAt.fr hL hU_8 (by omega)
      replace hU := Up2.tr hU hU_8 (by omega)
      replace hT := hR; clear hR
      have ho_k_7 := numR_ok (by omega) en_k_7
      show Z D B xX3_readIntoHouse _ _ _ 19 _ [.int v_k_7] _ _
      refine z_istore (pc := 19) (zk12 kX3_readIntoHouse_0) rfl rfl ?_
      show Z D B xX3_readIntoHouse _ _ _ 21 [some (.ref pt), some (.ref pl), some (.ref (pl + 1)), some (.int v_k_3), some (.int v_k_7)] _ _ _
      refine z_aload_n (pc := 21) (zk13 kX3_readIntoHouse_0) rfl ?_
      refine z_getf (pc := 22) (zk14 kX3_readIntoHouse_0) flX3_28 hT.1 (v := .int (-1)) (by rw [← ef_k_7]; rfl) ?_
      refine z_iconst (pc := 25) (zk15 kX3_readIntoHouse_0) (v := (-1)) (by decide) ?_
      refine z_icmp_ne (pc := 26) (zk0 kX3_readIntoHouse_1) (tgt := 34) (by decide) (fun q => absurd (by decide) q) (fun _ => ?_)
      refine z_aload_n (pc := 29) (zk1 kX3_readIntoHouse_1) rfl ?_
      refine z_iload_n (pc := 30) (zk2 kX3_readIntoHouse_1) rfl ?_
      refine z_iload (pc := 31) (zk3 kX3_readIntoHouse_1) rfl ?_
      obtain ⟨kv_k_3, hkv_k_3, rfl⟩ := okR_nI (n := n) (by omega) (by rw [← hn]; exact ho_k_3.1)
      refine z_Ln_s1 (pc := 33) (zk4 kX3_readIntoHouse_1) (j := kv_k_3) hL (by omega) (show kv_k_3 < 12 by omega) (fun h_9 hR hU_10 => ?_)
      replace hT := TaAt.fr hT hU_10 (by omega)
      replace hU := Up2.tr hU hU_10 (by omega)
      replace hL := hR; clear hR
      exact z_vret (pc := 34) (zk5 kX3_readIntoHouse_1) rfl (Nat.zero_le _) (Nat.zero_le _) ⟨rfl, ⟨_, hT, Or.inl ⟨_, _, by rw [st_house, stN_y en_k_3, stN_y en_k_7, ix_nI (show kv_k_3 ≤ 1000 by omega)], hL, ef_k_7, ee_k_7⟩⟩, hU, rfl⟩
    · rw [er_]
      clear er_
      replace hL := LnAt.fr hL hU_8 (by omega)
      replace hU := Up2.tr hU hU_8 (by omega)
      replace hT := hR; clear hR
      have hx_k_7 := numR_err (by omega) en_k_7
      show Z D B xX3_readIntoHouse _ _ _ 19 _ [.int 0] _ _
      refine z_istore (pc := 19) (zk12 kX3_readIntoHouse_0) rfl rfl ?_
      show Z D B xX3_readIntoHouse _ _ _ 21 [some (.ref pt), some (.ref pl), some (.ref (pl + 1)), some (.int v_k_3), some (.int 0)] _ _ _
      refine z_aload_n (pc := 21) (zk13 kX3_readIntoHouse_0) rfl ?_
      refine z_getf (pc := 22) (zk14 kX3_readIntoHouse_0) flX3_28 hT.1 (v := .int (nI x_k_7)) (by rw [← ef_k_7]; rfl) ?_
      refine z_iconst (pc := 25) (zk15 kX3_readIntoHouse_0) (v := (-1)) (by decide) ?_
      refine z_icmp_ne (pc := 26) (zk0 kX3_readIntoHouse_1) (tgt := 34) (by decide) (fun _ => ?_) (fun q => absurd q (nI_ne_m1 (show x_k_7 ≤ 1000 by omega)))
      exact z_vret (pc := 34) (zk5 kX3_readIntoHouse_1) rfl (Nat.zero_le _) (Nat.zero_le _) ⟨rfl, ⟨_, hT, Or.inr ⟨_, _, by rw [st_house, stN_y en_k_3, stN_n en_k_7], hL, ef_k_7⟩⟩, hU, rfl⟩
  · rw [er_]
    clear er_
    replace hL := LnAt.fr hL hU_4 (by omega)
    replace hU := Up2.tr hU hU_4 (by omega)
    replace hT := hR; clear hR
    have hx_k_3 := numR_err (by omega) en_k_3
    show Z D B xX3_readIntoHouse _ _ _ 11 _ [.int 0] _ _
    refine z_istore_n (pc := 11) (zk7 kX3_readIntoHouse_0) rfl rfl ?_
    show Z D B xX3_readIntoHouse _ _ _ 12 [some (.ref pt), some (.ref pl), some (.ref (pl + 1)), some (.int 0), none] _ _ _
    refine z_aload_n (pc := 12) (zk8 kX3_readIntoHouse_0) rfl ?_
    refine z_iconst (pc := 13) (zk9 kX3_readIntoHouse_0) (v := 0) (by decide) ?_
    refine z_bipush (pc := 14) (zk10 kX3_readIntoHouse_0) (v := 9) (by decide) ?_
    refine z_rdV (pc := 16) (zk11 kX3_readIntoHouse_0) (st := []) lkX3_93 ivX3_readNumber hT.1 rfl rfl (c_rnF (x := 0) hT (by rw [ef_k_3]; exact nI_ne_m1 (by omega))) rfl ⟨rfl, rfl⟩ rfl rfl ?_ rfl
    refine z_istore (pc := 19) (zk12 kX3_readIntoHouse_0) rfl rfl ?_
    show Z D B xX3_readIntoHouse _ _ _ 21 [some (.ref pt), some (.ref pl), some (.ref (pl + 1)), some (.int 0), some (.int 0)] _ _ _
    refine z_aload_n (pc := 21) (zk13 kX3_readIntoHouse_0) rfl ?_
    refine z_getf (pc := 22) (zk14 kX3_readIntoHouse_0) flX3_28 hT.1 (v := .int (nI x_k_3)) (by rw [← ef_k_3]; rfl) ?_
    refine z_iconst (pc := 25) (zk15 kX3_readIntoHouse_0) (v := (-1)) (by decide) ?_
    refine z_icmp_ne (pc := 26) (zk0 kX3_readIntoHouse_1) (tgt := 34) (by decide) (fun _ => ?_) (fun q => absurd q (nI_ne_m1 (show x_k_3 ≤ 1000 by omega)))
    exact z_vret (pc := 34) (zk5 kX3_readIntoHouse_1) rfl (Nat.zero_le _) (Nat.zero_le _) ⟨rfl, ⟨_, hT, Or.inr ⟨_, _, by rw [st_house, stN_n en_k_3], hL, ef_k_3⟩⟩, hU, rfl⟩
set_option maxRecDepth 20000 in
theorem c_rdH2 {D : zD} {B : Nat} {h : zH} {sz : Nat} {pt pl N a n : Nat} {τ ω σ : Ln}  (hT : TaAt h pt τ ω) (hL : LnAt h pl σ) (hd : pt + 2 ≤ pl ∨ pl + 9 ≤ pt) (hN : τ 6 0 = nI N) (hN2 : N ≤ 250) (ha : ω 10 0 = nI a) (ha2 : a ≤ N) (hf : ω 12 0 = -1) (hB : B ≤ pt) (hBl : B ≤ pl) (hn : σ 0 0 = nI n) (h12 : n ≤ 12)  : zM D B xX3_readIntoHouse [.ref pt, .ref pl, .ref (pl + 2)] h sz (rdQ h pt pl sz τ (st_house (τ 5) N σ 2 a)) := by
  have hU : Up2 h h pt 2 pl 9 := Up2.rf
  refine zM.of (by decide) rfl (n := 2) ?_
  show Z D B xX3_readIntoHouse 0 0 _ 0 [some (.ref pt), some (.ref pl), some (.ref (pl + 2)), none, none] [] h sz
  refine z_aload_n (pc := 0) (zk0 kX3_readIntoHouse_0) rfl ?_
  refine z_iconst (pc := 1) (zk1 kX3_readIntoHouse_0) (v := 0) (by decide) ?_
  refine z_aload_n (pc := 2) (zk2 kX3_readIntoHouse_0) rfl ?_
  refine z_getf (pc := 3) (zk3 kX3_readIntoHouse_0) flX3_91 hL.1 (v := .int (σ 0 0)) rfl ?_
  refine z_iconst (pc := 6) (zk4 kX3_readIntoHouse_0) (v := 1) (by decide) ?_
  refine z_isub (pc := 7) (zk5 kX3_readIntoHouse_0) ?_
  refine z_efV (pc := 8) (zk6 kX3_readIntoHouse_0) (st := []) lkX3_93 ivX3_readNumber hT.1 rfl rfl (c_rn hT hN hN2 ha (by omega) hf (hi_ok hn h12) (by omega)) rfl ⟨rfl, rfl⟩ rfl rfl (fun r_ h_2 z_ q_1 => ?_) rfl
  obtain ⟨q_, hU_4, ez_⟩ := q_1
  rw [ez_]
  clear ez_
  rcases q_ with ⟨v_k_3, e_k_3, w_k_3, en_k_3, er_, hR, ef_k_3, ee_k_3⟩ | ⟨x_k_3, w_k_3, en_k_3, er_, hR, ef_k_3⟩
  · rw [er_]
    clear er_
    replace hL := LnAt.fr hL hU_4 (by omega)
    replace hU := Up2.tr hU hU_4 (by omega)
    replace hT := hR; clear hR
    have ho_k_3 := numR_ok (by omega) en_k_3
    show Z D B xX3_readIntoHouse _ _ _ 11 _ [.int v_k_3] _ _
    refine z_istore_n (pc := 11) (zk7 kX3_readIntoHouse_0) rfl rfl ?_
    show Z D B xX3_readIntoHouse _ _ _ 12 [some (.ref pt), some (.ref pl), some (.ref (pl + 2)), some (.int v_k_3), none] _ _ _
    refine z_aload_n (pc := 12) (zk8 kX3_readIntoHouse_0) rfl ?_
    refine z_iconst (pc := 13) (zk9 kX3_readIntoHouse_0) (v := 0) (by decide) ?_
    refine z_bipush (pc := 14) (zk10 kX3_readIntoHouse_0) (v := 9) (by decide) ?_
    refine z_efV (pc := 16) (zk11 kX3_readIntoHouse_0) (st := []) lkX3_93 ivX3_readNumber hT.1 rfl rfl (c_rn hT hN hN2 ee_k_3 (by omega) ef_k_3 (by decide) (by omega)) rfl ⟨rfl, rfl⟩ rfl rfl (fun r_ h_6 z_ q_5 => ?_) rfl
    obtain ⟨q_, hU_8, ez_⟩ := q_5
    rw [ez_]
    clear ez_
    rcases q_ with ⟨v_k_7, e_k_7, w_k_7, en_k_7, er_, hR, ef_k_7, ee_k_7⟩ | ⟨x_k_7, w_k_7, en_k_7, er_, hR, ef_k_7⟩
    · rw [er_]
      clear er_
      replace hL := LnAt.fr hL hU_8 (by omega)
      replace hU := Up2.tr hU hU_8 (by omega)
      replace hT := hR; clear hR
      have ho_k_7 := numR_ok (by omega) en_k_7
      show Z D B xX3_readIntoHouse _ _ _ 19 _ [.int v_k_7] _ _
      refine z_istore (pc := 19) (zk12 kX3_readIntoHouse_0) rfl rfl ?_
      show Z D B xX3_readIntoHouse _ _ _ 21 [some (.ref pt), some (.ref pl), some (.ref (pl + 2)), some (.int v_k_3), some (.int v_k_7)] _ _ _
      refine z_aload_n (pc := 21) (zk13 kX3_readIntoHouse_0) rfl ?_
      refine z_getf (pc := 22) (zk14 kX3_readIntoHouse_0) flX3_28 hT.1 (v := .int (-1)) (by rw [← ef_k_7]; rfl) ?_
      refine z_iconst (pc := 25) (zk15 kX3_readIntoHouse_0) (v := (-1)) (by decide) ?_
      refine z_icmp_ne (pc := 26) (zk0 kX3_readIntoHouse_1) (tgt := 34) (by decide) (fun q => absurd (by decide) q) (fun _ => ?_)
      refine z_aload_n (pc := 29) (zk1 kX3_readIntoHouse_1) rfl ?_
      refine z_iload_n (pc := 30) (zk2 kX3_readIntoHouse_1) rfl ?_
      refine z_iload (pc := 31) (zk3 kX3_readIntoHouse_1) rfl ?_
      obtain ⟨kv_k_3, hkv_k_3, rfl⟩ := okR_nI (n := n) (by omega) (by rw [← hn]; exact ho_k_3.1)
      refine z_Ln_s2 (pc := 33) (zk4 kX3_readIntoHouse_1) (j := kv_k_3) hL (by omega) (show kv_k_3 < 12 by omega) (fun h_9 hR hU_10 => ?_)
      replace hT := TaAt.fr hT hU_10 (by omega)
      replace hU := Up2.tr hU hU_10 (by omega)
      replace hL := hR; clear hR
      exact z_vret (pc := 34) (zk5 kX3_readIntoHouse_1) rfl (Nat.zero_le _) (Nat.zero_le _) ⟨rfl, ⟨_, hT, Or.inl ⟨_, _, by rw [st_house, stN_y en_k_3, stN_y en_k_7, ix_nI (show kv_k_3 ≤ 1000 by omega)], hL, ef_k_7, ee_k_7⟩⟩, hU, rfl⟩
    · rw [er_]
      clear er_
      replace hL := LnAt.fr hL hU_8 (by omega)
      replace hU := Up2.tr hU hU_8 (by omega)
      replace hT := hR; clear hR
      have hx_k_7 := numR_err (by omega) en_k_7
      show Z D B xX3_readIntoHouse _ _ _ 19 _ [.int 0] _ _
      refine z_istore (pc := 19) (zk12 kX3_readIntoHouse_0) rfl rfl ?_
      show Z D B xX3_readIntoHouse _ _ _ 21 [some (.ref pt), some (.ref pl), some (.ref (pl + 2)), some (.int v_k_3), some (.int 0)] _ _ _
      refine z_aload_n (pc := 21) (zk13 kX3_readIntoHouse_0) rfl ?_
      refine z_getf (pc := 22) (zk14 kX3_readIntoHouse_0) flX3_28 hT.1 (v := .int (nI x_k_7)) (by rw [← ef_k_7]; rfl) ?_
      refine z_iconst (pc := 25) (zk15 kX3_readIntoHouse_0) (v := (-1)) (by decide) ?_
      refine z_icmp_ne (pc := 26) (zk0 kX3_readIntoHouse_1) (tgt := 34) (by decide) (fun _ => ?_) (fun q => absurd q (nI_ne_m1 (show x_k_7 ≤ 1000 by omega)))
      exact z_vret (pc := 34) (zk5 kX3_readIntoHouse_1) rfl (Nat.zero_le _) (Nat.zero_le _) ⟨rfl, ⟨_, hT, Or.inr ⟨_, _, by rw [st_house, stN_y en_k_3, stN_n en_k_7], hL, ef_k_7⟩⟩, hU, rfl⟩
  · rw [er_]
    clear er_
    replace hL := LnAt.fr hL hU_4 (by omega)
    replace hU := Up2.tr hU hU_4 (by omega)
    replace hT := hR; clear hR
    have hx_k_3 := numR_err (by omega) en_k_3
    show Z D B xX3_readIntoHouse _ _ _ 11 _ [.int 0] _ _
    refine z_istore_n (pc := 11) (zk7 kX3_readIntoHouse_0) rfl rfl ?_
    show Z D B xX3_readIntoHouse _ _ _ 12 [some (.ref pt), some (.ref pl), some (.ref (pl + 2)), some (.int 0), none] _ _ _
    refine z_aload_n (pc := 12) (zk8 kX3_readIntoHouse_0) rfl ?_
    refine z_iconst (pc := 13) (zk9 kX3_readIntoHouse_0) (v := 0) (by decide) ?_
    refine z_bipush (pc := 14) (zk10 kX3_readIntoHouse_0) (v := 9) (by decide) ?_
    refine z_rdV (pc := 16) (zk11 kX3_readIntoHouse_0) (st := []) lkX3_93 ivX3_readNumber hT.1 rfl rfl (c_rnF (x := 0) hT (by rw [ef_k_3]; exact nI_ne_m1 (by omega))) rfl ⟨rfl, rfl⟩ rfl rfl ?_ rfl
    refine z_istore (pc := 19) (zk12 kX3_readIntoHouse_0) rfl rfl ?_
    show Z D B xX3_readIntoHouse _ _ _ 21 [some (.ref pt), some (.ref pl), some (.ref (pl + 2)), some (.int 0), some (.int 0)] _ _ _
    refine z_aload_n (pc := 21) (zk13 kX3_readIntoHouse_0) rfl ?_
    refine z_getf (pc := 22) (zk14 kX3_readIntoHouse_0) flX3_28 hT.1 (v := .int (nI x_k_3)) (by rw [← ef_k_3]; rfl) ?_
    refine z_iconst (pc := 25) (zk15 kX3_readIntoHouse_0) (v := (-1)) (by decide) ?_
    refine z_icmp_ne (pc := 26) (zk0 kX3_readIntoHouse_1) (tgt := 34) (by decide) (fun _ => ?_) (fun q => absurd q (nI_ne_m1 (show x_k_3 ≤ 1000 by omega)))
    exact z_vret (pc := 34) (zk5 kX3_readIntoHouse_1) rfl (Nat.zero_le _) (Nat.zero_le _) ⟨rfl, ⟨_, hT, Or.inr ⟨_, _, by rw [st_house, stN_n en_k_3], hL, ef_k_3⟩⟩, hU, rfl⟩
set_option maxRecDepth 20000 in
theorem c_rdLetter {D : zD} {B : Nat} {h : zH} {sz : Nat} {pt pl N a n : Nat} {τ ω σ : Ln} {m s : Nat} (hT : TaAt h pt τ ω) (hL : LnAt h pl σ) (hd : pt + 2 ≤ pl ∨ pl + 9 ≤ pt) (hN : τ 6 0 = nI N) (hN2 : N ≤ 250) (ha : ω 10 0 = nI a) (ha2 : a ≤ N) (hf : ω 12 0 = -1) (hB : B ≤ pt) (hBl : B ≤ pl) (hn : σ 0 0 = nI n) (h12 : n ≤ 12) (hm : σ 9 0 = nI m) (h8 : m ≤ 8) (h9 : ω 9 0 = nI s) (hsN : s ≤ N)  : zM D B xX3_readLetter [.ref pt, .ref pl] h sz (rdQ h pt pl sz τ (if σ 9 0 = 8 then .error s else st_letter (τ 5) N σ a)) := by
  have hU : Up2 h h pt 2 pl 9 := Up2.rf
  refine zM.of (by decide) rfl (n := 4) ?_
  show Z D B xX3_readLetter 0 0 _ 0 [some (.ref pt), some (.ref pl), none, none, none, none] [] h sz
  refine z_aload_n (pc := 0) (zk0 kX3_readLetter_0) rfl ?_
  refine z_rdV (pc := 1) (zk1 kX3_readLetter_0) (st := []) lkX3_97 ivX1_hasRoom hL.1 rfl rfl (c_hasRoom hL hm h8) rfl ⟨rfl, rfl⟩ rfl rfl ?_ rfl
  refine z_oif_ne (pc := 4) (zk2 kX3_readLetter_0) (tgt := 15) (by decide) (fun c_1 => ?_) (fun c_1 => ?_)
  · refine z_aload_n (pc := 15) (zk7 kX3_readLetter_0) rfl ?_
    refine z_iconst (pc := 16) (zk8 kX3_readLetter_0) (v := 0) (by decide) ?_
    refine z_iconst (pc := 17) (zk9 kX3_readLetter_0) (v := 5) (by decide) ?_
    refine z_efV (pc := 18) (zk10 kX3_readLetter_0) (st := []) lkX3_93 ivX3_readNumber hT.1 rfl rfl (c_rn hT hN hN2 ha (by omega) hf (by decide) (by omega)) rfl ⟨rfl, rfl⟩ rfl rfl (fun r_ h_3 z_ q_2 => ?_) rfl
    obtain ⟨q_, hU_5, ez_⟩ := q_2
    rw [ez_]
    clear ez_
    rcases q_ with ⟨v_k_4, e_k_4, w_k_4, en_k_4, er_, hR, ef_k_4, ee_k_4⟩ | ⟨x_k_4, w_k_4, en_k_4, er_, hR, ef_k_4⟩
    · rw [er_]
      clear er_
      replace hL := LnAt.fr hL hU_5 (by omega)
      replace hU := Up2.tr hU hU_5 (by omega)
      replace hT := hR; clear hR
      have ho_k_4 := numR_ok (by omega) en_k_4
      show Z D B xX3_readLetter _ _ _ 21 _ [.int v_k_4] _ _
      refine z_istore_n (pc := 21) (zk11 kX3_readLetter_0) rfl rfl ?_
      show Z D B xX3_readLetter _ _ _ 22 [some (.ref pt), some (.ref pl), some (.int v_k_4), none, none, none] _ _ _
      refine z_aload_n (pc := 22) (zk12 kX3_readLetter_0) rfl ?_
      refine z_iconst (pc := 23) (zk13 kX3_readLetter_0) (v := 0) (by decide) ?_
      refine z_bipush (pc := 24) (zk14 kX3_readLetter_0) (v := 9) (by decide) ?_
      refine z_efV (pc := 26) (zk15 kX3_readLetter_0) (st := []) lkX3_93 ivX3_readNumber hT.1 rfl rfl (c_rn hT hN hN2 ee_k_4 (by omega) ef_k_4 (by decide) (by omega)) rfl ⟨rfl, rfl⟩ rfl rfl (fun r_ h_7 z_ q_6 => ?_) rfl
      obtain ⟨q_, hU_9, ez_⟩ := q_6
      rw [ez_]
      clear ez_
      rcases q_ with ⟨v_k_8, e_k_8, w_k_8, en_k_8, er_, hR, ef_k_8, ee_k_8⟩ | ⟨x_k_8, w_k_8, en_k_8, er_, hR, ef_k_8⟩
      · rw [er_]
        clear er_
        replace hL := LnAt.fr hL hU_9 (by omega)
        replace hU := Up2.tr hU hU_9 (by omega)
        replace hT := hR; clear hR
        have ho_k_8 := numR_ok (by omega) en_k_8
        show Z D B xX3_readLetter _ _ _ 29 _ [.int v_k_8] _ _
        refine z_istore_n (pc := 29) (zk0 kX3_readLetter_1) rfl rfl ?_
        show Z D B xX3_readLetter _ _ _ 30 [some (.ref pt), some (.ref pl), some (.int v_k_4), some (.int v_k_8), none, none] _ _ _
        refine z_aload_n (pc := 30) (zk1 kX3_readLetter_1) rfl ?_
        refine z_iconst (pc := 31) (zk2 kX3_readLetter_1) (v := 0) (by decide) ?_
        refine z_aload_n (pc := 32) (zk3 kX3_readLetter_1) rfl ?_
        refine z_getf (pc := 33) (zk4 kX3_readLetter_1) flX3_91 hL.1 (v := .int (σ 0 0)) rfl ?_
        refine z_iconst (pc := 36) (zk5 kX3_readLetter_1) (v := 1) (by decide) ?_
        refine z_isub (pc := 37) (zk6 kX3_readLetter_1) ?_
        refine z_efV (pc := 38) (zk7 kX3_readLetter_1) (st := []) lkX3_93 ivX3_readNumber hT.1 rfl rfl (c_rn hT hN hN2 ee_k_8 (by omega) ef_k_8 (hi_ok hn h12) (by omega)) rfl ⟨rfl, rfl⟩ rfl rfl (fun r_ h_11 z_ q_10 => ?_) rfl
        obtain ⟨q_, hU_13, ez_⟩ := q_10
        rw [ez_]
        clear ez_
        rcases q_ with ⟨v_k_12, e_k_12, w_k_12, en_k_12, er_, hR, ef_k_12, ee_k_12⟩ | ⟨x_k_12, w_k_12, en_k_12, er_, hR, ef_k_12⟩
        · rw [er_]
          clear er_
          replace hL := LnAt.fr hL hU_13 (by omega)
          replace hU := Up2.tr hU hU_13 (by omega)
          replace hT := hR; clear hR
          have ho_k_12 := numR_ok (by omega) en_k_12
          show Z D B xX3_readLetter _ _ _ 41 _ [.int v_k_12] _ _
          refine z_istore (pc := 41) (zk8 kX3_readLetter_1) rfl rfl ?_
          show Z D B xX3_readLetter _ _ _ 43 [some (.ref pt), some (.ref pl), some (.int v_k_4), some (.int v_k_8), some (.int v_k_12), none] _ _ _
          refine z_aload_n (pc := 43) (zk9 kX3_readLetter_1) rfl ?_
          refine z_iconst (pc := 44) (zk10 kX3_readLetter_1) (v := 1) (by decide) ?_
          refine z_bipush (pc := 45) (zk11 kX3_readLetter_1) (v := 40) (by decide) ?_
          refine z_efV (pc := 47) (zk12 kX3_readLetter_1) (st := []) lkX3_93 ivX3_readNumber hT.1 rfl rfl (c_rn hT hN hN2 ee_k_12 (by omega) ef_k_12 (by decide) (by omega)) rfl ⟨rfl, rfl⟩ rfl rfl (fun r_ h_15 z_ q_14 => ?_) rfl
          obtain ⟨q_, hU_17, ez_⟩ := q_14
          rw [ez_]
          clear ez_
          rcases q_ with ⟨v_k_16, e_k_16, w_k_16, en_k_16, er_, hR, ef_k_16, ee_k_16⟩ | ⟨x_k_16, w_k_16, en_k_16, er_, hR, ef_k_16⟩
          · rw [er_]
            clear er_
            replace hL := LnAt.fr hL hU_17 (by omega)
            replace hU := Up2.tr hU hU_17 (by omega)
            replace hT := hR; clear hR
            have ho_k_16 := numR_ok (by omega) en_k_16
            show Z D B xX3_readLetter _ _ _ 50 _ [.int v_k_16] _ _
            refine z_istore (pc := 50) (zk13 kX3_readLetter_1) rfl rfl ?_
            show Z D B xX3_readLetter _ _ _ 52 [some (.ref pt), some (.ref pl), some (.int v_k_4), some (.int v_k_8), some (.int v_k_12), some (.int v_k_16)] _ _ _
            refine z_aload_n (pc := 52) (zk14 kX3_readLetter_1) rfl ?_
            refine z_getf (pc := 53) (zk15 kX3_readLetter_1) flX3_28 hT.1 (v := .int (-1)) (by rw [← ef_k_16]; rfl) ?_
            refine z_iconst (pc := 56) (zk0 kX3_readLetter_2) (v := (-1)) (by decide) ?_
            refine z_icmp_ne (pc := 57) (zk1 kX3_readLetter_2) (tgt := 71) (by decide) (fun q => absurd (by decide) q) (fun _ => ?_)
            have hm8 : m < 8 := of_decide_eq_true c_1
            refine z_aload_n (pc := 60) (zk2 kX3_readLetter_2) rfl ?_
            refine z_iload_n (pc := 61) (zk3 kX3_readLetter_2) rfl ?_
            refine z_iload_n (pc := 62) (zk4 kX3_readLetter_2) rfl ?_
            refine z_iload (pc := 63) (zk5 kX3_readLetter_2) rfl ?_
            refine z_iload (pc := 65) (zk6 kX3_readLetter_2) rfl ?_
            refine z_efV (pc := 67) (zk7 kX3_readLetter_2) (st := []) lkX3_98 ivX1_addLetter hL.1 rfl rfl (c_addLetter hL (by omega) hm hm8) rfl ⟨rfl, rfl⟩ rfl rfl (fun r_ h_19 z_ q_18 => ?_) rfl
            obtain ⟨er_, hR, hU_20, ez_⟩ := q_18
            rw [er_, ez_]
            clear er_ ez_
            replace hT := TaAt.fr hT hU_20 (by omega)
            replace hU := Up2.tr hU hU_20 (by omega)
            replace hL := hR; clear hR
            show Z D B xX3_readLetter _ _ _ 70 _ [.int (nI m)] _ _
            refine z_pop (pc := 70) (zk8 kX3_readLetter_2) rfl ?_
            exact z_vret (pc := 71) (zk9 kX3_readLetter_2) rfl (Nat.zero_le _) (Nat.zero_le _) ⟨rfl, ⟨_, hT, Or.inl ⟨_, _, by rw [if_neg (show ¬ σ 9 0 = 8 from by rw [hm]; intro q; have := (nI_eqI (a := m) (b := 8) (by omega) (by omega)).mp q; have := of_decide_eq_true c_1; omega), st_letter, stN_y en_k_4, stN_y en_k_8, stN_y en_k_12, stN_y en_k_16, hm, ix_nI (show m ≤ 1000 by omega)], hL, ef_k_16, ee_k_16⟩⟩, hU, rfl⟩
          · rw [er_]
            clear er_
            replace hL := LnAt.fr hL hU_17 (by omega)
            replace hU := Up2.tr hU hU_17 (by omega)
            replace hT := hR; clear hR
            have hx_k_16 := numR_err (by omega) en_k_16
            show Z D B xX3_readLetter _ _ _ 50 _ [.int 1] _ _
            refine z_istore (pc := 50) (zk13 kX3_readLetter_1) rfl rfl ?_
            show Z D B xX3_readLetter _ _ _ 52 [some (.ref pt), some (.ref pl), some (.int v_k_4), some (.int v_k_8), some (.int v_k_12), some (.int 1)] _ _ _
            refine z_aload_n (pc := 52) (zk14 kX3_readLetter_1) rfl ?_
            refine z_getf (pc := 53) (zk15 kX3_readLetter_1) flX3_28 hT.1 (v := .int (nI x_k_16)) (by rw [← ef_k_16]; rfl) ?_
            refine z_iconst (pc := 56) (zk0 kX3_readLetter_2) (v := (-1)) (by decide) ?_
            refine z_icmp_ne (pc := 57) (zk1 kX3_readLetter_2) (tgt := 71) (by decide) (fun _ => ?_) (fun q => absurd q (nI_ne_m1 (show x_k_16 ≤ 1000 by omega)))
            exact z_vret (pc := 71) (zk9 kX3_readLetter_2) rfl (Nat.zero_le _) (Nat.zero_le _) ⟨rfl, ⟨_, hT, Or.inr ⟨_, _, by rw [if_neg (show ¬ σ 9 0 = 8 from by rw [hm]; intro q; have := (nI_eqI (a := m) (b := 8) (by omega) (by omega)).mp q; have := of_decide_eq_true c_1; omega), st_letter, stN_y en_k_4, stN_y en_k_8, stN_y en_k_12, stN_n en_k_16], hL, ef_k_16⟩⟩, hU, rfl⟩
        · rw [er_]
          clear er_
          replace hL := LnAt.fr hL hU_13 (by omega)
          replace hU := Up2.tr hU hU_13 (by omega)
          replace hT := hR; clear hR
          have hx_k_12 := numR_err (by omega) en_k_12
          show Z D B xX3_readLetter _ _ _ 41 _ [.int 0] _ _
          refine z_istore (pc := 41) (zk8 kX3_readLetter_1) rfl rfl ?_
          show Z D B xX3_readLetter _ _ _ 43 [some (.ref pt), some (.ref pl), some (.int v_k_4), some (.int v_k_8), some (.int 0), none] _ _ _
          refine z_aload_n (pc := 43) (zk9 kX3_readLetter_1) rfl ?_
          refine z_iconst (pc := 44) (zk10 kX3_readLetter_1) (v := 1) (by decide) ?_
          refine z_bipush (pc := 45) (zk11 kX3_readLetter_1) (v := 40) (by decide) ?_
          refine z_rdV (pc := 47) (zk12 kX3_readLetter_1) (st := []) lkX3_93 ivX3_readNumber hT.1 rfl rfl (c_rnF (x := 0) hT (by rw [ef_k_12]; exact nI_ne_m1 (by omega))) rfl ⟨rfl, rfl⟩ rfl rfl ?_ rfl
          refine z_istore (pc := 50) (zk13 kX3_readLetter_1) rfl rfl ?_
          show Z D B xX3_readLetter _ _ _ 52 [some (.ref pt), some (.ref pl), some (.int v_k_4), some (.int v_k_8), some (.int 0), some (.int 1)] _ _ _
          refine z_aload_n (pc := 52) (zk14 kX3_readLetter_1) rfl ?_
          refine z_getf (pc := 53) (zk15 kX3_readLetter_1) flX3_28 hT.1 (v := .int (nI x_k_12)) (by rw [← ef_k_12]; rfl) ?_
          refine z_iconst (pc := 56) (zk0 kX3_readLetter_2) (v := (-1)) (by decide) ?_
          refine z_icmp_ne (pc := 57) (zk1 kX3_readLetter_2) (tgt := 71) (by decide) (fun _ => ?_) (fun q => absurd q (nI_ne_m1 (show x_k_12 ≤ 1000 by omega)))
          exact z_vret (pc := 71) (zk9 kX3_readLetter_2) rfl (Nat.zero_le _) (Nat.zero_le _) ⟨rfl, ⟨_, hT, Or.inr ⟨_, _, by rw [if_neg (show ¬ σ 9 0 = 8 from by rw [hm]; intro q; have := (nI_eqI (a := m) (b := 8) (by omega) (by omega)).mp q; have := of_decide_eq_true c_1; omega), st_letter, stN_y en_k_4, stN_y en_k_8, stN_n en_k_12], hL, ef_k_12⟩⟩, hU, rfl⟩
      · rw [er_]
        clear er_
        replace hL := LnAt.fr hL hU_9 (by omega)
        replace hU := Up2.tr hU hU_9 (by omega)
        replace hT := hR; clear hR
        have hx_k_8 := numR_err (by omega) en_k_8
        show Z D B xX3_readLetter _ _ _ 29 _ [.int 0] _ _
        refine z_istore_n (pc := 29) (zk0 kX3_readLetter_1) rfl rfl ?_
        show Z D B xX3_readLetter _ _ _ 30 [some (.ref pt), some (.ref pl), some (.int v_k_4), some (.int 0), none, none] _ _ _
        refine z_aload_n (pc := 30) (zk1 kX3_readLetter_1) rfl ?_
        refine z_iconst (pc := 31) (zk2 kX3_readLetter_1) (v := 0) (by decide) ?_
        refine z_aload_n (pc := 32) (zk3 kX3_readLetter_1) rfl ?_
        refine z_getf (pc := 33) (zk4 kX3_readLetter_1) flX3_91 hL.1 (v := .int (σ 0 0)) rfl ?_
        refine z_iconst (pc := 36) (zk5 kX3_readLetter_1) (v := 1) (by decide) ?_
        refine z_isub (pc := 37) (zk6 kX3_readLetter_1) ?_
        refine z_rdV (pc := 38) (zk7 kX3_readLetter_1) (st := []) lkX3_93 ivX3_readNumber hT.1 rfl rfl (c_rnF (x := 0) hT (by rw [ef_k_8]; exact nI_ne_m1 (by omega))) rfl ⟨rfl, rfl⟩ rfl rfl ?_ rfl
        refine z_istore (pc := 41) (zk8 kX3_readLetter_1) rfl rfl ?_
        show Z D B xX3_readLetter _ _ _ 43 [some (.ref pt), some (.ref pl), some (.int v_k_4), some (.int 0), some (.int 0), none] _ _ _
        refine z_aload_n (pc := 43) (zk9 kX3_readLetter_1) rfl ?_
        refine z_iconst (pc := 44) (zk10 kX3_readLetter_1) (v := 1) (by decide) ?_
        refine z_bipush (pc := 45) (zk11 kX3_readLetter_1) (v := 40) (by decide) ?_
        refine z_rdV (pc := 47) (zk12 kX3_readLetter_1) (st := []) lkX3_93 ivX3_readNumber hT.1 rfl rfl (c_rnF (x := 0) hT (by rw [ef_k_8]; exact nI_ne_m1 (by omega))) rfl ⟨rfl, rfl⟩ rfl rfl ?_ rfl
        refine z_istore (pc := 50) (zk13 kX3_readLetter_1) rfl rfl ?_
        show Z D B xX3_readLetter _ _ _ 52 [some (.ref pt), some (.ref pl), some (.int v_k_4), some (.int 0), some (.int 0), some (.int 1)] _ _ _
        refine z_aload_n (pc := 52) (zk14 kX3_readLetter_1) rfl ?_
        refine z_getf (pc := 53) (zk15 kX3_readLetter_1) flX3_28 hT.1 (v := .int (nI x_k_8)) (by rw [← ef_k_8]; rfl) ?_
        refine z_iconst (pc := 56) (zk0 kX3_readLetter_2) (v := (-1)) (by decide) ?_
        refine z_icmp_ne (pc := 57) (zk1 kX3_readLetter_2) (tgt := 71) (by decide) (fun _ => ?_) (fun q => absurd q (nI_ne_m1 (show x_k_8 ≤ 1000 by omega)))
        exact z_vret (pc := 71) (zk9 kX3_readLetter_2) rfl (Nat.zero_le _) (Nat.zero_le _) ⟨rfl, ⟨_, hT, Or.inr ⟨_, _, by rw [if_neg (show ¬ σ 9 0 = 8 from by rw [hm]; intro q; have := (nI_eqI (a := m) (b := 8) (by omega) (by omega)).mp q; have := of_decide_eq_true c_1; omega), st_letter, stN_y en_k_4, stN_n en_k_8], hL, ef_k_8⟩⟩, hU, rfl⟩
    · rw [er_]
      clear er_
      replace hL := LnAt.fr hL hU_5 (by omega)
      replace hU := Up2.tr hU hU_5 (by omega)
      replace hT := hR; clear hR
      have hx_k_4 := numR_err (by omega) en_k_4
      show Z D B xX3_readLetter _ _ _ 21 _ [.int 0] _ _
      refine z_istore_n (pc := 21) (zk11 kX3_readLetter_0) rfl rfl ?_
      show Z D B xX3_readLetter _ _ _ 22 [some (.ref pt), some (.ref pl), some (.int 0), none, none, none] _ _ _
      refine z_aload_n (pc := 22) (zk12 kX3_readLetter_0) rfl ?_
      refine z_iconst (pc := 23) (zk13 kX3_readLetter_0) (v := 0) (by decide) ?_
      refine z_bipush (pc := 24) (zk14 kX3_readLetter_0) (v := 9) (by decide) ?_
      refine z_rdV (pc := 26) (zk15 kX3_readLetter_0) (st := []) lkX3_93 ivX3_readNumber hT.1 rfl rfl (c_rnF (x := 0) hT (by rw [ef_k_4]; exact nI_ne_m1 (by omega))) rfl ⟨rfl, rfl⟩ rfl rfl ?_ rfl
      refine z_istore_n (pc := 29) (zk0 kX3_readLetter_1) rfl rfl ?_
      show Z D B xX3_readLetter _ _ _ 30 [some (.ref pt), some (.ref pl), some (.int 0), some (.int 0), none, none] _ _ _
      refine z_aload_n (pc := 30) (zk1 kX3_readLetter_1) rfl ?_
      refine z_iconst (pc := 31) (zk2 kX3_readLetter_1) (v := 0) (by decide) ?_
      refine z_aload_n (pc := 32) (zk3 kX3_readLetter_1) rfl ?_
      refine z_getf (pc := 33) (zk4 kX3_readLetter_1) flX3_91 hL.1 (v := .int (σ 0 0)) rfl ?_
      refine z_iconst (pc := 36) (zk5 kX3_readLetter_1) (v := 1) (by decide) ?_
      refine z_isub (pc := 37) (zk6 kX3_readLetter_1) ?_
      refine z_rdV (pc := 38) (zk7 kX3_readLetter_1) (st := []) lkX3_93 ivX3_readNumber hT.1 rfl rfl (c_rnF (x := 0) hT (by rw [ef_k_4]; exact nI_ne_m1 (by omega))) rfl ⟨rfl, rfl⟩ rfl rfl ?_ rfl
      refine z_istore (pc := 41) (zk8 kX3_readLetter_1) rfl rfl ?_
      show Z D B xX3_readLetter _ _ _ 43 [some (.ref pt), some (.ref pl), some (.int 0), some (.int 0), some (.int 0), none] _ _ _
      refine z_aload_n (pc := 43) (zk9 kX3_readLetter_1) rfl ?_
      refine z_iconst (pc := 44) (zk10 kX3_readLetter_1) (v := 1) (by decide) ?_
      refine z_bipush (pc := 45) (zk11 kX3_readLetter_1) (v := 40) (by decide) ?_
      refine z_rdV (pc := 47) (zk12 kX3_readLetter_1) (st := []) lkX3_93 ivX3_readNumber hT.1 rfl rfl (c_rnF (x := 0) hT (by rw [ef_k_4]; exact nI_ne_m1 (by omega))) rfl ⟨rfl, rfl⟩ rfl rfl ?_ rfl
      refine z_istore (pc := 50) (zk13 kX3_readLetter_1) rfl rfl ?_
      show Z D B xX3_readLetter _ _ _ 52 [some (.ref pt), some (.ref pl), some (.int 0), some (.int 0), some (.int 0), some (.int 1)] _ _ _
      refine z_aload_n (pc := 52) (zk14 kX3_readLetter_1) rfl ?_
      refine z_getf (pc := 53) (zk15 kX3_readLetter_1) flX3_28 hT.1 (v := .int (nI x_k_4)) (by rw [← ef_k_4]; rfl) ?_
      refine z_iconst (pc := 56) (zk0 kX3_readLetter_2) (v := (-1)) (by decide) ?_
      refine z_icmp_ne (pc := 57) (zk1 kX3_readLetter_2) (tgt := 71) (by decide) (fun _ => ?_) (fun q => absurd q (nI_ne_m1 (show x_k_4 ≤ 1000 by omega)))
      exact z_vret (pc := 71) (zk9 kX3_readLetter_2) rfl (Nat.zero_le _) (Nat.zero_le _) ⟨rfl, ⟨_, hT, Or.inr ⟨_, _, by rw [if_neg (show ¬ σ 9 0 = 8 from by rw [hm]; intro q; have := (nI_eqI (a := m) (b := 8) (by omega) (by omega)).mp q; have := of_decide_eq_true c_1; omega), st_letter, stN_n en_k_4], hL, ef_k_4⟩⟩, hU, rfl⟩
  · refine z_aload_n (pc := 7) (zk3 kX3_readLetter_0) rfl ?_
    refine z_aload_n (pc := 8) (zk4 kX3_readLetter_0) rfl ?_
    refine z_getf (pc := 9) (zk5 kX3_readLetter_0) flX3_22 hT.1 (v := .int (nI s)) (by rw [← h9]; rfl) ?_
    refine z_efV (pc := 12) (zk6 kX3_readLetter_0) (st := []) lkX3_42 ivX3_blame hT.1 rfl rfl (c_blame hT (by omega) hf) rfl ⟨rfl, rfl⟩ rfl rfl (fun r_ h_22 z_ q_21 => ?_) rfl
    obtain ⟨er_, hR, hU_23, ez_⟩ := q_21
    rw [er_, ez_]
    clear er_ ez_
    replace hL := LnAt.fr hL hU_23 (by omega)
    replace hU := Up2.tr hU hU_23 (by omega)
    replace hT := hR; clear hR
    show Z D B xX3_readLetter _ _ _ 15 _ [] _ _
    refine z_aload_n (pc := 15) (zk7 kX3_readLetter_0) rfl ?_
    refine z_iconst (pc := 16) (zk8 kX3_readLetter_0) (v := 0) (by decide) ?_
    refine z_iconst (pc := 17) (zk9 kX3_readLetter_0) (v := 5) (by decide) ?_
    refine z_rdV (pc := 18) (zk10 kX3_readLetter_0) (st := []) lkX3_93 ivX3_readNumber hT.1 rfl rfl (c_rnF (x := 0) hT (nI_ne_m1 (show s ≤ 1000 by omega))) rfl ⟨rfl, rfl⟩ rfl rfl ?_ rfl
    refine z_istore_n (pc := 21) (zk11 kX3_readLetter_0) rfl rfl ?_
    show Z D B xX3_readLetter _ _ _ 22 [some (.ref pt), some (.ref pl), some (.int 0), none, none, none] _ _ _
    refine z_aload_n (pc := 22) (zk12 kX3_readLetter_0) rfl ?_
    refine z_iconst (pc := 23) (zk13 kX3_readLetter_0) (v := 0) (by decide) ?_
    refine z_bipush (pc := 24) (zk14 kX3_readLetter_0) (v := 9) (by decide) ?_
    refine z_rdV (pc := 26) (zk15 kX3_readLetter_0) (st := []) lkX3_93 ivX3_readNumber hT.1 rfl rfl (c_rnF (x := 0) hT (nI_ne_m1 (show s ≤ 1000 by omega))) rfl ⟨rfl, rfl⟩ rfl rfl ?_ rfl
    refine z_istore_n (pc := 29) (zk0 kX3_readLetter_1) rfl rfl ?_
    show Z D B xX3_readLetter _ _ _ 30 [some (.ref pt), some (.ref pl), some (.int 0), some (.int 0), none, none] _ _ _
    refine z_aload_n (pc := 30) (zk1 kX3_readLetter_1) rfl ?_
    refine z_iconst (pc := 31) (zk2 kX3_readLetter_1) (v := 0) (by decide) ?_
    refine z_aload_n (pc := 32) (zk3 kX3_readLetter_1) rfl ?_
    refine z_getf (pc := 33) (zk4 kX3_readLetter_1) flX3_91 hL.1 (v := .int (σ 0 0)) rfl ?_
    refine z_iconst (pc := 36) (zk5 kX3_readLetter_1) (v := 1) (by decide) ?_
    refine z_isub (pc := 37) (zk6 kX3_readLetter_1) ?_
    refine z_rdV (pc := 38) (zk7 kX3_readLetter_1) (st := []) lkX3_93 ivX3_readNumber hT.1 rfl rfl (c_rnF (x := 0) hT (nI_ne_m1 (show s ≤ 1000 by omega))) rfl ⟨rfl, rfl⟩ rfl rfl ?_ rfl
    refine z_istore (pc := 41) (zk8 kX3_readLetter_1) rfl rfl ?_
    show Z D B xX3_readLetter _ _ _ 43 [some (.ref pt), some (.ref pl), some (.int 0), some (.int 0), some (.int 0), none] _ _ _
    refine z_aload_n (pc := 43) (zk9 kX3_readLetter_1) rfl ?_
    refine z_iconst (pc := 44) (zk10 kX3_readLetter_1) (v := 1) (by decide) ?_
    refine z_bipush (pc := 45) (zk11 kX3_readLetter_1) (v := 40) (by decide) ?_
    refine z_rdV (pc := 47) (zk12 kX3_readLetter_1) (st := []) lkX3_93 ivX3_readNumber hT.1 rfl rfl (c_rnF (x := 0) hT (nI_ne_m1 (show s ≤ 1000 by omega))) rfl ⟨rfl, rfl⟩ rfl rfl ?_ rfl
    refine z_istore (pc := 50) (zk13 kX3_readLetter_1) rfl rfl ?_
    show Z D B xX3_readLetter _ _ _ 52 [some (.ref pt), some (.ref pl), some (.int 0), some (.int 0), some (.int 0), some (.int 1)] _ _ _
    refine z_aload_n (pc := 52) (zk14 kX3_readLetter_1) rfl ?_
    refine z_getf (pc := 53) (zk15 kX3_readLetter_1) flX3_28 hT.1 (v := .int (nI s)) rfl ?_
    refine z_iconst (pc := 56) (zk0 kX3_readLetter_2) (v := (-1)) (by decide) ?_
    refine z_icmp_ne (pc := 57) (zk1 kX3_readLetter_2) (tgt := 71) (by decide) (fun _ => ?_) (fun q => absurd q (nI_ne_m1 (show s ≤ 1000 by omega)))
    exact z_vret (pc := 71) (zk9 kX3_readLetter_2) rfl (Nat.zero_le _) (Nat.zero_le _) ⟨rfl, ⟨_, hT, Or.inr ⟨_, _, by rw [if_pos (show σ 9 0 = 8 from by rw [hm, show m = 8 by have := of_decide_eq_false c_1; omega]; rfl)], hL, rfl⟩⟩, hU, rfl⟩
set_option maxRecDepth 20000 in
theorem c_rdStm {D : zD} {B : Nat} {h : zH} {sz : Nat} {pt pl N n m s : Nat} {τ ω σ : Ln} (hT : TaAt h pt τ ω) (hL : LnAt h pl σ) (hd : pt + 2 ≤ pl ∨ pl + 9 ≤ pt) (hN : τ 6 0 = nI N) (hN2 : N ≤ 250) (h8t : ω 8 0 = nI (tkS (τ 5) N s)) (h9 : ω 9 0 = nI s) (ha : ω 10 0 = nI (tkE (τ 5) N s)) (hsN : s ≤ N) (hf : ω 12 0 = -1) (hB : B ≤ pt) (hBl : B ≤ pl) (hn : σ 0 0 = nI n) (h12 : n ≤ 12) (hm : σ 9 0 = nI m) (h8 : m ≤ 8) : zM D B xX3_readStatement [.ref pt, .ref pl] h sz (rdQ h pt pl sz τ (stT (τ 5) N σ s)) := by
  have hU : Up2 h h pt 2 pl 9 := Up2.rf
  have hte := tkE_le (f := τ 5) (N := N) (s := s) hsN
  have htl := tkS_le (τ 5) N s
  refine zM.of (by decide) rfl (n := 0) ?_
  show Z D B xX3_readStatement 0 0 _ 0 [some (.ref pt), some (.ref pl)] [] h sz
  refine z_aload_n (pc := 0) (zk0 kX3_readStatement_0) rfl ?_
  refine z_getf (pc := 1) (zk1 kX3_readStatement_0) flX3_19 hT.1 (v := .int (nI (tkS (τ 5) N s))) (by rw [← h8t]; rfl) ?_
  refine z_iconst (pc := 4) (zk2 kX3_readStatement_0) (v := 1) (by decide) ?_
  refine z_icmp_eq (pc := 5) (zk3 kX3_readStatement_0) (tgt := 19) (by decide) (fun c_1 => ?_) (fun c_1 => ?_)
  · refine z_aload_n (pc := 19) (zk9 kX3_readStatement_0) rfl ?_
    refine z_ldcS (pc := 20) (zk10 kX3_readStatement_0) (tx := "houses") (i := 0) (by decide +kernel) ?_
    refine z_rdV (pc := 22) (zk11 kX3_readStatement_0) (st := []) lkX3_48 ivX3_isWord hT.1 rfl rfl (c_isWord hT h9 ha (by omega) (by decide)) rfl ⟨rfl, rfl⟩ rfl rfl ?_ rfl
    refine z_oif_eq (pc := 25) (zk12 kX3_readStatement_0) (tgt := 36) (by decide) (fun c_2 => ?_) (fun c_2 => ?_)
    · refine z_aload_n (pc := 36) (zk1 kX3_readStatement_1) rfl ?_
      refine z_ldcS (pc := 37) (zk2 kX3_readStatement_1) (tx := "letter") (i := 1) (by decide +kernel) ?_
      refine z_rdV (pc := 39) (zk3 kX3_readStatement_1) (st := []) lkX3_48 ivX3_isWord hT.1 rfl rfl (c_isWord hT h9 ha (by omega) (by decide)) rfl ⟨rfl, rfl⟩ rfl rfl ?_ rfl
      refine z_oif_eq (pc := 42) (zk4 kX3_readStatement_1) (tgt := 53) (by decide) (fun c_3 => ?_) (fun c_3 => ?_)
      · refine z_aload_n (pc := 53) (zk9 kX3_readStatement_1) rfl ?_
        refine z_ldcS (pc := 54) (zk10 kX3_readStatement_1) (tx := "wind") (i := 2) (by decide +kernel) ?_
        refine z_rdV (pc := 56) (zk11 kX3_readStatement_1) (st := []) lkX3_48 ivX3_isWord hT.1 rfl rfl (c_isWord hT h9 ha (by omega) (by decide)) rfl ⟨rfl, rfl⟩ rfl rfl ?_ rfl
        refine z_oif_eq (pc := 59) (zk12 kX3_readStatement_1) (tgt := 74) (by decide) (fun c_4 => ?_) (fun c_4 => ?_)
        · refine z_aload_n (pc := 74) (zk3 kX3_readStatement_2) rfl ?_
          refine z_ldcS (pc := 75) (zk4 kX3_readStatement_2) (tx := "drink") (i := 3) (by decide +kernel) ?_
          refine z_rdV (pc := 77) (zk5 kX3_readStatement_2) (st := []) lkX3_48 ivX3_isWord hT.1 rfl rfl (c_isWord hT h9 ha (by omega) (by decide)) rfl ⟨rfl, rfl⟩ rfl rfl ?_ rfl
          refine z_oif_eq (pc := 80) (zk6 kX3_readStatement_2) (tgt := 95) (by decide) (fun c_5 => ?_) (fun c_5 => ?_)
          · refine z_aload_n (pc := 95) (zk13 kX3_readStatement_2) rfl ?_
            refine z_ldcS (pc := 96) (zk14 kX3_readStatement_2) (tx := "code") (i := 4) (by decide +kernel) ?_
            refine z_rdV (pc := 98) (zk15 kX3_readStatement_2) (st := []) lkX3_48 ivX3_isWord hT.1 rfl rfl (c_isWord hT h9 ha (by omega) (by decide)) rfl ⟨rfl, rfl⟩ rfl rfl ?_ rfl
            refine z_oif_eq (pc := 101) (zk0 kX3_readStatement_3) (tgt := 112) (by decide) (fun c_6 => ?_) (fun c_6 => ?_)
            · refine z_aload_n (pc := 112) (zk5 kX3_readStatement_3) rfl ?_
              refine z_ldcS (pc := 113) (zk6 kX3_readStatement_3) (tx := "cold") (i := 5) (by decide +kernel) ?_
              refine z_rdV (pc := 115) (zk7 kX3_readStatement_3) (st := []) lkX3_48 ivX3_isWord hT.1 rfl rfl (c_isWord hT h9 ha (by omega) (by decide)) rfl ⟨rfl, rfl⟩ rfl rfl ?_ rfl
              refine z_oif_eq (pc := 118) (zk8 kX3_readStatement_3) (tgt := 129) (by decide) (fun c_7 => ?_) (fun c_7 => ?_)
              · refine z_aload_n (pc := 129) (zk13 kX3_readStatement_3) rfl ?_
                refine z_ldcS (pc := 130) (zk14 kX3_readStatement_3) (tx := "back") (i := 6) (by decide +kernel) ?_
                refine z_rdV (pc := 132) (zk15 kX3_readStatement_3) (st := []) lkX3_48 ivX3_isWord hT.1 rfl rfl (c_isWord hT h9 ha (by omega) (by decide)) rfl ⟨rfl, rfl⟩ rfl rfl ?_ rfl
                refine z_oif_eq (pc := 135) (zk0 kX3_readStatement_4) (tgt := 146) (by decide) (fun c_8 => ?_) (fun c_8 => ?_)
                · refine z_aload_n (pc := 146) (zk5 kX3_readStatement_4) rfl ?_
                  refine z_ldcS (pc := 147) (zk6 kX3_readStatement_4) (tx := "forth") (i := 7) (by decide +kernel) ?_
                  refine z_rdV (pc := 149) (zk7 kX3_readStatement_4) (st := []) lkX3_48 ivX3_isWord hT.1 rfl rfl (c_isWord hT h9 ha (by omega) (by decide)) rfl ⟨rfl, rfl⟩ rfl rfl ?_ rfl
                  refine z_oif_eq (pc := 152) (zk8 kX3_readStatement_4) (tgt := 163) (by decide) (fun c_9 => ?_) (fun c_9 => ?_)
                  · refine z_aload_n (pc := 163) (zk13 kX3_readStatement_4) rfl ?_
                    refine z_aload_n (pc := 164) (zk14 kX3_readStatement_4) rfl ?_
                    refine z_getf (pc := 165) (zk15 kX3_readStatement_4) flX3_22 hT.1 (v := .int (nI s)) (by rw [← h9]; rfl) ?_
                    refine z_efV (pc := 168) (zk0 kX3_readStatement_5) (st := []) lkX3_42 ivX3_blame hT.1 rfl rfl (c_blame hT (by omega) hf) rfl ⟨rfl, rfl⟩ rfl rfl (fun r_ h_11 z_ q_10 => ?_) rfl
                    obtain ⟨er_, hR, hU_12, ez_⟩ := q_10
                    rw [er_, ez_]
                    clear er_ ez_
                    replace hL := LnAt.fr hL hU_12 (by omega)
                    replace hU := Up2.tr hU hU_12 (by omega)
                    replace hT := hR; clear hR
                    show Z D B xX3_readStatement _ _ _ 171 _ [] _ _
                    exact z_vret (pc := 171) (zk1 kX3_readStatement_5) rfl (Nat.zero_le _) (Nat.zero_le _) ⟨rfl, ⟨_, hT, Or.inr ⟨_, _, by rw [stT, if_pos ((nI_eqI (b := 1) (by omega) (by omega)).mp c_1), stW, if_neg (show ¬ wrd (τ 5) s (tkE (τ 5) N s) 0 = true from by rw [c_2]; decide), if_neg (show ¬ wrd (τ 5) s (tkE (τ 5) N s) 1 = true from by rw [c_3]; decide), if_neg (show ¬ wrd (τ 5) s (tkE (τ 5) N s) 2 = true from by rw [c_4]; decide), if_neg (show ¬ wrd (τ 5) s (tkE (τ 5) N s) 3 = true from by rw [c_5]; decide), if_neg (show ¬ wrd (τ 5) s (tkE (τ 5) N s) 4 = true from by rw [c_6]; decide), if_neg (show ¬ wrd (τ 5) s (tkE (τ 5) N s) 5 = true from by rw [c_7]; decide), if_neg (show ¬ wrd (τ 5) s (tkE (τ 5) N s) 6 = true from by rw [c_8]; decide), if_neg (show ¬ wrd (τ 5) s (tkE (τ 5) N s) 7 = true from by rw [c_9]; decide)], hL, rfl⟩⟩, hU, rfl⟩
                  · refine z_aload_n (pc := 155) (zk9 kX3_readStatement_4) rfl ?_
                    refine z_iconst (pc := 156) (zk10 kX3_readStatement_4) (v := 0) (by decide) ?_
                    refine z_Ln_w6 (pc := 157) (zk11 kX3_readStatement_4) flX3_86 hL (by omega) (by decide) (fun h_13 hR hU_14 => ?_)
                    replace hT := TaAt.fr hT hU_14 (by omega)
                    replace hU := Up2.tr hU hU_14 (by omega)
                    replace hL := hR; clear hR
                    refine z_goto (pc := 160) (zk12 kX3_readStatement_4) (tgt := 171) (by decide) ?_
                    exact z_vret (pc := 171) (zk1 kX3_readStatement_5) rfl (Nat.zero_le _) (Nat.zero_le _) ⟨rfl, ⟨_, hT, Or.inl ⟨_, _, by rw [stT, if_pos ((nI_eqI (b := 1) (by omega) (by omega)).mp c_1), stW, if_neg (show ¬ wrd (τ 5) s (tkE (τ 5) N s) 0 = true from by rw [c_2]; decide), if_neg (show ¬ wrd (τ 5) s (tkE (τ 5) N s) 1 = true from by rw [c_3]; decide), if_neg (show ¬ wrd (τ 5) s (tkE (τ 5) N s) 2 = true from by rw [c_4]; decide), if_neg (show ¬ wrd (τ 5) s (tkE (τ 5) N s) 3 = true from by rw [c_5]; decide), if_neg (show ¬ wrd (τ 5) s (tkE (τ 5) N s) 4 = true from by rw [c_6]; decide), if_neg (show ¬ wrd (τ 5) s (tkE (τ 5) N s) 5 = true from by rw [c_7]; decide), if_neg (show ¬ wrd (τ 5) s (tkE (τ 5) N s) 6 = true from by rw [c_8]; decide), if_pos c_9], hL, hf, ha⟩⟩, hU, rfl⟩
                · refine z_aload_n (pc := 138) (zk1 kX3_readStatement_4) rfl ?_
                  refine z_iconst (pc := 139) (zk2 kX3_readStatement_4) (v := 1) (by decide) ?_
                  refine z_Ln_w6 (pc := 140) (zk3 kX3_readStatement_4) flX3_86 hL (by omega) (by decide) (fun h_15 hR hU_16 => ?_)
                  replace hT := TaAt.fr hT hU_16 (by omega)
                  replace hU := Up2.tr hU hU_16 (by omega)
                  replace hL := hR; clear hR
                  refine z_goto (pc := 143) (zk4 kX3_readStatement_4) (tgt := 171) (by decide) ?_
                  exact z_vret (pc := 171) (zk1 kX3_readStatement_5) rfl (Nat.zero_le _) (Nat.zero_le _) ⟨rfl, ⟨_, hT, Or.inl ⟨_, _, by rw [stT, if_pos ((nI_eqI (b := 1) (by omega) (by omega)).mp c_1), stW, if_neg (show ¬ wrd (τ 5) s (tkE (τ 5) N s) 0 = true from by rw [c_2]; decide), if_neg (show ¬ wrd (τ 5) s (tkE (τ 5) N s) 1 = true from by rw [c_3]; decide), if_neg (show ¬ wrd (τ 5) s (tkE (τ 5) N s) 2 = true from by rw [c_4]; decide), if_neg (show ¬ wrd (τ 5) s (tkE (τ 5) N s) 3 = true from by rw [c_5]; decide), if_neg (show ¬ wrd (τ 5) s (tkE (τ 5) N s) 4 = true from by rw [c_6]; decide), if_neg (show ¬ wrd (τ 5) s (tkE (τ 5) N s) 5 = true from by rw [c_7]; decide), if_pos c_8], hL, hf, ha⟩⟩, hU, rfl⟩
              · refine z_aload_n (pc := 121) (zk9 kX3_readStatement_3) rfl ?_
                refine z_aload_n (pc := 122) (zk10 kX3_readStatement_3) rfl ?_
                refine z_efV (pc := 123) (zk11 kX3_readStatement_3) (st := []) lkX3_81 ivX3_readCold hT.1 rfl rfl (c_rdCold hT hL hd hN hN2 ha (by omega) hf (by omega) (by omega) hn h12) rfl ⟨rfl, rfl⟩ rfl rfl (fun r_ h_18 z_ q_17 => ?_) rfl
                obtain ⟨er_, ⟨w_, hT_, hq_⟩, hU_, ez_⟩ := q_17
                rw [er_, ez_]
                clear er_ ez_
                replace hT := hT_
                replace hU := Up2.tr2 hU hU_
                clear hT_ hU_
                show Z D B xX3_readStatement _ _ _ 126 _ [] _ _
                refine z_goto (pc := 126) (zk12 kX3_readStatement_3) (tgt := 171) (by decide) ?_
                exact z_vret (pc := 171) (zk1 kX3_readStatement_5) rfl (Nat.zero_le _) (Nat.zero_le _) ⟨rfl, ⟨_, hT, by rw [stT, if_pos ((nI_eqI (b := 1) (by omega) (by omega)).mp c_1), stW, if_neg (show ¬ wrd (τ 5) s (tkE (τ 5) N s) 0 = true from by rw [c_2]; decide), if_neg (show ¬ wrd (τ 5) s (tkE (τ 5) N s) 1 = true from by rw [c_3]; decide), if_neg (show ¬ wrd (τ 5) s (tkE (τ 5) N s) 2 = true from by rw [c_4]; decide), if_neg (show ¬ wrd (τ 5) s (tkE (τ 5) N s) 3 = true from by rw [c_5]; decide), if_neg (show ¬ wrd (τ 5) s (tkE (τ 5) N s) 4 = true from by rw [c_6]; decide), if_pos c_7]; exact hq_⟩, hU, rfl⟩
            · refine z_aload_n (pc := 104) (zk1 kX3_readStatement_3) rfl ?_
              refine z_aload_n (pc := 105) (zk2 kX3_readStatement_3) rfl ?_
              refine z_efV (pc := 106) (zk3 kX3_readStatement_3) (st := []) lkX3_76 ivX3_readCode hT.1 rfl rfl (c_rdCode hT hL hd hN hN2 ha (by omega) hf (by omega) (by omega) hn h12) rfl ⟨rfl, rfl⟩ rfl rfl (fun r_ h_20 z_ q_19 => ?_) rfl
              obtain ⟨er_, ⟨w_, hT_, hq_⟩, hU_, ez_⟩ := q_19
              rw [er_, ez_]
              clear er_ ez_
              replace hT := hT_
              replace hU := Up2.tr2 hU hU_
              clear hT_ hU_
              show Z D B xX3_readStatement _ _ _ 109 _ [] _ _
              refine z_goto (pc := 109) (zk4 kX3_readStatement_3) (tgt := 171) (by decide) ?_
              exact z_vret (pc := 171) (zk1 kX3_readStatement_5) rfl (Nat.zero_le _) (Nat.zero_le _) ⟨rfl, ⟨_, hT, by rw [stT, if_pos ((nI_eqI (b := 1) (by omega) (by omega)).mp c_1), stW, if_neg (show ¬ wrd (τ 5) s (tkE (τ 5) N s) 0 = true from by rw [c_2]; decide), if_neg (show ¬ wrd (τ 5) s (tkE (τ 5) N s) 1 = true from by rw [c_3]; decide), if_neg (show ¬ wrd (τ 5) s (tkE (τ 5) N s) 2 = true from by rw [c_4]; decide), if_neg (show ¬ wrd (τ 5) s (tkE (τ 5) N s) 3 = true from by rw [c_5]; decide), if_pos c_6]; exact hq_⟩, hU, rfl⟩
          · refine z_aload_n (pc := 83) (zk7 kX3_readStatement_2) rfl ?_
            refine z_aload_n (pc := 84) (zk8 kX3_readStatement_2) rfl ?_
            refine z_aload_n (pc := 85) (zk9 kX3_readStatement_2) rfl ?_
            refine z_getf (pc := 86) (zk10 kX3_readStatement_2) flX3_72 hL.1 gLn_2 ?_
            refine z_efV (pc := 89) (zk11 kX3_readStatement_2) (st := []) lkX3_66 ivX3_readIntoHouse hT.1 rfl rfl (c_rdH2 hT hL hd hN hN2 ha (by omega) hf (by omega) (by omega) hn h12) rfl ⟨rfl, rfl⟩ rfl rfl (fun r_ h_22 z_ q_21 => ?_) rfl
            obtain ⟨er_, ⟨w_, hT_, hq_⟩, hU_, ez_⟩ := q_21
            rw [er_, ez_]
            clear er_ ez_
            replace hT := hT_
            replace hU := Up2.tr2 hU hU_
            clear hT_ hU_
            show Z D B xX3_readStatement _ _ _ 92 _ [] _ _
            refine z_goto (pc := 92) (zk12 kX3_readStatement_2) (tgt := 171) (by decide) ?_
            exact z_vret (pc := 171) (zk1 kX3_readStatement_5) rfl (Nat.zero_le _) (Nat.zero_le _) ⟨rfl, ⟨_, hT, by rw [stT, if_pos ((nI_eqI (b := 1) (by omega) (by omega)).mp c_1), stW, if_neg (show ¬ wrd (τ 5) s (tkE (τ 5) N s) 0 = true from by rw [c_2]; decide), if_neg (show ¬ wrd (τ 5) s (tkE (τ 5) N s) 1 = true from by rw [c_3]; decide), if_neg (show ¬ wrd (τ 5) s (tkE (τ 5) N s) 2 = true from by rw [c_4]; decide), if_pos c_5]; exact hq_⟩, hU, rfl⟩
        · refine z_aload_n (pc := 62) (zk13 kX3_readStatement_1) rfl ?_
          refine z_aload_n (pc := 63) (zk14 kX3_readStatement_1) rfl ?_
          refine z_aload_n (pc := 64) (zk15 kX3_readStatement_1) rfl ?_
          refine z_getf (pc := 65) (zk0 kX3_readStatement_2) flX3_62 hL.1 gLn_1 ?_
          refine z_efV (pc := 68) (zk1 kX3_readStatement_2) (st := []) lkX3_66 ivX3_readIntoHouse hT.1 rfl rfl (c_rdH1 hT hL hd hN hN2 ha (by omega) hf (by omega) (by omega) hn h12) rfl ⟨rfl, rfl⟩ rfl rfl (fun r_ h_24 z_ q_23 => ?_) rfl
          obtain ⟨er_, ⟨w_, hT_, hq_⟩, hU_, ez_⟩ := q_23
          rw [er_, ez_]
          clear er_ ez_
          replace hT := hT_
          replace hU := Up2.tr2 hU hU_
          clear hT_ hU_
          show Z D B xX3_readStatement _ _ _ 71 _ [] _ _
          refine z_goto (pc := 71) (zk2 kX3_readStatement_2) (tgt := 171) (by decide) ?_
          exact z_vret (pc := 171) (zk1 kX3_readStatement_5) rfl (Nat.zero_le _) (Nat.zero_le _) ⟨rfl, ⟨_, hT, by rw [stT, if_pos ((nI_eqI (b := 1) (by omega) (by omega)).mp c_1), stW, if_neg (show ¬ wrd (τ 5) s (tkE (τ 5) N s) 0 = true from by rw [c_2]; decide), if_neg (show ¬ wrd (τ 5) s (tkE (τ 5) N s) 1 = true from by rw [c_3]; decide), if_pos c_4]; exact hq_⟩, hU, rfl⟩
      · refine z_aload_n (pc := 45) (zk5 kX3_readStatement_1) rfl ?_
        refine z_aload_n (pc := 46) (zk6 kX3_readStatement_1) rfl ?_
        refine z_efV (pc := 47) (zk7 kX3_readStatement_1) (st := []) lkX3_57 ivX3_readLetter hT.1 rfl rfl (c_rdLetter hT hL hd hN hN2 ha (by omega) hf (by omega) (by omega) hn h12 hm h8 h9 (by omega)) rfl ⟨rfl, rfl⟩ rfl rfl (fun r_ h_26 z_ q_25 => ?_) rfl
        obtain ⟨er_, ⟨w_, hT_, hq_⟩, hU_, ez_⟩ := q_25
        rw [er_, ez_]
        clear er_ ez_
        replace hT := hT_
        replace hU := Up2.tr2 hU hU_
        clear hT_ hU_
        show Z D B xX3_readStatement _ _ _ 50 _ [] _ _
        refine z_goto (pc := 50) (zk8 kX3_readStatement_1) (tgt := 171) (by decide) ?_
        exact z_vret (pc := 171) (zk1 kX3_readStatement_5) rfl (Nat.zero_le _) (Nat.zero_le _) ⟨rfl, ⟨_, hT, by rw [stT, if_pos ((nI_eqI (b := 1) (by omega) (by omega)).mp c_1), stW, if_neg (show ¬ wrd (τ 5) s (tkE (τ 5) N s) 0 = true from by rw [c_2]; decide), if_pos c_3]; exact hq_⟩, hU, rfl⟩
    · refine z_aload_n (pc := 28) (zk13 kX3_readStatement_0) rfl ?_
      refine z_aload_n (pc := 29) (zk14 kX3_readStatement_0) rfl ?_
      refine z_efV (pc := 30) (zk15 kX3_readStatement_0) (st := []) lkX3_52 ivX3_readHouses hT.1 rfl rfl (c_rdHouses hT hL hd hN hN2 ha (by omega) hf (by omega) (by omega) hn h12) rfl ⟨rfl, rfl⟩ rfl rfl (fun r_ h_28 z_ q_27 => ?_) rfl
      obtain ⟨er_, ⟨w_, hT_, hq_⟩, hU_, ez_⟩ := q_27
      rw [er_, ez_]
      clear er_ ez_
      replace hT := hT_
      replace hU := Up2.tr2 hU hU_
      clear hT_ hU_
      show Z D B xX3_readStatement _ _ _ 33 _ [] _ _
      refine z_goto (pc := 33) (zk0 kX3_readStatement_1) (tgt := 171) (by decide) ?_
      exact z_vret (pc := 171) (zk1 kX3_readStatement_5) rfl (Nat.zero_le _) (Nat.zero_le _) ⟨rfl, ⟨_, hT, by rw [stT, if_pos ((nI_eqI (b := 1) (by omega) (by omega)).mp c_1), stW, if_pos c_2]; exact hq_⟩, hU, rfl⟩
  · refine z_aload_n (pc := 8) (zk4 kX3_readStatement_0) rfl ?_
    refine z_aload_n (pc := 9) (zk5 kX3_readStatement_0) rfl ?_
    refine z_getf (pc := 10) (zk6 kX3_readStatement_0) flX3_22 hT.1 (v := .int (nI s)) (by rw [← h9]; rfl) ?_
    refine z_efV (pc := 13) (zk7 kX3_readStatement_0) (st := []) lkX3_42 ivX3_blame hT.1 rfl rfl (c_blame hT (by omega) hf) rfl ⟨rfl, rfl⟩ rfl rfl (fun r_ h_30 z_ q_29 => ?_) rfl
    obtain ⟨er_, hR, hU_31, ez_⟩ := q_29
    rw [er_, ez_]
    clear er_ ez_
    replace hL := LnAt.fr hL hU_31 (by omega)
    replace hU := Up2.tr hU hU_31 (by omega)
    replace hT := hR; clear hR
    show Z D B xX3_readStatement _ _ _ 16 _ [] _ _
    refine z_goto (pc := 16) (zk8 kX3_readStatement_0) (tgt := 171) (by decide) ?_
    exact z_vret (pc := 171) (zk1 kX3_readStatement_5) rfl (Nat.zero_le _) (Nat.zero_le _) ⟨rfl, ⟨_, hT, Or.inr ⟨_, _, by rw [stT, if_neg (fun q => c_1 (congrArg nI q))], hL, rfl⟩⟩, hU, rfl⟩
set_option maxRecDepth 20000 in
theorem c_readInto {D : zD} {B : Nat} {h : zH} {sz : Nat} {pt pl N n m : Nat} {τ ω σ : Ln} (hT : TaAt h pt τ ω) (hL : LnAt h pl σ) (hd : pt + 2 ≤ pl ∨ pl + 9 ≤ pt) (hN : τ 6 0 = nI N) (hN2 : N ≤ 250) (hB : B ≤ pt) (hBl : B ≤ pl) (hW : LW σ n m) : zM D B xX3_readInto [.ref pt, .ref pl] h sz (fun r h1 z1 => (∃ ω1, TaAt h1 pt τ ω1 ∧ ((∃ σ1 c, rdA (τ 5) N 251 σ 0 0 = .ok (σ1, c) ∧ r = some (.int (nI c)) ∧ LnAt h1 pl σ1 ∧ ω1 12 0 = -1) ∨ (∃ x γ, rdA (τ 5) N 251 σ 0 0 = .error x ∧ r = some (.int (-1)) ∧ LnAt h1 pl γ ∧ ω1 12 0 = nI x))) ∧ Up2 h h1 pt 2 pl 9 ∧ z1 = sz) := by
  have hU : Up2 h h pt 2 pl 9 := Up2.rf
  refine zM.of (by decide) rfl (n := 2) ?_
  show Z D B xX3_readInto 0 0 _ 0 [some (.ref pt), some (.ref pl), none, none] [] h sz
  refine z_aload_n (pc := 0) (zk0 kX3_readInto_0) rfl ?_
  refine z_iconst (pc := 1) (zk1 kX3_readInto_0) (v := (-1)) (by decide) ?_
  refine z_Ta_w5 (pc := 2) (zk2 kX3_readInto_0) flX3_28 hT (by omega) (fun h_1 hR hU_2 => ?_)
  replace hL := LnAt.fr hL hU_2 (by omega)
  replace hU := Up2.tr hU hU_2 (by omega)
  replace hT := hR; clear hR
  refine z_aload_n (pc := 5) (zk3 kX3_readInto_0) rfl ?_
  refine z_iconst (pc := 6) (zk4 kX3_readInto_0) (v := 0) (by decide) ?_
  refine z_Ta_w4 (pc := 7) (zk5 kX3_readInto_0) flX3_25 hT (by omega) (fun h_3 hR hU_4 => ?_)
  replace hL := LnAt.fr hL hU_4 (by omega)
  replace hU := Up2.tr hU hU_4 (by omega)
  replace hT := hR; clear hR
  refine z_iconst (pc := 10) (zk6 kX3_readInto_0) (v := 0) (by decide) ?_
  refine z_istore_n (pc := 11) (zk7 kX3_readInto_0) rfl rfl ?_
  show Z D B xX3_readInto _ _ _ 12 [some (.ref pt), some (.ref pl), some (.int 0), none] _ _ _
  refine z_iconst (pc := 12) (zk8 kX3_readInto_0) (v := 0) (by decide) ?_
  refine z_istore_n (pc := 13) (zk9 kX3_readInto_0) rfl rfl ?_
  show Z D B xX3_readInto _ _ _ 14 [some (.ref pt), some (.ref pl), some (.int 0), some (.int 0)] _ _ _
  have lp14 : ∀ (n_ : Nat) (g : zH) (w1 : Ln) (s1 : Ln) (b : Nat) (c : Nat), 251 - c < n_ → (TaAt g pt τ w1) → (w1 10 0 = nI b) → (w1 12 0 = -1) → (LnAt g pl s1) → (∃ n m, LW s1 n m) → (c ≤ b ∧ b ≤ N) → (rdA (τ 5) N (251 - c) s1 b c = rdA (τ 5) N 251 σ 0 0) → (Up2 h g pt 2 pl 9) → Z D B xX3_readInto 0 0 (fun r h1 z1 => (∃ ω1, TaAt h1 pt τ ω1 ∧ ((∃ σ1 c, rdA (τ 5) N 251 σ 0 0 = .ok (σ1, c) ∧ r = some (.int (nI c)) ∧ LnAt h1 pl σ1 ∧ ω1 12 0 = -1) ∨ (∃ x γ, rdA (τ 5) N 251 σ 0 0 = .error x ∧ r = some (.int (-1)) ∧ LnAt h1 pl γ ∧ ω1 12 0 = nI x))) ∧ Up2 h h1 pt 2 pl 9 ∧ z1 = sz) 14 [some (.ref pt), some (.ref pl), some (.int (nI c)), some (.int (nI c))] [] g sz := by
    intro n_
    induction n_ with
    | zero => intro g w1 s1 b c hm_; exact absurd hm_ (Nat.not_lt_zero _)
    | succ n_ ih14 =>
      intro g w1 s1 b c hm_ hT ha hf hL hW hc hR hU
      obtain ⟨n, m, hW⟩ := hW
      refine z_iload_n (pc := 14) (zk10 kX3_readInto_0) rfl ?_
      refine z_sipush (pc := 15) (zk11 kX3_readInto_0) (v := 250) (by decide) ?_
      refine z_icmp_gt (pc := 18) (zk12 kX3_readInto_0) (tgt := 80) (by decide) (fun q => absurd q (show ¬ (250 : Int32) < nI c from fun q => by have := (nI_ltI (a := 250) (by omega) (by omega)).mp q; omega)) (fun _ => ?_)
      refine z_aload_n (pc := 21) (zk13 kX3_readInto_0) rfl ?_
      refine z_efV (pc := 22) (zk14 kX3_readInto_0) (st := []) lkX3_35 ivX3_step hT.1 rfl rfl (c_step hT hN hN2 ha (by omega) (by omega)) rfl ⟨rfl, rfl⟩ rfl rfl (fun r_ h_6 z_ q_5 => ?_) rfl
      obtain ⟨w_k_8, er_, hR, e8_k_8, e9_k_8, e10_k_8, e12_k_8, hU_7, ez_⟩ := q_5
      rw [er_, ez_]
      clear er_ ez_
      replace hL := LnAt.fr hL hU_7 (by omega)
      replace hU := Up2.tr hU hU_7 (by omega)
      replace hT := hR; clear hR
      obtain ⟨s_k_8, es_k_8⟩ : ∃ s_, s_ = skp (τ 5) N b := ⟨_, rfl⟩
      rw [← es_k_8] at e8_k_8 e9_k_8 e10_k_8
      have hs_k_8 := skp_ge (f := τ 5) (N := N) (a := b) (by omega)
      rw [← es_k_8] at hs_k_8
      have ht_k_8 := tkE_le (f := τ 5) (N := N) (s := s_k_8) hs_k_8.2
      have hk_k_8 := tkS_le (τ 5) N s_k_8
      show Z D B xX3_readInto _ _ _ 25 _ [] _ _
      refine z_aload_n (pc := 25) (zk15 kX3_readInto_0) rfl ?_
      refine z_aload_n (pc := 26) (zk0 kX3_readInto_1) rfl ?_
      refine z_efV (pc := 27) (zk1 kX3_readInto_1) (st := []) lkX3_38 ivX3_readStatement hT.1 rfl rfl (c_rdStm hT hL hd hN hN2 e8_k_8 e9_k_8 e10_k_8 (by omega) (e12_k_8.trans hf) (by omega) (by omega) hW.1 hW.2.1.2 hW.2.2.1 hW.2.2.2.1) rfl ⟨rfl, rfl⟩ rfl rfl (fun r_ h_10 z_ q_9 => ?_) rfl
      obtain ⟨er_, ⟨w_, hT_, hq_⟩, hU_, ez_⟩ := q_9
      rw [er_, ez_]
      clear er_ ez_
      replace hT := hT_
      replace hU := Up2.tr2 hU hU_
      clear hT_ hU_
      rcases hq_ with ⟨s2, e, hst, hL, ef, ee⟩ | ⟨x, γ, hst, hL, ef⟩
      · have hse := (stT_ok (σ := s1) (show b ≤ N by omega)).2 s2 e (by rw [← es_k_8]; exact hst)
        have hW1 := stT_lw hW (show s_k_8 ≤ N by omega) s2 e hst
        show Z D B xX3_readInto _ _ _ 30 _ [] _ _
        refine z_aload_n (pc := 30) (zk2 kX3_readInto_1) rfl ?_
        refine z_getf (pc := 31) (zk3 kX3_readInto_1) flX3_28 hT.1 (v := .int (-1)) (by rw [← ef]; rfl) ?_
        refine z_iconst (pc := 34) (zk4 kX3_readInto_1) (v := (-1)) (by decide) ?_
        refine z_icmp_eq (pc := 35) (zk5 kX3_readInto_1) (tgt := 40) (by decide) (fun _ => ?_) (fun q => absurd (by decide) q)
        refine z_iinc (pc := 40) (zk8 kX3_readInto_1) (v := nI (c + 1)) rfl zinc rfl rfl ?_
        show Z D B xX3_readInto _ _ _ 43 [some (.ref pt), some (.ref pl), some (.int (nI (c + 1))), some (.int (nI c))] _ _ _
        refine z_aload_n (pc := 43) (zk9 kX3_readInto_1) rfl ?_
        refine z_efV (pc := 44) (zk10 kX3_readInto_1) (st := []) lkX3_35 ivX3_step hT.1 rfl rfl (c_step hT hN hN2 ee (by omega) (by omega)) rfl ⟨rfl, rfl⟩ rfl rfl (fun r_ h_12 z_ q_11 => ?_) rfl
        obtain ⟨w_k_14, er_, hR, e8_k_14, e9_k_14, e10_k_14, e12_k_14, hU_13, ez_⟩ := q_11
        rw [er_, ez_]
        clear er_ ez_
        replace hL := LnAt.fr hL hU_13 (by omega)
        replace hU := Up2.tr hU hU_13 (by omega)
        replace hT := hR; clear hR
        obtain ⟨s_k_14, es_k_14⟩ : ∃ s_, s_ = skp (τ 5) N e := ⟨_, rfl⟩
        rw [← es_k_14] at e8_k_14 e9_k_14 e10_k_14
        have hs_k_14 := skp_ge (f := τ 5) (N := N) (a := e) (by omega)
        rw [← es_k_14] at hs_k_14
        have ht_k_14 := tkE_le (f := τ 5) (N := N) (s := s_k_14) hs_k_14.2
        have hk_k_14 := tkS_le (τ 5) N s_k_14
        show Z D B xX3_readInto _ _ _ 47 _ [] _ _
        refine z_aload_n (pc := 47) (zk11 kX3_readInto_1) rfl ?_
        refine z_getf (pc := 48) (zk12 kX3_readInto_1) flX3_19 hT.1 (v := .int (nI (tkS (τ 5) N s_k_14))) (by rw [← e8_k_14]; rfl) ?_
        refine z_if_ne (pc := 51) (zk13 kX3_readInto_1) (tgt := 56) (by decide) (fun c_15 => ?_) (fun c_15 => ?_)
        · refine z_aload_n (pc := 56) (zk0 kX3_readInto_2) rfl ?_
          refine z_getf (pc := 57) (zk1 kX3_readInto_2) flX3_19 hT.1 (v := .int (nI (tkS (τ 5) N s_k_14))) (by rw [← e8_k_14]; rfl) ?_
          refine z_iconst (pc := 60) (zk2 kX3_readInto_2) (v := 3) (by decide) ?_
          refine z_icmp_eq (pc := 61) (zk3 kX3_readInto_2) (tgt := 74) (by decide) (fun c_16 => ?_) (fun c_16 => ?_)
          · have hk3 : tkS (τ 5) N s_k_14 = 3 := (nI_eqI (b := 3) (by omega) (by omega)).mp c_16
            refine z_iinc (pc := 74) (zk10 kX3_readInto_2) (v := nI (c + 1)) rfl zinc rfl rfl ?_
            show Z D B xX3_readInto _ _ _ 77 [some (.ref pt), some (.ref pl), some (.int (nI (c + 1))), some (.int (nI (c + 1)))] _ _ _
            refine z_goto (pc := 77) (zk11 kX3_readInto_2) (tgt := 14) (by decide) ?_
            exact ih14 h_12 w_k_14 s2 (tkE (τ 5) N s_k_14) (c + 1) (by omega) hT e10_k_14 (e12_k_14.trans ef) hL hW1 (by have := tkE_gt (f := τ 5) (N := N) (s := s_k_14) (by rw [hk3]; decide); omega) (by rw [← hR, show 251 - c = (251 - (c + 1)) + 1 by omega, rdA_3 (by rw [← es_k_8]; exact hst) (by rw [← es_k_14]; exact hk3), ← es_k_14]) hU
          · refine z_aload_n (pc := 64) (zk4 kX3_readInto_2) rfl ?_
            refine z_aload_n (pc := 65) (zk5 kX3_readInto_2) rfl ?_
            refine z_getf (pc := 66) (zk6 kX3_readInto_2) flX3_22 hT.1 (v := .int (nI s_k_14)) (by rw [← e9_k_14]; rfl) ?_
            refine z_efV (pc := 69) (zk7 kX3_readInto_2) (st := []) lkX3_42 ivX3_blame hT.1 rfl rfl (c_blame hT (by omega) (e12_k_14.trans ef)) rfl ⟨rfl, rfl⟩ rfl rfl (fun r_ h_18 z_ q_17 => ?_) rfl
            obtain ⟨er_, hR, hU_19, ez_⟩ := q_17
            rw [er_, ez_]
            clear er_ ez_
            replace hL := LnAt.fr hL hU_19 (by omega)
            replace hU := Up2.tr hU hU_19 (by omega)
            replace hT := hR; clear hR
            show Z D B xX3_readInto _ _ _ 72 _ [] _ _
            refine z_iconst (pc := 72) (zk8 kX3_readInto_2) (v := (-1)) (by decide) ?_
            exact z_iret (pc := 73) (zk9 kX3_readInto_2) rfl (Nat.zero_le _) (Nat.zero_le _) ⟨⟨_, hT, Or.inr ⟨_, _, by rw [← hR, show 251 - c = (250 - c) + 1 by omega, rdA_w (by rw [← es_k_8]; exact hst) (by rw [← es_k_14]; exact fun q => c_15 (congrArg nI q)) (by rw [← es_k_14]; exact fun q => c_16 (congrArg nI q)), ← es_k_14], rfl, hL, rfl⟩⟩, hU, rfl⟩
        · refine z_iload_n (pc := 54) (zk14 kX3_readInto_1) rfl ?_
          exact z_iret (pc := 55) (zk15 kX3_readInto_1) rfl (Nat.zero_le _) (Nat.zero_le _) ⟨⟨_, hT, Or.inl ⟨_, _, by rw [← hR, show 251 - c = (250 - c) + 1 by omega, rdA_0 (by rw [← es_k_8]; exact hst) (by rw [← es_k_14]; exact (nI_eqI (b := 0) (by omega) (by omega)).mp c_15)], rfl, hL, (e12_k_14.trans ef)⟩⟩, hU, rfl⟩
      · have hxe := (stT_ok (σ := s1) (show b ≤ N by omega)).1 x (by rw [← es_k_8]; exact hst)
        show Z D B xX3_readInto _ _ _ 30 _ [] _ _
        refine z_aload_n (pc := 30) (zk2 kX3_readInto_1) rfl ?_
        refine z_getf (pc := 31) (zk3 kX3_readInto_1) flX3_28 hT.1 (v := .int (nI x)) (by rw [← ef]; rfl) ?_
        refine z_iconst (pc := 34) (zk4 kX3_readInto_1) (v := (-1)) (by decide) ?_
        refine z_icmp_eq (pc := 35) (zk5 kX3_readInto_1) (tgt := 40) (by decide) (fun q => absurd q (nI_ne_m1 (show x ≤ 1000 by omega))) (fun _ => ?_)
        refine z_iconst (pc := 38) (zk6 kX3_readInto_1) (v := (-1)) (by decide) ?_
        exact z_iret (pc := 39) (zk7 kX3_readInto_1) rfl (Nat.zero_le _) (Nat.zero_le _) ⟨⟨_, hT, Or.inr ⟨_, _, by rw [← hR, show 251 - c = (250 - c) + 1 by omega, rdA_x (by rw [← es_k_8]; exact hst)], rfl, hL, ef⟩⟩, hU, rfl⟩
  exact lp14 _ h_3 (up2 (up2 ω 12 0 (-1)) 10 0 0) σ 0 0 (Nat.lt_succ_self _) hT rfl rfl hL ⟨_, _, hW⟩ (by omega) rfl hU
