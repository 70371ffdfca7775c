set_option maxRecDepth 20000 in
theorem cX_lengths {D : zD} {B : Nat} {h : zH} {sz : Nat} {p : Nat} {σ κ τ : Ln} {ε : El} {ik : Int32} {x : Int32} {y : Int32} {z : Int32} {u : Int32} {n m : Nat} (hX : XoAt h p ik (rfo τ)) (hL : LnAt h (p + 1) σ) (hK : XR h p κ τ ε) (hB : B ≤ p) (hn : σ 0 0 = nI n) (h12 : n ≤ 12) (hm : σ 9 0 = nI m) (h8 : m ≤ 8) (hbk : σ 6 0 = 0 ∨ σ 6 0 = 1) (htn : ∀ l, l < m → ∃ t, t < n ∧ σ 12 l = nI t) (hlen : ∀ l, l < m → ∃ g, 1 ≤ g ∧ g ≤ 40 ∧ σ 13 l = nI g) (h2 : 2 ≤ n) (hS : SW τ m) : zM D B xX4_lengths [.ref p, .int x, .int y, .int z, .int u] h sz (xQ h p sz ik κ (sp_lengths σ τ ε x y z u)) := by
  have hU : Upd h h p 51 := Upd.rf
  obtain ⟨mk, tl, γ, hG, hγ⟩ := hK.2.1
  replace hγ : LnAt h (p + 19 + 1) γ := hγ
  refine zM.of (by decide) rfl (n := 2) ?_
  show Z D B xX4_lengths 0 0 _ 0 [some (.ref p), some (.int x), some (.int y), some (.int z), some (.int u), none, none] [] h sz
  refine z_aload_n (pc := 0) (zk0 kX4_lengths_0) rfl ?_
  refine z_iload_n (pc := 1) (zk1 kX4_lengths_0) rfl ?_
  refine z_iload_n (pc := 2) (zk2 kX4_lengths_0) rfl ?_
  refine z_iload_n (pc := 3) (zk3 kX4_lengths_0) rfl ?_
  refine z_iload (pc := 4) (zk4 kX4_lengths_0) rfl ?_
  refine z_iconst (pc := 6) (zk5 kX4_lengths_0) (v := 0) (by decide) ?_
  refine z_iconst (pc := 7) (zk6 kX4_lengths_0) (v := 2) (by decide) ?_
  refine z_rdS (pc := 8) (zk7 kX4_lengths_0) (st := [.int z, .int y, .int x, .ref p]) lkX4_52 isX4_outside (c_outside) rfl ⟨rfl, rfl⟩ rfl rfl ?_ rfl
  refine z_rdV (pc := 11) (zk8 kX4_lengths_0) (st := []) lkX4_249 ivX4_toldFault hX.1 rfl rfl (c_toldFault (b := (!okR 0 2 u)) hX hL hK h8 hS) rfl ⟨rfl, rfl⟩ rfl rfl ?_ rfl
  rw [Bool.not_not]
  rcases rowF_cs τ x y (σ 0 0) (okR 0 (σ 9 0 - 1) z && okR 0 2 u) with f0_ | f0_ | f0_ | f0_
  · refine z_top (congrArg Value.int (show -(nI (rowF τ x y (σ 0 0) (okR 0 (σ 9 0 - 1) z && okR 0 2 u))) = (-2) from by rw [f0_]; rfl)) ?_
    refine z_istore (pc := 14) (zk9 kX4_lengths_0) rfl rfl ?_
    show Z D B xX4_lengths _ _ _ 16 [some (.ref p), some (.int x), some (.int y), some (.int z), some (.int u), some (.int (-2)), none] _ _ _
    refine z_iload (pc := 16) (zk10 kX4_lengths_0) rfl ?_
    refine z_if_eq (pc := 18) (zk11 kX4_lengths_0) (tgt := 28) (by decide) (fun q => absurd q (by decide)) (fun _ => ?_)
    refine z_aload_n (pc := 21) (zk12 kX4_lengths_0) rfl ?_
    refine z_iload (pc := 22) (zk13 kX4_lengths_0) rfl ?_
    refine z_efV (pc := 24) (zk14 kX4_lengths_0) (st := []) lkX4_56 ivX4_refuse hX.1 rfl rfl (c_xrefuse (i := 0) hX hB (by decide) (by decide) (by decide)) rfl ⟨rfl, rfl⟩ rfl rfl (fun r_ h_2 z_ q_1 => ?_) rfl
    obtain ⟨er_, hR, hU_3, ez_⟩ := q_1
    rw [er_, ez_]
    clear er_ ez_
    replace hL := LnAt.fr hL hU_3 (by omega)
    replace hG := GuAt.fr hG hU_3 (by omega)
    replace hγ := LnAt.fr hγ hU_3 (by omega)
    replace hU := hU.tr hU_3 (by omega) (by omega)
    replace hK := XR.fr hK hU_3 (by omega)
    replace hX := hR; clear hR
    show Z D B xX4_lengths _ _ _ 27 _ [.int (-2)] _ _
    exact z_iret (pc := 27) (zk15 kX4_lengths_0) rfl (Nat.zero_le _) (Nat.zero_le _) (by
            rw [show sp_lengths σ τ ε x y z u = ((-2), σ, (rfN τ 2), ε) from by rw [sp_lengths, okL, f0_]; rfl]
            exact ⟨rfl, hX, hL, hK, hU, rfl⟩)
  · refine z_top (congrArg Value.int (show -(nI (rowF τ x y (σ 0 0) (okR 0 (σ 9 0 - 1) z && okR 0 2 u))) = (-3) from by rw [f0_]; rfl)) ?_
    refine z_istore (pc := 14) (zk9 kX4_lengths_0) rfl rfl ?_
    show Z D B xX4_lengths _ _ _ 16 [some (.ref p), some (.int x), some (.int y), some (.int z), some (.int u), some (.int (-3)), none] _ _ _
    refine z_iload (pc := 16) (zk10 kX4_lengths_0) rfl ?_
    refine z_if_eq (pc := 18) (zk11 kX4_lengths_0) (tgt := 28) (by decide) (fun q => absurd q (by decide)) (fun _ => ?_)
    refine z_aload_n (pc := 21) (zk12 kX4_lengths_0) rfl ?_
    refine z_iload (pc := 22) (zk13 kX4_lengths_0) rfl ?_
    refine z_efV (pc := 24) (zk14 kX4_lengths_0) (st := []) lkX4_56 ivX4_refuse hX.1 rfl rfl (c_xrefuse (i := 1) hX hB (by decide) (by decide) (by decide)) rfl ⟨rfl, rfl⟩ rfl rfl (fun r_ h_5 z_ q_4 => ?_) rfl
    obtain ⟨er_, hR, hU_6, ez_⟩ := q_4
    rw [er_, ez_]
    clear er_ ez_
    replace hL := LnAt.fr hL hU_6 (by omega)
    replace hG := GuAt.fr hG hU_6 (by omega)
    replace hγ := LnAt.fr hγ hU_6 (by omega)
    replace hU := hU.tr hU_6 (by omega) (by omega)
    replace hK := XR.fr hK hU_6 (by omega)
    replace hX := hR; clear hR
    show Z D B xX4_lengths _ _ _ 27 _ [.int (-3)] _ _
    exact z_iret (pc := 27) (zk15 kX4_lengths_0) rfl (Nat.zero_le _) (Nat.zero_le _) (by
            rw [show sp_lengths σ τ ε x y z u = ((-3), σ, (rfN τ 3), ε) from by rw [sp_lengths, okL, f0_]; rfl]
            exact ⟨rfl, hX, hL, hK, hU, rfl⟩)
  · refine z_top (congrArg Value.int (show -(nI (rowF τ x y (σ 0 0) (okR 0 (σ 9 0 - 1) z && okR 0 2 u))) = (-4) from by rw [f0_]; rfl)) ?_
    refine z_istore (pc := 14) (zk9 kX4_lengths_0) rfl rfl ?_
    show Z D B xX4_lengths _ _ _ 16 [some (.ref p), some (.int x), some (.int y), some (.int z), some (.int u), some (.int (-4)), none] _ _ _
    refine z_iload (pc := 16) (zk10 kX4_lengths_0) rfl ?_
    refine z_if_eq (pc := 18) (zk11 kX4_lengths_0) (tgt := 28) (by decide) (fun q => absurd q (by decide)) (fun _ => ?_)
    refine z_aload_n (pc := 21) (zk12 kX4_lengths_0) rfl ?_
    refine z_iload (pc := 22) (zk13 kX4_lengths_0) rfl ?_
    refine z_efV (pc := 24) (zk14 kX4_lengths_0) (st := []) lkX4_56 ivX4_refuse hX.1 rfl rfl (c_xrefuse (i := 2) hX hB (by decide) (by decide) (by decide)) rfl ⟨rfl, rfl⟩ rfl rfl (fun r_ h_8 z_ q_7 => ?_) rfl
    obtain ⟨er_, hR, hU_9, ez_⟩ := q_7
    rw [er_, ez_]
    clear er_ ez_
    replace hL := LnAt.fr hL hU_9 (by omega)
    replace hG := GuAt.fr hG hU_9 (by omega)
    replace hγ := LnAt.fr hγ hU_9 (by omega)
    replace hU := hU.tr hU_9 (by omega) (by omega)
    replace hK := XR.fr hK hU_9 (by omega)
    replace hX := hR; clear hR
    show Z D B xX4_lengths _ _ _ 27 _ [.int (-4)] _ _
    exact z_iret (pc := 27) (zk15 kX4_lengths_0) rfl (Nat.zero_le _) (Nat.zero_le _) (by
            rw [show sp_lengths σ τ ε x y z u = ((-4), σ, (rfN τ 4), ε) from by rw [sp_lengths, okL, f0_]; rfl]
            exact ⟨rfl, hX, hL, hK, hU, rfl⟩)
  · refine z_top (congrArg Value.int (show -(nI (rowF τ x y (σ 0 0) (okR 0 (σ 9 0 - 1) z && okR 0 2 u))) = 0 from by rw [f0_]; rfl)) ?_
    obtain ⟨f1_, f2_, f3_, f4_, f5_, f6_⟩ := rowF_0 f0_
    obtain ⟨c_10, c_11⟩ := Bool.and_eq_true_iff.mp f3_
    refine z_istore (pc := 14) (zk9 kX4_lengths_0) rfl rfl ?_
    show Z D B xX4_lengths _ _ _ 16 [some (.ref p), some (.int x), some (.int y), some (.int z), some (.int u), some (.int 0), none] _ _ _
    refine z_iload (pc := 16) (zk10 kX4_lengths_0) rfl ?_
    refine z_if_eq (pc := 18) (zk11 kX4_lengths_0) (tgt := 28) (by decide) (fun _ => ?_) (fun q => absurd (by decide) q)
    refine z_aload_n (pc := 28) (zk0 kX4_lengths_1) rfl ?_
    refine z_getf (pc := 29) (zk1 kX4_lengths_1) flX4_22 hX.1 gXo_2 ?_
    refine z_aload_n (pc := 32) (zk2 kX4_lengths_1) rfl ?_
    refine z_getf (pc := 33) (zk3 kX4_lengths_1) flX4_10 hX.1 gXo_0 ?_
    refine z_aload_n (pc := 36) (zk4 kX4_lengths_1) rfl ?_
    refine z_getf (pc := 37) (zk5 kX4_lengths_1) flX4_28 hX.1 gXo_3 ?_
    refine z_iload_n (pc := 40) (zk6 kX4_lengths_1) rfl ?_
    obtain ⟨kx, hkx, rfl⟩ := okR_c (c := 7) (by decide) f1_
    refine z_aald3N (pc := 41) (zk7 kX4_lengths_1) (j := kx) (b := p + 32 + 2 * kx) hX.2.1 (show kx < 8 by omega) rfl (if_pos (show kx < 8 by omega)) ?_
    refine z_iload_n (pc := 42) (zk8 kX4_lengths_1) rfl ?_
    refine z_iload_n (pc := 43) (zk9 kX4_lengths_1) rfl ?_
    obtain ⟨kz, hkz, rfl⟩ := okR_nI (n := m) (by omega) (by rw [← hm]; exact c_10)
    obtain ⟨ky, hky, rfl⟩ := okR_c (c := n) (by omega) (by rw [← hn]; exact f2_)
    refine z_efV (pc := 44) (zk10 kX4_lengths_1) (st := []) lkX4_253 ivX0_markLengths hG.1 rfl rfl (c_markLengths hG hγ hL (by omega) (by omega) hbk (hK.2.2.1 kx (show kx < 8 by omega)) (by omega) hn h12 (show kz < 8 by omega) (by omega)) rfl ⟨rfl, rfl⟩ rfl rfl (fun r_ h_13 z_ q_12 => ?_) rfl
    obtain ⟨mk_15, q_16, er_, hG_, hγ_, hmk_, hU_14, ez_⟩ := q_12
    rw [er_, ez_]
    clear er_ ez_
    replace hX := XoAt.fr hX hU_14 (by omega)
    replace hL := LnAt.fr hL hU_14 (by omega)
    replace hU := hU.tr hU_14 (by omega) (by omega)
    replace hG := hG_; replace hγ := hγ_; clear hG_ hγ_
    replace hK := XR.gu hK hU_14 ⟨_, _, _, hG, hγ⟩
    show Z D B xX4_lengths _ _ _ 47 _ [.int (lenC σ (ε kx) ky kz)] _ _
    refine z_istore (pc := 47) (zk11 kX4_lengths_1) rfl rfl ?_
    show Z D B xX4_lengths _ _ _ 49 [some (.ref p), some (.int (nI kx)), some (.int (nI ky)), some (.int (nI kz)), some (.int u), some (.int 0), some (.int (lenC σ (ε kx) ky kz))] _ _ _
    refine z_iload (pc := 49) (zk12 kX4_lengths_1) rfl ?_
    rcases okR_02 c_11 with rfl | rfl | rfl
    · refine z_if_ne (pc := 51) (zk13 kX4_lengths_1) (tgt := 57) (by decide) (fun q => absurd (by decide) q) (fun _ => ?_)
      refine z_iload (pc := 54) (zk14 kX4_lengths_1) rfl ?_
      generalize he_ : lenC σ (ε kx) ky kz = a_
      exact z_iret (pc := 56) (zk15 kX4_lengths_1) rfl (Nat.zero_le _) (Nat.zero_le _) (by
                rw [show sp_lengths σ τ ε (nI kx) (nI ky) (nI kz) 0 = (a_, σ, τ, ε) from by (rw [sp_lengths, okL, f0_]; simp [sTold, he_, ix_nI (show kx ≤ 1000 by omega), ix_nI (show kz ≤ 1000 by omega), ix_nI (show ky ≤ 1000 by omega)])]
                exact ⟨rfl, hX, hL, hK, hU, rfl⟩)
    · refine z_if_ne (pc := 51) (zk13 kX4_lengths_1) (tgt := 57) (by decide) (fun _ => ?_) (fun q => absurd q (by decide))
      refine z_iload (pc := 57) (zk0 kX4_lengths_2) rfl ?_
      refine z_iconst (pc := 59) (zk1 kX4_lengths_2) (v := 1) (by decide) ?_
      refine z_icmp_ne (pc := 60) (zk2 kX4_lengths_2) (tgt := 73) (by decide) (fun q => absurd (by decide) q) (fun _ => ?_)
      refine z_aload_n (pc := 63) (zk3 kX4_lengths_2) rfl ?_
      refine z_getf (pc := 64) (zk4 kX4_lengths_2) flX4_22 hX.1 gXo_2 ?_
      refine z_rdV (pc := 67) (zk5 kX4_lengths_2) (st := []) lkX4_257 ivX0_leastMarked hG.1 rfl rfl (c_leastMarked hG hmk_) rfl ⟨rfl, rfl⟩ rfl rfl ?_ rfl
      refine z_goto (pc := 70) (zk6 kX4_lengths_2) (tgt := 80) (by decide) ?_
      generalize he_ : lstD (lenB σ (ε kx) ky kz) 1 40 = a_
      exact z_iret (pc := 80) (zk10 kX4_lengths_2) rfl (Nat.zero_le _) (Nat.zero_le _) (by
                rw [show sp_lengths σ τ ε (nI kx) (nI ky) (nI kz) 1 = (a_, σ, τ, ε) from by (rw [sp_lengths, okL, f0_]; simp [sTold, he_, ix_nI (show kx ≤ 1000 by omega), ix_nI (show kz ≤ 1000 by omega), ix_nI (show ky ≤ 1000 by omega)])]
                exact ⟨rfl, hX, hL, hK, hU, rfl⟩)
    · refine z_if_ne (pc := 51) (zk13 kX4_lengths_1) (tgt := 57) (by decide) (fun _ => ?_) (fun q => absurd q (by decide))
      refine z_iload (pc := 57) (zk0 kX4_lengths_2) rfl ?_
      refine z_iconst (pc := 59) (zk1 kX4_lengths_2) (v := 1) (by decide) ?_
      refine z_icmp_ne (pc := 60) (zk2 kX4_lengths_2) (tgt := 73) (by decide) (fun _ => ?_) (fun q => absurd q (by decide))
      refine z_aload_n (pc := 73) (zk7 kX4_lengths_2) rfl ?_
      refine z_getf (pc := 74) (zk8 kX4_lengths_2) flX4_22 hX.1 gXo_2 ?_
      refine z_rdV (pc := 77) (zk9 kX4_lengths_2) (st := []) lkX4_260 ivX0_greatestMarked hG.1 rfl rfl (c_greatestMarked hG hmk_) rfl ⟨rfl, rfl⟩ rfl rfl ?_ rfl
      generalize he_ : lstU (lenB σ (ε kx) ky kz) 40 = a_
      exact z_iret (pc := 80) (zk10 kX4_lengths_2) rfl (Nat.zero_le _) (Nat.zero_le _) (by
                rw [show sp_lengths σ τ ε (nI kx) (nI ky) (nI kz) 2 = (a_, σ, τ, ε) from by (rw [sp_lengths, okL, f0_]; simp [sTold, he_, ix_nI (show kx ≤ 1000 by omega), ix_nI (show kz ≤ 1000 by omega), ix_nI (show ky ≤ 1000 by omega)])]
                exact ⟨rfl, hX, hL, hK, hU, rfl⟩)
set_option maxRecDepth 20000 in
theorem cX_fits {D : zD} {B : Nat} {h : zH} {sz : Nat} {p : Nat} {σ κ τ : Ln} {ε : El} {ik : Int32} {x : Int32} {y : Int32} {z : Int32} {u : Int32} {n m : Nat} (hX : XoAt h p ik (rfo τ)) (hL : LnAt h (p + 1) σ) (hK : XR h p κ τ ε) (hB : B ≤ p) (hn : σ 0 0 = nI n) (h12 : n ≤ 12) (hm : σ 9 0 = nI m) (h8 : m ≤ 8) (hbk : σ 6 0 = 0 ∨ σ 6 0 = 1) (htn : ∀ l, l < m → ∃ t, t < n ∧ σ 12 l = nI t) (hlen : ∀ l, l < m → ∃ g, 1 ≤ g ∧ g ≤ 40 ∧ σ 13 l = nI g) (h2 : 2 ≤ n) (hS : SW τ m) : zM D B xX4_fits [.ref p, .int x, .int y, .int z, .int u] h sz (xQ h p sz ik κ (sp_fits σ τ ε x y z u)) := by
  have hU : Upd h h p 51 := Upd.rf
  obtain ⟨mk, tl, γ, hG, hγ⟩ := hK.2.1
  replace hγ : LnAt h (p + 19 + 1) γ := hγ
  refine zM.of (by decide) rfl (n := 1) ?_
  show Z D B xX4_fits 0 0 _ 0 [some (.ref p), some (.int x), some (.int y), some (.int z), some (.int u), none] [] h sz
  refine z_aload_n (pc := 0) (zk0 kX4_fits_0) rfl ?_
  refine z_iload_n (pc := 1) (zk1 kX4_fits_0) rfl ?_
  refine z_iload_n (pc := 2) (zk2 kX4_fits_0) rfl ?_
  refine z_iload_n (pc := 3) (zk3 kX4_fits_0) rfl ?_
  refine z_iload (pc := 4) (zk4 kX4_fits_0) rfl ?_
  refine z_iconst (pc := 6) (zk5 kX4_fits_0) (v := 0) (by decide) ?_
  refine z_iconst (pc := 7) (zk6 kX4_fits_0) (v := 1) (by decide) ?_
  refine z_rdS (pc := 8) (zk7 kX4_fits_0) (st := [.int z, .int y, .int x, .ref p]) lkX4_52 isX4_outside (c_outside) rfl ⟨rfl, rfl⟩ rfl rfl ?_ rfl
  refine z_rdV (pc := 11) (zk8 kX4_fits_0) (st := []) lkX4_249 ivX4_toldFault hX.1 rfl rfl (c_toldFault (b := (!okR 0 1 u)) hX hL hK h8 hS) rfl ⟨rfl, rfl⟩ rfl rfl ?_ rfl
  rw [Bool.not_not]
  rcases rowF_cs τ x y (σ 0 0) (okR 0 (σ 9 0 - 1) z && okR 0 1 u) with f0_ | f0_ | f0_ | f0_
  · refine z_top (congrArg Value.int (show -(nI (rowF τ x y (σ 0 0) (okR 0 (σ 9 0 - 1) z && okR 0 1 u))) = (-2) from by rw [f0_]; rfl)) ?_
    refine z_istore (pc := 14) (zk9 kX4_fits_0) rfl rfl ?_
    show Z D B xX4_fits _ _ _ 16 [some (.ref p), some (.int x), some (.int y), some (.int z), some (.int u), some (.int (-2))] _ _ _
    refine z_iload (pc := 16) (zk10 kX4_fits_0) rfl ?_
    refine z_if_eq (pc := 18) (zk11 kX4_fits_0) (tgt := 28) (by decide) (fun q => absurd q (by decide)) (fun _ => ?_)
    refine z_aload_n (pc := 21) (zk12 kX4_fits_0) rfl ?_
    refine z_iload (pc := 22) (zk13 kX4_fits_0) rfl ?_
    refine z_efV (pc := 24) (zk14 kX4_fits_0) (st := []) lkX4_56 ivX4_refuse hX.1 rfl rfl (c_xrefuse (i := 0) hX hB (by decide) (by decide) (by decide)) rfl ⟨rfl, rfl⟩ rfl rfl (fun r_ h_2 z_ q_1 => ?_) rfl
    obtain ⟨er_, hR, hU_3, ez_⟩ := q_1
    rw [er_, ez_]
    clear er_ ez_
    replace hL := LnAt.fr hL hU_3 (by omega)
    replace hG := GuAt.fr hG hU_3 (by omega)
    replace hγ := LnAt.fr hγ hU_3 (by omega)
    replace hU := hU.tr hU_3 (by omega) (by omega)
    replace hK := XR.fr hK hU_3 (by omega)
    replace hX := hR; clear hR
    show Z D B xX4_fits _ _ _ 27 _ [.int (-2)] _ _
    exact z_iret (pc := 27) (zk15 kX4_fits_0) rfl (Nat.zero_le _) (Nat.zero_le _) (by
            rw [show sp_fits σ τ ε x y z u = ((-2), σ, (rfN τ 2), ε) from by rw [sp_fits, okL, f0_]; rfl]
            exact ⟨rfl, hX, hL, hK, hU, rfl⟩)
  · refine z_top (congrArg Value.int (show -(nI (rowF τ x y (σ 0 0) (okR 0 (σ 9 0 - 1) z && okR 0 1 u))) = (-3) from by rw [f0_]; rfl)) ?_
    refine z_istore (pc := 14) (zk9 kX4_fits_0) rfl rfl ?_
    show Z D B xX4_fits _ _ _ 16 [some (.ref p), some (.int x), some (.int y), some (.int z), some (.int u), some (.int (-3))] _ _ _
    refine z_iload (pc := 16) (zk10 kX4_fits_0) rfl ?_
    refine z_if_eq (pc := 18) (zk11 kX4_fits_0) (tgt := 28) (by decide) (fun q => absurd q (by decide)) (fun _ => ?_)
    refine z_aload_n (pc := 21) (zk12 kX4_fits_0) rfl ?_
    refine z_iload (pc := 22) (zk13 kX4_fits_0) rfl ?_
    refine z_efV (pc := 24) (zk14 kX4_fits_0) (st := []) lkX4_56 ivX4_refuse hX.1 rfl rfl (c_xrefuse (i := 1) hX hB (by decide) (by decide) (by decide)) rfl ⟨rfl, rfl⟩ rfl rfl (fun r_ h_5 z_ q_4 => ?_) rfl
    obtain ⟨er_, hR, hU_6, ez_⟩ := q_4
    rw [er_, ez_]
    clear er_ ez_
    replace hL := LnAt.fr hL hU_6 (by omega)
    replace hG := GuAt.fr hG hU_6 (by omega)
    replace hγ := LnAt.fr hγ hU_6 (by omega)
    replace hU := hU.tr hU_6 (by omega) (by omega)
    replace hK := XR.fr hK hU_6 (by omega)
    replace hX := hR; clear hR
    show Z D B xX4_fits _ _ _ 27 _ [.int (-3)] _ _
    exact z_iret (pc := 27) (zk15 kX4_fits_0) rfl (Nat.zero_le _) (Nat.zero_le _) (by
            rw [show sp_fits σ τ ε x y z u = ((-3), σ, (rfN τ 3), ε) from by rw [sp_fits, okL, f0_]; rfl]
            exact ⟨rfl, hX, hL, hK, hU, rfl⟩)
  · refine z_top (congrArg Value.int (show -(nI (rowF τ x y (σ 0 0) (okR 0 (σ 9 0 - 1) z && okR 0 1 u))) = (-4) from by rw [f0_]; rfl)) ?_
    refine z_istore (pc := 14) (zk9 kX4_fits_0) rfl rfl ?_
    show Z D B xX4_fits _ _ _ 16 [some (.ref p), some (.int x), some (.int y), some (.int z), some (.int u), some (.int (-4))] _ _ _
    refine z_iload (pc := 16) (zk10 kX4_fits_0) rfl ?_
    refine z_if_eq (pc := 18) (zk11 kX4_fits_0) (tgt := 28) (by decide) (fun q => absurd q (by decide)) (fun _ => ?_)
    refine z_aload_n (pc := 21) (zk12 kX4_fits_0) rfl ?_
    refine z_iload (pc := 22) (zk13 kX4_fits_0) rfl ?_
    refine z_efV (pc := 24) (zk14 kX4_fits_0) (st := []) lkX4_56 ivX4_refuse hX.1 rfl rfl (c_xrefuse (i := 2) hX hB (by decide) (by decide) (by decide)) rfl ⟨rfl, rfl⟩ rfl rfl (fun r_ h_8 z_ q_7 => ?_) rfl
    obtain ⟨er_, hR, hU_9, ez_⟩ := q_7
    rw [er_, ez_]
    clear er_ ez_
    replace hL := LnAt.fr hL hU_9 (by omega)
    replace hG := GuAt.fr hG hU_9 (by omega)
    replace hγ := LnAt.fr hγ hU_9 (by omega)
    replace hU := hU.tr hU_9 (by omega) (by omega)
    replace hK := XR.fr hK hU_9 (by omega)
    replace hX := hR; clear hR
    show Z D B xX4_fits _ _ _ 27 _ [.int (-4)] _ _
    exact z_iret (pc := 27) (zk15 kX4_fits_0) rfl (Nat.zero_le _) (Nat.zero_le _) (by
            rw [show sp_fits σ τ ε x y z u = ((-4), σ, (rfN τ 4), ε) from by rw [sp_fits, okL, f0_]; rfl]
            exact ⟨rfl, hX, hL, hK, hU, rfl⟩)
  · refine z_top (congrArg Value.int (show -(nI (rowF τ x y (σ 0 0) (okR 0 (σ 9 0 - 1) z && okR 0 1 u))) = 0 from by rw [f0_]; rfl)) ?_
    obtain ⟨f1_, f2_, f3_, f4_, f5_, f6_⟩ := rowF_0 f0_
    obtain ⟨c_10, c_11⟩ := Bool.and_eq_true_iff.mp f3_
    refine z_istore (pc := 14) (zk9 kX4_fits_0) rfl rfl ?_
    show Z D B xX4_fits _ _ _ 16 [some (.ref p), some (.int x), some (.int y), some (.int z), some (.int u), some (.int 0)] _ _ _
    refine z_iload (pc := 16) (zk10 kX4_fits_0) rfl ?_
    refine z_if_eq (pc := 18) (zk11 kX4_fits_0) (tgt := 28) (by decide) (fun _ => ?_) (fun q => absurd (by decide) q)
    refine z_iload (pc := 28) (zk0 kX4_fits_1) rfl ?_
    rcases okR_01 c_11 with rfl | rfl
    · refine z_if_ne (pc := 30) (zk1 kX4_fits_1) (tgt := 55) (by decide) (fun q => absurd (by decide) q) (fun _ => ?_)
      refine z_aload_n (pc := 33) (zk2 kX4_fits_1) rfl ?_
      refine z_getf (pc := 34) (zk3 kX4_fits_1) flX4_22 hX.1 gXo_2 ?_
      refine z_aload_n (pc := 37) (zk4 kX4_fits_1) rfl ?_
      refine z_getf (pc := 38) (zk5 kX4_fits_1) flX4_10 hX.1 gXo_0 ?_
      refine z_aload_n (pc := 41) (zk6 kX4_fits_1) rfl ?_
      refine z_getf (pc := 42) (zk7 kX4_fits_1) flX4_28 hX.1 gXo_3 ?_
      refine z_iload_n (pc := 45) (zk8 kX4_fits_1) rfl ?_
      obtain ⟨kx, hkx, rfl⟩ := okR_c (c := 7) (by decide) f1_
      refine z_aald3N (pc := 46) (zk9 kX4_fits_1) (j := kx) (b := p + 32 + 2 * kx) hX.2.1 (show kx < 8 by omega) rfl (if_pos (show kx < 8 by omega)) ?_
      refine z_iload_n (pc := 47) (zk10 kX4_fits_1) rfl ?_
      refine z_iload_n (pc := 48) (zk11 kX4_fits_1) rfl ?_
      obtain ⟨kz, hkz, rfl⟩ := okR_nI (n := m) (by omega) (by rw [← hm]; exact c_10)
      obtain ⟨ky, hky, rfl⟩ := okR_c (c := n) (by omega) (by rw [← hn]; exact f2_)
      refine z_efV (pc := 49) (zk12 kX4_fits_1) (st := []) lkX4_263 ivX0_fittingKinds hG.1 rfl rfl (c_kinds hG hγ hL (by omega) (by omega) hbk (hK.2.2.1 kx (show kx < 8 by omega)) (by omega) hn h12 (show kz < 8 by omega) (by omega)) rfl ⟨rfl, rfl⟩ rfl rfl (fun r_ h_13 z_ q_12 => ?_) rfl
      obtain ⟨er_, ⟨mk_15, tl_16, γ_17, hG_, hγ_⟩, hU_14, ez_⟩ := q_12
      rw [er_, ez_]
      clear er_ ez_
      replace hX := XoAt.fr hX hU_14 (by omega)
      replace hL := LnAt.fr hL hU_14 (by omega)
      replace hU := hU.tr hU_14 (by omega) (by omega)
      replace hG := hG_; replace hγ := hγ_; clear hG_ hγ_
      replace hK := XR.gu hK hU_14 ⟨_, _, _, hG, hγ⟩
      show Z D B xX4_fits _ _ _ 52 _ [.int (bitsI (fun k => sndB (up2 σ 10 kz (nI k)) (ε kx) kz ky) 6)] _ _
      refine z_goto (pc := 52) (zk13 kX4_fits_1) (tgt := 74) (by decide) ?_
      generalize he_ : bitsI (fun k => sndB (up2 σ 10 kz (nI k)) (ε kx) kz ky) 6 = a_
      exact z_iret (pc := 74) (zk9 kX4_fits_2) rfl (Nat.zero_le _) (Nat.zero_le _) (by
                rw [show sp_fits σ τ ε (nI kx) (nI ky) (nI kz) 0 = (a_, σ, τ, ε) from by (rw [sp_fits, okL, f0_]; simp [sTold, he_, ix_nI (show kx ≤ 1000 by omega), ix_nI (show kz ≤ 1000 by omega), ix_nI (show ky ≤ 1000 by omega)])]
                exact ⟨rfl, hX, hL, hK, hU, rfl⟩)
    · refine z_if_ne (pc := 30) (zk1 kX4_fits_1) (tgt := 55) (by decide) (fun _ => ?_) (fun q => absurd q (by decide))
      refine z_aload_n (pc := 55) (zk14 kX4_fits_1) rfl ?_
      refine z_getf (pc := 56) (zk15 kX4_fits_1) flX4_22 hX.1 gXo_2 ?_
      refine z_aload_n (pc := 59) (zk0 kX4_fits_2) rfl ?_
      refine z_getf (pc := 60) (zk1 kX4_fits_2) flX4_10 hX.1 gXo_0 ?_
      refine z_aload_n (pc := 63) (zk2 kX4_fits_2) rfl ?_
      refine z_getf (pc := 64) (zk3 kX4_fits_2) flX4_28 hX.1 gXo_3 ?_
      refine z_iload_n (pc := 67) (zk4 kX4_fits_2) rfl ?_
      obtain ⟨kx, hkx, rfl⟩ := okR_c (c := 7) (by decide) f1_
      refine z_aald3N (pc := 68) (zk5 kX4_fits_2) (j := kx) (b := p + 32 + 2 * kx) hX.2.1 (show kx < 8 by omega) rfl (if_pos (show kx < 8 by omega)) ?_
      refine z_iload_n (pc := 69) (zk6 kX4_fits_2) rfl ?_
      refine z_iload_n (pc := 70) (zk7 kX4_fits_2) rfl ?_
      obtain ⟨kz, hkz, rfl⟩ := okR_nI (n := m) (by omega) (by rw [← hm]; exact c_10)
      obtain ⟨ky, hky, rfl⟩ := okR_c (c := n) (by omega) (by rw [← hn]; exact f2_)
      refine z_efV (pc := 71) (zk8 kX4_fits_2) (st := []) lkX4_266 ivX0_fittingTos hG.1 rfl rfl (c_tos hG hγ hL (by omega) (by omega) hbk (hK.2.2.1 kx (show kx < 8 by omega)) (by omega) hn h12 (show kz < 8 by omega) (by omega)) rfl ⟨rfl, rfl⟩ rfl rfl (fun r_ h_19 z_ q_18 => ?_) rfl
      obtain ⟨er_, ⟨mk_21, tl_22, γ_23, hG_, hγ_⟩, hU_20, ez_⟩ := q_18
      rw [er_, ez_]
      clear er_ ez_
      replace hX := XoAt.fr hX hU_20 (by omega)
      replace hL := LnAt.fr hL hU_20 (by omega)
      replace hU := hU.tr hU_20 (by omega) (by omega)
      replace hG := hG_; replace hγ := hγ_; clear hG_ hγ_
      replace hK := XR.gu hK hU_20 ⟨_, _, _, hG, hγ⟩
      show Z D B xX4_fits _ _ _ 74 _ [.int (bitsI (fun k => sndB (up2 σ 12 kz (nI k)) (ε kx) kz ky) (hsN σ))] _ _
      generalize he_ : bitsI (fun k => sndB (up2 σ 12 kz (nI k)) (ε kx) kz ky) (hsN σ) = a_
      exact z_iret (pc := 74) (zk9 kX4_fits_2) rfl (Nat.zero_le _) (Nat.zero_le _) (by
                rw [show sp_fits σ τ ε (nI kx) (nI ky) (nI kz) 1 = (a_, σ, τ, ε) from by (rw [sp_fits, okL, f0_]; simp [sTold, he_, ix_nI (show kx ≤ 1000 by omega), ix_nI (show kz ≤ 1000 by omega), ix_nI (show ky ≤ 1000 by omega)])]
                exact ⟨rfl, hX, hL, hK, hU, rfl⟩)
theorem two_le {x : Int32} : (2 ≤ x) ↔ 1 < x := by
  rw [Int32.le_iff_toInt_le, Int32.lt_iff_toInt_lt]
  have a : (2 : Int32).toInt = 2 := rfl
  have b : (1 : Int32).toInt = 1 := rfl
  rw [a, b]; omega
set_option maxRecDepth 20000 in
theorem cX_ask {D : zD} {B : Nat} {h : zH} {sz : Nat} {p : Nat} {σ κ τ : Ln} {ε : El} {ik : Int32} {x : Int32} {y : Int32} {z : Int32} {n m : Nat} (hX : XoAt h p ik (rfo τ)) (hL : LnAt h (p + 1) σ) (hK : XR h p κ τ ε) (hB : B ≤ p) (hn : σ 0 0 = nI n) (h12 : n ≤ 12) (hm : σ 9 0 = nI m) (h8 : m ≤ 8) (hbk : σ 6 0 = 0 ∨ σ 6 0 = 1) (htn : ∀ l, l < m → ∃ t, t < n ∧ σ 12 l = nI t) (hlen : ∀ l, l < m → ∃ g, 1 ≤ g ∧ g ≤ 40 ∧ σ 13 l = nI g) (h2 : 2 ≤ n) (hS : SW τ m) : zM D B xX4_ask [.ref p, .int x, .int y, .int z] h sz (xQ h p sz ik κ (sp_ask σ τ ε x y z)) := by
  have hU : Upd h h p 51 := Upd.rf
  obtain ⟨mk, tl, γ, hG, hγ⟩ := hK.2.1
  replace hγ : LnAt h (p + 19 + 1) γ := hγ
  refine zM.of (by decide) rfl (n := 2) ?_
  show Z D B xX4_ask 0 0 _ 0 [some (.ref p), some (.int x), some (.int y), some (.int z), none, none] [] h sz
  refine z_aload_n (pc := 0) (zk0 kX4_ask_0) rfl ?_
  refine z_iload_n (pc := 1) (zk1 kX4_ask_0) rfl ?_
  refine z_iload_n (pc := 2) (zk2 kX4_ask_0) rfl ?_
  refine z_iload_n (pc := 3) (zk3 kX4_ask_0) rfl ?_
  refine z_iconst (pc := 4) (zk4 kX4_ask_0) (v := 0) (by decide) ?_
  refine z_rdV (pc := 5) (zk5 kX4_ask_0) (st := []) lkX4_249 ivX4_toldFault hX.1 rfl rfl (c_toldFault (b := false) hX hL hK h8 hS) rfl ⟨rfl, rfl⟩ rfl rfl ?_ rfl
  rw [Bool.not_false, Bool.and_true]
  rcases rowF_cs τ x y (σ 0 0) (okR 0 (σ 9 0 - 1) z) with f0_ | f0_ | f0_ | f0_
  · refine z_top (congrArg Value.int (show -(nI (rowF τ x y (σ 0 0) (okR 0 (σ 9 0 - 1) z))) = (-2) from by rw [f0_]; rfl)) ?_
    refine z_istore (pc := 8) (zk6 kX4_ask_0) rfl rfl ?_
    show Z D B xX4_ask _ _ _ 10 [some (.ref p), some (.int x), some (.int y), some (.int z), some (.int (-2)), none] _ _ _
    refine z_iload (pc := 10) (zk7 kX4_ask_0) rfl ?_
    refine z_if_eq (pc := 12) (zk8 kX4_ask_0) (tgt := 22) (by decide) (fun q => absurd q (by decide)) (fun _ => ?_)
    refine z_aload_n (pc := 15) (zk9 kX4_ask_0) rfl ?_
    refine z_iload (pc := 16) (zk10 kX4_ask_0) rfl ?_
    refine z_efV (pc := 18) (zk11 kX4_ask_0) (st := []) lkX4_56 ivX4_refuse hX.1 rfl rfl (c_xrefuse (i := 0) hX hB (by decide) (by decide) (by decide)) rfl ⟨rfl, rfl⟩ rfl rfl (fun r_ h_2 z_ q_1 => ?_) rfl
    obtain ⟨er_, hR, hU_3, ez_⟩ := q_1
    rw [er_, ez_]
    clear er_ ez_
    replace hL := LnAt.fr hL hU_3 (by omega)
    replace hG := GuAt.fr hG hU_3 (by omega)
    replace hγ := LnAt.fr hγ hU_3 (by omega)
    replace hU := hU.tr hU_3 (by omega) (by omega)
    replace hK := XR.fr hK hU_3 (by omega)
    replace hX := hR; clear hR
    show Z D B xX4_ask _ _ _ 21 _ [.int (-2)] _ _
    exact z_iret (pc := 21) (zk12 kX4_ask_0) rfl (Nat.zero_le _) (Nat.zero_le _) (by
            rw [show sp_ask σ τ ε x y z = ((-2), σ, (rfN τ 2), ε) from by rw [sp_ask, okL, f0_]; rfl]
            exact ⟨rfl, hX, hL, hK, hU, rfl⟩)
  · refine z_top (congrArg Value.int (show -(nI (rowF τ x y (σ 0 0) (okR 0 (σ 9 0 - 1) z))) = (-3) from by rw [f0_]; rfl)) ?_
    refine z_istore (pc := 8) (zk6 kX4_ask_0) rfl rfl ?_
    show Z D B xX4_ask _ _ _ 10 [some (.ref p), some (.int x), some (.int y), some (.int z), some (.int (-3)), none] _ _ _
    refine z_iload (pc := 10) (zk7 kX4_ask_0) rfl ?_
    refine z_if_eq (pc := 12) (zk8 kX4_ask_0) (tgt := 22) (by decide) (fun q => absurd q (by decide)) (fun _ => ?_)
    refine z_aload_n (pc := 15) (zk9 kX4_ask_0) rfl ?_
    refine z_iload (pc := 16) (zk10 kX4_ask_0) rfl ?_
    refine z_efV (pc := 18) (zk11 kX4_ask_0) (st := []) lkX4_56 ivX4_refuse hX.1 rfl rfl (c_xrefuse (i := 1) hX hB (by decide) (by decide) (by decide)) rfl ⟨rfl, rfl⟩ rfl rfl (fun r_ h_5 z_ q_4 => ?_) rfl
    obtain ⟨er_, hR, hU_6, ez_⟩ := q_4
    rw [er_, ez_]
    clear er_ ez_
    replace hL := LnAt.fr hL hU_6 (by omega)
    replace hG := GuAt.fr hG hU_6 (by omega)
    replace hγ := LnAt.fr hγ hU_6 (by omega)
    replace hU := hU.tr hU_6 (by omega) (by omega)
    replace hK := XR.fr hK hU_6 (by omega)
    replace hX := hR; clear hR
    show Z D B xX4_ask _ _ _ 21 _ [.int (-3)] _ _
    exact z_iret (pc := 21) (zk12 kX4_ask_0) rfl (Nat.zero_le _) (Nat.zero_le _) (by
            rw [show sp_ask σ τ ε x y z = ((-3), σ, (rfN τ 3), ε) from by rw [sp_ask, okL, f0_]; rfl]
            exact ⟨rfl, hX, hL, hK, hU, rfl⟩)
  · refine z_top (congrArg Value.int (show -(nI (rowF τ x y (σ 0 0) (okR 0 (σ 9 0 - 1) z))) = (-4) from by rw [f0_]; rfl)) ?_
    refine z_istore (pc := 8) (zk6 kX4_ask_0) rfl rfl ?_
    show Z D B xX4_ask _ _ _ 10 [some (.ref p), some (.int x), some (.int y), some (.int z), some (.int (-4)), none] _ _ _
    refine z_iload (pc := 10) (zk7 kX4_ask_0) rfl ?_
    refine z_if_eq (pc := 12) (zk8 kX4_ask_0) (tgt := 22) (by decide) (fun q => absurd q (by decide)) (fun _ => ?_)
    refine z_aload_n (pc := 15) (zk9 kX4_ask_0) rfl ?_
    refine z_iload (pc := 16) (zk10 kX4_ask_0) rfl ?_
    refine z_efV (pc := 18) (zk11 kX4_ask_0) (st := []) lkX4_56 ivX4_refuse hX.1 rfl rfl (c_xrefuse (i := 2) hX hB (by decide) (by decide) (by decide)) rfl ⟨rfl, rfl⟩ rfl rfl (fun r_ h_8 z_ q_7 => ?_) rfl
    obtain ⟨er_, hR, hU_9, ez_⟩ := q_7
    rw [er_, ez_]
    clear er_ ez_
    replace hL := LnAt.fr hL hU_9 (by omega)
    replace hG := GuAt.fr hG hU_9 (by omega)
    replace hγ := LnAt.fr hγ hU_9 (by omega)
    replace hU := hU.tr hU_9 (by omega) (by omega)
    replace hK := XR.fr hK hU_9 (by omega)
    replace hX := hR; clear hR
    show Z D B xX4_ask _ _ _ 21 _ [.int (-4)] _ _
    exact z_iret (pc := 21) (zk12 kX4_ask_0) rfl (Nat.zero_le _) (Nat.zero_le _) (by
            rw [show sp_ask σ τ ε x y z = ((-4), σ, (rfN τ 4), ε) from by rw [sp_ask, okL, f0_]; rfl]
            exact ⟨rfl, hX, hL, hK, hU, rfl⟩)
  · refine z_top (congrArg Value.int (show -(nI (rowF τ x y (σ 0 0) (okR 0 (σ 9 0 - 1) z))) = 0 from by rw [f0_]; rfl)) ?_
    obtain ⟨f1_, f2_, f3_, f4_, f5_, f6_⟩ := rowF_0 f0_
    refine z_istore (pc := 8) (zk6 kX4_ask_0) rfl rfl ?_
    show Z D B xX4_ask _ _ _ 10 [some (.ref p), some (.int x), some (.int y), some (.int z), some (.int 0), none] _ _ _
    refine z_iload (pc := 10) (zk7 kX4_ask_0) rfl ?_
    refine z_if_eq (pc := 12) (zk8 kX4_ask_0) (tgt := 22) (by decide) (fun _ => ?_) (fun q => absurd (by decide) q)
    refine z_aload_n (pc := 22) (zk13 kX4_ask_0) rfl ?_
    refine z_getf (pc := 23) (zk14 kX4_ask_0) flX4_22 hX.1 gXo_2 ?_
    refine z_aload_n (pc := 26) (zk15 kX4_ask_0) rfl ?_
    refine z_getf (pc := 27) (zk0 kX4_ask_1) flX4_10 hX.1 gXo_0 ?_
    refine z_aload_n (pc := 30) (zk1 kX4_ask_1) rfl ?_
    refine z_getf (pc := 31) (zk2 kX4_ask_1) flX4_28 hX.1 gXo_3 ?_
    refine z_iload_n (pc := 34) (zk3 kX4_ask_1) rfl ?_
    obtain ⟨kx, hkx, rfl⟩ := okR_c (c := 7) (by decide) f1_
    refine z_aald3N (pc := 35) (zk4 kX4_ask_1) (j := kx) (b := p + 32 + 2 * kx) hX.2.1 (show kx < 8 by omega) rfl (if_pos (show kx < 8 by omega)) ?_
    refine z_iload_n (pc := 36) (zk5 kX4_ask_1) rfl ?_
    refine z_iload_n (pc := 37) (zk6 kX4_ask_1) rfl ?_
    obtain ⟨kz, hkz, rfl⟩ := okR_nI (n := m) (by omega) (by rw [← hm]; exact f3_)
    obtain ⟨ky, hky, rfl⟩ := okR_c (c := n) (by omega) (by rw [← hn]; exact f2_)
    refine z_efV (pc := 38) (zk7 kX4_ask_1) (st := []) lkX4_253 ivX0_markLengths hG.1 rfl rfl (c_markLengths hG hγ hL (by omega) (by omega) hbk (hK.2.2.1 kx (show kx < 8 by omega)) (by omega) hn h12 (show kz < 8 by omega) (by omega)) rfl ⟨rfl, rfl⟩ rfl rfl (fun r_ h_11 z_ q_10 => ?_) rfl
    obtain ⟨mk_13, q_14, er_, hG_, hγ_, hmk_, hU_12, ez_⟩ := q_10
    rw [er_, ez_]
    clear er_ ez_
    replace hX := XoAt.fr hX hU_12 (by omega)
    replace hL := LnAt.fr hL hU_12 (by omega)
    replace hU := hU.tr hU_12 (by omega) (by omega)
    replace hG := hG_; replace hγ := hγ_; clear hG_ hγ_
    replace hK := XR.gu hK hU_12 ⟨_, _, _, hG, hγ⟩
    show Z D B xX4_ask _ _ _ 41 _ [.int (lenC σ (ε kx) ky kz)] _ _
    refine z_istore (pc := 41) (zk8 kX4_ask_1) rfl rfl ?_
    show Z D B xX4_ask _ _ _ 43 [some (.ref p), some (.int (nI kx)), some (.int (nI ky)), some (.int (nI kz)), some (.int 0), some (.int (lenC σ (ε kx) ky kz))] _ _ _
    refine z_iload (pc := 43) (zk9 kX4_ask_1) rfl ?_
    refine z_iconst (pc := 45) (zk10 kX4_ask_1) (v := 2) (by decide) ?_
    refine z_icmp_ge (pc := 46) (zk11 kX4_ask_1) (tgt := 53) (by decide) (fun c_15 => ?_) (fun c_15 => ?_)
    · refine z_aload_n (pc := 53) (zk14 kX4_ask_1) rfl ?_
      refine z_getf (pc := 54) (zk15 kX4_ask_1) flX4_22 hX.1 gXo_2 ?_
      refine z_iload_n (pc := 57) (zk0 kX4_ask_2) rfl ?_
      refine z_efV (pc := 58) (zk1 kX4_ask_2) (st := []) lkX4_269 ivX0_bestParting hG.1 rfl rfl (c_bestParting hG hγ (by omega) hn h12 (show kz < 8 by omega) hmk_) rfl ⟨rfl, rfl⟩ rfl rfl (fun r_ h_17 z_ q_16 => ?_) rfl
      obtain ⟨er_, ⟨mk_19, tl_20, γ_21, hG_, hγ_⟩, hU_18, ez_⟩ := q_16
      rw [er_, ez_]
      clear er_ ez_
      replace hX := XoAt.fr hX hU_18 (by omega)
      replace hL := LnAt.fr hL hU_18 (by omega)
      replace hU := hU.tr hU_18 (by omega) (by omega)
      replace hG := hG_; replace hγ := hγ_; clear hG_ hγ_
      replace hK := XR.gu hK hU_18 ⟨_, _, _, hG, hγ⟩
      show Z D B xX4_ask _ _ _ 61 _ [.int ((amn (fun k => wrstF σ (ε kx) ky kz k 40) 41 (-1) (hsN σ)).2)] _ _
      generalize he_ : (amn (fun k => wrstF σ (ε kx) ky kz k 40) 41 (-1) (hsN σ)).2 = a_
      exact z_iret (pc := 61) (zk2 kX4_ask_2) rfl (Nat.zero_le _) (Nat.zero_le _) (by
                rw [show sp_ask σ τ ε (nI kx) (nI ky) (nI kz) = (a_, σ, τ, ε) from by (rw [sp_ask, okL, f0_]; simp [sTold, askF, two_le.mp c_15, he_, ix_nI (show kx ≤ 1000 by omega), ix_nI (show kz ≤ 1000 by omega), ix_nI (show ky ≤ 1000 by omega)])]
                exact ⟨rfl, hX, hL, hK, hU, rfl⟩)
    · refine z_iconst (pc := 49) (zk12 kX4_ask_1) (v := (-1)) (by decide) ?_
      refine z_goto (pc := 50) (zk13 kX4_ask_1) (tgt := 61) (by decide) ?_
      exact z_iret (pc := 61) (zk2 kX4_ask_2) rfl (Nat.zero_le _) (Nat.zero_le _) (by
                rw [show sp_ask σ τ ε (nI kx) (nI ky) (nI kz) = ((-1), σ, τ, ε) from by (rw [sp_ask, okL, f0_]; simp [sTold, askF, show ¬ 1 < lenC σ (ε kx) ky kz from fun q => c_15 (two_le.mpr q), ix_nI (show kx ≤ 1000 by omega), ix_nI (show kz ≤ 1000 by omega), ix_nI (show ky ≤ 1000 by omega)])]
                exact ⟨rfl, hX, hL, hK, hU, rfl⟩)
set_option maxRecDepth 20000 in
theorem cX_winds {D : zD} {B : Nat} {h : zH} {sz : Nat} {p : Nat} {σ κ τ : Ln} {ε : El} {ik : Int32} {x : Int32} {y : Int32} {z : Int32} {n m : Nat} (hX : XoAt h p ik (rfo τ)) (hL : LnAt h (p + 1) σ) (hK : XR h p κ τ ε) (hB : B ≤ p) (hn : σ 0 0 = nI n) (h12 : n ≤ 12) (hm : σ 9 0 = nI m) (h8 : m ≤ 8) (hbk : σ 6 0 = 0 ∨ σ 6 0 = 1) (htn : ∀ l, l < m → ∃ t, t < n ∧ σ 12 l = nI t) (hlen : ∀ l, l < m → ∃ g, 1 ≤ g ∧ g ≤ 40 ∧ σ 13 l = nI g) (h2 : 2 ≤ n) (hS : SW τ m) : zM D B xX4_winds [.ref p, .int x, .int y, .int z] h sz (xQ h p sz ik κ (sp_winds σ τ ε x y z)) := by
  have hU : Upd h h p 51 := Upd.rf
  obtain ⟨mk, tl, γ, hG, hγ⟩ := hK.2.1
  replace hγ : LnAt h (p + 19 + 1) γ := hγ
  refine zM.of (by decide) rfl (n := 1) ?_
  show Z D B xX4_winds 0 0 _ 0 [some (.ref p), some (.int x), some (.int y), some (.int z), none] [] h sz
  refine z_aload_n (pc := 0) (zk0 kX4_winds_0) rfl ?_
  refine z_iload_n (pc := 1) (zk1 kX4_winds_0) rfl ?_
  refine z_rdV (pc := 2) (zk2 kX4_winds_0) (st := []) lkX4_48 ivX4_noShelf hX.1 rfl rfl (c_noShelf hX hL) rfl ⟨rfl, rfl⟩ rfl rfl ?_ rfl
  refine z_oif_ne (pc := 5) (zk3 kX4_winds_0) (tgt := 31) (by decide) (fun c_1 => ?_) (fun c_1 => ?_)
  · have c_2 : okR 0 7 x = false := by simpa using c_1
    refine z_aload_n (pc := 31) (zk15 kX4_winds_0) rfl ?_
    refine z_bipush (pc := 32) (zk0 kX4_winds_1) (v := (-2)) (by decide) ?_
    refine z_efV (pc := 34) (zk1 kX4_winds_1) (st := []) lkX4_56 ivX4_refuse hX.1 rfl rfl (c_xrefuse (i := 0) hX hB (by decide) (by decide) (by decide)) rfl ⟨rfl, rfl⟩ rfl rfl (fun r_ h_4 z_ q_3 => ?_) rfl
    obtain ⟨er_, hR, hU_5, ez_⟩ := q_3
    rw [er_, ez_]
    clear er_ ez_
    replace hL := LnAt.fr hL hU_5 (by omega)
    replace hG := GuAt.fr hG hU_5 (by omega)
    replace hγ := LnAt.fr hγ hU_5 (by omega)
    replace hU := hU.tr hU_5 (by omega) (by omega)
    replace hK := XR.fr hK hU_5 (by omega)
    replace hX := hR; clear hR
    show Z D B xX4_winds _ _ _ 37 _ [.int (-2)] _ _
    exact z_iret (pc := 37) (zk2 kX4_winds_1) rfl (Nat.zero_le _) (Nat.zero_le _) (by
            rw [show sp_winds σ τ ε x y z = ((-2), σ, (rfN τ 2), ε) from by simp [sp_winds, rowF, sTold, hm, sBad, okS, okH, okT, okB, sRd, up2_id, up2_id2, oI, sOther, sNone, sFull, c_1, c_2, show nI 2 = 2 from rfl, show nI 3 = 3 from rfl, show nI 4 = 4 from rfl]]
            exact ⟨rfl, hX, hL, hK, hU, rfl⟩)
  · have c_6 : okR 0 7 x = true := by simpa using c_1
    refine z_iload_n (pc := 8) (zk4 kX4_winds_0) rfl ?_
    refine z_iconst (pc := 9) (zk5 kX4_winds_0) (v := 0) (by decide) ?_
    refine z_aload_n (pc := 10) (zk6 kX4_winds_0) rfl ?_
    refine z_getf (pc := 11) (zk7 kX4_winds_0) flX4_10 hX.1 gXo_0 ?_
    refine z_getf (pc := 14) (zk8 kX4_winds_0) flX4_272 hL.1 (v := .int (nI m)) (by rw [← hm]; rfl) ?_
    refine z_rdS (pc := 17) (zk9 kX4_winds_0) (st := []) lkX4_52 isX4_outside (c_outside) rfl ⟨rfl, rfl⟩ rfl rfl ?_ rfl
    refine z_oif_ne (pc := 20) (zk10 kX4_winds_0) (tgt := 31) (by decide) (fun c_7 => ?_) (fun c_7 => ?_)
    · have c_8 : okR 0 (nI m) y = false := by simpa using c_7
      refine z_aload_n (pc := 31) (zk15 kX4_winds_0) rfl ?_
      refine z_bipush (pc := 32) (zk0 kX4_winds_1) (v := (-2)) (by decide) ?_
      refine z_efV (pc := 34) (zk1 kX4_winds_1) (st := []) lkX4_56 ivX4_refuse hX.1 rfl rfl (c_xrefuse (i := 0) hX hB (by decide) (by decide) (by decide)) rfl ⟨rfl, rfl⟩ rfl rfl (fun r_ h_10 z_ q_9 => ?_) rfl
      obtain ⟨er_, hR, hU_11, ez_⟩ := q_9
      rw [er_, ez_]
      clear er_ ez_
      replace hL := LnAt.fr hL hU_11 (by omega)
      replace hG := GuAt.fr hG hU_11 (by omega)
      replace hγ := LnAt.fr hγ hU_11 (by omega)
      replace hU := hU.tr hU_11 (by omega) (by omega)
      replace hK := XR.fr hK hU_11 (by omega)
      replace hX := hR; clear hR
      show Z D B xX4_winds _ _ _ 37 _ [.int (-2)] _ _
      exact z_iret (pc := 37) (zk2 kX4_winds_1) rfl (Nat.zero_le _) (Nat.zero_le _) (by
                rw [show sp_winds σ τ ε x y z = ((-2), σ, (rfN τ 2), ε) from by simp [sp_winds, rowF, sTold, hm, sBad, okS, okH, okT, okB, sRd, up2_id, up2_id2, oI, sOther, sNone, sFull, c_1, c_6, c_7, c_8, show nI 2 = 2 from rfl, show nI 3 = 3 from rfl, show nI 4 = 4 from rfl]]
                exact ⟨rfl, hX, hL, hK, hU, rfl⟩)
    · have c_12 : okR 0 (nI m) y = true := by simpa using c_7
      refine z_aload_n (pc := 23) (zk11 kX4_winds_0) rfl ?_
      refine z_iload_n (pc := 24) (zk12 kX4_winds_0) rfl ?_
      refine z_rdV (pc := 25) (zk13 kX4_winds_0) (st := []) lkX4_132 ivX4_noHouse hX.1 rfl rfl (c_noHouse hX hL) rfl ⟨rfl, rfl⟩ rfl rfl ?_ rfl
      refine z_oif_eq (pc := 28) (zk14 kX4_winds_0) (tgt := 38) (by decide) (fun c_13 => ?_) (fun c_13 => ?_)
      · have c_14 : okR 0 (σ 0 0 - 1) z = true := by simpa using c_13
        refine z_aload_n (pc := 38) (zk3 kX4_winds_1) rfl ?_
        refine z_getf (pc := 39) (zk4 kX4_winds_1) flX4_28 hX.1 gXo_3 ?_
        refine z_iload_n (pc := 42) (zk5 kX4_winds_1) rfl ?_
        obtain ⟨kx, hkx, rfl⟩ := okR_c (c := 7) (by decide) c_6
        refine z_aald3N (pc := 43) (zk6 kX4_winds_1) (j := kx) (b := p + 32 + 2 * kx) hX.2.1 (show kx < 8 by omega) rfl (if_pos (show kx < 8 by omega)) ?_
        refine z_iload_n (pc := 44) (zk7 kX4_winds_1) rfl ?_
        refine z_rdV (pc := 45) (zk8 kX4_winds_1) (st := []) lkX4_64 ivX2_rowFault (hK.2.2.1 kx (show kx < 8 by omega)).1 rfl rfl (c_xFault (hK.2.2.1 kx (show kx < 8 by omega)) hS h8 (show kx < 8 by omega)) rfl ⟨rfl, rfl⟩ rfl rfl ?_ rfl
        by_cases f2_ : τ 1 kx = 2
        · refine z_top (congrArg Value.int (show _ = ((-3) : Int32) from by rw [if_pos f2_])) ?_
          refine z_istore (pc := 48) (zk9 kX4_winds_1) rfl rfl ?_
          show Z D B xX4_winds _ _ _ 50 [some (.ref p), some (.int (nI kx)), some (.int y), some (.int z), some (.int (-3))] _ _ _
          refine z_iload (pc := 50) (zk10 kX4_winds_1) rfl ?_
          refine z_if_eq (pc := 52) (zk11 kX4_winds_1) (tgt := 62) (by decide) (fun q => absurd q (by decide)) (fun _ => ?_)
          refine z_aload_n (pc := 55) (zk12 kX4_winds_1) rfl ?_
          refine z_iload (pc := 56) (zk13 kX4_winds_1) rfl ?_
          refine z_efV (pc := 58) (zk14 kX4_winds_1) (st := []) lkX4_56 ivX4_refuse hX.1 rfl rfl (c_xrefuse (i := 1) hX hB (by decide) (by decide) (by decide)) rfl ⟨rfl, rfl⟩ rfl rfl (fun r_ h_16 z_ q_15 => ?_) rfl
          obtain ⟨er_, hR, hU_17, ez_⟩ := q_15
          rw [er_, ez_]
          clear er_ ez_
          replace hL := LnAt.fr hL hU_17 (by omega)
          replace hG := GuAt.fr hG hU_17 (by omega)
          replace hγ := LnAt.fr hγ hU_17 (by omega)
          replace hU := hU.tr hU_17 (by omega) (by omega)
          replace hK := XR.fr hK hU_17 (by omega)
          replace hX := hR; clear hR
          show Z D B xX4_winds _ _ _ 61 _ [.int (-3)] _ _
          exact z_iret (pc := 61) (zk15 kX4_winds_1) rfl (Nat.zero_le _) (Nat.zero_le _) (by
                        rw [show sp_winds σ τ ε (nI kx) y z = ((-3), σ, (rfN τ 3), ε) from by simp [sp_winds, rowF, sTold, hm, sBad, okS, okH, okT, okB, sRd, up2_id, up2_id2, oI, sOther, sNone, sFull, c_1, c_6, c_7, c_12, c_13, c_14, f2_, ix_nI (show kx ≤ 1000 by omega), show nI 2 = 2 from rfl, show nI 3 = 3 from rfl, show nI 4 = 4 from rfl]]
                        exact ⟨rfl, hX, hL, hK, hU, rfl⟩)
        by_cases f0_ : τ 1 kx = 0
        · refine z_top (congrArg Value.int (show _ = ((-4) : Int32) from by rw [if_neg f2_, if_pos f0_])) ?_
          refine z_istore (pc := 48) (zk9 kX4_winds_1) rfl rfl ?_
          show Z D B xX4_winds _ _ _ 50 [some (.ref p), some (.int (nI kx)), some (.int y), some (.int z), some (.int (-4))] _ _ _
          refine z_iload (pc := 50) (zk10 kX4_winds_1) rfl ?_
          refine z_if_eq (pc := 52) (zk11 kX4_winds_1) (tgt := 62) (by decide) (fun q => absurd q (by decide)) (fun _ => ?_)
          refine z_aload_n (pc := 55) (zk12 kX4_winds_1) rfl ?_
          refine z_iload (pc := 56) (zk13 kX4_winds_1) rfl ?_
          refine z_efV (pc := 58) (zk14 kX4_winds_1) (st := []) lkX4_56 ivX4_refuse hX.1 rfl rfl (c_xrefuse (i := 2) hX hB (by decide) (by decide) (by decide)) rfl ⟨rfl, rfl⟩ rfl rfl (fun r_ h_19 z_ q_18 => ?_) rfl
          obtain ⟨er_, hR, hU_20, ez_⟩ := q_18
          rw [er_, ez_]
          clear er_ ez_
          replace hL := LnAt.fr hL hU_20 (by omega)
          replace hG := GuAt.fr hG hU_20 (by omega)
          replace hγ := LnAt.fr hγ hU_20 (by omega)
          replace hU := hU.tr hU_20 (by omega) (by omega)
          replace hK := XR.fr hK hU_20 (by omega)
          replace hX := hR; clear hR
          show Z D B xX4_winds _ _ _ 61 _ [.int (-4)] _ _
          exact z_iret (pc := 61) (zk15 kX4_winds_1) rfl (Nat.zero_le _) (Nat.zero_le _) (by
                        rw [show sp_winds σ τ ε (nI kx) y z = ((-4), σ, (rfN τ 4), ε) from by simp [sp_winds, rowF, sTold, hm, sBad, okS, okH, okT, okB, sRd, up2_id, up2_id2, oI, sOther, sNone, sFull, c_1, c_6, c_7, c_12, c_13, c_14, f2_, f0_, ix_nI (show kx ≤ 1000 by omega), show nI 2 = 2 from rfl, show nI 3 = 3 from rfl, show nI 4 = 4 from rfl]]
                        exact ⟨rfl, hX, hL, hK, hU, rfl⟩)
        by_cases f3_ : τ 3 kx < y
        · refine z_top (congrArg Value.int (show _ = ((-2) : Int32) from by rw [if_neg f2_, if_neg f0_, if_pos f3_])) ?_
          refine z_istore (pc := 48) (zk9 kX4_winds_1) rfl rfl ?_
          show Z D B xX4_winds _ _ _ 50 [some (.ref p), some (.int (nI kx)), some (.int y), some (.int z), some (.int (-2))] _ _ _
          refine z_iload (pc := 50) (zk10 kX4_winds_1) rfl ?_
          refine z_if_eq (pc := 52) (zk11 kX4_winds_1) (tgt := 62) (by decide) (fun q => absurd q (by decide)) (fun _ => ?_)
          refine z_aload_n (pc := 55) (zk12 kX4_winds_1) rfl ?_
          refine z_iload (pc := 56) (zk13 kX4_winds_1) rfl ?_
          refine z_efV (pc := 58) (zk14 kX4_winds_1) (st := []) lkX4_56 ivX4_refuse hX.1 rfl rfl (c_xrefuse (i := 0) hX hB (by decide) (by decide) (by decide)) rfl ⟨rfl, rfl⟩ rfl rfl (fun r_ h_22 z_ q_21 => ?_) rfl
          obtain ⟨er_, hR, hU_23, ez_⟩ := q_21
          rw [er_, ez_]
          clear er_ ez_
          replace hL := LnAt.fr hL hU_23 (by omega)
          replace hG := GuAt.fr hG hU_23 (by omega)
          replace hγ := LnAt.fr hγ hU_23 (by omega)
          replace hU := hU.tr hU_23 (by omega) (by omega)
          replace hK := XR.fr hK hU_23 (by omega)
          replace hX := hR; clear hR
          show Z D B xX4_winds _ _ _ 61 _ [.int (-2)] _ _
          exact z_iret (pc := 61) (zk15 kX4_winds_1) rfl (Nat.zero_le _) (Nat.zero_le _) (by
                        rw [show sp_winds σ τ ε (nI kx) y z = ((-2), σ, (rfN τ 2), ε) from by simp [sp_winds, rowF, sTold, hm, sBad, okS, okH, okT, okB, sRd, up2_id, up2_id2, oI, sOther, sNone, sFull, c_1, c_6, c_7, c_12, c_13, c_14, f2_, f0_, f3_, Int32.not_le.mpr f3_, ix_nI (show kx ≤ 1000 by omega), show nI 2 = 2 from rfl, show nI 3 = 3 from rfl, show nI 4 = 4 from rfl]]
                        exact ⟨rfl, hX, hL, hK, hU, rfl⟩)
        refine z_top (congrArg Value.int (show _ = (0 : Int32) from by rw [if_neg f2_, if_neg f0_, if_neg f3_])) ?_
        refine z_istore (pc := 48) (zk9 kX4_winds_1) rfl rfl ?_
        show Z D B xX4_winds _ _ _ 50 [some (.ref p), some (.int (nI kx)), some (.int y), some (.int z), some (.int 0)] _ _ _
        refine z_iload (pc := 50) (zk10 kX4_winds_1) rfl ?_
        refine z_if_eq (pc := 52) (zk11 kX4_winds_1) (tgt := 62) (by decide) (fun _ => ?_) (fun q => absurd (by decide) q)
        refine z_aload_n (pc := 62) (zk0 kX4_winds_2) rfl ?_
        refine z_getf (pc := 63) (zk1 kX4_winds_2) flX4_22 hX.1 gXo_2 ?_
        refine z_aload_n (pc := 66) (zk2 kX4_winds_2) rfl ?_
        refine z_getf (pc := 67) (zk3 kX4_winds_2) flX4_10 hX.1 gXo_0 ?_
        refine z_aload_n (pc := 70) (zk4 kX4_winds_2) rfl ?_
        refine z_getf (pc := 71) (zk5 kX4_winds_2) flX4_28 hX.1 gXo_3 ?_
        refine z_iload_n (pc := 74) (zk6 kX4_winds_2) rfl ?_
        refine z_aald3N (pc := 75) (zk7 kX4_winds_2) (j := kx) (b := p + 32 + 2 * kx) hX.2.1 (show kx < 8 by omega) rfl (if_pos (show kx < 8 by omega)) ?_
        refine z_iload_n (pc := 76) (zk8 kX4_winds_2) rfl ?_
        refine z_iload_n (pc := 77) (zk9 kX4_winds_2) rfl ?_
        obtain ⟨kz, hkz, rfl⟩ := okR_nI (n := n) (by omega) (by rw [← hn]; exact c_14)
        obtain ⟨ky, hky, rfl⟩ := okR_c (c := m) (by omega) c_12
        refine z_efV (pc := 78) (zk10 kX4_winds_2) (st := []) lkX4_275 ivX0_fittingWinds hG.1 rfl rfl (c_winds hG hγ hL (by omega) (by omega) hbk (hK.2.2.1 kx (show kx < 8 by omega)) (by omega) hn h12 (show kz < n by omega) (by omega)) rfl ⟨rfl, rfl⟩ rfl rfl (fun r_ h_25 z_ q_24 => ?_) rfl
        obtain ⟨er_, ⟨mk_27, tl_28, γ_29, hG_, hγ_⟩, hU_26, ez_⟩ := q_24
        rw [er_, ez_]
        clear er_ ez_
        replace hX := XoAt.fr hX hU_26 (by omega)
        replace hL := LnAt.fr hL hU_26 (by omega)
        replace hU := hU.tr hU_26 (by omega) (by omega)
        replace hG := hG_; replace hγ := hγ_; clear hG_ hγ_
        replace hK := XR.gu hK hU_26 ⟨_, _, _, hG, hγ⟩
        show Z D B xX4_winds _ _ _ 81 _ [.int (bitsI (fun k => wndB (up2 σ 1 kz (nI k)) (ε kx) kz ky) 10)] _ _
        generalize he_ : bitsI (fun k => wndB (up2 σ 1 kz (nI k)) (ε kx) kz ky) 10 = a_
        exact z_iret (pc := 81) (zk11 kX4_winds_2) rfl (Nat.zero_le _) (Nat.zero_le _) (by
                    rw [show sp_winds σ τ ε (nI kx) (nI ky) (nI kz) = (a_, σ, τ, ε) from by simp [sp_winds, rowF, sTold, hm, sBad, okS, okH, okT, okB, sRd, up2_id, up2_id2, oI, sOther, sNone, sFull, c_1, c_6, c_7, c_12, c_13, c_14, f2_, f0_, f3_, Int32.not_lt.mp f3_, he_, ix_nI (show kx ≤ 1000 by omega), ix_nI (show kz ≤ 1000 by omega), ix_nI (show ky ≤ 1000 by omega), show nI 2 = 2 from rfl, show nI 3 = 3 from rfl, show nI 4 = 4 from rfl, he_]]
                    exact ⟨rfl, hX, hL, hK, hU, rfl⟩)
      · have c_30 : okR 0 (σ 0 0 - 1) z = false := by simpa using c_13
        refine z_aload_n (pc := 31) (zk15 kX4_winds_0) rfl ?_
        refine z_bipush (pc := 32) (zk0 kX4_winds_1) (v := (-2)) (by decide) ?_
        refine z_efV (pc := 34) (zk1 kX4_winds_1) (st := []) lkX4_56 ivX4_refuse hX.1 rfl rfl (c_xrefuse (i := 0) hX hB (by decide) (by decide) (by decide)) rfl ⟨rfl, rfl⟩ rfl rfl (fun r_ h_32 z_ q_31 => ?_) rfl
        obtain ⟨er_, hR, hU_33, ez_⟩ := q_31
        rw [er_, ez_]
        clear er_ ez_
        replace hL := LnAt.fr hL hU_33 (by omega)
        replace hG := GuAt.fr hG hU_33 (by omega)
        replace hγ := LnAt.fr hγ hU_33 (by omega)
        replace hU := hU.tr hU_33 (by omega) (by omega)
        replace hK := XR.fr hK hU_33 (by omega)
        replace hX := hR; clear hR
        show Z D B xX4_winds _ _ _ 37 _ [.int (-2)] _ _
        exact z_iret (pc := 37) (zk2 kX4_winds_1) rfl (Nat.zero_le _) (Nat.zero_le _) (by
                    rw [show sp_winds σ τ ε x y z = ((-2), σ, (rfN τ 2), ε) from by simp [sp_winds, rowF, sTold, hm, sBad, okS, okH, okT, okB, sRd, up2_id, up2_id2, oI, sOther, sNone, sFull, c_1, c_6, c_7, c_12, c_13, c_30, show nI 2 = 2 from rfl, show nI 3 = 3 from rfl, show nI 4 = 4 from rfl]]
                    exact ⟨rfl, hX, hL, hK, hU, rfl⟩)
set_option maxRecDepth 20000 in
theorem cX_judge {D : zD} {B : Nat} {h : zH} {sz : Nat} {p : Nat} {σ κ τ : Ln} {ε : El} {ik : Int32} {x : Int32} {y : Int32} {n m : Nat} (hX : XoAt h p ik (rfo τ)) (hL : LnAt h (p + 1) σ) (hK : XR h p κ τ ε) (hB : B ≤ p) (hn : σ 0 0 = nI n) (h12 : n ≤ 12) (hm : σ 9 0 = nI m) (h8 : m ≤ 8) (hbk : σ 6 0 = 0 ∨ σ 6 0 = 1) (htn : ∀ l, l < m → ∃ t, t < n ∧ σ 12 l = nI t) (hlen : ∀ l, l < m → ∃ g, 1 ≤ g ∧ g ≤ 40 ∧ σ 13 l = nI g) (h2 : 2 ≤ n) (hS : SW τ m) : zM D B xX4_judge [.ref p, .int x, .int y] h sz (xQ h p sz ik κ (sp_judge σ τ ε x y)) := by
  have hU : Upd h h p 51 := Upd.rf
  refine zM.of (by decide) rfl (n := 2) ?_
  show Z D B xX4_judge 0 0 _ 0 [some (.ref p), some (.int x), some (.int y), none, none] [] h sz
  refine z_aload_n (pc := 0) (zk0 kX4_judge_0) rfl ?_
  refine z_iload_n (pc := 1) (zk1 kX4_judge_0) rfl ?_
  refine z_rdV (pc := 2) (zk2 kX4_judge_0) (st := []) lkX4_48 ivX4_noShelf hX.1 rfl rfl (c_noShelf hX hL) rfl ⟨rfl, rfl⟩ rfl rfl ?_ rfl
  refine z_oif_ne (pc := 5) (zk3 kX4_judge_0) (tgt := 18) (by decide) (fun c_1 => ?_) (fun c_1 => ?_)
  · have c_2 : okR 0 7 x = false := by simpa using c_1
    refine z_aload_n (pc := 18) (zk9 kX4_judge_0) rfl ?_
    refine z_bipush (pc := 19) (zk10 kX4_judge_0) (v := (-2)) (by decide) ?_
    refine z_efV (pc := 21) (zk11 kX4_judge_0) (st := []) lkX4_56 ivX4_refuse hX.1 rfl rfl (c_xrefuse (i := 0) hX hB (by decide) (by decide) (by decide)) rfl ⟨rfl, rfl⟩ rfl rfl (fun r_ h_4 z_ q_3 => ?_) rfl
    obtain ⟨er_, hR, hU_5, ez_⟩ := q_3
    rw [er_, ez_]
    clear er_ ez_
    replace hL := LnAt.fr hL hU_5 (by omega)
    replace hU := hU.tr hU_5 (by omega) (by omega)
    replace hK := XR.fr hK hU_5 (by omega)
    replace hX := hR; clear hR
    show Z D B xX4_judge _ _ _ 24 _ [.int (-2)] _ _
    exact z_iret (pc := 24) (zk12 kX4_judge_0) rfl (Nat.zero_le _) (Nat.zero_le _) (by
            rw [show sp_judge σ τ ε x y = ((-2), σ, (rfN τ 2), ε) from by simp [sp_judge, rowF, sTold, sBad, okS, okH, okL, okT, okB, sRd, up2_id, up2_id2, oI, sOther, sNone, sFull, c_1, c_2, show nI 2 = 2 from rfl, show nI 3 = 3 from rfl, show nI 4 = 4 from rfl]]
            exact ⟨rfl, hX, hL, hK, hU, rfl⟩)
  · have c_6 : okR 0 7 x = true := by simpa using c_1
    refine z_iload_n (pc := 8) (zk4 kX4_judge_0) rfl ?_
    refine z_iconst (pc := 9) (zk5 kX4_judge_0) (v := 0) (by decide) ?_
    refine z_bipush (pc := 10) (zk6 kX4_judge_0) (v := 40) (by decide) ?_
    refine z_rdS (pc := 12) (zk7 kX4_judge_0) (st := []) lkX4_52 isX4_outside (c_outside) rfl ⟨rfl, rfl⟩ rfl rfl ?_ rfl
    refine z_oif_eq (pc := 15) (zk8 kX4_judge_0) (tgt := 25) (by decide) (fun c_7 => ?_) (fun c_7 => ?_)
    · have c_8 : okR 0 40 y = true := by simpa using c_7
      refine z_aload_n (pc := 25) (zk13 kX4_judge_0) rfl ?_
      refine z_getf (pc := 26) (zk14 kX4_judge_0) flX4_28 hX.1 gXo_3 ?_
      refine z_iload_n (pc := 29) (zk15 kX4_judge_0) rfl ?_
      obtain ⟨kx, hkx, rfl⟩ := okR_c (c := 7) (by decide) c_6
      refine z_aald3N (pc := 30) (zk0 kX4_judge_1) (j := kx) (b := p + 32 + 2 * kx) hX.2.1 (show kx < 8 by omega) rfl (if_pos (show kx < 8 by omega)) ?_
      refine z_iload_n (pc := 31) (zk1 kX4_judge_1) rfl ?_
      refine z_rdV (pc := 32) (zk2 kX4_judge_1) (st := []) lkX4_64 ivX2_rowFault (hK.2.2.1 kx (show kx < 8 by omega)).1 rfl rfl (c_xFault (hK.2.2.1 kx (show kx < 8 by omega)) hS h8 (show kx < 8 by omega)) rfl ⟨rfl, rfl⟩ rfl rfl ?_ rfl
      by_cases f2_ : τ 1 kx = 2
      · refine z_top (congrArg Value.int (show _ = ((-3) : Int32) from by rw [if_pos f2_])) ?_
        refine z_istore_n (pc := 35) (zk3 kX4_judge_1) rfl rfl ?_
        show Z D B xX4_judge _ _ _ 36 [some (.ref p), some (.int (nI kx)), some (.int y), some (.int (-3)), none] _ _ _
        refine z_iload_n (pc := 36) (zk4 kX4_judge_1) rfl ?_
        refine z_if_eq (pc := 37) (zk5 kX4_judge_1) (tgt := 46) (by decide) (fun q => absurd q (by decide)) (fun _ => ?_)
        refine z_aload_n (pc := 40) (zk6 kX4_judge_1) rfl ?_
        refine z_iload_n (pc := 41) (zk7 kX4_judge_1) rfl ?_
        refine z_efV (pc := 42) (zk8 kX4_judge_1) (st := []) lkX4_56 ivX4_refuse hX.1 rfl rfl (c_xrefuse (i := 1) hX hB (by decide) (by decide) (by decide)) rfl ⟨rfl, rfl⟩ rfl rfl (fun r_ h_10 z_ q_9 => ?_) rfl
        obtain ⟨er_, hR, hU_11, ez_⟩ := q_9
        rw [er_, ez_]
        clear er_ ez_
        replace hL := LnAt.fr hL hU_11 (by omega)
        replace hU := hU.tr hU_11 (by omega) (by omega)
        replace hK := XR.fr hK hU_11 (by omega)
        replace hX := hR; clear hR
        show Z D B xX4_judge _ _ _ 45 _ [.int (-3)] _ _
        exact z_iret (pc := 45) (zk9 kX4_judge_1) rfl (Nat.zero_le _) (Nat.zero_le _) (by
                    rw [show sp_judge σ τ ε (nI kx) y = ((-3), σ, (rfN τ 3), ε) from by simp [sp_judge, rowF, sTold, sBad, okS, okH, okL, okT, okB, sRd, up2_id, up2_id2, oI, sOther, sNone, sFull, c_1, c_6, c_7, c_8, f2_, ix_nI (show kx ≤ 1000 by omega), show nI 2 = 2 from rfl, show nI 3 = 3 from rfl, show nI 4 = 4 from rfl]]
                    exact ⟨rfl, hX, hL, hK, hU, rfl⟩)
      by_cases f0_ : τ 1 kx = 0
      · refine z_top (congrArg Value.int (show _ = ((-4) : Int32) from by rw [if_neg f2_, if_pos f0_])) ?_
        refine z_istore_n (pc := 35) (zk3 kX4_judge_1) rfl rfl ?_
        show Z D B xX4_judge _ _ _ 36 [some (.ref p), some (.int (nI kx)), some (.int y), some (.int (-4)), none] _ _ _
        refine z_iload_n (pc := 36) (zk4 kX4_judge_1) rfl ?_
        refine z_if_eq (pc := 37) (zk5 kX4_judge_1) (tgt := 46) (by decide) (fun q => absurd q (by decide)) (fun _ => ?_)
        refine z_aload_n (pc := 40) (zk6 kX4_judge_1) rfl ?_
        refine z_iload_n (pc := 41) (zk7 kX4_judge_1) rfl ?_
        refine z_efV (pc := 42) (zk8 kX4_judge_1) (st := []) lkX4_56 ivX4_refuse hX.1 rfl rfl (c_xrefuse (i := 2) hX hB (by decide) (by decide) (by decide)) rfl ⟨rfl, rfl⟩ rfl rfl (fun r_ h_13 z_ q_12 => ?_) rfl
        obtain ⟨er_, hR, hU_14, ez_⟩ := q_12
        rw [er_, ez_]
        clear er_ ez_
        replace hL := LnAt.fr hL hU_14 (by omega)
        replace hU := hU.tr hU_14 (by omega) (by omega)
        replace hK := XR.fr hK hU_14 (by omega)
        replace hX := hR; clear hR
        show Z D B xX4_judge _ _ _ 45 _ [.int (-4)] _ _
        exact z_iret (pc := 45) (zk9 kX4_judge_1) rfl (Nat.zero_le _) (Nat.zero_le _) (by
                    rw [show sp_judge σ τ ε (nI kx) y = ((-4), σ, (rfN τ 4), ε) from by simp [sp_judge, rowF, sTold, sBad, okS, okH, okL, okT, okB, sRd, up2_id, up2_id2, oI, sOther, sNone, sFull, c_1, c_6, c_7, c_8, f2_, f0_, ix_nI (show kx ≤ 1000 by omega), show nI 2 = 2 from rfl, show nI 3 = 3 from rfl, show nI 4 = 4 from rfl]]
                    exact ⟨rfl, hX, hL, hK, hU, rfl⟩)
      by_cases f3_ : τ 3 kx < y
      · refine z_top (congrArg Value.int (show _ = ((-2) : Int32) from by rw [if_neg f2_, if_neg f0_, if_pos f3_])) ?_
        refine z_istore_n (pc := 35) (zk3 kX4_judge_1) rfl rfl ?_
        show Z D B xX4_judge _ _ _ 36 [some (.ref p), some (.int (nI kx)), some (.int y), some (.int (-2)), none] _ _ _
        refine z_iload_n (pc := 36) (zk4 kX4_judge_1) rfl ?_
        refine z_if_eq (pc := 37) (zk5 kX4_judge_1) (tgt := 46) (by decide) (fun q => absurd q (by decide)) (fun _ => ?_)
        refine z_aload_n (pc := 40) (zk6 kX4_judge_1) rfl ?_
        refine z_iload_n (pc := 41) (zk7 kX4_judge_1) rfl ?_
        refine z_efV (pc := 42) (zk8 kX4_judge_1) (st := []) lkX4_56 ivX4_refuse hX.1 rfl rfl (c_xrefuse (i := 0) hX hB (by decide) (by decide) (by decide)) rfl ⟨rfl, rfl⟩ rfl rfl (fun r_ h_16 z_ q_15 => ?_) rfl
        obtain ⟨er_, hR, hU_17, ez_⟩ := q_15
        rw [er_, ez_]
        clear er_ ez_
        replace hL := LnAt.fr hL hU_17 (by omega)
        replace hU := hU.tr hU_17 (by omega) (by omega)
        replace hK := XR.fr hK hU_17 (by omega)
        replace hX := hR; clear hR
        show Z D B xX4_judge _ _ _ 45 _ [.int (-2)] _ _
        exact z_iret (pc := 45) (zk9 kX4_judge_1) rfl (Nat.zero_le _) (Nat.zero_le _) (by
                    rw [show sp_judge σ τ ε (nI kx) y = ((-2), σ, (rfN τ 2), ε) from by simp [sp_judge, rowF, sTold, sBad, okS, okH, okL, okT, okB, sRd, up2_id, up2_id2, oI, sOther, sNone, sFull, c_1, c_6, c_7, c_8, f2_, f0_, f3_, Int32.not_le.mpr f3_, ix_nI (show kx ≤ 1000 by omega), show nI 2 = 2 from rfl, show nI 3 = 3 from rfl, show nI 4 = 4 from rfl]]
                    exact ⟨rfl, hX, hL, hK, hU, rfl⟩)
      refine z_top (congrArg Value.int (show _ = (0 : Int32) from by rw [if_neg f2_, if_neg f0_, if_neg f3_])) ?_
      refine z_istore_n (pc := 35) (zk3 kX4_judge_1) rfl rfl ?_
      show Z D B xX4_judge _ _ _ 36 [some (.ref p), some (.int (nI kx)), some (.int y), some (.int 0), none] _ _ _
      refine z_iload_n (pc := 36) (zk4 kX4_judge_1) rfl ?_
      refine z_if_eq (pc := 37) (zk5 kX4_judge_1) (tgt := 46) (by decide) (fun _ => ?_) (fun q => absurd (by decide) q)
      obtain ⟨ky, hky, rfl⟩ := okR_c (c := 40) (by decide) c_8
      refine z_iconst (pc := 46) (zk10 kX4_judge_1) (v := 0) (by decide) ?_
      refine z_istore (pc := 47) (zk11 kX4_judge_1) rfl rfl ?_
      show Z D B xX4_judge _ _ _ 49 [some (.ref p), some (.int (nI kx)), some (.int (nI ky)), some (.int 0), some (.int 0)] _ _ _
      have lp49 : ∀ (n_ : Nat) (i : Nat), ky - i < n_ → (i ≤ ky) → (jdgF σ (ε kx) i (ky - i) = jdgF σ (ε kx) 0 ky) → (i ≤ n) → Z D B xX4_judge 0 0 (xQ h p sz ik κ (sp_judge σ τ ε (nI kx) (nI ky))) 49 [some (.ref p), some (.int (nI kx)), some (.int (nI ky)), some (.int 0), some (.int (nI i))] [] h sz := by
        intro n_
        induction n_ with
        | zero => intro i hm_; exact absurd hm_ (Nat.not_lt_zero _)
        | succ n_ ih49 =>
          intro i hm_ hi_i hj_ hin
          refine z_iload (pc := 49) (zk12 kX4_judge_1) rfl ?_
          refine z_iload_n (pc := 51) (zk13 kX4_judge_1) rfl ?_
          refine z_icmp_ge (pc := 52) (zk14 kX4_judge_1) (tgt := 102) (by decide) (fun c_18 => ?_) (fun c_18 => ?_)
          · have hie_i : i = ky := nI_ge_yes (a := ky) (by omega) (by omega) (by omega) c_18
            refine z_iconst (pc := 102) (zk6 kX4_judge_3) (v := (-1)) (by decide) ?_
            exact z_iret (pc := 103) (zk7 kX4_judge_3) rfl (Nat.zero_le _) (Nat.zero_le _) (by
                            rw [show sp_judge σ τ ε (nI kx) (nI ky) = ((-1), σ, τ, ε) from by (simp [sp_judge, rowF, sTold, sBad, okS, okH, okL, okT, okB, sRd, up2_id, up2_id2, oI, sOther, sNone, sFull, c_1, c_6, c_7, c_8, f2_, f0_, f3_, Int32.not_lt.mp f3_, c_18, Int32.not_lt.mpr c_18, ix_nI (show kx ≤ 1000 by omega), ix_nI (show ky ≤ 1000 by omega), show nI 2 = 2 from rfl, show nI 3 = 3 from rfl, show nI 4 = 4 from rfl]; rw [← hj_, hie_i, Nat.sub_self]; rfl)]
                            exact ⟨rfl, hX, hL, hK, hU, rfl⟩)
          · have hlt_i : i < ky := nI_ge_not (a := ky) (by omega) (by omega) c_18
            refine z_iload (pc := 55) (zk15 kX4_judge_1) rfl ?_
            refine z_aload_n (pc := 57) (zk0 kX4_judge_2) rfl ?_
            refine z_getf (pc := 58) (zk1 kX4_judge_2) flX4_10 hX.1 gXo_0 ?_
            refine z_getf (pc := 61) (zk2 kX4_judge_2) flX4_129 hL.1 (v := .int (nI n)) (by rw [← hn]; rfl) ?_
            refine z_icmp_ge (pc := 64) (zk3 kX4_judge_2) (tgt := 93) (by decide) (fun c_19 => ?_) (fun c_19 => ?_)
            · refine z_iload (pc := 93) (zk2 kX4_judge_3) rfl ?_
              exact z_iret (pc := 95) (zk3 kX4_judge_3) rfl (Nat.zero_le _) (Nat.zero_le _) (by
                                rw [show sp_judge σ τ ε (nI kx) (nI ky) = (nI i, σ, τ, ε) from by (simp [sp_judge, rowF, sTold, sBad, okS, okH, okL, okT, okB, sRd, up2_id, up2_id2, oI, sOther, sNone, sFull, c_1, c_6, c_7, c_8, f2_, f0_, f3_, Int32.not_lt.mp f3_, c_18, Int32.not_le.mp c_18, c_19, Int32.not_lt.mpr c_19, ix_nI (show kx ≤ 1000 by omega), ix_nI (show ky ≤ 1000 by omega), show nI 2 = 2 from rfl, show nI 3 = 3 from rfl, show nI 4 = 4 from rfl]; rw [← hj_, jdgF_h hlt_i (show i = hsN σ by rw [hsN_eq hn h12]; exact nI_ge_yes (a := n) (by omega) (by omega) hin c_19)])]
                                exact ⟨rfl, hX, hL, hK, hU, rfl⟩)
            · have hin2 : i < n := nI_ge_not (a := n) (by omega) (by omega) c_19
              have hni : ¬ i = hsN σ := by rw [hsN_eq hn h12]; omega
              refine z_aload_n (pc := 67) (zk4 kX4_judge_2) rfl ?_
              refine z_getf (pc := 68) (zk5 kX4_judge_2) flX4_28 hX.1 gXo_3 ?_
              refine z_iload_n (pc := 71) (zk6 kX4_judge_2) rfl ?_
              refine z_aald3N (pc := 72) (zk7 kX4_judge_2) (j := kx) (b := p + 32 + 2 * kx) hX.2.1 (show kx < 8 by omega) rfl (if_pos (show kx < 8 by omega)) ?_
              refine z_getf (pc := 73) (zk8 kX4_judge_2) flX4_89 (hK.2.2.1 kx (show kx < 8 by omega)).1 gSh_2 ?_
              refine z_iload (pc := 76) (zk9 kX4_judge_2) rfl ?_
              refine z_laldN (pc := 78) (zk10 kX4_judge_2) (f := (ε kx)) (j := i) (hK.2.2.1 kx (show kx < 8 by omega)).2 (show i < 40 by omega) rfl ?_
              refine z_aload_n (pc := 79) (zk11 kX4_judge_2) rfl ?_
              refine z_getf (pc := 80) (zk12 kX4_judge_2) flX4_10 hX.1 gXo_0 ?_
              refine z_iload (pc := 83) (zk13 kX4_judge_2) rfl ?_
              refine z_rdV (pc := 85) (zk14 kX4_judge_2) (st := [.long ((ε kx) i)]) lkX4_210 ivX1_knownAt hL.1 rfl rfl (c_knownAt hL hn h12 hm h8 (show i < n by omega)) rfl ⟨rfl, rfl⟩ rfl rfl ?_ rfl
              refine z_i2l (pc := 88) (zk15 kX4_judge_2) ?_
              refine z_lcmp (pc := 89) (zk0 kX4_judge_3) ?_
              refine z_lif_eq (pc := 90) (zk1 kX4_judge_3) (tgt := 96) (by decide) (fun c_20 => ?_) (fun c_20 => ?_)
              · refine z_iinc (pc := 96) (zk4 kX4_judge_3) (v := nI (i + 1)) rfl zinc rfl rfl ?_
                show Z D B xX4_judge _ _ _ 99 [some (.ref p), some (.int (nI kx)), some (.int (nI ky)), some (.int 0), some (.int (nI (i + 1)))] _ _ _
                refine z_goto (pc := 99) (zk5 kX4_judge_3) (tgt := 49) (by decide) ?_
                exact ih49 (i + 1) (by omega) (by omega) (by rw [← hj_, jdgF_s hlt_i hni (Eq.symm c_20)]) (by omega)
              · refine z_iload (pc := 93) (zk2 kX4_judge_3) rfl ?_
                exact z_iret (pc := 95) (zk3 kX4_judge_3) rfl (Nat.zero_le _) (Nat.zero_le _) (by
                                    rw [show sp_judge σ τ ε (nI kx) (nI ky) = (nI i, σ, τ, ε) from by (simp [sp_judge, rowF, sTold, sBad, okS, okH, okL, okT, okB, sRd, up2_id, up2_id2, oI, sOther, sNone, sFull, c_1, c_6, c_7, c_8, f2_, f0_, f3_, Int32.not_lt.mp f3_, c_18, Int32.not_le.mp c_18, c_19, Int32.not_le.mp c_19, c_20, ix_nI (show kx ≤ 1000 by omega), ix_nI (show ky ≤ 1000 by omega), show nI 2 = 2 from rfl, show nI 3 = 3 from rfl, show nI 4 = 4 from rfl]; rw [← hj_, jdgF_m hlt_i hni (fun q => c_20 q.symm)])]
                                    exact ⟨rfl, hX, hL, hK, hU, rfl⟩)
      exact lp49 _ 0 (Nat.lt_succ_self _) (by omega) rfl (by omega)
    · have c_21 : okR 0 40 y = false := by simpa using c_7
      refine z_aload_n (pc := 18) (zk9 kX4_judge_0) rfl ?_
      refine z_bipush (pc := 19) (zk10 kX4_judge_0) (v := (-2)) (by decide) ?_
      refine z_efV (pc := 21) (zk11 kX4_judge_0) (st := []) lkX4_56 ivX4_refuse hX.1 rfl rfl (c_xrefuse (i := 0) hX hB (by decide) (by decide) (by decide)) rfl ⟨rfl, rfl⟩ rfl rfl (fun r_ h_23 z_ q_22 => ?_) rfl
      obtain ⟨er_, hR, hU_24, ez_⟩ := q_22
      rw [er_, ez_]
      clear er_ ez_
      replace hL := LnAt.fr hL hU_24 (by omega)
      replace hU := hU.tr hU_24 (by omega) (by omega)
      replace hK := XR.fr hK hU_24 (by omega)
      replace hX := hR; clear hR
      show Z D B xX4_judge _ _ _ 24 _ [.int (-2)] _ _
      exact z_iret (pc := 24) (zk12 kX4_judge_0) rfl (Nat.zero_le _) (Nat.zero_le _) (by
                rw [show sp_judge σ τ ε x y = ((-2), σ, (rfN τ 2), ε) from by simp [sp_judge, rowF, sTold, sBad, okS, okH, okL, okT, okB, sRd, up2_id, up2_id2, oI, sOther, sNone, sFull, c_1, c_6, c_7, c_21, show nI 2 = 2 from rfl, show nI 3 = 3 from rfl, show nI 4 = 4 from rfl]]
                exact ⟨rfl, hX, hL, hK, hU, rfl⟩)
