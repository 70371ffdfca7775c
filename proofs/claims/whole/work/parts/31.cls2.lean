abbrev xQ (h : zH) (p sz : Nat) (ik : Int32) (κ : Ln) (q : Int32 × S3) : zQ := fun r h1 z1 => r = some (.int q.1) ∧ XoAt h1 p ik (rfo q.2.2.1) ∧ LnAt h1 (p + 1) q.2.1 ∧ XR h1 p κ q.2.2.1 q.2.2.2 ∧ Upd h h1 p 51 ∧ z1 = sz
set_option maxRecDepth 20000 in
theorem c_noHouse {D : zD} {B : Nat} {h : zH} {sz : Nat} {p : Nat} {σ τ : Ln} {ik x : Int32} (hX : XoAt h p ik (rfo τ)) (hL : LnAt h (p + 1) σ) : zRd D B xX4_noHouse [.ref p, .int x] h sz (.int (oI (!okR 0 (σ 0 0 - 1) x))) := by
  refine zM.of (by decide) rfl (n := 0) ?_
  show Z D B xX4_noHouse 0 0 _ 0 [some (.ref p), some (.int x)] [] h sz
  refine z_iload_n (pc := 0) (zk0 kX4_noHouse_0) rfl ?_
  refine z_iconst (pc := 1) (zk1 kX4_noHouse_0) (v := 0) (by decide) ?_
  refine z_aload_n (pc := 2) (zk2 kX4_noHouse_0) rfl ?_
  refine z_getf (pc := 3) (zk3 kX4_noHouse_0) flX4_10 hX.1 gXo_0 ?_
  refine z_getf (pc := 6) (zk4 kX4_noHouse_0) flX4_129 hL.1 (v := .int (σ 0 0)) rfl ?_
  refine z_iconst (pc := 9) (zk5 kX4_noHouse_0) (v := 1) (by decide) ?_
  refine z_isub (pc := 10) (zk6 kX4_noHouse_0) ?_
  refine z_rdS (pc := 11) (zk7 kX4_noHouse_0) (st := []) lkX4_52 isX4_outside (c_outside) rfl ⟨rfl, rfl⟩ rfl rfl ?_ rfl
  exact z_zret (pc := 14) (zk8 kX4_noHouse_0) rfl (Nat.zero_le _) (Nat.zero_le _) (oI_01 _) ⟨rfl, rfl, rfl⟩
set_option maxRecDepth 20000 in
theorem c_noLetter {D : zD} {B : Nat} {h : zH} {sz : Nat} {p : Nat} {σ τ : Ln} {ik x : Int32} (hX : XoAt h p ik (rfo τ)) (hL : LnAt h (p + 1) σ) : zRd D B xX4_noLetter [.ref p, .int x] h sz (.int (oI (!okR 0 (σ 9 0 - 1) x))) := by
  refine zM.of (by decide) rfl (n := 0) ?_
  show Z D B xX4_noLetter 0 0 _ 0 [some (.ref p), some (.int x)] [] h sz
  refine z_iload_n (pc := 0) (zk0 kX4_noLetter_0) rfl ?_
  refine z_iconst (pc := 1) (zk1 kX4_noLetter_0) (v := 0) (by decide) ?_
  refine z_aload_n (pc := 2) (zk2 kX4_noLetter_0) rfl ?_
  refine z_getf (pc := 3) (zk3 kX4_noLetter_0) flX4_10 hX.1 gXo_0 ?_
  refine z_getf (pc := 6) (zk4 kX4_noLetter_0) flX4_272 hL.1 (v := .int (σ 9 0)) rfl ?_
  refine z_iconst (pc := 9) (zk5 kX4_noLetter_0) (v := 1) (by decide) ?_
  refine z_isub (pc := 10) (zk6 kX4_noLetter_0) ?_
  refine z_rdS (pc := 11) (zk7 kX4_noLetter_0) (st := []) lkX4_52 isX4_outside (c_outside) rfl ⟨rfl, rfl⟩ rfl rfl ?_ rfl
  exact z_zret (pc := 14) (zk8 kX4_noLetter_0) rfl (Nat.zero_le _) (Nat.zero_le _) (oI_01 _) ⟨rfl, rfl, rfl⟩
set_option maxRecDepth 20000 in
theorem cX_seed {D : zD} {B : Nat} {h : zH} {sz : Nat} {p : Nat} {σ κ τ : Ln} {ε : El} {ik : Int32} {x : Int32}  (hX : XoAt h p ik (rfo τ)) (hL : LnAt h (p + 1) σ) (hK : XR h p κ τ ε) (hB : B ≤ p)  : zM D B xX4_seed [.ref p, .int x] h sz (xQ h p sz ik κ (sp_seed σ τ ε x)) := by
  have hU : Upd h h p 51 := Upd.rf
  refine zM.of (by decide) rfl (n := 1) ?_
  show Z D B xX4_seed 0 0 _ 0 [some (.ref p), some (.int x), none] [] h sz
  refine z_aload_n (pc := 0) (zk0 kX4_seed_0) rfl ?_
  refine z_getf (pc := 1) (zk1 kX4_seed_0) flX4_10 hX.1 gXo_0 ?_
  refine z_getf (pc := 4) (zk2 kX4_seed_0) flX4_360 hL.1 (v := .int (σ 8 0)) rfl ?_
  refine z_istore_n (pc := 7) (zk3 kX4_seed_0) rfl rfl ?_
  show Z D B xX4_seed _ _ _ 8 [some (.ref p), some (.int x), some (.int (σ 8 0))] _ _ _
  refine z_aload_n (pc := 8) (zk4 kX4_seed_0) rfl ?_
  refine z_getf (pc := 9) (zk5 kX4_seed_0) flX4_10 hX.1 gXo_0 ?_
  refine z_iload_n (pc := 12) (zk6 kX4_seed_0) rfl ?_
  refine z_Ln_w8 (pc := 13) (zk7 kX4_seed_0) flX4_360 hL (by omega) (fun h_1 hR hU_2 => ?_)
  replace hX := XoAt.fr hX hU_2 (by omega)
  replace hU := hU.tr hU_2 (by omega) (by omega)
  replace hK := XR.fr hK hU_2 (by omega)
  replace hL := hR; clear hR
  refine z_iload_n (pc := 16) (zk8 kX4_seed_0) rfl ?_
  exact z_iret (pc := 17) (zk9 kX4_seed_0) rfl (Nat.zero_le _) (Nat.zero_le _) (by
        rw [show sp_seed σ τ ε x = (σ 8 0, (up2 σ 8 0 x), τ, ε) from by simp [sp_seed, sBad, okS, okH, okL, okT, okB, sRd, up2_id, up2_id2, oI, sOther, sNone, sFull]]
        exact ⟨rfl, hX, hL, hK, hU, rfl⟩)
set_option maxRecDepth 20000 in
theorem cX_cold {D : zD} {B : Nat} {h : zH} {sz : Nat} {p : Nat} {σ κ τ : Ln} {ε : El} {ik : Int32} {x : Int32}  (hX : XoAt h p ik (rfo τ)) (hL : LnAt h (p + 1) σ) (hK : XR h p κ τ ε) (hB : B ≤ p)  : zM D B xX4_cold [.ref p, .int x] h sz (xQ h p sz ik κ (sp_cold σ τ ε x)) := by
  have hU : Upd h h p 51 := Upd.rf
  refine zM.of (by decide) rfl (n := 1) ?_
  show Z D B xX4_cold 0 0 _ 0 [some (.ref p), some (.int x), none] [] h sz
  refine z_iload_n (pc := 0) (zk0 kX4_cold_0) rfl ?_
  refine z_iconst (pc := 1) (zk1 kX4_cold_0) (v := 0) (by decide) ?_
  refine z_bipush (pc := 2) (zk2 kX4_cold_0) (v := 9) (by decide) ?_
  refine z_rdS (pc := 4) (zk3 kX4_cold_0) (st := []) lkX4_52 isX4_outside (c_outside) rfl ⟨rfl, rfl⟩ rfl rfl ?_ rfl
  refine z_oif_eq (pc := 7) (zk4 kX4_cold_0) (tgt := 17) (by decide) (fun c_1 => ?_) (fun c_1 => ?_)
  · have c_2 : okR 0 9 x = true := by simpa using c_1
    refine z_aload_n (pc := 17) (zk9 kX4_cold_0) rfl ?_
    refine z_getf (pc := 18) (zk10 kX4_cold_0) flX4_10 hX.1 gXo_0 ?_
    refine z_getf (pc := 21) (zk11 kX4_cold_0) flX4_160 hL.1 (v := .int (σ 5 0)) rfl ?_
    refine z_istore_n (pc := 24) (zk12 kX4_cold_0) rfl rfl ?_
    show Z D B xX4_cold _ _ _ 25 [some (.ref p), some (.int x), some (.int (σ 5 0))] _ _ _
    refine z_aload_n (pc := 25) (zk13 kX4_cold_0) rfl ?_
    refine z_getf (pc := 26) (zk14 kX4_cold_0) flX4_10 hX.1 gXo_0 ?_
    refine z_iload_n (pc := 29) (zk15 kX4_cold_0) rfl ?_
    refine z_Ln_w5 (pc := 30) (zk0 kX4_cold_1) flX4_160 hL (by omega) (fun h_3 hR hU_4 => ?_)
    replace hX := XoAt.fr hX hU_4 (by omega)
    replace hU := hU.tr hU_4 (by omega) (by omega)
    replace hK := XR.fr hK hU_4 (by omega)
    replace hL := hR; clear hR
    refine z_iload_n (pc := 33) (zk1 kX4_cold_1) rfl ?_
    exact z_iret (pc := 34) (zk2 kX4_cold_1) rfl (Nat.zero_le _) (Nat.zero_le _) (by
            rw [show sp_cold σ τ ε x = (σ 5 0, (up2 σ 5 0 x), τ, ε) from by simp [sp_cold, sBad, okS, okH, okL, okT, okB, sRd, up2_id, up2_id2, oI, sOther, sNone, sFull, c_1, c_2]]
            exact ⟨rfl, hX, hL, hK, hU, rfl⟩)
  · have c_5 : okR 0 9 x = false := by simpa using c_1
    refine z_aload_n (pc := 10) (zk5 kX4_cold_0) rfl ?_
    refine z_bipush (pc := 11) (zk6 kX4_cold_0) (v := (-2)) (by decide) ?_
    refine z_efV (pc := 13) (zk7 kX4_cold_0) (st := []) lkX4_56 ivX4_refuse hX.1 rfl rfl (c_xrefuse (i := 0) hX hB (by decide) (by decide) (by decide)) rfl ⟨rfl, rfl⟩ rfl rfl (fun r_ h_7 z_ q_6 => ?_) rfl
    obtain ⟨er_, hR, hU_8, ez_⟩ := q_6
    rw [er_, ez_]
    clear er_ ez_
    replace hL := LnAt.fr hL hU_8 (by omega)
    replace hU := hU.tr hU_8 (by omega) (by omega)
    replace hK := XR.fr hK hU_8 (by omega)
    replace hX := hR; clear hR
    show Z D B xX4_cold _ _ _ 16 _ [.int (-2)] _ _
    exact z_iret (pc := 16) (zk8 kX4_cold_0) rfl (Nat.zero_le _) (Nat.zero_le _) (by
            rw [show sp_cold σ τ ε x = ((-2), σ, (rfN τ 2), ε) from by simp [sp_cold, sBad, okS, okH, okL, okT, okB, sRd, up2_id, up2_id2, oI, sOther, sNone, sFull, c_1, c_5]]
            exact ⟨rfl, hX, hL, hK, hU, rfl⟩)
set_option maxRecDepth 20000 in
theorem cX_houses {D : zD} {B : Nat} {h : zH} {sz : Nat} {p : Nat} {σ κ τ : Ln} {ε : El} {ik : Int32} {x : Int32}  (hX : XoAt h p ik (rfo τ)) (hL : LnAt h (p + 1) σ) (hK : XR h p κ τ ε) (hB : B ≤ p)  : zM D B xX4_houses [.ref p, .int x] h sz (xQ h p sz ik κ (sp_houses σ τ ε x)) := by
  have hU : Upd h h p 51 := Upd.rf
  refine zM.of (by decide) rfl (n := 1) ?_
  show Z D B xX4_houses 0 0 _ 0 [some (.ref p), some (.int x), none] [] h sz
  refine z_iload_n (pc := 0) (zk0 kX4_houses_0) rfl ?_
  refine z_aload_n (pc := 1) (zk1 kX4_houses_0) rfl ?_
  refine z_getf (pc := 2) (zk2 kX4_houses_0) flX4_10 hX.1 gXo_0 ?_
  refine z_getf (pc := 5) (zk3 kX4_houses_0) flX4_129 hL.1 (v := .int (σ 0 0)) rfl ?_
  refine z_bipush (pc := 8) (zk4 kX4_houses_0) (v := 12) (by decide) ?_
  refine z_rdS (pc := 10) (zk5 kX4_houses_0) (st := []) lkX4_52 isX4_outside (c_outside) rfl ⟨rfl, rfl⟩ rfl rfl ?_ rfl
  refine z_oif_eq (pc := 13) (zk6 kX4_houses_0) (tgt := 23) (by decide) (fun c_1 => ?_) (fun c_1 => ?_)
  · have c_2 : okR (σ 0 0) 12 x = true := by simpa using c_1
    refine z_aload_n (pc := 23) (zk11 kX4_houses_0) rfl ?_
    refine z_getf (pc := 24) (zk12 kX4_houses_0) flX4_10 hX.1 gXo_0 ?_
    refine z_getf (pc := 27) (zk13 kX4_houses_0) flX4_129 hL.1 (v := .int (σ 0 0)) rfl ?_
    refine z_istore_n (pc := 30) (zk14 kX4_houses_0) rfl rfl ?_
    show Z D B xX4_houses _ _ _ 31 [some (.ref p), some (.int x), some (.int (σ 0 0))] _ _ _
    refine z_aload_n (pc := 31) (zk15 kX4_houses_0) rfl ?_
    refine z_getf (pc := 32) (zk0 kX4_houses_1) flX4_10 hX.1 gXo_0 ?_
    refine z_iload_n (pc := 35) (zk1 kX4_houses_1) rfl ?_
    refine z_Ln_w0 (pc := 36) (zk2 kX4_houses_1) flX4_129 hL (by omega) (fun h_3 hR hU_4 => ?_)
    replace hX := XoAt.fr hX hU_4 (by omega)
    replace hU := hU.tr hU_4 (by omega) (by omega)
    replace hK := XR.fr hK hU_4 (by omega)
    replace hL := hR; clear hR
    refine z_iload_n (pc := 39) (zk3 kX4_houses_1) rfl ?_
    exact z_iret (pc := 40) (zk4 kX4_houses_1) rfl (Nat.zero_le _) (Nat.zero_le _) (by
            rw [show sp_houses σ τ ε x = (σ 0 0, (up2 σ 0 0 x), τ, ε) from by simp [sp_houses, sBad, okS, okH, okL, okT, okB, sRd, up2_id, up2_id2, oI, sOther, sNone, sFull, c_1, c_2]]
            exact ⟨rfl, hX, hL, hK, hU, rfl⟩)
  · have c_5 : okR (σ 0 0) 12 x = false := by simpa using c_1
    refine z_aload_n (pc := 16) (zk7 kX4_houses_0) rfl ?_
    refine z_bipush (pc := 17) (zk8 kX4_houses_0) (v := (-2)) (by decide) ?_
    refine z_efV (pc := 19) (zk9 kX4_houses_0) (st := []) lkX4_56 ivX4_refuse hX.1 rfl rfl (c_xrefuse (i := 0) hX hB (by decide) (by decide) (by decide)) rfl ⟨rfl, rfl⟩ rfl rfl (fun r_ h_7 z_ q_6 => ?_) rfl
    obtain ⟨er_, hR, hU_8, ez_⟩ := q_6
    rw [er_, ez_]
    clear er_ ez_
    replace hL := LnAt.fr hL hU_8 (by omega)
    replace hU := hU.tr hU_8 (by omega) (by omega)
    replace hK := XR.fr hK hU_8 (by omega)
    replace hX := hR; clear hR
    show Z D B xX4_houses _ _ _ 22 _ [.int (-2)] _ _
    exact z_iret (pc := 22) (zk10 kX4_houses_0) rfl (Nat.zero_le _) (Nat.zero_le _) (by
            rw [show sp_houses σ τ ε x = ((-2), σ, (rfN τ 2), ε) from by simp [sp_houses, sBad, okS, okH, okL, okT, okB, sRd, up2_id, up2_id2, oI, sOther, sNone, sFull, c_1, c_5]]
            exact ⟨rfl, hX, hL, hK, hU, rfl⟩)
set_option maxRecDepth 20000 in
theorem cX_heard {D : zD} {B : Nat} {h : zH} {sz : Nat} {p : Nat} {σ κ τ : Ln} {ε : El} {ik : Int32} {x : Int32} {y : Int32} {n m : Nat} (hX : XoAt h p ik (rfo τ)) (hL : LnAt h (p + 1) σ) (hK : XR h p κ τ ε) (hB : B ≤ p) (hn : σ 0 0 = nI n) (h12 : n ≤ 12) (hm : σ 9 0 = nI m) (h8 : m ≤ 8) : zM D B xX4_heard [.ref p, .int x, .int y] h sz (xQ h p sz ik κ (sp_heard σ τ ε x y)) := by
  have hU : Upd h h p 51 := Upd.rf
  refine zM.of (by decide) rfl (n := 0) ?_
  show Z D B xX4_heard 0 0 _ 0 [some (.ref p), some (.int x), some (.int y)] [] h sz
  refine z_aload_n (pc := 0) (zk0 kX4_heard_0) rfl ?_
  refine z_iload_n (pc := 1) (zk1 kX4_heard_0) rfl ?_
  refine z_rdV (pc := 2) (zk2 kX4_heard_0) (st := []) lkX4_99 ivX4_noLetter hX.1 rfl rfl (c_noLetter hX hL) rfl ⟨rfl, rfl⟩ rfl rfl ?_ rfl
  refine z_oif_ne (pc := 5) (zk3 kX4_heard_0) (tgt := 16) (by decide) (fun c_1 => ?_) (fun c_1 => ?_)
  · have c_2 : okR 0 (σ 9 0 - 1) x = false := by simpa using c_1
    refine z_aload_n (pc := 16) (zk8 kX4_heard_0) rfl ?_
    refine z_bipush (pc := 17) (zk9 kX4_heard_0) (v := (-2)) (by decide) ?_
    refine z_efV (pc := 19) (zk10 kX4_heard_0) (st := []) lkX4_56 ivX4_refuse hX.1 rfl rfl (c_xrefuse (i := 0) hX hB (by decide) (by decide) (by decide)) rfl ⟨rfl, rfl⟩ rfl rfl (fun r_ h_4 z_ q_3 => ?_) rfl
    obtain ⟨er_, hR, hU_5, ez_⟩ := q_3
    rw [er_, ez_]
    clear er_ ez_
    replace hL := LnAt.fr hL hU_5 (by omega)
    replace hU := hU.tr hU_5 (by omega) (by omega)
    replace hK := XR.fr hK hU_5 (by omega)
    replace hX := hR; clear hR
    show Z D B xX4_heard _ _ _ 22 _ [.int (-2)] _ _
    exact z_iret (pc := 22) (zk11 kX4_heard_0) rfl (Nat.zero_le _) (Nat.zero_le _) (by
            rw [show sp_heard σ τ ε x y = ((-2), σ, (rfN τ 2), ε) from by simp [sp_heard, sBad, okS, okH, okL, okT, okB, sRd, up2_id, up2_id2, oI, sOther, sNone, sFull, c_1, c_2]]
            exact ⟨rfl, hX, hL, hK, hU, rfl⟩)
  · have c_6 : okR 0 (σ 9 0 - 1) x = true := by simpa using c_1
    refine z_aload_n (pc := 8) (zk4 kX4_heard_0) rfl ?_
    refine z_iload_n (pc := 9) (zk5 kX4_heard_0) rfl ?_
    refine z_rdV (pc := 10) (zk6 kX4_heard_0) (st := []) lkX4_132 ivX4_noHouse hX.1 rfl rfl (c_noHouse hX hL) rfl ⟨rfl, rfl⟩ rfl rfl ?_ rfl
    refine z_oif_eq (pc := 13) (zk7 kX4_heard_0) (tgt := 23) (by decide) (fun c_7 => ?_) (fun c_7 => ?_)
    · have c_8 : okR 0 (σ 0 0 - 1) y = true := by simpa using c_7
      refine z_aload_n (pc := 23) (zk12 kX4_heard_0) rfl ?_
      refine z_getf (pc := 24) (zk13 kX4_heard_0) flX4_10 hX.1 gXo_0 ?_
      refine z_iload_n (pc := 27) (zk14 kX4_heard_0) rfl ?_
      refine z_iload_n (pc := 28) (zk15 kX4_heard_0) rfl ?_
      obtain ⟨ky, hky, rfl⟩ := okR_nI (n := n) (by omega) (by rw [← hn]; exact c_8)
      obtain ⟨kx, hkx, rfl⟩ := okR_nI (n := m) (by omega) (by rw [← hm]; exact c_6)
      refine z_rdV (pc := 29) (zk0 kX4_heard_1) (st := []) lkX4_125 ivX1_heardAt hL.1 rfl rfl (c_heardAt hL hn h12 (show kx < 8 by omega) (show ky < n by omega)) rfl ⟨rfl, rfl⟩ rfl rfl ?_ rfl
      exact z_iret (pc := 32) (zk1 kX4_heard_1) rfl (Nat.zero_le _) (Nat.zero_le _) (by
                rw [show sp_heard σ τ ε (nI kx) (nI ky) = (heardF σ kx ky, σ, τ, ε) from by simp [sp_heard, sBad, okS, okH, okL, okT, okB, sRd, up2_id, up2_id2, oI, sOther, sNone, sFull, c_1, c_6, c_7, c_8, ix_nI (show ky ≤ 1000 by omega), ix_nI (show kx ≤ 1000 by omega)]]
                exact ⟨rfl, hX, hL, hK, hU, rfl⟩)
    · have c_9 : okR 0 (σ 0 0 - 1) y = false := by simpa using c_7
      refine z_aload_n (pc := 16) (zk8 kX4_heard_0) rfl ?_
      refine z_bipush (pc := 17) (zk9 kX4_heard_0) (v := (-2)) (by decide) ?_
      refine z_efV (pc := 19) (zk10 kX4_heard_0) (st := []) lkX4_56 ivX4_refuse hX.1 rfl rfl (c_xrefuse (i := 0) hX hB (by decide) (by decide) (by decide)) rfl ⟨rfl, rfl⟩ rfl rfl (fun r_ h_11 z_ q_10 => ?_) rfl
      obtain ⟨er_, hR, hU_12, ez_⟩ := q_10
      rw [er_, ez_]
      clear er_ ez_
      replace hL := LnAt.fr hL hU_12 (by omega)
      replace hU := hU.tr hU_12 (by omega) (by omega)
      replace hK := XR.fr hK hU_12 (by omega)
      replace hX := hR; clear hR
      show Z D B xX4_heard _ _ _ 22 _ [.int (-2)] _ _
      exact z_iret (pc := 22) (zk11 kX4_heard_0) rfl (Nat.zero_le _) (Nat.zero_le _) (by
                rw [show sp_heard σ τ ε x y = ((-2), σ, (rfN τ 2), ε) from by simp [sp_heard, sBad, okS, okH, okL, okT, okB, sRd, up2_id, up2_id2, oI, sOther, sNone, sFull, c_1, c_6, c_7, c_9]]
                exact ⟨rfl, hX, hL, hK, hU, rfl⟩)
