set_option maxRecDepth 20000 in
theorem cX_best {D : zD} {B : Nat} {h : zH} {sz : Nat} {p : Nat} {σ κ τ : Ln} {ε : El} {ik : Int32} {x : Int32} {n m : Nat} (hX : XoAt h p ik (rfo τ)) (hL : LnAt h (p + 1) σ) (hK : XR h p κ τ ε) (hB : B ≤ p) (hn : σ 0 0 = nI n) (h12 : n ≤ 12) (hm : σ 9 0 = nI m) (h8 : m ≤ 8) (h2 : 2 ≤ n) : zM D B xX4_best [.ref p, .int x] h sz (xQ h p sz ik κ (sp_best σ τ ε x)) := by
  have hU : Upd h h p 51 := Upd.rf
  refine zM.of (by decide) rfl (n := 1) ?_
  show Z D B xX4_best 0 0 _ 0 [some (.ref p), some (.int x), none] [] h sz
  refine z_iload_n (pc := 0) (zk0 kX4_best_0) rfl ?_
  refine z_iconst (pc := 1) (zk1 kX4_best_0) (v := 0) (by decide) ?_
  refine z_iconst (pc := 2) (zk2 kX4_best_0) (v := 2) (by decide) ?_
  refine z_rdS (pc := 3) (zk3 kX4_best_0) (st := []) lkX4_52 isX4_outside (c_outside) rfl ⟨rfl, rfl⟩ rfl rfl ?_ rfl
  refine z_oif_eq (pc := 6) (zk4 kX4_best_0) (tgt := 16) (by decide) (fun c_1 => ?_) (fun c_1 => ?_)
  · have c_2 : okR 0 2 x = true := by simpa using c_1
    refine z_iload_n (pc := 16) (zk9 kX4_best_0) rfl ?_
    refine z_iconst (pc := 17) (zk10 kX4_best_0) (v := 2) (by decide) ?_
    rcases okR_02 c_2 with rfl | rfl | rfl
    · refine z_icmp_ne (pc := 18) (zk11 kX4_best_0) (tgt := 29) (by decide) (fun _ => ?_) (fun q => absurd q (by decide))
      refine z_aload_n (pc := 29) (zk0 kX4_best_1) rfl ?_
      refine z_getf (pc := 30) (zk1 kX4_best_1) flX4_10 hX.1 gXo_0 ?_
      refine z_rdV (pc := 33) (zk2 kX4_best_1) (st := []) lkX4_226 ivX1_houseWithMost hL.1 rfl rfl (c_most hL hn h12 hm h8 (by omega)) rfl ⟨rfl, rfl⟩ rfl rfl ?_ rfl
      refine z_istore_n (pc := 36) (zk3 kX4_best_1) rfl rfl ?_
      show Z D B xX4_best _ _ _ 37 [some (.ref p), some (.int 0), some (.int (nI (bestN (wordsF σ) (hsN σ))))] _ _ _
      refine z_iload_n (pc := 37) (zk4 kX4_best_1) rfl ?_
      refine z_if_ne (pc := 38) (zk5 kX4_best_1) (tgt := 45) (by decide) (fun q => absurd (by decide) q) (fun _ => ?_)
      refine z_iload_n (pc := 41) (zk6 kX4_best_1) rfl ?_
      refine z_goto (pc := 42) (zk7 kX4_best_1) (tgt := 53) (by decide) ?_
      exact z_iret (pc := 53) (zk12 kX4_best_1) rfl (Nat.zero_le _) (Nat.zero_le _) (by
                rw [show sp_best σ τ ε 0 = (nI (bestN (wordsF σ) (hsN σ)), σ, τ, ε) from by simp [sp_best, sBad, okS, okH, okL, okT, okB, sRd, up2_id, up2_id2, oI, sOther, sNone, sFull, c_1, c_2]]
                exact ⟨rfl, hX, hL, hK, hU, rfl⟩)
    · refine z_icmp_ne (pc := 18) (zk11 kX4_best_0) (tgt := 29) (by decide) (fun _ => ?_) (fun q => absurd q (by decide))
      refine z_aload_n (pc := 29) (zk0 kX4_best_1) rfl ?_
      refine z_getf (pc := 30) (zk1 kX4_best_1) flX4_10 hX.1 gXo_0 ?_
      refine z_rdV (pc := 33) (zk2 kX4_best_1) (st := []) lkX4_226 ivX1_houseWithMost hL.1 rfl rfl (c_most hL hn h12 hm h8 (by omega)) rfl ⟨rfl, rfl⟩ rfl rfl ?_ rfl
      refine z_istore_n (pc := 36) (zk3 kX4_best_1) rfl rfl ?_
      show Z D B xX4_best _ _ _ 37 [some (.ref p), some (.int 1), some (.int (nI (bestN (wordsF σ) (hsN σ))))] _ _ _
      refine z_iload_n (pc := 37) (zk4 kX4_best_1) rfl ?_
      refine z_if_ne (pc := 38) (zk5 kX4_best_1) (tgt := 45) (by decide) (fun _ => ?_) (fun q => absurd q (by decide))
      refine z_aload_n (pc := 45) (zk8 kX4_best_1) rfl ?_
      refine z_getf (pc := 46) (zk9 kX4_best_1) flX4_10 hX.1 gXo_0 ?_
      refine z_iload_n (pc := 49) (zk10 kX4_best_1) rfl ?_
      refine z_rdV (pc := 50) (zk11 kX4_best_1) (st := []) lkX4_220 ivX1_wordsAt hL.1 rfl rfl (c_wordsAt hL hn h12 hm h8 (by rw [hsN_eq hn h12]; exact bestN_lt (by omega))) rfl ⟨rfl, rfl⟩ rfl rfl ?_ rfl
      exact z_iret (pc := 53) (zk12 kX4_best_1) rfl (Nat.zero_le _) (Nat.zero_le _) (by
                rw [show sp_best σ τ ε 1 = (wordsF σ (bestN (wordsF σ) (hsN σ)), σ, τ, ε) from by simp [sp_best, sBad, okS, okH, okL, okT, okB, sRd, up2_id, up2_id2, oI, sOther, sNone, sFull, c_1, c_2]]
                exact ⟨rfl, hX, hL, hK, hU, rfl⟩)
    · refine z_icmp_ne (pc := 18) (zk11 kX4_best_0) (tgt := 29) (by decide) (fun q => absurd (by decide) q) (fun _ => ?_)
      refine z_aload_n (pc := 21) (zk12 kX4_best_0) rfl ?_
      refine z_getf (pc := 22) (zk13 kX4_best_0) flX4_10 hX.1 gXo_0 ?_
      refine z_rdV (pc := 25) (zk14 kX4_best_0) (st := []) lkX4_223 ivX1_houseWithFewest hL.1 rfl rfl (c_fewest hL hn h12 hm h8 (by omega)) rfl ⟨rfl, rfl⟩ rfl rfl ?_ rfl
      exact z_iret (pc := 28) (zk15 kX4_best_0) rfl (Nat.zero_le _) (Nat.zero_le _) (by
                rw [show sp_best σ τ ε 2 = (nI (fewN (wordsF σ) (hsN σ)), σ, τ, ε) from by simp [sp_best, sBad, okS, okH, okL, okT, okB, sRd, up2_id, up2_id2, oI, sOther, sNone, sFull, c_1, c_2]]
                exact ⟨rfl, hX, hL, hK, hU, rfl⟩)
  · have c_3 : okR 0 2 x = false := by simpa using c_1
    refine z_aload_n (pc := 9) (zk5 kX4_best_0) rfl ?_
    refine z_bipush (pc := 10) (zk6 kX4_best_0) (v := (-2)) (by decide) ?_
    refine z_efV (pc := 12) (zk7 kX4_best_0) (st := []) lkX4_56 ivX4_refuse hX.1 rfl rfl (c_xrefuse (i := 0) hX hB (by decide) (by decide) (by decide)) rfl ⟨rfl, rfl⟩ rfl rfl (fun r_ h_5 z_ q_4 => ?_) rfl
    obtain ⟨er_, hR, hU_6, ez_⟩ := q_4
    rw [er_, ez_]
    clear er_ ez_
    replace hL := LnAt.fr hL hU_6 (by omega)
    replace hU := hU.tr hU_6 (by omega) (by omega)
    replace hK := XR.fr hK hU_6 (by omega)
    replace hX := hR; clear hR
    show Z D B xX4_best _ _ _ 15 _ [.int (-2)] _ _
    exact z_iret (pc := 15) (zk8 kX4_best_0) rfl (Nat.zero_le _) (Nat.zero_le _) (by
            rw [show sp_best σ τ ε x = ((-2), σ, (rfN τ 2), ε) from by simp [sp_best, sBad, okS, okH, okL, okT, okB, sRd, up2_id, up2_id2, oI, sOther, sNone, sFull, c_1, c_3]]
            exact ⟨rfl, hX, hL, hK, hU, rfl⟩)
set_option maxRecDepth 20000 in
theorem cX_first {D : zD} {B : Nat} {h : zH} {sz : Nat} {p : Nat} {σ κ τ : Ln} {ε : El} {ik : Int32} {x : Int32} {y : Int32} {n m : Nat} (hX : XoAt h p ik (rfo τ)) (hL : LnAt h (p + 1) σ) (hK : XR h p κ τ ε) (hB : B ≤ p) (hn : σ 0 0 = nI n) (h12 : n ≤ 12) (hm : σ 9 0 = nI m) (h8 : m ≤ 8) : zM D B xX4_first [.ref p, .int x, .int y] h sz (xQ h p sz ik κ (sp_first σ τ ε x y)) := by
  have hU : Upd h h p 51 := Upd.rf
  refine zM.of (by decide) rfl (n := 0) ?_
  show Z D B xX4_first 0 0 _ 0 [some (.ref p), some (.int x), some (.int y)] [] h sz
  refine z_aload_n (pc := 0) (zk0 kX4_first_0) rfl ?_
  refine z_iload_n (pc := 1) (zk1 kX4_first_0) rfl ?_
  refine z_rdV (pc := 2) (zk2 kX4_first_0) (st := []) lkX4_99 ivX4_noLetter hX.1 rfl rfl (c_noLetter hX hL) rfl ⟨rfl, rfl⟩ rfl rfl ?_ rfl
  refine z_oif_ne (pc := 5) (zk3 kX4_first_0) (tgt := 17) (by decide) (fun c_1 => ?_) (fun c_1 => ?_)
  · have c_2 : okR 0 (σ 9 0 - 1) x = false := by simpa using c_1
    refine z_aload_n (pc := 17) (zk9 kX4_first_0) rfl ?_
    refine z_bipush (pc := 18) (zk10 kX4_first_0) (v := (-2)) (by decide) ?_
    refine z_efV (pc := 20) (zk11 kX4_first_0) (st := []) lkX4_56 ivX4_refuse hX.1 rfl rfl (c_xrefuse (i := 0) hX hB (by decide) (by decide) (by decide)) rfl ⟨rfl, rfl⟩ rfl rfl (fun r_ h_4 z_ q_3 => ?_) rfl
    obtain ⟨er_, hR, hU_5, ez_⟩ := q_3
    rw [er_, ez_]
    clear er_ ez_
    replace hL := LnAt.fr hL hU_5 (by omega)
    replace hU := hU.tr hU_5 (by omega) (by omega)
    replace hK := XR.fr hK hU_5 (by omega)
    replace hX := hR; clear hR
    show Z D B xX4_first _ _ _ 23 _ [.int (-2)] _ _
    exact z_iret (pc := 23) (zk12 kX4_first_0) rfl (Nat.zero_le _) (Nat.zero_le _) (by
            rw [show sp_first σ τ ε x y = ((-2), σ, (rfN τ 2), ε) from by simp [sp_first, sBad, okS, okH, okL, okT, okB, sRd, up2_id, up2_id2, oI, sOther, sNone, sFull, c_1, c_2]]
            exact ⟨rfl, hX, hL, hK, hU, rfl⟩)
  · have c_6 : okR 0 (σ 9 0 - 1) x = true := by simpa using c_1
    refine z_iload_n (pc := 8) (zk4 kX4_first_0) rfl ?_
    refine z_iconst (pc := 9) (zk5 kX4_first_0) (v := 0) (by decide) ?_
    refine z_iconst (pc := 10) (zk6 kX4_first_0) (v := 1) (by decide) ?_
    refine z_rdS (pc := 11) (zk7 kX4_first_0) (st := []) lkX4_52 isX4_outside (c_outside) rfl ⟨rfl, rfl⟩ rfl rfl ?_ rfl
    refine z_oif_eq (pc := 14) (zk8 kX4_first_0) (tgt := 24) (by decide) (fun c_7 => ?_) (fun c_7 => ?_)
    · have c_8 : okR 0 1 y = true := by simpa using c_7
      refine z_aload_n (pc := 24) (zk13 kX4_first_0) rfl ?_
      refine z_getf (pc := 25) (zk14 kX4_first_0) flX4_10 hX.1 gXo_0 ?_
      refine z_iload_n (pc := 28) (zk15 kX4_first_0) rfl ?_
      refine z_iload_n (pc := 29) (zk0 kX4_first_1) rfl ?_
      rcases okR_01 c_8 with rfl | rfl
      · refine z_if_ne (pc := 30) (zk1 kX4_first_1) (tgt := 37) (by decide) (fun q => absurd (by decide) q) (fun _ => ?_)
        refine z_iconst (pc := 33) (zk2 kX4_first_1) (v := 1) (by decide) ?_
        refine z_goto (pc := 34) (zk3 kX4_first_1) (tgt := 38) (by decide) ?_
        obtain ⟨kx, hkx, rfl⟩ := okR_nI (n := m) (by omega) (by rw [← hm]; exact c_6)
        refine z_rdV (pc := 38) (zk5 kX4_first_1) (st := []) lkX4_213 ivX1_endKnower hL.1 rfl rfl (c_end_first hL hn h12 (show kx < 8 by omega)) rfl ⟨rfl, rfl⟩ rfl rfl ?_ rfl
        exact z_iret (pc := 41) (zk6 kX4_first_1) rfl (Nat.zero_le _) (Nat.zero_le _) (by
                    rw [show sp_first σ τ ε (nI kx) 0 = (firstF σ kx, σ, τ, ε) from by simp [sp_first, sBad, okS, okH, okL, okT, okB, sRd, up2_id, up2_id2, oI, sOther, sNone, sFull, c_1, c_6, c_7, c_8, ix_nI (show kx ≤ 1000 by omega)]]
                    exact ⟨rfl, hX, hL, hK, hU, rfl⟩)
      · refine z_if_ne (pc := 30) (zk1 kX4_first_1) (tgt := 37) (by decide) (fun _ => ?_) (fun q => absurd q (by decide))
        refine z_iconst (pc := 37) (zk4 kX4_first_1) (v := 0) (by decide) ?_
        obtain ⟨kx, hkx, rfl⟩ := okR_nI (n := m) (by omega) (by rw [← hm]; exact c_6)
        refine z_rdV (pc := 38) (zk5 kX4_first_1) (st := []) lkX4_213 ivX1_endKnower hL.1 rfl rfl (c_end_last hL hn h12 (show kx < 8 by omega)) rfl ⟨rfl, rfl⟩ rfl rfl ?_ rfl
        exact z_iret (pc := 41) (zk6 kX4_first_1) rfl (Nat.zero_le _) (Nat.zero_le _) (by
                    rw [show sp_first σ τ ε (nI kx) 1 = (lastF σ kx, σ, τ, ε) from by simp [sp_first, sBad, okS, okH, okL, okT, okB, sRd, up2_id, up2_id2, oI, sOther, sNone, sFull, c_1, c_6, c_7, c_8, ix_nI (show kx ≤ 1000 by omega)]]
                    exact ⟨rfl, hX, hL, hK, hU, rfl⟩)
    · have c_9 : okR 0 1 y = false := by simpa using c_7
      refine z_aload_n (pc := 17) (zk9 kX4_first_0) rfl ?_
      refine z_bipush (pc := 18) (zk10 kX4_first_0) (v := (-2)) (by decide) ?_
      refine z_efV (pc := 20) (zk11 kX4_first_0) (st := []) lkX4_56 ivX4_refuse hX.1 rfl rfl (c_xrefuse (i := 0) hX hB (by decide) (by decide) (by decide)) rfl ⟨rfl, rfl⟩ rfl rfl (fun r_ h_11 z_ q_10 => ?_) rfl
      obtain ⟨er_, hR, hU_12, ez_⟩ := q_10
      rw [er_, ez_]
      clear er_ ez_
      replace hL := LnAt.fr hL hU_12 (by omega)
      replace hU := hU.tr hU_12 (by omega) (by omega)
      replace hK := XR.fr hK hU_12 (by omega)
      replace hX := hR; clear hR
      show Z D B xX4_first _ _ _ 23 _ [.int (-2)] _ _
      exact z_iret (pc := 23) (zk12 kX4_first_0) rfl (Nat.zero_le _) (Nat.zero_le _) (by
                rw [show sp_first σ τ ε x y = ((-2), σ, (rfN τ 2), ε) from by simp [sp_first, sBad, okS, okH, okL, okT, okB, sRd, up2_id, up2_id2, oI, sOther, sNone, sFull, c_1, c_6, c_7, c_9]]
                exact ⟨rfl, hX, hL, hK, hU, rfl⟩)
set_option maxRecDepth 20000 in
theorem cX_tell {D : zD} {B : Nat} {h : zH} {sz : Nat} {p : Nat} {σ κ τ : Ln} {ε : El} {ik : Int32} {x : Int32} {y : Int32} {z : Int32} {n m : Nat} (hX : XoAt h p ik (rfo τ)) (hL : LnAt h (p + 1) σ) (hK : XR h p κ τ ε) (hB : B ≤ p) (hn : σ 0 0 = nI n) (h12 : n ≤ 12) (hm : σ 9 0 = nI m) (h8 : m ≤ 8) : zM D B xX4_tell [.ref p, .int x, .int y, .int z] h sz (xQ h p sz ik κ (sp_tell σ τ ε x y z)) := by
  have hU : Upd h h p 51 := Upd.rf
  refine zM.of (by decide) rfl (n := 2) ?_
  show Z D B xX4_tell 0 0 _ 0 [some (.ref p), some (.int x), some (.int y), some (.int z), none, none] [] h sz
  refine z_aload_n (pc := 0) (zk0 kX4_tell_0) rfl ?_
  refine z_iload_n (pc := 1) (zk1 kX4_tell_0) rfl ?_
  refine z_rdV (pc := 2) (zk2 kX4_tell_0) (st := []) lkX4_132 ivX4_noHouse hX.1 rfl rfl (c_noHouse hX hL) rfl ⟨rfl, rfl⟩ rfl rfl ?_ rfl
  refine z_oif_ne (pc := 5) (zk3 kX4_tell_0) (tgt := 27) (by decide) (fun c_1 => ?_) (fun c_1 => ?_)
  · have c_2 : okR 0 (σ 0 0 - 1) x = false := by simpa using c_1
    refine z_aload_n (pc := 27) (zk14 kX4_tell_0) rfl ?_
    refine z_bipush (pc := 28) (zk15 kX4_tell_0) (v := (-2)) (by decide) ?_
    refine z_efV (pc := 30) (zk0 kX4_tell_1) (st := []) lkX4_56 ivX4_refuse hX.1 rfl rfl (c_xrefuse (i := 0) hX hB (by decide) (by decide) (by decide)) rfl ⟨rfl, rfl⟩ rfl rfl (fun r_ h_4 z_ q_3 => ?_) rfl
    obtain ⟨er_, hR, hU_5, ez_⟩ := q_3
    rw [er_, ez_]
    clear er_ ez_
    replace hL := LnAt.fr hL hU_5 (by omega)
    replace hU := hU.tr hU_5 (by omega) (by omega)
    replace hK := XR.fr hK hU_5 (by omega)
    replace hX := hR; clear hR
    show Z D B xX4_tell _ _ _ 33 _ [.int (-2)] _ _
    exact z_iret (pc := 33) (zk1 kX4_tell_1) rfl (Nat.zero_le _) (Nat.zero_le _) (by
            rw [show sp_tell σ τ ε x y z = ((-2), σ, (rfN τ 2), ε) from by simp [sp_tell, sBad, okS, okH, okL, okT, okB, sRd, up2_id, up2_id2, oI, sOther, sNone, sFull, c_1, c_2]]
            exact ⟨rfl, hX, hL, hK, hU, rfl⟩)
  · have c_6 : okR 0 (σ 0 0 - 1) x = true := by simpa using c_1
    refine z_iload_n (pc := 8) (zk4 kX4_tell_0) rfl ?_
    refine z_iconst (pc := 9) (zk5 kX4_tell_0) (v := 0) (by decide) ?_
    refine z_iconst (pc := 10) (zk6 kX4_tell_0) (v := 1) (by decide) ?_
    refine z_rdS (pc := 11) (zk7 kX4_tell_0) (st := []) lkX4_52 isX4_outside (c_outside) rfl ⟨rfl, rfl⟩ rfl rfl ?_ rfl
    refine z_oif_ne (pc := 14) (zk8 kX4_tell_0) (tgt := 27) (by decide) (fun c_7 => ?_) (fun c_7 => ?_)
    · have c_8 : okR 0 1 y = false := by simpa using c_7
      refine z_aload_n (pc := 27) (zk14 kX4_tell_0) rfl ?_
      refine z_bipush (pc := 28) (zk15 kX4_tell_0) (v := (-2)) (by decide) ?_
      refine z_efV (pc := 30) (zk0 kX4_tell_1) (st := []) lkX4_56 ivX4_refuse hX.1 rfl rfl (c_xrefuse (i := 0) hX hB (by decide) (by decide) (by decide)) rfl ⟨rfl, rfl⟩ rfl rfl (fun r_ h_10 z_ q_9 => ?_) rfl
      obtain ⟨er_, hR, hU_11, ez_⟩ := q_9
      rw [er_, ez_]
      clear er_ ez_
      replace hL := LnAt.fr hL hU_11 (by omega)
      replace hU := hU.tr hU_11 (by omega) (by omega)
      replace hK := XR.fr hK hU_11 (by omega)
      replace hX := hR; clear hR
      show Z D B xX4_tell _ _ _ 33 _ [.int (-2)] _ _
      exact z_iret (pc := 33) (zk1 kX4_tell_1) rfl (Nat.zero_le _) (Nat.zero_le _) (by
                rw [show sp_tell σ τ ε x y z = ((-2), σ, (rfN τ 2), ε) from by simp [sp_tell, sBad, okS, okH, okL, okT, okB, sRd, up2_id, up2_id2, oI, sOther, sNone, sFull, c_1, c_6, c_7, c_8]]
                exact ⟨rfl, hX, hL, hK, hU, rfl⟩)
    · have c_12 : okR 0 1 y = true := by simpa using c_7
      refine z_iload_n (pc := 17) (zk9 kX4_tell_0) rfl ?_
      refine z_iconst (pc := 18) (zk10 kX4_tell_0) (v := 0) (by decide) ?_
      refine z_bipush (pc := 19) (zk11 kX4_tell_0) (v := 9) (by decide) ?_
      refine z_rdS (pc := 21) (zk12 kX4_tell_0) (st := []) lkX4_52 isX4_outside (c_outside) rfl ⟨rfl, rfl⟩ rfl rfl ?_ rfl
      refine z_oif_eq (pc := 24) (zk13 kX4_tell_0) (tgt := 34) (by decide) (fun c_13 => ?_) (fun c_13 => ?_)
      · have c_14 : okR 0 9 z = true := by simpa using c_13
        refine z_iload_n (pc := 34) (zk2 kX4_tell_1) rfl ?_
        rcases okR_01 c_12 with rfl | rfl
        · refine z_if_ne (pc := 35) (zk3 kX4_tell_1) (tgt := 48) (by decide) (fun q => absurd (by decide) q) (fun _ => ?_)
          refine z_aload_n (pc := 38) (zk4 kX4_tell_1) rfl ?_
          refine z_getf (pc := 39) (zk5 kX4_tell_1) flX4_10 hX.1 gXo_0 ?_
          refine z_getf (pc := 42) (zk6 kX4_tell_1) flX4_148 hL.1 gLn_1 ?_
          refine z_goto (pc := 45) (zk7 kX4_tell_1) (tgt := 55) (by decide) ?_
          refine z_astore (pc := 55) (zk11 kX4_tell_1) rfl rfl ?_
          show Z D B xX4_tell _ _ _ 57 [some (.ref p), some (.int x), some (.int 0), some (.int z), some (.ref ((p + 1) + 1)), none] _ _ _
          refine z_aload (pc := 57) (zk12 kX4_tell_1) rfl ?_
          refine z_iload_n (pc := 59) (zk13 kX4_tell_1) rfl ?_
          obtain ⟨kx, hkx, rfl⟩ := okR_nI (n := n) (by omega) (by rw [← hn]; exact c_6)
          refine z_ialdN (pc := 60) (zk14 kX4_tell_1) (f := σ 1) (j := kx) hL.2.1 (show kx < 12 by omega) rfl ?_
          refine z_istore (pc := 61) (zk15 kX4_tell_1) rfl rfl ?_
          show Z D B xX4_tell _ _ _ 63 [some (.ref p), some (.int (nI kx)), some (.int 0), some (.int z), some (.ref ((p + 1) + 1)), some (.int (σ 1 kx))] _ _ _
          refine z_aload (pc := 63) (zk0 kX4_tell_2) rfl ?_
          refine z_iload_n (pc := 65) (zk1 kX4_tell_2) rfl ?_
          refine z_iload_n (pc := 66) (zk2 kX4_tell_2) rfl ?_
          refine z_Ln_s1 (pc := 67) (zk3 kX4_tell_2) (j := kx) hL (by omega) (show kx < 12 by omega) (fun h_15 hR hU_16 => ?_)
          replace hX := XoAt.fr hX hU_16 (by omega)
          replace hU := hU.tr hU_16 (by omega) (by omega)
          replace hK := XR.fr hK hU_16 (by omega)
          replace hL := hR; clear hR
          refine z_iload (pc := 68) (zk4 kX4_tell_2) rfl ?_
          exact z_iret (pc := 70) (zk5 kX4_tell_2) rfl (Nat.zero_le _) (Nat.zero_le _) (by
                        rw [show sp_tell σ τ ε (nI kx) 0 z = (σ 1 kx, (up2 σ 1 kx z), τ, ε) from by simp [sp_tell, sBad, okS, okH, okL, okT, okB, sRd, up2_id, up2_id2, oI, sOther, sNone, sFull, c_1, c_6, c_7, c_12, c_13, c_14, ix_nI (show kx ≤ 1000 by omega)]]
                        exact ⟨rfl, hX, hL, hK, hU, rfl⟩)
        · refine z_if_ne (pc := 35) (zk3 kX4_tell_1) (tgt := 48) (by decide) (fun _ => ?_) (fun q => absurd q (by decide))
          refine z_aload_n (pc := 48) (zk8 kX4_tell_1) rfl ?_
          refine z_getf (pc := 49) (zk9 kX4_tell_1) flX4_10 hX.1 gXo_0 ?_
          refine z_getf (pc := 52) (zk10 kX4_tell_1) flX4_151 hL.1 gLn_2 ?_
          refine z_astore (pc := 55) (zk11 kX4_tell_1) rfl rfl ?_
          show Z D B xX4_tell _ _ _ 57 [some (.ref p), some (.int x), some (.int 1), some (.int z), some (.ref ((p + 1) + 2)), none] _ _ _
          refine z_aload (pc := 57) (zk12 kX4_tell_1) rfl ?_
          refine z_iload_n (pc := 59) (zk13 kX4_tell_1) rfl ?_
          obtain ⟨kx, hkx, rfl⟩ := okR_nI (n := n) (by omega) (by rw [← hn]; exact c_6)
          refine z_ialdN (pc := 60) (zk14 kX4_tell_1) (f := σ 2) (j := kx) hL.2.2.1 (show kx < 12 by omega) rfl ?_
          refine z_istore (pc := 61) (zk15 kX4_tell_1) rfl rfl ?_
          show Z D B xX4_tell _ _ _ 63 [some (.ref p), some (.int (nI kx)), some (.int 1), some (.int z), some (.ref ((p + 1) + 2)), some (.int (σ 2 kx))] _ _ _
          refine z_aload (pc := 63) (zk0 kX4_tell_2) rfl ?_
          refine z_iload_n (pc := 65) (zk1 kX4_tell_2) rfl ?_
          refine z_iload_n (pc := 66) (zk2 kX4_tell_2) rfl ?_
          refine z_Ln_s2 (pc := 67) (zk3 kX4_tell_2) (j := kx) hL (by omega) (show kx < 12 by omega) (fun h_17 hR hU_18 => ?_)
          replace hX := XoAt.fr hX hU_18 (by omega)
          replace hU := hU.tr hU_18 (by omega) (by omega)
          replace hK := XR.fr hK hU_18 (by omega)
          replace hL := hR; clear hR
          refine z_iload (pc := 68) (zk4 kX4_tell_2) rfl ?_
          exact z_iret (pc := 70) (zk5 kX4_tell_2) rfl (Nat.zero_le _) (Nat.zero_le _) (by
                        rw [show sp_tell σ τ ε (nI kx) 1 z = (σ 2 kx, (up2 σ 2 kx z), τ, ε) from by simp [sp_tell, sBad, okS, okH, okL, okT, okB, sRd, up2_id, up2_id2, oI, sOther, sNone, sFull, c_1, c_6, c_7, c_12, c_13, c_14, ix_nI (show kx ≤ 1000 by omega)]]
                        exact ⟨rfl, hX, hL, hK, hU, rfl⟩)
      · have c_19 : okR 0 9 z = false := by simpa using c_13
        refine z_aload_n (pc := 27) (zk14 kX4_tell_0) rfl ?_
        refine z_bipush (pc := 28) (zk15 kX4_tell_0) (v := (-2)) (by decide) ?_
        refine z_efV (pc := 30) (zk0 kX4_tell_1) (st := []) lkX4_56 ivX4_refuse hX.1 rfl rfl (c_xrefuse (i := 0) hX hB (by decide) (by decide) (by decide)) rfl ⟨rfl, rfl⟩ rfl rfl (fun r_ h_21 z_ q_20 => ?_) rfl
        obtain ⟨er_, hR, hU_22, ez_⟩ := q_20
        rw [er_, ez_]
        clear er_ ez_
        replace hL := LnAt.fr hL hU_22 (by omega)
        replace hU := hU.tr hU_22 (by omega) (by omega)
        replace hK := XR.fr hK hU_22 (by omega)
        replace hX := hR; clear hR
        show Z D B xX4_tell _ _ _ 33 _ [.int (-2)] _ _
        exact z_iret (pc := 33) (zk1 kX4_tell_1) rfl (Nat.zero_le _) (Nat.zero_le _) (by
                    rw [show sp_tell σ τ ε x y z = ((-2), σ, (rfN τ 2), ε) from by simp [sp_tell, sBad, okS, okH, okL, okT, okB, sRd, up2_id, up2_id2, oI, sOther, sNone, sFull, c_1, c_6, c_7, c_12, c_13, c_19]]
                    exact ⟨rfl, hX, hL, hK, hU, rfl⟩)
set_option maxRecDepth 20000 in
theorem cX_mend {D : zD} {B : Nat} {h : zH} {sz : Nat} {p : Nat} {σ κ τ : Ln} {ε : El} {ik : Int32} {x : Int32} {y : Int32} {z : Int32} {n m : Nat} (hX : XoAt h p ik (rfo τ)) (hL : LnAt h (p + 1) σ) (hK : XR h p κ τ ε) (hB : B ≤ p) (hn : σ 0 0 = nI n) (h12 : n ≤ 12) (hm : σ 9 0 = nI m) (h8 : m ≤ 8) : zM D B xX4_mend [.ref p, .int x, .int y, .int z] h sz (xQ h p sz ik κ (sp_mend σ τ ε x y z)) := by
  have hU : Upd h h p 51 := Upd.rf
  refine zM.of (by decide) rfl (n := 2) ?_
  show Z D B xX4_mend 0 0 _ 0 [some (.ref p), some (.int x), some (.int y), some (.int z), none, none] [] h sz
  refine z_aload_n (pc := 0) (zk0 kX4_mend_0) rfl ?_
  refine z_iload_n (pc := 1) (zk1 kX4_mend_0) rfl ?_
  refine z_rdV (pc := 2) (zk2 kX4_mend_0) (st := []) lkX4_99 ivX4_noLetter hX.1 rfl rfl (c_noLetter hX hL) rfl ⟨rfl, rfl⟩ rfl rfl ?_ rfl
  refine z_oif_ne (pc := 5) (zk3 kX4_mend_0) (tgt := 17) (by decide) (fun c_1 => ?_) (fun c_1 => ?_)
  · have c_2 : okR 0 (σ 9 0 - 1) x = false := by simpa using c_1
    refine z_aload_n (pc := 17) (zk9 kX4_mend_0) rfl ?_
    refine z_bipush (pc := 18) (zk10 kX4_mend_0) (v := (-2)) (by decide) ?_
    refine z_efV (pc := 20) (zk11 kX4_mend_0) (st := []) lkX4_56 ivX4_refuse hX.1 rfl rfl (c_xrefuse (i := 0) hX hB (by decide) (by decide) (by decide)) rfl ⟨rfl, rfl⟩ rfl rfl (fun r_ h_4 z_ q_3 => ?_) rfl
    obtain ⟨er_, hR, hU_5, ez_⟩ := q_3
    rw [er_, ez_]
    clear er_ ez_
    replace hL := LnAt.fr hL hU_5 (by omega)
    replace hU := hU.tr hU_5 (by omega) (by omega)
    replace hK := XR.fr hK hU_5 (by omega)
    replace hX := hR; clear hR
    show Z D B xX4_mend _ _ _ 23 _ [.int (-2)] _ _
    exact z_iret (pc := 23) (zk12 kX4_mend_0) rfl (Nat.zero_le _) (Nat.zero_le _) (by
            rw [show sp_mend σ τ ε x y z = ((-2), σ, (rfN τ 2), ε) from by simp [sp_mend, sBad, okS, okH, okL, okT, okB, sRd, up2_id, up2_id2, oI, sOther, sNone, sFull, c_1, c_2]]
            exact ⟨rfl, hX, hL, hK, hU, rfl⟩)
  · have c_6 : okR 0 (σ 9 0 - 1) x = true := by simpa using c_1
    refine z_iload_n (pc := 8) (zk4 kX4_mend_0) rfl ?_
    refine z_iconst (pc := 9) (zk5 kX4_mend_0) (v := 0) (by decide) ?_
    refine z_iconst (pc := 10) (zk6 kX4_mend_0) (v := 1) (by decide) ?_
    refine z_rdS (pc := 11) (zk7 kX4_mend_0) (st := []) lkX4_52 isX4_outside (c_outside) rfl ⟨rfl, rfl⟩ rfl rfl ?_ rfl
    refine z_oif_eq (pc := 14) (zk8 kX4_mend_0) (tgt := 24) (by decide) (fun c_7 => ?_) (fun c_7 => ?_)
    · have c_8 : okR 0 1 y = true := by simpa using c_7
      refine z_iload_n (pc := 24) (zk13 kX4_mend_0) rfl ?_
      rcases okR_01 c_8 with rfl | rfl
      · refine z_if_ne (pc := 25) (zk14 kX4_mend_0) (tgt := 39) (by decide) (fun q => absurd (by decide) q) (fun _ => ?_)
        refine z_aload_n (pc := 28) (zk15 kX4_mend_0) rfl ?_
        refine z_iload_n (pc := 29) (zk0 kX4_mend_1) rfl ?_
        refine z_rdV (pc := 30) (zk1 kX4_mend_1) (st := []) lkX4_132 ivX4_noHouse hX.1 rfl rfl (c_noHouse hX hL) rfl ⟨rfl, rfl⟩ rfl rfl ?_ rfl
        refine z_oif_eq (pc := 33) (zk2 kX4_mend_1) (tgt := 56) (by decide) (fun c_9 => ?_) (fun c_9 => ?_)
        · have c_10 : okR 0 (σ 0 0 - 1) z = true := by simpa using c_9
          refine z_iload_n (pc := 56) (zk13 kX4_mend_1) rfl ?_
          refine z_if_ne (pc := 57) (zk14 kX4_mend_1) (tgt := 70) (by decide) (fun q => absurd (by decide) q) (fun _ => ?_)
          refine z_aload_n (pc := 60) (zk15 kX4_mend_1) rfl ?_
          refine z_getf (pc := 61) (zk0 kX4_mend_2) flX4_10 hX.1 gXo_0 ?_
          refine z_getf (pc := 64) (zk1 kX4_mend_2) flX4_142 hL.1 gLn_12 ?_
          refine z_goto (pc := 67) (zk2 kX4_mend_2) (tgt := 77) (by decide) ?_
          refine z_astore (pc := 77) (zk6 kX4_mend_2) rfl rfl ?_
          show Z D B xX4_mend _ _ _ 79 [some (.ref p), some (.int x), some (.int 0), some (.int z), some (.ref ((p + 1) + 7)), none] _ _ _
          refine z_aload (pc := 79) (zk7 kX4_mend_2) rfl ?_
          refine z_iload_n (pc := 81) (zk8 kX4_mend_2) rfl ?_
          obtain ⟨kx, hkx, rfl⟩ := okR_nI (n := m) (by omega) (by rw [← hm]; exact c_6)
          refine z_ialdN (pc := 82) (zk9 kX4_mend_2) (f := σ 12) (j := kx) hL.2.2.2.2.2.2.2.1 (show kx < 8 by omega) rfl ?_
          refine z_istore (pc := 83) (zk10 kX4_mend_2) rfl rfl ?_
          show Z D B xX4_mend _ _ _ 85 [some (.ref p), some (.int (nI kx)), some (.int 0), some (.int z), some (.ref ((p + 1) + 7)), some (.int (σ 12 kx))] _ _ _
          refine z_aload (pc := 85) (zk11 kX4_mend_2) rfl ?_
          refine z_iload_n (pc := 87) (zk12 kX4_mend_2) rfl ?_
          refine z_iload_n (pc := 88) (zk13 kX4_mend_2) rfl ?_
          refine z_Ln_s7 (pc := 89) (zk14 kX4_mend_2) (j := kx) hL (by omega) (show kx < 8 by omega) (fun h_11 hR hU_12 => ?_)
          replace hX := XoAt.fr hX hU_12 (by omega)
          replace hU := hU.tr hU_12 (by omega) (by omega)
          replace hK := XR.fr hK hU_12 (by omega)
          replace hL := hR; clear hR
          refine z_iload (pc := 90) (zk15 kX4_mend_2) rfl ?_
          exact z_iret (pc := 92) (zk0 kX4_mend_3) rfl (Nat.zero_le _) (Nat.zero_le _) (by
                        rw [show sp_mend σ τ ε (nI kx) 0 z = (σ 12 kx, (up2 σ 12 kx z), τ, ε) from by simp [sp_mend, sBad, okS, okH, okL, okT, okB, sRd, up2_id, up2_id2, oI, sOther, sNone, sFull, c_1, c_6, c_7, c_8, c_9, c_10, ix_nI (show kx ≤ 1000 by omega)]]
                        exact ⟨rfl, hX, hL, hK, hU, rfl⟩)
        · have c_13 : okR 0 (σ 0 0 - 1) z = false := by simpa using c_9
          refine z_goto (pc := 36) (zk3 kX4_mend_1) (tgt := 49) (by decide) ?_
          refine z_aload_n (pc := 49) (zk9 kX4_mend_1) rfl ?_
          refine z_bipush (pc := 50) (zk10 kX4_mend_1) (v := (-2)) (by decide) ?_
          refine z_efV (pc := 52) (zk11 kX4_mend_1) (st := []) lkX4_56 ivX4_refuse hX.1 rfl rfl (c_xrefuse (i := 0) hX hB (by decide) (by decide) (by decide)) rfl ⟨rfl, rfl⟩ rfl rfl (fun r_ h_15 z_ q_14 => ?_) rfl
          obtain ⟨er_, hR, hU_16, ez_⟩ := q_14
          rw [er_, ez_]
          clear er_ ez_
          replace hL := LnAt.fr hL hU_16 (by omega)
          replace hU := hU.tr hU_16 (by omega) (by omega)
          replace hK := XR.fr hK hU_16 (by omega)
          replace hX := hR; clear hR
          show Z D B xX4_mend _ _ _ 55 _ [.int (-2)] _ _
          exact z_iret (pc := 55) (zk12 kX4_mend_1) rfl (Nat.zero_le _) (Nat.zero_le _) (by
                        rw [show sp_mend σ τ ε x 0 z = ((-2), σ, (rfN τ 2), ε) from by simp [sp_mend, sBad, okS, okH, okL, okT, okB, sRd, up2_id, up2_id2, oI, sOther, sNone, sFull, c_1, c_6, c_7, c_8, c_9, c_13]]
                        exact ⟨rfl, hX, hL, hK, hU, rfl⟩)
      · refine z_if_ne (pc := 25) (zk14 kX4_mend_0) (tgt := 39) (by decide) (fun _ => ?_) (fun q => absurd q (by decide))
        refine z_iload_n (pc := 39) (zk4 kX4_mend_1) rfl ?_
        refine z_iconst (pc := 40) (zk5 kX4_mend_1) (v := 1) (by decide) ?_
        refine z_bipush (pc := 41) (zk6 kX4_mend_1) (v := 40) (by decide) ?_
        refine z_rdS (pc := 43) (zk7 kX4_mend_1) (st := []) lkX4_52 isX4_outside (c_outside) rfl ⟨rfl, rfl⟩ rfl rfl ?_ rfl
        refine z_oif_eq (pc := 46) (zk8 kX4_mend_1) (tgt := 56) (by decide) (fun c_17 => ?_) (fun c_17 => ?_)
        · have c_18 : okR 1 40 z = true := by simpa using c_17
          refine z_iload_n (pc := 56) (zk13 kX4_mend_1) rfl ?_
          refine z_if_ne (pc := 57) (zk14 kX4_mend_1) (tgt := 70) (by decide) (fun _ => ?_) (fun q => absurd q (by decide))
          refine z_aload_n (pc := 70) (zk3 kX4_mend_2) rfl ?_
          refine z_getf (pc := 71) (zk4 kX4_mend_2) flX4_10 hX.1 gXo_0 ?_
          refine z_getf (pc := 74) (zk5 kX4_mend_2) flX4_145 hL.1 gLn_13 ?_
          refine z_astore (pc := 77) (zk6 kX4_mend_2) rfl rfl ?_
          show Z D B xX4_mend _ _ _ 79 [some (.ref p), some (.int x), some (.int 1), some (.int z), some (.ref ((p + 1) + 8)), none] _ _ _
          refine z_aload (pc := 79) (zk7 kX4_mend_2) rfl ?_
          refine z_iload_n (pc := 81) (zk8 kX4_mend_2) rfl ?_
          obtain ⟨kx, hkx, rfl⟩ := okR_nI (n := m) (by omega) (by rw [← hm]; exact c_6)
          refine z_ialdN (pc := 82) (zk9 kX4_mend_2) (f := σ 13) (j := kx) hL.2.2.2.2.2.2.2.2 (show kx < 8 by omega) rfl ?_
          refine z_istore (pc := 83) (zk10 kX4_mend_2) rfl rfl ?_
          show Z D B xX4_mend _ _ _ 85 [some (.ref p), some (.int (nI kx)), some (.int 1), some (.int z), some (.ref ((p + 1) + 8)), some (.int (σ 13 kx))] _ _ _
          refine z_aload (pc := 85) (zk11 kX4_mend_2) rfl ?_
          refine z_iload_n (pc := 87) (zk12 kX4_mend_2) rfl ?_
          refine z_iload_n (pc := 88) (zk13 kX4_mend_2) rfl ?_
          refine z_Ln_s8 (pc := 89) (zk14 kX4_mend_2) (j := kx) hL (by omega) (show kx < 8 by omega) (fun h_19 hR hU_20 => ?_)
          replace hX := XoAt.fr hX hU_20 (by omega)
          replace hU := hU.tr hU_20 (by omega) (by omega)
          replace hK := XR.fr hK hU_20 (by omega)
          replace hL := hR; clear hR
          refine z_iload (pc := 90) (zk15 kX4_mend_2) rfl ?_
          exact z_iret (pc := 92) (zk0 kX4_mend_3) rfl (Nat.zero_le _) (Nat.zero_le _) (by
                        rw [show sp_mend σ τ ε (nI kx) 1 z = (σ 13 kx, (up2 σ 13 kx z), τ, ε) from by simp [sp_mend, sBad, okS, okH, okL, okT, okB, sRd, up2_id, up2_id2, oI, sOther, sNone, sFull, c_1, c_6, c_7, c_8, c_17, c_18, ix_nI (show kx ≤ 1000 by omega)]]
                        exact ⟨rfl, hX, hL, hK, hU, rfl⟩)
        · have c_21 : okR 1 40 z = false := by simpa using c_17
          refine z_aload_n (pc := 49) (zk9 kX4_mend_1) rfl ?_
          refine z_bipush (pc := 50) (zk10 kX4_mend_1) (v := (-2)) (by decide) ?_
          refine z_efV (pc := 52) (zk11 kX4_mend_1) (st := []) lkX4_56 ivX4_refuse hX.1 rfl rfl (c_xrefuse (i := 0) hX hB (by decide) (by decide) (by decide)) rfl ⟨rfl, rfl⟩ rfl rfl (fun r_ h_23 z_ q_22 => ?_) rfl
          obtain ⟨er_, hR, hU_24, ez_⟩ := q_22
          rw [er_, ez_]
          clear er_ ez_
          replace hL := LnAt.fr hL hU_24 (by omega)
          replace hU := hU.tr hU_24 (by omega) (by omega)
          replace hK := XR.fr hK hU_24 (by omega)
          replace hX := hR; clear hR
          show Z D B xX4_mend _ _ _ 55 _ [.int (-2)] _ _
          exact z_iret (pc := 55) (zk12 kX4_mend_1) rfl (Nat.zero_le _) (Nat.zero_le _) (by
                        rw [show sp_mend σ τ ε x 1 z = ((-2), σ, (rfN τ 2), ε) from by simp [sp_mend, sBad, okS, okH, okL, okT, okB, sRd, up2_id, up2_id2, oI, sOther, sNone, sFull, c_1, c_6, c_7, c_8, c_17, c_21]]
                        exact ⟨rfl, hX, hL, hK, hU, rfl⟩)
    · have c_25 : okR 0 1 y = false := by simpa using c_7
      refine z_aload_n (pc := 17) (zk9 kX4_mend_0) rfl ?_
      refine z_bipush (pc := 18) (zk10 kX4_mend_0) (v := (-2)) (by decide) ?_
      refine z_efV (pc := 20) (zk11 kX4_mend_0) (st := []) lkX4_56 ivX4_refuse hX.1 rfl rfl (c_xrefuse (i := 0) hX hB (by decide) (by decide) (by decide)) rfl ⟨rfl, rfl⟩ rfl rfl (fun r_ h_27 z_ q_26 => ?_) rfl
      obtain ⟨er_, hR, hU_28, ez_⟩ := q_26
      rw [er_, ez_]
      clear er_ ez_
      replace hL := LnAt.fr hL hU_28 (by omega)
      replace hU := hU.tr hU_28 (by omega) (by omega)
      replace hK := XR.fr hK hU_28 (by omega)
      replace hX := hR; clear hR
      show Z D B xX4_mend _ _ _ 23 _ [.int (-2)] _ _
      exact z_iret (pc := 23) (zk12 kX4_mend_0) rfl (Nat.zero_le _) (Nat.zero_le _) (by
                rw [show sp_mend σ τ ε x y z = ((-2), σ, (rfN τ 2), ε) from by simp [sp_mend, sBad, okS, okH, okL, okT, okB, sRd, up2_id, up2_id2, oI, sOther, sNone, sFull, c_1, c_6, c_7, c_25]]
                exact ⟨rfl, hX, hL, hK, hU, rfl⟩)
