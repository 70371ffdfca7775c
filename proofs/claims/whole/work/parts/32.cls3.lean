set_option maxRecDepth 20000 in
theorem cX_whoKnows {D : zD} {B : Nat} {h : zH} {sz : Nat} {p : Nat} {σ κ τ : Ln} {ε : El} {ik : Int32} {x : Int32} {n m : Nat} (hX : XoAt h p ik (rfo τ)) (hL : LnAt h (p + 1) σ) (hK : XR h p κ τ ε) (hB : B ≤ p) (hn : σ 0 0 = nI n) (h12 : n ≤ 12) (hm : σ 9 0 = nI m) (h8 : m ≤ 8) : zM D B xX4_whoKnows [.ref p, .int x] h sz (xQ h p sz ik κ (sp_whoKnows σ τ ε x)) := by
  have hU : Upd h h p 51 := Upd.rf
  refine zM.of (by decide) rfl (n := 0) ?_
  show Z D B xX4_whoKnows 0 0 _ 0 [some (.ref p), some (.int x)] [] h sz
  refine z_aload_n (pc := 0) (zk0 kX4_whoKnows_0) rfl ?_
  refine z_iload_n (pc := 1) (zk1 kX4_whoKnows_0) rfl ?_
  refine z_rdV (pc := 2) (zk2 kX4_whoKnows_0) (st := []) lkX4_99 ivX4_noLetter hX.1 rfl rfl (c_noLetter hX hL) rfl ⟨rfl, rfl⟩ rfl rfl ?_ rfl
  refine z_oif_eq (pc := 5) (zk3 kX4_whoKnows_0) (tgt := 17) (by decide) (fun c_1 => ?_) (fun c_1 => ?_)
  · have c_2 : okR 0 (σ 9 0 - 1) x = true := by simpa using c_1
    refine z_aload_n (pc := 17) (zk8 kX4_whoKnows_0) rfl ?_
    refine z_getf (pc := 18) (zk9 kX4_whoKnows_0) flX4_10 hX.1 gXo_0 ?_
    refine z_iload_n (pc := 21) (zk10 kX4_whoKnows_0) rfl ?_
    obtain ⟨kx, hkx, rfl⟩ := okR_nI (n := m) (by omega) (by rw [← hm]; exact c_2)
    refine z_rdV (pc := 22) (zk11 kX4_whoKnows_0) (st := []) lkX4_207 ivX1_knowers hL.1 rfl rfl (c_knowers hL hn h12 (show kx < 8 by omega)) rfl ⟨rfl, rfl⟩ rfl rfl ?_ rfl
    exact z_iret (pc := 25) (zk12 kX4_whoKnows_0) rfl (Nat.zero_le _) (Nat.zero_le _) (by
            rw [show sp_whoKnows σ τ ε (nI kx) = (knowersF σ kx, σ, τ, ε) from by simp [sp_whoKnows, sBad, okS, okH, okL, okT, okB, sRd, up2_id, up2_id2, oI, sOther, sNone, sFull, c_1, c_2, ix_nI (show kx ≤ 1000 by omega)]]
            exact ⟨rfl, hX, hL, hK, hU, rfl⟩)
  · have c_3 : okR 0 (σ 9 0 - 1) x = false := by simpa using c_1
    refine z_aload_n (pc := 8) (zk4 kX4_whoKnows_0) rfl ?_
    refine z_bipush (pc := 9) (zk5 kX4_whoKnows_0) (v := (-2)) (by decide) ?_
    refine z_efV (pc := 11) (zk6 kX4_whoKnows_0) (st := []) lkX4_56 ivX4_refuse hX.1 rfl rfl (c_xrefuse (i := 0) hX hB (by decide) (by decide) (by decide)) rfl ⟨rfl, rfl⟩ rfl rfl (fun r_ h_5 z_ q_4 => ?_) rfl
    obtain ⟨er_, hR, hU_6, ez_⟩ := q_4
    rw [er_, ez_]
    clear er_ ez_
    replace hL := LnAt.fr hL hU_6 (by omega)
    replace hU := hU.tr hU_6 (by omega) (by omega)
    replace hK := XR.fr hK hU_6 (by omega)
    replace hX := hR; clear hR
    show Z D B xX4_whoKnows _ _ _ 14 _ [.int (-2)] _ _
    refine z_goto (pc := 14) (zk7 kX4_whoKnows_0) (tgt := 25) (by decide) ?_
    exact z_iret (pc := 25) (zk12 kX4_whoKnows_0) rfl (Nat.zero_le _) (Nat.zero_le _) (by
            rw [show sp_whoKnows σ τ ε x = ((-2), σ, (rfN τ 2), ε) from by simp [sp_whoKnows, sBad, okS, okH, okL, okT, okB, sRd, up2_id, up2_id2, oI, sOther, sNone, sFull, c_1, c_3]]
            exact ⟨rfl, hX, hL, hK, hU, rfl⟩)
set_option maxRecDepth 20000 in
theorem cX_knows {D : zD} {B : Nat} {h : zH} {sz : Nat} {p : Nat} {σ κ τ : Ln} {ε : El} {ik : Int32} {x : Int32} {n m : Nat} (hX : XoAt h p ik (rfo τ)) (hL : LnAt h (p + 1) σ) (hK : XR h p κ τ ε) (hB : B ≤ p) (hn : σ 0 0 = nI n) (h12 : n ≤ 12) (hm : σ 9 0 = nI m) (h8 : m ≤ 8) : zM D B xX4_knows [.ref p, .int x] h sz (xQ h p sz ik κ (sp_knows σ τ ε x)) := by
  have hU : Upd h h p 51 := Upd.rf
  refine zM.of (by decide) rfl (n := 0) ?_
  show Z D B xX4_knows 0 0 _ 0 [some (.ref p), some (.int x)] [] h sz
  refine z_aload_n (pc := 0) (zk0 kX4_knows_0) rfl ?_
  refine z_iload_n (pc := 1) (zk1 kX4_knows_0) rfl ?_
  refine z_rdV (pc := 2) (zk2 kX4_knows_0) (st := []) lkX4_132 ivX4_noHouse hX.1 rfl rfl (c_noHouse hX hL) rfl ⟨rfl, rfl⟩ rfl rfl ?_ rfl
  refine z_oif_eq (pc := 5) (zk3 kX4_knows_0) (tgt := 17) (by decide) (fun c_1 => ?_) (fun c_1 => ?_)
  · have c_2 : okR 0 (σ 0 0 - 1) x = true := by simpa using c_1
    refine z_aload_n (pc := 17) (zk8 kX4_knows_0) rfl ?_
    refine z_getf (pc := 18) (zk9 kX4_knows_0) flX4_10 hX.1 gXo_0 ?_
    refine z_iload_n (pc := 21) (zk10 kX4_knows_0) rfl ?_
    obtain ⟨kx, hkx, rfl⟩ := okR_nI (n := n) (by omega) (by rw [← hn]; exact c_2)
    refine z_rdV (pc := 22) (zk11 kX4_knows_0) (st := []) lkX4_210 ivX1_knownAt hL.1 rfl rfl (c_knownAt hL hn h12 hm h8 (show kx < n by omega)) rfl ⟨rfl, rfl⟩ rfl rfl ?_ rfl
    exact z_iret (pc := 25) (zk12 kX4_knows_0) rfl (Nat.zero_le _) (Nat.zero_le _) (by
            rw [show sp_knows σ τ ε (nI kx) = (knownF σ kx, σ, τ, ε) from by simp [sp_knows, sBad, okS, okH, okL, okT, okB, sRd, up2_id, up2_id2, oI, sOther, sNone, sFull, c_1, c_2, ix_nI (show kx ≤ 1000 by omega)]]
            exact ⟨rfl, hX, hL, hK, hU, rfl⟩)
  · have c_3 : okR 0 (σ 0 0 - 1) x = false := by simpa using c_1
    refine z_aload_n (pc := 8) (zk4 kX4_knows_0) rfl ?_
    refine z_bipush (pc := 9) (zk5 kX4_knows_0) (v := (-2)) (by decide) ?_
    refine z_efV (pc := 11) (zk6 kX4_knows_0) (st := []) lkX4_56 ivX4_refuse hX.1 rfl rfl (c_xrefuse (i := 0) hX hB (by decide) (by decide) (by decide)) rfl ⟨rfl, rfl⟩ rfl rfl (fun r_ h_5 z_ q_4 => ?_) rfl
    obtain ⟨er_, hR, hU_6, ez_⟩ := q_4
    rw [er_, ez_]
    clear er_ ez_
    replace hL := LnAt.fr hL hU_6 (by omega)
    replace hU := hU.tr hU_6 (by omega) (by omega)
    replace hK := XR.fr hK hU_6 (by omega)
    replace hX := hR; clear hR
    show Z D B xX4_knows _ _ _ 14 _ [.int (-2)] _ _
    refine z_goto (pc := 14) (zk7 kX4_knows_0) (tgt := 25) (by decide) ?_
    exact z_iret (pc := 25) (zk12 kX4_knows_0) rfl (Nat.zero_le _) (Nat.zero_le _) (by
            rw [show sp_knows σ τ ε x = ((-2), σ, (rfN τ 2), ε) from by simp [sp_knows, sBad, okS, okH, okL, okT, okB, sRd, up2_id, up2_id2, oI, sOther, sNone, sFull, c_1, c_3]]
            exact ⟨rfl, hX, hL, hK, hU, rfl⟩)
set_option maxRecDepth 20000 in
theorem cX_words {D : zD} {B : Nat} {h : zH} {sz : Nat} {p : Nat} {σ κ τ : Ln} {ε : El} {ik : Int32} {x : Int32} {n m : Nat} (hX : XoAt h p ik (rfo τ)) (hL : LnAt h (p + 1) σ) (hK : XR h p κ τ ε) (hB : B ≤ p) (hn : σ 0 0 = nI n) (h12 : n ≤ 12) (hm : σ 9 0 = nI m) (h8 : m ≤ 8) : zM D B xX4_words [.ref p, .int x] h sz (xQ h p sz ik κ (sp_words σ τ ε x)) := by
  have hU : Upd h h p 51 := Upd.rf
  refine zM.of (by decide) rfl (n := 0) ?_
  show Z D B xX4_words 0 0 _ 0 [some (.ref p), some (.int x)] [] h sz
  refine z_aload_n (pc := 0) (zk0 kX4_words_0) rfl ?_
  refine z_iload_n (pc := 1) (zk1 kX4_words_0) rfl ?_
  refine z_rdV (pc := 2) (zk2 kX4_words_0) (st := []) lkX4_132 ivX4_noHouse hX.1 rfl rfl (c_noHouse hX hL) rfl ⟨rfl, rfl⟩ rfl rfl ?_ rfl
  refine z_oif_eq (pc := 5) (zk3 kX4_words_0) (tgt := 17) (by decide) (fun c_1 => ?_) (fun c_1 => ?_)
  · have c_2 : okR 0 (σ 0 0 - 1) x = true := by simpa using c_1
    refine z_aload_n (pc := 17) (zk8 kX4_words_0) rfl ?_
    refine z_getf (pc := 18) (zk9 kX4_words_0) flX4_10 hX.1 gXo_0 ?_
    refine z_iload_n (pc := 21) (zk10 kX4_words_0) rfl ?_
    obtain ⟨kx, hkx, rfl⟩ := okR_nI (n := n) (by omega) (by rw [← hn]; exact c_2)
    refine z_rdV (pc := 22) (zk11 kX4_words_0) (st := []) lkX4_220 ivX1_wordsAt hL.1 rfl rfl (c_wordsAt hL hn h12 hm h8 (show kx < n by omega)) rfl ⟨rfl, rfl⟩ rfl rfl ?_ rfl
    exact z_iret (pc := 25) (zk12 kX4_words_0) rfl (Nat.zero_le _) (Nat.zero_le _) (by
            rw [show sp_words σ τ ε (nI kx) = (wordsF σ kx, σ, τ, ε) from by simp [sp_words, sBad, okS, okH, okL, okT, okB, sRd, up2_id, up2_id2, oI, sOther, sNone, sFull, c_1, c_2, ix_nI (show kx ≤ 1000 by omega)]]
            exact ⟨rfl, hX, hL, hK, hU, rfl⟩)
  · have c_3 : okR 0 (σ 0 0 - 1) x = false := by simpa using c_1
    refine z_aload_n (pc := 8) (zk4 kX4_words_0) rfl ?_
    refine z_bipush (pc := 9) (zk5 kX4_words_0) (v := (-2)) (by decide) ?_
    refine z_efV (pc := 11) (zk6 kX4_words_0) (st := []) lkX4_56 ivX4_refuse hX.1 rfl rfl (c_xrefuse (i := 0) hX hB (by decide) (by decide) (by decide)) rfl ⟨rfl, rfl⟩ rfl rfl (fun r_ h_5 z_ q_4 => ?_) rfl
    obtain ⟨er_, hR, hU_6, ez_⟩ := q_4
    rw [er_, ez_]
    clear er_ ez_
    replace hL := LnAt.fr hL hU_6 (by omega)
    replace hU := hU.tr hU_6 (by omega) (by omega)
    replace hK := XR.fr hK hU_6 (by omega)
    replace hX := hR; clear hR
    show Z D B xX4_words _ _ _ 14 _ [.int (-2)] _ _
    refine z_goto (pc := 14) (zk7 kX4_words_0) (tgt := 25) (by decide) ?_
    exact z_iret (pc := 25) (zk12 kX4_words_0) rfl (Nat.zero_le _) (Nat.zero_le _) (by
            rw [show sp_words σ τ ε x = ((-2), σ, (rfN τ 2), ε) from by simp [sp_words, sBad, okS, okH, okL, okT, okB, sRd, up2_id, up2_id2, oI, sOther, sNone, sFull, c_1, c_3]]
            exact ⟨rfl, hX, hL, hK, hU, rfl⟩)
set_option maxRecDepth 20000 in
theorem cX_loudest {D : zD} {B : Nat} {h : zH} {sz : Nat} {p : Nat} {σ κ τ : Ln} {ε : El} {ik : Int32} {x : Int32} {n m : Nat} (hX : XoAt h p ik (rfo τ)) (hL : LnAt h (p + 1) σ) (hK : XR h p κ τ ε) (hB : B ≤ p) (hn : σ 0 0 = nI n) (h12 : n ≤ 12) (hm : σ 9 0 = nI m) (h8 : m ≤ 8) : zM D B xX4_loudest [.ref p, .int x] h sz (xQ h p sz ik κ (sp_loudest σ τ ε x)) := by
  have hU : Upd h h p 51 := Upd.rf
  refine zM.of (by decide) rfl (n := 0) ?_
  show Z D B xX4_loudest 0 0 _ 0 [some (.ref p), some (.int x)] [] h sz
  refine z_aload_n (pc := 0) (zk0 kX4_loudest_0) rfl ?_
  refine z_iload_n (pc := 1) (zk1 kX4_loudest_0) rfl ?_
  refine z_rdV (pc := 2) (zk2 kX4_loudest_0) (st := []) lkX4_132 ivX4_noHouse hX.1 rfl rfl (c_noHouse hX hL) rfl ⟨rfl, rfl⟩ rfl rfl ?_ rfl
  refine z_oif_eq (pc := 5) (zk3 kX4_loudest_0) (tgt := 17) (by decide) (fun c_1 => ?_) (fun c_1 => ?_)
  · have c_2 : okR 0 (σ 0 0 - 1) x = true := by simpa using c_1
    refine z_aload_n (pc := 17) (zk8 kX4_loudest_0) rfl ?_
    refine z_getf (pc := 18) (zk9 kX4_loudest_0) flX4_10 hX.1 gXo_0 ?_
    refine z_iload_n (pc := 21) (zk10 kX4_loudest_0) rfl ?_
    obtain ⟨kx, hkx, rfl⟩ := okR_nI (n := n) (by omega) (by rw [← hn]; exact c_2)
    refine z_rdV (pc := 22) (zk11 kX4_loudest_0) (st := []) lkX4_217 ivX1_loudestAt hL.1 rfl rfl (c_loudestAt hL hn h12 hm h8 (show kx < n by omega)) rfl ⟨rfl, rfl⟩ rfl rfl ?_ rfl
    exact z_iret (pc := 25) (zk12 kX4_loudest_0) rfl (Nat.zero_le _) (Nat.zero_le _) (by
            rw [show sp_loudest σ τ ε (nI kx) = (loudF σ kx, σ, τ, ε) from by simp [sp_loudest, sBad, okS, okH, okL, okT, okB, sRd, up2_id, up2_id2, oI, sOther, sNone, sFull, c_1, c_2, ix_nI (show kx ≤ 1000 by omega)]]
            exact ⟨rfl, hX, hL, hK, hU, rfl⟩)
  · have c_3 : okR 0 (σ 0 0 - 1) x = false := by simpa using c_1
    refine z_aload_n (pc := 8) (zk4 kX4_loudest_0) rfl ?_
    refine z_bipush (pc := 9) (zk5 kX4_loudest_0) (v := (-2)) (by decide) ?_
    refine z_efV (pc := 11) (zk6 kX4_loudest_0) (st := []) lkX4_56 ivX4_refuse hX.1 rfl rfl (c_xrefuse (i := 0) hX hB (by decide) (by decide) (by decide)) rfl ⟨rfl, rfl⟩ rfl rfl (fun r_ h_5 z_ q_4 => ?_) rfl
    obtain ⟨er_, hR, hU_6, ez_⟩ := q_4
    rw [er_, ez_]
    clear er_ ez_
    replace hL := LnAt.fr hL hU_6 (by omega)
    replace hU := hU.tr hU_6 (by omega) (by omega)
    replace hK := XR.fr hK hU_6 (by omega)
    replace hX := hR; clear hR
    show Z D B xX4_loudest _ _ _ 14 _ [.int (-2)] _ _
    refine z_goto (pc := 14) (zk7 kX4_loudest_0) (tgt := 25) (by decide) ?_
    exact z_iret (pc := 25) (zk12 kX4_loudest_0) rfl (Nat.zero_le _) (Nat.zero_le _) (by
            rw [show sp_loudest σ τ ε x = ((-2), σ, (rfN τ 2), ε) from by simp [sp_loudest, sBad, okS, okH, okL, okT, okB, sRd, up2_id, up2_id2, oI, sOther, sNone, sFull, c_1, c_3]]
            exact ⟨rfl, hX, hL, hK, hU, rfl⟩)
set_option maxRecDepth 20000 in
theorem c_asNumber {D : zD} {B : Nat} {h : zH} {sz : Nat} {b : Bool}  : zRd D B xX4_asNumber [.int (oI b)] h sz (.int (oI b)) := by
  refine zM.of (by decide) rfl (n := 0) ?_
  show Z D B xX4_asNumber 0 0 _ 0 [some (.int (oI b))] [] h sz
  refine z_iload_n (pc := 0) (zk0 kX4_asNumber_0) rfl ?_
  refine z_oif_eq (pc := 1) (zk1 kX4_asNumber_0) (tgt := 8) (by decide) (fun c_1 => ?_) (fun c_1 => ?_)
  · refine z_iconst (pc := 8) (zk4 kX4_asNumber_0) (v := 0) (by decide) ?_
    exact z_iret (pc := 9) (zk5 kX4_asNumber_0) rfl (Nat.zero_le _) (Nat.zero_le _) ⟨by simp [oI, c_1], rfl, rfl⟩
  · refine z_iconst (pc := 4) (zk2 kX4_asNumber_0) (v := 1) (by decide) ?_
    refine z_goto (pc := 5) (zk3 kX4_asNumber_0) (tgt := 9) (by decide) ?_
    exact z_iret (pc := 9) (zk5 kX4_asNumber_0) rfl (Nat.zero_le _) (Nat.zero_le _) ⟨by simp [oI, c_1], rfl, rfl⟩
set_option maxRecDepth 20000 in
theorem cX_isRead {D : zD} {B : Nat} {h : zH} {sz : Nat} {p : Nat} {σ κ τ : Ln} {ε : El} {ik : Int32} {x : Int32} {y : Int32} {n m : Nat} (hX : XoAt h p ik (rfo τ)) (hL : LnAt h (p + 1) σ) (hK : XR h p κ τ ε) (hB : B ≤ p) (hn : σ 0 0 = nI n) (h12 : n ≤ 12) (hm : σ 9 0 = nI m) (h8 : m ≤ 8) : zM D B xX4_isRead [.ref p, .int x, .int y] h sz (xQ h p sz ik κ (sp_isRead σ τ ε x y)) := by
  have hU : Upd h h p 51 := Upd.rf
  refine zM.of (by decide) rfl (n := 0) ?_
  show Z D B xX4_isRead 0 0 _ 0 [some (.ref p), some (.int x), some (.int y)] [] h sz
  refine z_aload_n (pc := 0) (zk0 kX4_isRead_0) rfl ?_
  refine z_iload_n (pc := 1) (zk1 kX4_isRead_0) rfl ?_
  refine z_rdV (pc := 2) (zk2 kX4_isRead_0) (st := []) lkX4_99 ivX4_noLetter hX.1 rfl rfl (c_noLetter hX hL) rfl ⟨rfl, rfl⟩ rfl rfl ?_ rfl
  refine z_oif_ne (pc := 5) (zk3 kX4_isRead_0) (tgt := 16) (by decide) (fun c_1 => ?_) (fun c_1 => ?_)
  · have c_2 : okR 0 (σ 9 0 - 1) x = false := by simpa using c_1
    refine z_aload_n (pc := 16) (zk8 kX4_isRead_0) rfl ?_
    refine z_bipush (pc := 17) (zk9 kX4_isRead_0) (v := (-2)) (by decide) ?_
    refine z_efV (pc := 19) (zk10 kX4_isRead_0) (st := []) lkX4_56 ivX4_refuse hX.1 rfl rfl (c_xrefuse (i := 0) hX hB (by decide) (by decide) (by decide)) rfl ⟨rfl, rfl⟩ rfl rfl (fun r_ h_4 z_ q_3 => ?_) rfl
    obtain ⟨er_, hR, hU_5, ez_⟩ := q_3
    rw [er_, ez_]
    clear er_ ez_
    replace hL := LnAt.fr hL hU_5 (by omega)
    replace hU := hU.tr hU_5 (by omega) (by omega)
    replace hK := XR.fr hK hU_5 (by omega)
    replace hX := hR; clear hR
    show Z D B xX4_isRead _ _ _ 22 _ [.int (-2)] _ _
    exact z_iret (pc := 22) (zk11 kX4_isRead_0) rfl (Nat.zero_le _) (Nat.zero_le _) (by
            rw [show sp_isRead σ τ ε x y = ((-2), σ, (rfN τ 2), ε) from by simp [sp_isRead, sBad, okS, okH, okL, okT, okB, sRd, up2_id, up2_id2, oI, sOther, sNone, sFull, c_1, c_2]]
            exact ⟨rfl, hX, hL, hK, hU, rfl⟩)
  · have c_6 : okR 0 (σ 9 0 - 1) x = true := by simpa using c_1
    refine z_aload_n (pc := 8) (zk4 kX4_isRead_0) rfl ?_
    refine z_iload_n (pc := 9) (zk5 kX4_isRead_0) rfl ?_
    refine z_rdV (pc := 10) (zk6 kX4_isRead_0) (st := []) lkX4_132 ivX4_noHouse hX.1 rfl rfl (c_noHouse hX hL) rfl ⟨rfl, rfl⟩ rfl rfl ?_ rfl
    refine z_oif_eq (pc := 13) (zk7 kX4_isRead_0) (tgt := 23) (by decide) (fun c_7 => ?_) (fun c_7 => ?_)
    · have c_8 : okR 0 (σ 0 0 - 1) y = true := by simpa using c_7
      refine z_aload_n (pc := 23) (zk12 kX4_isRead_0) rfl ?_
      refine z_getf (pc := 24) (zk13 kX4_isRead_0) flX4_10 hX.1 gXo_0 ?_
      refine z_iload_n (pc := 27) (zk14 kX4_isRead_0) rfl ?_
      refine z_iload_n (pc := 28) (zk15 kX4_isRead_0) rfl ?_
      obtain ⟨ky, hky, rfl⟩ := okR_nI (n := n) (by omega) (by rw [← hn]; exact c_8)
      obtain ⟨kx, hkx, rfl⟩ := okR_nI (n := m) (by omega) (by rw [← hm]; exact c_6)
      refine z_rdV (pc := 29) (zk0 kX4_isRead_1) (st := []) lkX4_204 ivX1_readAt hL.1 rfl rfl (c_readAt hL (show kx < 8 by omega)) rfl ⟨rfl, rfl⟩ rfl rfl ?_ rfl
      refine z_rdS (pc := 32) (zk1 kX4_isRead_1) (st := []) lkX4_166 isX4_asNumber (c_asNumber) rfl ⟨rfl, rfl⟩ rfl rfl ?_ rfl
      exact z_iret (pc := 35) (zk2 kX4_isRead_1) rfl (Nat.zero_le _) (Nat.zero_le _) (by
                rw [show sp_isRead σ τ ε (nI kx) (nI ky) = (oI (readB σ kx ky), σ, τ, ε) from by simp [sp_isRead, sBad, okS, okH, okL, okT, okB, sRd, up2_id, up2_id2, oI, sOther, sNone, sFull, c_1, c_6, c_7, c_8, ix_nI (show ky ≤ 1000 by omega), ix_nI (show kx ≤ 1000 by omega)]]
                exact ⟨rfl, hX, hL, hK, hU, rfl⟩)
    · have c_9 : okR 0 (σ 0 0 - 1) y = false := by simpa using c_7
      refine z_aload_n (pc := 16) (zk8 kX4_isRead_0) rfl ?_
      refine z_bipush (pc := 17) (zk9 kX4_isRead_0) (v := (-2)) (by decide) ?_
      refine z_efV (pc := 19) (zk10 kX4_isRead_0) (st := []) lkX4_56 ivX4_refuse hX.1 rfl rfl (c_xrefuse (i := 0) hX hB (by decide) (by decide) (by decide)) rfl ⟨rfl, rfl⟩ rfl rfl (fun r_ h_11 z_ q_10 => ?_) rfl
      obtain ⟨er_, hR, hU_12, ez_⟩ := q_10
      rw [er_, ez_]
      clear er_ ez_
      replace hL := LnAt.fr hL hU_12 (by omega)
      replace hU := hU.tr hU_12 (by omega) (by omega)
      replace hK := XR.fr hK hU_12 (by omega)
      replace hX := hR; clear hR
      show Z D B xX4_isRead _ _ _ 22 _ [.int (-2)] _ _
      exact z_iret (pc := 22) (zk11 kX4_isRead_0) rfl (Nat.zero_le _) (Nat.zero_le _) (by
                rw [show sp_isRead σ τ ε x y = ((-2), σ, (rfN τ 2), ε) from by simp [sp_isRead, sBad, okS, okH, okL, okT, okB, sRd, up2_id, up2_id2, oI, sOther, sNone, sFull, c_1, c_6, c_7, c_9]]
                exact ⟨rfl, hX, hL, hK, hU, rfl⟩)
set_option maxRecDepth 20000 in
theorem cX_common {D : zD} {B : Nat} {h : zH} {sz : Nat} {p : Nat} {σ κ τ : Ln} {ε : El} {ik : Int32} {x : Int32} {y : Int32} {n m : Nat} (hX : XoAt h p ik (rfo τ)) (hL : LnAt h (p + 1) σ) (hK : XR h p κ τ ε) (hB : B ≤ p) (hn : σ 0 0 = nI n) (h12 : n ≤ 12) (hm : σ 9 0 = nI m) (h8 : m ≤ 8) : zM D B xX4_common [.ref p, .int x, .int y] h sz (xQ h p sz ik κ (sp_common σ τ ε x y)) := by
  have hU : Upd h h p 51 := Upd.rf
  refine zM.of (by decide) rfl (n := 0) ?_
  show Z D B xX4_common 0 0 _ 0 [some (.ref p), some (.int x), some (.int y)] [] h sz
  refine z_aload_n (pc := 0) (zk0 kX4_common_0) rfl ?_
  refine z_iload_n (pc := 1) (zk1 kX4_common_0) rfl ?_
  refine z_rdV (pc := 2) (zk2 kX4_common_0) (st := []) lkX4_99 ivX4_noLetter hX.1 rfl rfl (c_noLetter hX hL) rfl ⟨rfl, rfl⟩ rfl rfl ?_ rfl
  refine z_oif_ne (pc := 5) (zk3 kX4_common_0) (tgt := 16) (by decide) (fun c_1 => ?_) (fun c_1 => ?_)
  · have c_2 : okR 0 (σ 9 0 - 1) x = false := by simpa using c_1
    refine z_aload_n (pc := 16) (zk8 kX4_common_0) rfl ?_
    refine z_bipush (pc := 17) (zk9 kX4_common_0) (v := (-2)) (by decide) ?_
    refine z_efV (pc := 19) (zk10 kX4_common_0) (st := []) lkX4_56 ivX4_refuse hX.1 rfl rfl (c_xrefuse (i := 0) hX hB (by decide) (by decide) (by decide)) rfl ⟨rfl, rfl⟩ rfl rfl (fun r_ h_4 z_ q_3 => ?_) rfl
    obtain ⟨er_, hR, hU_5, ez_⟩ := q_3
    rw [er_, ez_]
    clear er_ ez_
    replace hL := LnAt.fr hL hU_5 (by omega)
    replace hU := hU.tr hU_5 (by omega) (by omega)
    replace hK := XR.fr hK hU_5 (by omega)
    replace hX := hR; clear hR
    show Z D B xX4_common _ _ _ 22 _ [.int (-2)] _ _
    exact z_iret (pc := 22) (zk11 kX4_common_0) rfl (Nat.zero_le _) (Nat.zero_le _) (by
            rw [show sp_common σ τ ε x y = ((-2), σ, (rfN τ 2), ε) from by simp [sp_common, sBad, okS, okH, okL, okT, okB, sRd, up2_id, up2_id2, oI, sOther, sNone, sFull, c_1, c_2]]
            exact ⟨rfl, hX, hL, hK, hU, rfl⟩)
  · have c_6 : okR 0 (σ 9 0 - 1) x = true := by simpa using c_1
    refine z_aload_n (pc := 8) (zk4 kX4_common_0) rfl ?_
    refine z_iload_n (pc := 9) (zk5 kX4_common_0) rfl ?_
    refine z_rdV (pc := 10) (zk6 kX4_common_0) (st := []) lkX4_99 ivX4_noLetter hX.1 rfl rfl (c_noLetter hX hL) rfl ⟨rfl, rfl⟩ rfl rfl ?_ rfl
    refine z_oif_eq (pc := 13) (zk7 kX4_common_0) (tgt := 23) (by decide) (fun c_7 => ?_) (fun c_7 => ?_)
    · have c_8 : okR 0 (σ 9 0 - 1) y = true := by simpa using c_7
      refine z_aload_n (pc := 23) (zk12 kX4_common_0) rfl ?_
      refine z_getf (pc := 24) (zk13 kX4_common_0) flX4_10 hX.1 gXo_0 ?_
      refine z_iload_n (pc := 27) (zk14 kX4_common_0) rfl ?_
      obtain ⟨kx, hkx, rfl⟩ := okR_nI (n := m) (by omega) (by rw [← hm]; exact c_6)
      refine z_rdV (pc := 28) (zk15 kX4_common_0) (st := []) lkX4_207 ivX1_knowers hL.1 rfl rfl (c_knowers hL hn h12 (show kx < 8 by omega)) rfl ⟨rfl, rfl⟩ rfl rfl ?_ rfl
      refine z_aload_n (pc := 31) (zk0 kX4_common_1) rfl ?_
      refine z_getf (pc := 32) (zk1 kX4_common_1) flX4_10 hX.1 gXo_0 ?_
      refine z_iload_n (pc := 35) (zk2 kX4_common_1) rfl ?_
      obtain ⟨ky, hky, rfl⟩ := okR_nI (n := m) (by omega) (by rw [← hm]; exact c_8)
      refine z_rdV (pc := 36) (zk3 kX4_common_1) (st := [.int (knowersF σ kx)]) lkX4_207 ivX1_knowers hL.1 rfl rfl (c_knowers hL hn h12 (show ky < 8 by omega)) rfl ⟨rfl, rfl⟩ rfl rfl ?_ rfl
      refine z_iand (pc := 39) (zk4 kX4_common_1) ?_
      exact z_iret (pc := 40) (zk5 kX4_common_1) rfl (Nat.zero_le _) (Nat.zero_le _) (by
                rw [show sp_common σ τ ε (nI kx) (nI ky) = ((knowersF σ kx) &&& (knowersF σ ky), σ, τ, ε) from by simp [sp_common, sBad, okS, okH, okL, okT, okB, sRd, up2_id, up2_id2, oI, sOther, sNone, sFull, c_1, c_6, c_7, c_8, ix_nI (show kx ≤ 1000 by omega), ix_nI (show ky ≤ 1000 by omega)]]
                exact ⟨rfl, hX, hL, hK, hU, rfl⟩)
    · have c_9 : okR 0 (σ 9 0 - 1) y = false := by simpa using c_7
      refine z_aload_n (pc := 16) (zk8 kX4_common_0) rfl ?_
      refine z_bipush (pc := 17) (zk9 kX4_common_0) (v := (-2)) (by decide) ?_
      refine z_efV (pc := 19) (zk10 kX4_common_0) (st := []) lkX4_56 ivX4_refuse hX.1 rfl rfl (c_xrefuse (i := 0) hX hB (by decide) (by decide) (by decide)) rfl ⟨rfl, rfl⟩ rfl rfl (fun r_ h_11 z_ q_10 => ?_) rfl
      obtain ⟨er_, hR, hU_12, ez_⟩ := q_10
      rw [er_, ez_]
      clear er_ ez_
      replace hL := LnAt.fr hL hU_12 (by omega)
      replace hU := hU.tr hU_12 (by omega) (by omega)
      replace hK := XR.fr hK hU_12 (by omega)
      replace hX := hR; clear hR
      show Z D B xX4_common _ _ _ 22 _ [.int (-2)] _ _
      exact z_iret (pc := 22) (zk11 kX4_common_0) rfl (Nat.zero_le _) (Nat.zero_le _) (by
                rw [show sp_common σ τ ε x y = ((-2), σ, (rfN τ 2), ε) from by simp [sp_common, sBad, okS, okH, okL, okT, okB, sRd, up2_id, up2_id2, oI, sOther, sNone, sFull, c_1, c_6, c_7, c_9]]
                exact ⟨rfl, hX, hL, hK, hU, rfl⟩)
set_option maxRecDepth 20000 in
theorem cX_alike {D : zD} {B : Nat} {h : zH} {sz : Nat} {p : Nat} {σ κ τ : Ln} {ε : El} {ik : Int32} {x : Int32} {y : Int32} {n m : Nat} (hX : XoAt h p ik (rfo τ)) (hL : LnAt h (p + 1) σ) (hK : XR h p κ τ ε) (hB : B ≤ p) (hn : σ 0 0 = nI n) (h12 : n ≤ 12) (hm : σ 9 0 = nI m) (h8 : m ≤ 8) : zM D B xX4_alike [.ref p, .int x, .int y] h sz (xQ h p sz ik κ (sp_alike σ τ ε x y)) := by
  have hU : Upd h h p 51 := Upd.rf
  refine zM.of (by decide) rfl (n := 0) ?_
  show Z D B xX4_alike 0 0 _ 0 [some (.ref p), some (.int x), some (.int y)] [] h sz
  refine z_aload_n (pc := 0) (zk0 kX4_alike_0) rfl ?_
  refine z_iload_n (pc := 1) (zk1 kX4_alike_0) rfl ?_
  refine z_rdV (pc := 2) (zk2 kX4_alike_0) (st := []) lkX4_132 ivX4_noHouse hX.1 rfl rfl (c_noHouse hX hL) rfl ⟨rfl, rfl⟩ rfl rfl ?_ rfl
  refine z_oif_ne (pc := 5) (zk3 kX4_alike_0) (tgt := 16) (by decide) (fun c_1 => ?_) (fun c_1 => ?_)
  · have c_2 : okR 0 (σ 0 0 - 1) x = false := by simpa using c_1
    refine z_aload_n (pc := 16) (zk8 kX4_alike_0) rfl ?_
    refine z_bipush (pc := 17) (zk9 kX4_alike_0) (v := (-2)) (by decide) ?_
    refine z_efV (pc := 19) (zk10 kX4_alike_0) (st := []) lkX4_56 ivX4_refuse hX.1 rfl rfl (c_xrefuse (i := 0) hX hB (by decide) (by decide) (by decide)) rfl ⟨rfl, rfl⟩ rfl rfl (fun r_ h_4 z_ q_3 => ?_) rfl
    obtain ⟨er_, hR, hU_5, ez_⟩ := q_3
    rw [er_, ez_]
    clear er_ ez_
    replace hL := LnAt.fr hL hU_5 (by omega)
    replace hU := hU.tr hU_5 (by omega) (by omega)
    replace hK := XR.fr hK hU_5 (by omega)
    replace hX := hR; clear hR
    show Z D B xX4_alike _ _ _ 22 _ [.int (-2)] _ _
    exact z_iret (pc := 22) (zk11 kX4_alike_0) rfl (Nat.zero_le _) (Nat.zero_le _) (by
            rw [show sp_alike σ τ ε x y = ((-2), σ, (rfN τ 2), ε) from by simp [sp_alike, sBad, okS, okH, okL, okT, okB, sRd, up2_id, up2_id2, oI, sOther, sNone, sFull, c_1, c_2]]
            exact ⟨rfl, hX, hL, hK, hU, rfl⟩)
  · have c_6 : okR 0 (σ 0 0 - 1) x = true := by simpa using c_1
    refine z_aload_n (pc := 8) (zk4 kX4_alike_0) rfl ?_
    refine z_iload_n (pc := 9) (zk5 kX4_alike_0) rfl ?_
    refine z_rdV (pc := 10) (zk6 kX4_alike_0) (st := []) lkX4_132 ivX4_noHouse hX.1 rfl rfl (c_noHouse hX hL) rfl ⟨rfl, rfl⟩ rfl rfl ?_ rfl
    refine z_oif_eq (pc := 13) (zk7 kX4_alike_0) (tgt := 23) (by decide) (fun c_7 => ?_) (fun c_7 => ?_)
    · have c_8 : okR 0 (σ 0 0 - 1) y = true := by simpa using c_7
      refine z_aload_n (pc := 23) (zk12 kX4_alike_0) rfl ?_
      refine z_getf (pc := 24) (zk13 kX4_alike_0) flX4_10 hX.1 gXo_0 ?_
      refine z_iload_n (pc := 27) (zk14 kX4_alike_0) rfl ?_
      obtain ⟨kx, hkx, rfl⟩ := okR_nI (n := n) (by omega) (by rw [← hn]; exact c_6)
      refine z_rdV (pc := 28) (zk15 kX4_alike_0) (st := []) lkX4_210 ivX1_knownAt hL.1 rfl rfl (c_knownAt hL hn h12 hm h8 (show kx < n by omega)) rfl ⟨rfl, rfl⟩ rfl rfl ?_ rfl
      refine z_aload_n (pc := 31) (zk0 kX4_alike_1) rfl ?_
      refine z_getf (pc := 32) (zk1 kX4_alike_1) flX4_10 hX.1 gXo_0 ?_
      refine z_iload_n (pc := 35) (zk2 kX4_alike_1) rfl ?_
      obtain ⟨ky, hky, rfl⟩ := okR_nI (n := n) (by omega) (by rw [← hn]; exact c_8)
      refine z_rdV (pc := 36) (zk3 kX4_alike_1) (st := [.int (knownF σ kx)]) lkX4_210 ivX1_knownAt hL.1 rfl rfl (c_knownAt hL hn h12 hm h8 (show ky < n by omega)) rfl ⟨rfl, rfl⟩ rfl rfl ?_ rfl
      refine z_icmp_ne (pc := 39) (zk4 kX4_alike_1) (tgt := 46) (by decide) (fun c_9 => ?_) (fun c_9 => ?_)
      · refine z_iconst (pc := 46) (zk7 kX4_alike_1) (v := 0) (by decide) ?_
        refine z_rdS (pc := 47) (zk8 kX4_alike_1) (st := []) lkX4_166 isX4_asNumber (c_asNumber (b := false)) rfl ⟨rfl, rfl⟩ rfl rfl ?_ rfl
        exact z_iret (pc := 50) (zk9 kX4_alike_1) rfl (Nat.zero_le _) (Nat.zero_le _) (by
                    rw [show sp_alike σ τ ε (nI kx) (nI ky) = (0, σ, τ, ε) from by simp [sp_alike, sBad, okS, okH, okL, okT, okB, sRd, up2_id, up2_id2, oI, sOther, sNone, sFull, c_1, c_6, c_7, c_8, c_9, ix_nI (show kx ≤ 1000 by omega), ix_nI (show ky ≤ 1000 by omega)]]
                    exact ⟨rfl, hX, hL, hK, hU, rfl⟩)
      · refine z_iconst (pc := 42) (zk5 kX4_alike_1) (v := 1) (by decide) ?_
        refine z_goto (pc := 43) (zk6 kX4_alike_1) (tgt := 47) (by decide) ?_
        refine z_rdS (pc := 47) (zk8 kX4_alike_1) (st := []) lkX4_166 isX4_asNumber (c_asNumber (b := true)) rfl ⟨rfl, rfl⟩ rfl rfl ?_ rfl
        exact z_iret (pc := 50) (zk9 kX4_alike_1) rfl (Nat.zero_le _) (Nat.zero_le _) (by
                    rw [show sp_alike σ τ ε (nI kx) (nI ky) = (1, σ, τ, ε) from by simp [sp_alike, sBad, okS, okH, okL, okT, okB, sRd, up2_id, up2_id2, oI, sOther, sNone, sFull, c_1, c_6, c_7, c_8, c_9, ix_nI (show kx ≤ 1000 by omega), ix_nI (show ky ≤ 1000 by omega)]]
                    exact ⟨rfl, hX, hL, hK, hU, rfl⟩)
    · have c_10 : okR 0 (σ 0 0 - 1) y = false := by simpa using c_7
      refine z_aload_n (pc := 16) (zk8 kX4_alike_0) rfl ?_
      refine z_bipush (pc := 17) (zk9 kX4_alike_0) (v := (-2)) (by decide) ?_
      refine z_efV (pc := 19) (zk10 kX4_alike_0) (st := []) lkX4_56 ivX4_refuse hX.1 rfl rfl (c_xrefuse (i := 0) hX hB (by decide) (by decide) (by decide)) rfl ⟨rfl, rfl⟩ rfl rfl (fun r_ h_12 z_ q_11 => ?_) rfl
      obtain ⟨er_, hR, hU_13, ez_⟩ := q_11
      rw [er_, ez_]
      clear er_ ez_
      replace hL := LnAt.fr hL hU_13 (by omega)
      replace hU := hU.tr hU_13 (by omega) (by omega)
      replace hK := XR.fr hK hU_13 (by omega)
      replace hX := hR; clear hR
      show Z D B xX4_alike _ _ _ 22 _ [.int (-2)] _ _
      exact z_iret (pc := 22) (zk11 kX4_alike_0) rfl (Nat.zero_le _) (Nat.zero_le _) (by
                rw [show sp_alike σ τ ε x y = ((-2), σ, (rfN τ 2), ε) from by simp [sp_alike, sBad, okS, okH, okL, okT, okB, sRd, up2_id, up2_id2, oI, sOther, sNone, sFull, c_1, c_6, c_7, c_10]]
                exact ⟨rfl, hX, hL, hK, hU, rfl⟩)
