theorem size_nn {τ : Ln} {m s : Nat} (hS : SW τ m) (hs : s < 8) (h2 : ¬ τ 1 s = 2) (h0 : ¬ τ 1 s = 0) : ¬ τ 3 s < 0 := by
  obtain ⟨_, _, r, hr, e⟩ := SW_row hS hs h2 h0
  rw [e]; exact nI_pos (by omega)
set_option maxRecDepth 20000 in
theorem cX_set {D : zD} {B : Nat} {h : zH} {sz : Nat} {p : Nat} {σ κ τ : Ln} {ε : El} {ik : Int32} {x : Int32} {y : Int32} {v : Int64} {n m : Nat} (hX : XoAt h p ik (rfo τ)) (hL : LnAt h (p + 1) σ) (hK : XR h p κ τ ε) (hB : B ≤ p) (hn : σ 0 0 = nI n) (h12 : n ≤ 12) (hm : σ 9 0 = nI m) (h8 : m ≤ 8) (hbk : σ 6 0 = 0 ∨ σ 6 0 = 1) (htn : ∀ l, l < m → ∃ t, t < n ∧ σ 12 l = nI t) (hlen : ∀ l, l < m → ∃ g, 1 ≤ g ∧ g ≤ 40 ∧ σ 13 l = nI g) (h2 : 2 ≤ n) (hS : SW τ m) : zM D B xX4_set [.ref p, .int x, .int y, .long v] h sz (xQ h p sz ik κ (sp_set σ τ ε x y v)) := by
  have hU : Upd h h p 51 := Upd.rf
  refine zM.of (by decide) rfl (n := 1) ?_
  show Z D B xX4_set 0 0 _ 0 [some (.ref p), some (.int x), some (.int y), some (.long v), none, none] [] h sz
  refine z_aload_n (pc := 0) (zk0 kX4_set_0) rfl ?_
  refine z_iload_n (pc := 1) (zk1 kX4_set_0) rfl ?_
  refine z_rdV (pc := 2) (zk2 kX4_set_0) (st := []) lkX4_48 ivX4_noShelf hX.1 rfl rfl (c_noShelf hX hL) rfl ⟨rfl, rfl⟩ rfl rfl ?_ rfl
  refine z_oif_eq (pc := 5) (zk3 kX4_set_0) (tgt := 15) (by decide) (fun c_1 => ?_) (fun c_1 => ?_)
  · have c_2 : okR 0 7 x = true := by simpa using c_1
    refine z_aload_n (pc := 15) (zk8 kX4_set_0) rfl ?_
    refine z_getf (pc := 16) (zk9 kX4_set_0) flX4_28 hX.1 gXo_3 ?_
    refine z_iload_n (pc := 19) (zk10 kX4_set_0) rfl ?_
    obtain ⟨kx, hkx, rfl⟩ := okR_c (c := 7) (by decide) c_2
    refine z_aald3N (pc := 20) (zk11 kX4_set_0) (j := kx) (b := p + 32 + 2 * kx) hX.2.1 (show kx < 8 by omega) rfl (if_pos (show kx < 8 by omega)) ?_
    refine z_iconst (pc := 21) (zk12 kX4_set_0) (v := 0) (by decide) ?_
    refine z_rdV (pc := 22) (zk13 kX4_set_0) (st := []) lkX4_64 ivX2_rowFault (hK.2.2.1 kx (show kx < 8 by omega)).1 rfl rfl (c_xFault (hK.2.2.1 kx (show kx < 8 by omega)) hS h8 (show kx < 8 by omega)) rfl ⟨rfl, rfl⟩ rfl rfl ?_ rfl
    by_cases f2_ : τ 1 kx = 2
    · refine z_top (congrArg Value.int (show _ = ((-3) : Int32) from by rw [if_pos f2_])) ?_
      refine z_istore (pc := 25) (zk14 kX4_set_0) rfl rfl ?_
      show Z D B xX4_set _ _ _ 27 [some (.ref p), some (.int (nI kx)), some (.int y), some (.long v), none, some (.int (-3))] _ _ _
      refine z_iload (pc := 27) (zk15 kX4_set_0) rfl ?_
      refine z_if_eq (pc := 29) (zk0 kX4_set_1) (tgt := 39) (by decide) (fun q => absurd q (by decide)) (fun _ => ?_)
      refine z_aload_n (pc := 32) (zk1 kX4_set_1) rfl ?_
      refine z_iload (pc := 33) (zk2 kX4_set_1) rfl ?_
      refine z_efV (pc := 35) (zk3 kX4_set_1) (st := []) lkX4_56 ivX4_refuse hX.1 rfl rfl (c_xrefuse (i := 1) hX hB (by decide) (by decide) (by decide)) rfl ⟨rfl, rfl⟩ rfl rfl (fun r_ h_4 z_ q_3 => ?_) rfl
      obtain ⟨er_, hR, hU_5, ez_⟩ := q_3
      rw [er_, ez_]
      clear er_ ez_
      replace hL := LnAt.fr hL hU_5 (by omega)
      replace hU := hU.tr hU_5 (by omega) (by omega)
      replace hK := XR.fr hK hU_5 (by omega)
      replace hX := hR; clear hR
      show Z D B xX4_set _ _ _ 38 _ [.int (-3)] _ _
      exact z_iret (pc := 38) (zk4 kX4_set_1) rfl (Nat.zero_le _) (Nat.zero_le _) (by
                rw [show sp_set σ τ ε (nI kx) y v = ((-3), σ, (rfN τ 3), ε) from by simp [sp_set, sBad, okS, okH, okL, okT, okB, sRd, up2_id, up2_id2, oI, sOther, sNone, sFull, c_1, c_2, f2_, ix_nI (show kx ≤ 1000 by omega)]]
                exact ⟨rfl, hX, hL, hK, hU, rfl⟩)
    by_cases f0_ : τ 1 kx = 0
    · refine z_top (congrArg Value.int (show _ = ((-4) : Int32) from by rw [if_neg f2_, if_pos f0_])) ?_
      refine z_istore (pc := 25) (zk14 kX4_set_0) rfl rfl ?_
      show Z D B xX4_set _ _ _ 27 [some (.ref p), some (.int (nI kx)), some (.int y), some (.long v), none, some (.int (-4))] _ _ _
      refine z_iload (pc := 27) (zk15 kX4_set_0) rfl ?_
      refine z_if_eq (pc := 29) (zk0 kX4_set_1) (tgt := 39) (by decide) (fun q => absurd q (by decide)) (fun _ => ?_)
      refine z_aload_n (pc := 32) (zk1 kX4_set_1) rfl ?_
      refine z_iload (pc := 33) (zk2 kX4_set_1) rfl ?_
      refine z_efV (pc := 35) (zk3 kX4_set_1) (st := []) lkX4_56 ivX4_refuse hX.1 rfl rfl (c_xrefuse (i := 2) hX hB (by decide) (by decide) (by decide)) rfl ⟨rfl, rfl⟩ rfl rfl (fun r_ h_7 z_ q_6 => ?_) rfl
      obtain ⟨er_, hR, hU_8, ez_⟩ := q_6
      rw [er_, ez_]
      clear er_ ez_
      replace hL := LnAt.fr hL hU_8 (by omega)
      replace hU := hU.tr hU_8 (by omega) (by omega)
      replace hK := XR.fr hK hU_8 (by omega)
      replace hX := hR; clear hR
      show Z D B xX4_set _ _ _ 38 _ [.int (-4)] _ _
      exact z_iret (pc := 38) (zk4 kX4_set_1) rfl (Nat.zero_le _) (Nat.zero_le _) (by
                rw [show sp_set σ τ ε (nI kx) y v = ((-4), σ, (rfN τ 4), ε) from by simp [sp_set, sBad, okS, okH, okL, okT, okB, sRd, up2_id, up2_id2, oI, sOther, sNone, sFull, c_1, c_2, f2_, f0_, ix_nI (show kx ≤ 1000 by omega)]]
                exact ⟨rfl, hX, hL, hK, hU, rfl⟩)
    by_cases f3_ : τ 3 kx < 0
    · refine z_top (congrArg Value.int (show _ = ((-2) : Int32) from by rw [if_neg f2_, if_neg f0_, if_pos f3_])) ?_
      refine z_istore (pc := 25) (zk14 kX4_set_0) rfl rfl ?_
      show Z D B xX4_set _ _ _ 27 [some (.ref p), some (.int (nI kx)), some (.int y), some (.long v), none, some (.int (-2))] _ _ _
      refine z_iload (pc := 27) (zk15 kX4_set_0) rfl ?_
      refine z_if_eq (pc := 29) (zk0 kX4_set_1) (tgt := 39) (by decide) (fun q => absurd q (by decide)) (fun _ => ?_)
      refine z_aload_n (pc := 32) (zk1 kX4_set_1) rfl ?_
      refine z_iload (pc := 33) (zk2 kX4_set_1) rfl ?_
      refine z_efV (pc := 35) (zk3 kX4_set_1) (st := []) lkX4_56 ivX4_refuse hX.1 rfl rfl (c_xrefuse (i := 0) hX hB (by decide) (by decide) (by decide)) rfl ⟨rfl, rfl⟩ rfl rfl (fun r_ h_10 z_ q_9 => ?_) rfl
      obtain ⟨er_, hR, hU_11, ez_⟩ := q_9
      rw [er_, ez_]
      clear er_ ez_
      replace hL := LnAt.fr hL hU_11 (by omega)
      replace hU := hU.tr hU_11 (by omega) (by omega)
      replace hK := XR.fr hK hU_11 (by omega)
      replace hX := hR; clear hR
      show Z D B xX4_set _ _ _ 38 _ [.int (-2)] _ _
      exact z_iret (pc := 38) (zk4 kX4_set_1) rfl (Nat.zero_le _) (Nat.zero_le _) (by
                rw [show sp_set σ τ ε (nI kx) y v = ((-2), σ, (rfN τ 2), ε) from by exact absurd f3_ (size_nn hS (by omega) f2_ f0_)]
                exact ⟨rfl, hX, hL, hK, hU, rfl⟩)
    refine z_top (congrArg Value.int (show _ = (0 : Int32) from by rw [if_neg f2_, if_neg f0_, if_neg f3_])) ?_
    refine z_istore (pc := 25) (zk14 kX4_set_0) rfl rfl ?_
    show Z D B xX4_set _ _ _ 27 [some (.ref p), some (.int (nI kx)), some (.int y), some (.long v), none, some (.int 0)] _ _ _
    refine z_iload (pc := 27) (zk15 kX4_set_0) rfl ?_
    refine z_if_eq (pc := 29) (zk0 kX4_set_1) (tgt := 39) (by decide) (fun _ => ?_) (fun q => absurd (by decide) q)
    obtain ⟨h1_, -, r_, hr_, er_⟩ := SW_row hS (show kx < 8 by omega) f2_ f0_
    have es_ := (held_1 h1_).2
    have ok_ := okR_nl (x := y) hr_
    rw [← er_, ← es_] at ok_
    refine z_aload_n (pc := 39) (zk5 kX4_set_1) rfl ?_
    refine z_getf (pc := 40) (zk6 kX4_set_1) flX4_28 hX.1 gXo_3 ?_
    refine z_iload_n (pc := 43) (zk7 kX4_set_1) rfl ?_
    refine z_aald3N (pc := 44) (zk8 kX4_set_1) (j := kx) (b := p + 32 + 2 * kx) hX.2.1 (show kx < 8 by omega) rfl (if_pos (show kx < 8 by omega)) ?_
    refine z_iload_n (pc := 45) (zk9 kX4_set_1) rfl ?_
    refine z_rdV (pc := 46) (zk10 kX4_set_1) (st := []) lkX4_67 ivX2_hasElement (hK.2.2.1 kx (show kx < 8 by omega)).1 rfl rfl (c_hasElement (hK.2.2.1 kx (show kx < 8 by omega))) rfl ⟨rfl, rfl⟩ rfl rfl ?_ rfl
    rw [ok_]
    refine z_oif_ne (pc := 49) (zk11 kX4_set_1) (tgt := 59) (by decide) (fun c_12 => ?_) (fun c_12 => ?_)
    · refine z_aload_n (pc := 59) (zk0 kX4_set_2) rfl ?_
      refine z_getf (pc := 60) (zk1 kX4_set_2) flX4_28 hX.1 gXo_3 ?_
      refine z_iload_n (pc := 63) (zk2 kX4_set_2) rfl ?_
      refine z_aald3N (pc := 64) (zk3 kX4_set_2) (j := kx) (b := p + 32 + 2 * kx) hX.2.1 (show kx < 8 by omega) rfl (if_pos (show kx < 8 by omega)) ?_
      refine z_iload_n (pc := 65) (zk4 kX4_set_2) rfl ?_
      refine z_lload_n (pc := 66) (zk5 kX4_set_2) rfl ?_
      obtain ⟨ky, hky, rfl⟩ := okR_nI (n := r_) (by omega) (by rw [← er_, ← es_]; exact c_12)
      refine z_efV (pc := 67) (zk6 kX4_set_2) (st := []) lkX4_70 ivX2_put (hK.2.2.1 kx (show kx < 8 by omega)).1 rfl rfl (c_put (hK.2.2.1 kx (show kx < 8 by omega)) (by omega) (show ky < 40 by omega)) rfl ⟨rfl, rfl⟩ rfl rfl (fun r_ h_14 z_ q_13 => ?_) rfl
      obtain ⟨er_, hR, hU_15, ez_⟩ := q_13
      rw [er_, ez_]
      clear er_ ez_
      replace hX := XoAt.fr hX hU_15 (by omega)
      replace hL := LnAt.fr hL hU_15 (by omega)
      replace hU := hU.tr hU_15 (by omega) (by omega)
      replace hK : XR h_14 p κ τ (upE ε kx ky (fitF (τ 2 kx) v)) := XR.sh hK (show kx < 8 by omega) hU_15 (by rw [show upE ε kx ky (fitF (τ 2 kx) v) kx = vp_updL (ε kx) ky (kptF (heldF τ kx) v) by rw [fit_kpt hS (by omega) f2_ f0_]; simp [upE]]; exact hR) (fun r h1 h2 => ⟨rfl, rfl, by simp [upE, h2]⟩) rfl rfl
      clear hR
      replace hX : XoAt h_14 p ik (rfo τ) := hX
      show Z D B xX4_set _ _ _ 70 _ [] _ _
      refine z_iconst (pc := 70) (zk7 kX4_set_2) (v := 1) (by decide) ?_
      exact z_iret (pc := 71) (zk8 kX4_set_2) rfl (Nat.zero_le _) (Nat.zero_le _) (by
                rw [show sp_set σ τ ε (nI kx) (nI ky) v = (1, σ, τ, (upE ε kx ky (fitF (τ 2 kx) v))) from by simp [sp_set, sBad, okS, okH, okL, okT, okB, sRd, up2_id, up2_id2, oI, sOther, sNone, sFull, c_1, c_2, f2_, f0_, f3_, Int32.not_lt.mp f3_, ix_nI (show kx ≤ 1000 by omega), ix_nI (show ky ≤ 1000 by omega), ← es_, c_12]]
                exact ⟨rfl, hX, hL, hK, hU, rfl⟩)
    · refine z_aload_n (pc := 52) (zk12 kX4_set_1) rfl ?_
      refine z_bipush (pc := 53) (zk13 kX4_set_1) (v := (-2)) (by decide) ?_
      refine z_efV (pc := 55) (zk14 kX4_set_1) (st := []) lkX4_56 ivX4_refuse hX.1 rfl rfl (c_xrefuse (i := 0) hX hB (by decide) (by decide) (by decide)) rfl ⟨rfl, rfl⟩ rfl rfl (fun r_ h_17 z_ q_16 => ?_) rfl
      obtain ⟨er_, hR, hU_18, ez_⟩ := q_16
      rw [er_, ez_]
      clear er_ ez_
      replace hL := LnAt.fr hL hU_18 (by omega)
      replace hU := hU.tr hU_18 (by omega) (by omega)
      replace hK := XR.fr hK hU_18 (by omega)
      replace hX := hR; clear hR
      show Z D B xX4_set _ _ _ 58 _ [.int (-2)] _ _
      exact z_iret (pc := 58) (zk15 kX4_set_1) rfl (Nat.zero_le _) (Nat.zero_le _) (by
                rw [show sp_set σ τ ε (nI kx) y v = ((-2), σ, (rfN τ 2), ε) from by simp [sp_set, sBad, okS, okH, okL, okT, okB, sRd, up2_id, up2_id2, oI, sOther, sNone, sFull, c_1, c_2, f2_, f0_, f3_, Int32.not_lt.mp f3_, ix_nI (show kx ≤ 1000 by omega), ← es_, c_12]]
                exact ⟨rfl, hX, hL, hK, hU, rfl⟩)
  · have c_19 : okR 0 7 x = false := by simpa using c_1
    refine z_aload_n (pc := 8) (zk4 kX4_set_0) rfl ?_
    refine z_bipush (pc := 9) (zk5 kX4_set_0) (v := (-2)) (by decide) ?_
    refine z_efV (pc := 11) (zk6 kX4_set_0) (st := []) lkX4_56 ivX4_refuse hX.1 rfl rfl (c_xrefuse (i := 0) hX hB (by decide) (by decide) (by decide)) rfl ⟨rfl, rfl⟩ rfl rfl (fun r_ h_21 z_ q_20 => ?_) rfl
    obtain ⟨er_, hR, hU_22, ez_⟩ := q_20
    rw [er_, ez_]
    clear er_ ez_
    replace hL := LnAt.fr hL hU_22 (by omega)
    replace hU := hU.tr hU_22 (by omega) (by omega)
    replace hK := XR.fr hK hU_22 (by omega)
    replace hX := hR; clear hR
    show Z D B xX4_set _ _ _ 14 _ [.int (-2)] _ _
    exact z_iret (pc := 14) (zk7 kX4_set_0) rfl (Nat.zero_le _) (Nat.zero_le _) (by
            rw [show sp_set σ τ ε x y v = ((-2), σ, (rfN τ 2), ε) from by simp [sp_set, sBad, okS, okH, okL, okT, okB, sRd, up2_id, up2_id2, oI, sOther, sNone, sFull, c_1, c_19]]
            exact ⟨rfl, hX, hL, hK, hU, rfl⟩)
set_option maxRecDepth 20000 in
theorem cX_says {D : zD} {B : Nat} {h : zH} {sz : Nat} {p : Nat} {σ κ τ : Ln} {ε : El} {ik : Int32} {x : Int32} {y : Int32} {n m : Nat} (hX : XoAt h p ik (rfo τ)) (hL : LnAt h (p + 1) σ) (hK : XR h p κ τ ε) (hB : B ≤ p) (hn : σ 0 0 = nI n) (h12 : n ≤ 12) (hm : σ 9 0 = nI m) (h8 : m ≤ 8) (hbk : σ 6 0 = 0 ∨ σ 6 0 = 1) (htn : ∀ l, l < m → ∃ t, t < n ∧ σ 12 l = nI t) (hlen : ∀ l, l < m → ∃ g, 1 ≤ g ∧ g ≤ 40 ∧ σ 13 l = nI g) (h2 : 2 ≤ n) (hS : SW τ m) (hkd : ∀ l, l < m → ∃ k, k < 6 ∧ σ 10 l = nI k) : zM D B xX4_says [.ref p, .int x, .int y] h sz (xQ h p sz ik κ (sp_says σ τ ε x y)) := by
  have hU : Upd h h p 51 := Upd.rf
  refine zM.of (by decide) rfl (n := 1) ?_
  show Z D B xX4_says 0 0 _ 0 [some (.ref p), some (.int x), some (.int y), none] [] h sz
  refine z_aload_n (pc := 0) (zk0 kX4_says_0) rfl ?_
  refine z_iload_n (pc := 1) (zk1 kX4_says_0) rfl ?_
  refine z_rdV (pc := 2) (zk2 kX4_says_0) (st := []) lkX4_48 ivX4_noShelf hX.1 rfl rfl (c_noShelf hX hL) rfl ⟨rfl, rfl⟩ rfl rfl ?_ rfl
  refine z_oif_ne (pc := 5) (zk3 kX4_says_0) (tgt := 15) (by decide) (fun c_1 => ?_) (fun c_1 => ?_)
  · have c_2 : okR 0 7 x = false := by simpa using c_1
    refine z_aload_n (pc := 15) (zk7 kX4_says_0) rfl ?_
    refine z_bipush (pc := 16) (zk8 kX4_says_0) (v := (-2)) (by decide) ?_
    refine z_efV (pc := 18) (zk9 kX4_says_0) (st := []) lkX4_56 ivX4_refuse hX.1 rfl rfl (c_xrefuse (i := 0) hX hB (by decide) (by decide) (by decide)) rfl ⟨rfl, rfl⟩ rfl rfl (fun r_ h_4 z_ q_3 => ?_) rfl
    obtain ⟨er_, hR, hU_5, ez_⟩ := q_3
    rw [er_, ez_]
    clear er_ ez_
    replace hL := LnAt.fr hL hU_5 (by omega)
    replace hU := hU.tr hU_5 (by omega) (by omega)
    replace hK := XR.fr hK hU_5 (by omega)
    replace hX := hR; clear hR
    show Z D B xX4_says _ _ _ 21 _ [.int (-2)] _ _
    exact z_iret (pc := 21) (zk10 kX4_says_0) rfl (Nat.zero_le _) (Nat.zero_le _) (by
            rw [show sp_says σ τ ε x y = ((-2), σ, (rfN τ 2), ε) from by (simp [sp_says, sBad, okS, okH, okL, okT, okB, sRd, up2_id, up2_id2, oI, sOther, sNone, sFull, c_1, c_2])]
            exact ⟨rfl, hX, hL, hK, hU, rfl⟩)
  · have c_6 : okR 0 7 x = true := by simpa using c_1
    refine z_iload_n (pc := 8) (zk4 kX4_says_0) rfl ?_
    refine z_rdS (pc := 9) (zk5 kX4_says_0) (st := []) lkX4_109 isX4_noKind (c_noKind) rfl ⟨rfl, rfl⟩ rfl rfl ?_ rfl
    refine z_oif_eq (pc := 12) (zk6 kX4_says_0) (tgt := 22) (by decide) (fun c_7 => ?_) (fun c_7 => ?_)
    · have c_8 : okR 0 5 y = true := by simpa using c_7
      refine z_aload_n (pc := 22) (zk11 kX4_says_0) rfl ?_
      refine z_getf (pc := 23) (zk12 kX4_says_0) flX4_28 hX.1 gXo_3 ?_
      refine z_iload_n (pc := 26) (zk13 kX4_says_0) rfl ?_
      obtain ⟨kx, hkx, rfl⟩ := okR_c (c := 7) (by decide) c_6
      refine z_aald3N (pc := 27) (zk14 kX4_says_0) (j := kx) (b := p + 32 + 2 * kx) hX.2.1 (show kx < 8 by omega) rfl (if_pos (show kx < 8 by omega)) ?_
      refine z_rdV (pc := 28) (zk15 kX4_says_0) (st := []) lkX4_78 ivX2_holdsNothing (hK.2.2.1 kx (show kx < 8 by omega)).1 rfl rfl (c_xNothing (hK.2.2.1 kx (show kx < 8 by omega)) hS h8 (show kx < 8 by omega)) rfl ⟨rfl, rfl⟩ rfl rfl ?_ rfl
      refine z_oif_eq (pc := 31) (zk0 kX4_says_1) (tgt := 41) (by decide) (fun c_9 => ?_) (fun c_9 => ?_)
      · refine z_aload_n (pc := 41) (zk5 kX4_says_1) rfl ?_
        refine z_getf (pc := 42) (zk6 kX4_says_1) flX4_28 hX.1 gXo_3 ?_
        refine z_iload_n (pc := 45) (zk7 kX4_says_1) rfl ?_
        refine z_aald3N (pc := 46) (zk8 kX4_says_1) (j := kx) (b := p + 32 + 2 * kx) hX.2.1 (show kx < 8 by omega) rfl (if_pos (show kx < 8 by omega)) ?_
        refine z_rdV (pc := 47) (zk9 kX4_says_1) (st := []) lkX4_112 ivX2_shownLetter (hK.2.2.1 kx (show kx < 8 by omega)).1 rfl rfl (c_xShown (hK.2.2.1 kx (show kx < 8 by omega)) hS h8 (show kx < 8 by omega)) rfl ⟨rfl, rfl⟩ rfl rfl ?_ rfl
        have f0_ := of_decide_eq_false c_9
        by_cases f2_ : τ 1 kx = 2
        · obtain ⟨l_, hl_, el_⟩ := SW_shown hS (by omega) f2_
          refine z_top (congrArg Value.int (show _ = nI l_ from by rw [if_pos f2_, el_])) ?_
          refine z_istore_n (pc := 50) (zk10 kX4_says_1) rfl rfl ?_
          show Z D B xX4_says _ _ _ 51 [some (.ref p), some (.int (nI kx)), some (.int y), some (.int (nI l_))] _ _ _
          refine z_aload_n (pc := 51) (zk11 kX4_says_1) rfl ?_
          refine z_iload_n (pc := 52) (zk12 kX4_says_1) rfl ?_
          refine z_rdV (pc := 53) (zk13 kX4_says_1) (st := []) lkX4_99 ivX4_noLetter hX.1 rfl rfl (c_noLetter hX hL) rfl ⟨rfl, rfl⟩ rfl rfl ?_ rfl
          refine z_oif_ne (pc := 56) (zk14 kX4_says_1) (tgt := 75) (by decide) (fun q => by rw [(okL_k hm h8 hl_)] at q; cases q) (fun _ => ?_)
          refine z_aload_n (pc := 59) (zk15 kX4_says_1) rfl ?_
          refine z_getf (pc := 60) (zk0 kX4_says_2) flX4_10 hX.1 gXo_0 ?_
          refine z_getf (pc := 63) (zk1 kX4_says_2) flX4_116 hL.1 gLn_10 ?_
          refine z_iload_n (pc := 66) (zk2 kX4_says_2) rfl ?_
          refine z_ialdN (pc := 67) (zk3 kX4_says_2) (f := σ 10) (j := l_) hL.2.2.2.2.2.1 (show l_ < 8 by omega) rfl ?_
          refine z_iload_n (pc := 68) (zk4 kX4_says_2) rfl ?_
          refine z_rdS (pc := 69) (zk5 kX4_says_2) (st := []) lkX4_119 isX4_isOrStandsUnder (c_isU (hkd _ (by omega))) rfl ⟨rfl, rfl⟩ rfl rfl ?_ rfl
          refine z_oif_ne (pc := 72) (zk6 kX4_says_2) (tgt := 82) (by decide) (fun c_10 => ?_) (fun c_10 => ?_)
          · refine z_iload_n (pc := 82) (zk11 kX4_says_2) rfl ?_
            refine z_if_ne (pc := 83) (zk12 kX4_says_2) (tgt := 98) (by decide) (fun c_11 => ?_) (fun c_11 => ?_)
            · refine z_aload_n (pc := 98) (zk3 kX4_says_3) rfl ?_
              refine z_getf (pc := 99) (zk4 kX4_says_3) flX4_10 hX.1 gXo_0 ?_
              refine z_iload_n (pc := 102) (zk5 kX4_says_3) rfl ?_
              refine z_iconst (pc := 103) (zk6 kX4_says_3) (v := 0) (by decide) ?_
              refine z_rdV (pc := 104) (zk7 kX4_says_3) (st := []) lkX4_125 ivX1_heardAt hL.1 rfl rfl (c_heardAt hL hn h12 (show l_ < 8 by omega) (show 0 < n by omega)) rfl ⟨rfl, rfl⟩ rfl rfl ?_ rfl
              exact z_iret (pc := 107) (zk8 kX4_says_3) rfl (Nat.zero_le _) (Nat.zero_le _) (by
                                rw [show sp_says σ τ ε (nI kx) y = (heardF σ l_ 0, σ, τ, ε) from by (simp [sp_says, sBad, okS, okH, okL, okT, okB, sRd, up2_id, up2_id2, oI, sOther, sNone, sFull, c_1, c_6, c_7, c_8, f2_, f0_, el_, c_10, c_11, ix_nI (show kx ≤ 1000 by omega), ix_nI (show l_ ≤ 1000 by omega)])]
                                exact ⟨rfl, hX, hL, hK, hU, rfl⟩)
            · refine z_aload_n (pc := 86) (zk13 kX4_says_2) rfl ?_
              refine z_getf (pc := 87) (zk14 kX4_says_2) flX4_10 hX.1 gXo_0 ?_
              refine z_getf (pc := 90) (zk15 kX4_says_2) flX4_122 hL.1 gLn_11 ?_
              refine z_iload_n (pc := 93) (zk0 kX4_says_3) rfl ?_
              refine z_ialdN (pc := 94) (zk1 kX4_says_3) (f := σ 11) (j := l_) hL.2.2.2.2.2.2.1 (show l_ < 8 by omega) rfl ?_
              refine z_goto (pc := 95) (zk2 kX4_says_3) (tgt := 107) (by decide) ?_
              exact z_iret (pc := 107) (zk8 kX4_says_3) rfl (Nat.zero_le _) (Nat.zero_le _) (by
                                rw [show sp_says σ τ ε (nI kx) y = (σ 11 l_, σ, τ, ε) from by (subst c_11; simp [sp_says, sBad, okS, okH, okL, okT, okB, sRd, up2_id, up2_id2, oI, sOther, sNone, sFull, c_1, c_6, c_7, c_8, f2_, f0_, el_, c_10, ix_nI (show kx ≤ 1000 by omega), ix_nI (show l_ ≤ 1000 by omega)])]
                                exact ⟨rfl, hX, hL, hK, hU, rfl⟩)
          · refine z_aload_n (pc := 75) (zk7 kX4_says_2) rfl ?_
            refine z_bipush (pc := 76) (zk8 kX4_says_2) (v := (-3)) (by decide) ?_
            refine z_efV (pc := 78) (zk9 kX4_says_2) (st := []) lkX4_56 ivX4_refuse hX.1 rfl rfl (c_xrefuse (i := 1) hX hB (by decide) (by decide) (by decide)) rfl ⟨rfl, rfl⟩ rfl rfl (fun r_ h_13 z_ q_12 => ?_) rfl
            obtain ⟨er_, hR, hU_14, ez_⟩ := q_12
            rw [er_, ez_]
            clear er_ ez_
            replace hL := LnAt.fr hL hU_14 (by omega)
            replace hU := hU.tr hU_14 (by omega) (by omega)
            replace hK := XR.fr hK hU_14 (by omega)
            replace hX := hR; clear hR
            show Z D B xX4_says _ _ _ 81 _ [.int (-3)] _ _
            exact z_iret (pc := 81) (zk10 kX4_says_2) rfl (Nat.zero_le _) (Nat.zero_le _) (by
                            rw [show sp_says σ τ ε (nI kx) y = ((-3), σ, (rfN τ 3), ε) from by (simp [sp_says, sBad, okS, okH, okL, okT, okB, sRd, up2_id, up2_id2, oI, sOther, sNone, sFull, c_1, c_6, c_7, c_8, f2_, f0_, el_, c_10, ix_nI (show kx ≤ 1000 by omega), ix_nI (show l_ ≤ 1000 by omega)])]
                            exact ⟨rfl, hX, hL, hK, hU, rfl⟩)
        · have f1_ := (SW_row hS (show kx < 8 by omega) f2_ f0_).1
          refine z_top (congrArg Value.int (show _ = (-1 : Int32) from by rw [if_neg f2_])) ?_
          refine z_istore_n (pc := 50) (zk10 kX4_says_1) rfl rfl ?_
          show Z D B xX4_says _ _ _ 51 [some (.ref p), some (.int (nI kx)), some (.int y), some (.int (-1))] _ _ _
          refine z_aload_n (pc := 51) (zk11 kX4_says_1) rfl ?_
          refine z_iload_n (pc := 52) (zk12 kX4_says_1) rfl ?_
          refine z_rdV (pc := 53) (zk13 kX4_says_1) (st := []) lkX4_99 ivX4_noLetter hX.1 rfl rfl (c_noLetter hX hL) rfl ⟨rfl, rfl⟩ rfl rfl ?_ rfl
          refine z_oif_ne (pc := 56) (zk14 kX4_says_1) (tgt := 75) (by decide) (fun _ => ?_) (fun q => by rw [okL_m1] at q; cases q)
          refine z_aload_n (pc := 75) (zk7 kX4_says_2) rfl ?_
          refine z_bipush (pc := 76) (zk8 kX4_says_2) (v := (-3)) (by decide) ?_
          refine z_efV (pc := 78) (zk9 kX4_says_2) (st := []) lkX4_56 ivX4_refuse hX.1 rfl rfl (c_xrefuse (i := 1) hX hB (by decide) (by decide) (by decide)) rfl ⟨rfl, rfl⟩ rfl rfl (fun r_ h_16 z_ q_15 => ?_) rfl
          obtain ⟨er_, hR, hU_17, ez_⟩ := q_15
          rw [er_, ez_]
          clear er_ ez_
          replace hL := LnAt.fr hL hU_17 (by omega)
          replace hU := hU.tr hU_17 (by omega) (by omega)
          replace hK := XR.fr hK hU_17 (by omega)
          replace hX := hR; clear hR
          show Z D B xX4_says _ _ _ 81 _ [.int (-3)] _ _
          exact z_iret (pc := 81) (zk10 kX4_says_2) rfl (Nat.zero_le _) (Nat.zero_le _) (by
                        rw [show sp_says σ τ ε (nI kx) y = ((-3), σ, (rfN τ 3), ε) from by (simp [sp_says, sBad, okS, okH, okL, okT, okB, sRd, up2_id, up2_id2, oI, sOther, sNone, sFull, c_1, c_6, c_7, c_8, f2_, f0_, f1_, ix_nI (show kx ≤ 1000 by omega)])]
                        exact ⟨rfl, hX, hL, hK, hU, rfl⟩)
      · refine z_aload_n (pc := 34) (zk1 kX4_says_1) rfl ?_
        refine z_bipush (pc := 35) (zk2 kX4_says_1) (v := (-4)) (by decide) ?_
        refine z_efV (pc := 37) (zk3 kX4_says_1) (st := []) lkX4_56 ivX4_refuse hX.1 rfl rfl (c_xrefuse (i := 2) hX hB (by decide) (by decide) (by decide)) rfl ⟨rfl, rfl⟩ rfl rfl (fun r_ h_19 z_ q_18 => ?_) rfl
        obtain ⟨er_, hR, hU_20, ez_⟩ := q_18
        rw [er_, ez_]
        clear er_ ez_
        replace hL := LnAt.fr hL hU_20 (by omega)
        replace hU := hU.tr hU_20 (by omega) (by omega)
        replace hK := XR.fr hK hU_20 (by omega)
        replace hX := hR; clear hR
        show Z D B xX4_says _ _ _ 40 _ [.int (-4)] _ _
        exact z_iret (pc := 40) (zk4 kX4_says_1) rfl (Nat.zero_le _) (Nat.zero_le _) (by
                    rw [show sp_says σ τ ε (nI kx) y = ((-4), σ, (rfN τ 4), ε) from by (simp [sp_says, sBad, okS, okH, okL, okT, okB, sRd, up2_id, up2_id2, oI, sOther, sNone, sFull, c_1, c_6, c_7, c_8, ix_nI (show kx ≤ 1000 by omega), of_decide_eq_true c_9, show ¬ (0 : Int32) = 1 from by decide])]
                    exact ⟨rfl, hX, hL, hK, hU, rfl⟩)
    · have c_21 : okR 0 5 y = false := by simpa using c_7
      refine z_aload_n (pc := 15) (zk7 kX4_says_0) rfl ?_
      refine z_bipush (pc := 16) (zk8 kX4_says_0) (v := (-2)) (by decide) ?_
      refine z_efV (pc := 18) (zk9 kX4_says_0) (st := []) lkX4_56 ivX4_refuse hX.1 rfl rfl (c_xrefuse (i := 0) hX hB (by decide) (by decide) (by decide)) rfl ⟨rfl, rfl⟩ rfl rfl (fun r_ h_23 z_ q_22 => ?_) rfl
      obtain ⟨er_, hR, hU_24, ez_⟩ := q_22
      rw [er_, ez_]
      clear er_ ez_
      replace hL := LnAt.fr hL hU_24 (by omega)
      replace hU := hU.tr hU_24 (by omega) (by omega)
      replace hK := XR.fr hK hU_24 (by omega)
      replace hX := hR; clear hR
      show Z D B xX4_says _ _ _ 21 _ [.int (-2)] _ _
      exact z_iret (pc := 21) (zk10 kX4_says_0) rfl (Nat.zero_le _) (Nat.zero_le _) (by
                rw [show sp_says σ τ ε x y = ((-2), σ, (rfN τ 2), ε) from by (simp [sp_says, sBad, okS, okH, okL, okT, okB, sRd, up2_id, up2_id2, oI, sOther, sNone, sFull, c_1, c_6, c_7, c_21])]
                exact ⟨rfl, hX, hL, hK, hU, rfl⟩)
set_option maxRecDepth 20000 in
theorem cX_element {D : zD} {B : Nat} {h : zH} {sz : Nat} {p m : Nat} {σ κ τ : Ln} {ε : El} {ik x y : Int32} (hX : XoAt h p ik (rfo τ)) (hL : LnAt h (p + 1) σ) (hK : XR h p κ τ ε) (hS : SW τ m) : zRd D B xX4_element [.ref p, .int x, .int y] h sz (.long (sp_element τ ε x y)) := by
  refine zM.of (by decide) rfl (n := 0) ?_
  show Z D B xX4_element 0 0 _ 0 [some (.ref p), some (.int x), some (.int y)] [] h sz
  refine z_aload_n (pc := 0) (zk0 kX4_element_0) rfl ?_
  refine z_iload_n (pc := 1) (zk1 kX4_element_0) rfl ?_
  refine z_rdV (pc := 2) (zk2 kX4_element_0) (st := []) lkX4_48 ivX4_noShelf hX.1 rfl rfl (c_noShelf hX hL) rfl ⟨rfl, rfl⟩ rfl rfl ?_ rfl
  refine z_oif_eq (pc := 5) (zk3 kX4_element_0) (tgt := 10) (by decide) (fun c_1 => ?_) (fun c_1 => ?_)
  · have c_2 : okR 0 7 x = true := by simpa using c_1
    refine z_aload_n (pc := 10) (zk6 kX4_element_0) rfl ?_
    refine z_getf (pc := 11) (zk7 kX4_element_0) flX4_28 hX.1 gXo_3 ?_
    refine z_iload_n (pc := 14) (zk8 kX4_element_0) rfl ?_
    obtain ⟨kx, hkx, rfl⟩ := okR_c (c := 7) (by decide) c_2
    refine z_aald3N (pc := 15) (zk9 kX4_element_0) (j := kx) (b := p + 32 + 2 * kx) hX.2.1 (show kx < 8 by omega) rfl (if_pos (show kx < 8 by omega)) ?_
    refine z_iload_n (pc := 16) (zk10 kX4_element_0) rfl ?_
    refine z_rdV (pc := 17) (zk11 kX4_element_0) (st := []) lkX4_67 ivX2_hasElement (hK.2.2.1 kx (show kx < 8 by omega)).1 rfl rfl (c_hasElement (hK.2.2.1 kx (show kx < 8 by omega))) rfl ⟨rfl, rfl⟩ rfl rfl ?_ rfl
    by_cases h1_ : τ 1 kx = 1
    · obtain ⟨r_, hr_, er_⟩ := SW_row1 hS (show kx < 8 by omega) h1_
      have es_ := (held_1 h1_).2
      have ok_ := okR_nl (x := y) hr_
      rw [← er_, ← es_] at ok_
      rw [ok_]
      refine z_oif_eq (pc := 20) (zk12 kX4_element_0) (tgt := 37) (by decide) (fun c_3 => ?_) (fun c_3 => ?_)
      · refine z_lconst (pc := 37) (zk5 kX4_element_1) (v := 0) (by decide) ?_
        exact z_lret (pc := 38) (zk6 kX4_element_1) rfl (Nat.zero_le _) (Nat.zero_le _) ⟨by simp [sp_element, okS, c_1, c_2, h1_, ix_nI (show kx ≤ 1000 by omega), ← es_, c_3], rfl, rfl⟩
      · refine z_aload_n (pc := 23) (zk13 kX4_element_0) rfl ?_
        refine z_getf (pc := 24) (zk14 kX4_element_0) flX4_28 hX.1 gXo_3 ?_
        refine z_iload_n (pc := 27) (zk15 kX4_element_0) rfl ?_
        refine z_aald3N (pc := 28) (zk0 kX4_element_1) (j := kx) (b := p + 32 + 2 * kx) hX.2.1 (show kx < 8 by omega) rfl (if_pos (show kx < 8 by omega)) ?_
        refine z_getf (pc := 29) (zk1 kX4_element_1) flX4_89 (hK.2.2.1 kx (show kx < 8 by omega)).1 gSh_2 ?_
        refine z_iload_n (pc := 32) (zk2 kX4_element_1) rfl ?_
        obtain ⟨ky, hky, rfl⟩ := okR_nI (n := r_) (by omega) (by rw [← er_, ← es_]; exact c_3)
        refine z_laldN (pc := 33) (zk3 kX4_element_1) (f := (ε kx)) (j := ky) (hK.2.2.1 kx (show kx < 8 by omega)).2 (show ky < 40 by omega) rfl ?_
        refine z_goto (pc := 34) (zk4 kX4_element_1) (tgt := 38) (by decide) ?_
        exact z_lret (pc := 38) (zk6 kX4_element_1) rfl (Nat.zero_le _) (Nat.zero_le _) ⟨by simp [sp_element, okS, c_1, c_2, h1_, ix_nI (show kx ≤ 1000 by omega), ix_nI (show ky ≤ 1000 by omega), ← es_, c_3], rfl, rfl⟩
    have e0_ : (decide (0 ≤ y) && decide (y < sizeF τ kx)) = false := by
      rw [sizeF, if_neg h1_]
      by_cases q : 0 ≤ y
      · rw [decide_eq_false (Int32.not_lt.mpr q), Bool.and_false]
      · rw [decide_eq_false q, Bool.false_and]
    rw [e0_]
    refine z_oif_eq (pc := 20) (zk12 kX4_element_0) (tgt := 37) (by decide) (fun _ => ?_) (fun q => by cases q)
    refine z_lconst (pc := 37) (zk5 kX4_element_1) (v := 0) (by decide) ?_
    exact z_lret (pc := 38) (zk6 kX4_element_1) rfl (Nat.zero_le _) (Nat.zero_le _) ⟨by simp [sp_element, okS, c_1, c_2, h1_, ix_nI (show kx ≤ 1000 by omega)], rfl, rfl⟩
  · have c_4 : okR 0 7 x = false := by simpa using c_1
    refine z_lconst (pc := 8) (zk4 kX4_element_0) (v := 0) (by decide) ?_
    exact z_lret (pc := 9) (zk5 kX4_element_0) rfl (Nat.zero_le _) (Nat.zero_le _) ⟨by simp [sp_element, okS, c_1, c_4], rfl, rfl⟩
theorem rowF_cs (τ : Ln) (x y z : Int32) (b : Bool) : rowF τ x y z b = 2 ∨ rowF τ x y z b = 3 ∨ rowF τ x y z b = 4 ∨ rowF τ x y z b = 0 := by
  unfold rowF
  split
  · exact Or.inl rfl
  · split
    · exact Or.inr (Or.inl rfl)
    · split
      · exact Or.inr (Or.inr (Or.inl rfl))
      · split
        · exact Or.inl rfl
        · exact Or.inr (Or.inr (Or.inr rfl))
set_option maxRecDepth 20000 in
theorem c_toldFault {D : zD} {B : Nat} {h : zH} {sz : Nat} {p m : Nat} {σ κ τ : Ln} {ε : El} {ik x y z : Int32} {b : Bool} (hX : XoAt h p ik (rfo τ)) (hL : LnAt h (p + 1) σ) (hK : XR h p κ τ ε) (h8 : m ≤ 8) (hS : SW τ m) : zRd D B xX4_toldFault [.ref p, .int x, .int y, .int z, .int (oI b)] h sz (.int (-(nI (rowF τ x y (σ 0 0) (okR 0 (σ 9 0 - 1) z && !b))))) := by
  refine zM.of (by decide) rfl (n := 0) ?_
  show Z D B xX4_toldFault 0 0 _ 0 [some (.ref p), some (.int x), some (.int y), some (.int z), some (.int (oI b))] [] h sz
  refine z_aload_n (pc := 0) (zk0 kX4_toldFault_0) rfl ?_
  refine z_iload_n (pc := 1) (zk1 kX4_toldFault_0) rfl ?_
  refine z_rdV (pc := 2) (zk2 kX4_toldFault_0) (st := []) lkX4_48 ivX4_noShelf hX.1 rfl rfl (c_noShelf hX hL) rfl ⟨rfl, rfl⟩ rfl rfl ?_ rfl
  refine z_oif_ne (pc := 5) (zk3 kX4_toldFault_0) (tgt := 36) (by decide) (fun c_1 => ?_) (fun c_1 => ?_)
  · have c_2 : okR 0 7 x = false := by simpa using c_1
    refine z_bipush (pc := 36) (zk1 kX4_toldFault_1) (v := (-2)) (by decide) ?_
    exact z_iret (pc := 38) (zk2 kX4_toldFault_1) rfl (Nat.zero_le _) (Nat.zero_le _) ⟨by simp [rowF, okS, c_1, c_2, show nI 2 = 2 from rfl, show nI 3 = 3 from rfl, show nI 4 = 4 from rfl, show nI 0 = 0 from rfl], rfl, rfl⟩
  · have c_3 : okR 0 7 x = true := by simpa using c_1
    refine z_iload_n (pc := 8) (zk4 kX4_toldFault_0) rfl ?_
    refine z_iconst (pc := 9) (zk5 kX4_toldFault_0) (v := 0) (by decide) ?_
    refine z_aload_n (pc := 10) (zk6 kX4_toldFault_0) rfl ?_
    refine z_getf (pc := 11) (zk7 kX4_toldFault_0) flX4_10 hX.1 gXo_0 ?_
    refine z_getf (pc := 14) (zk8 kX4_toldFault_0) flX4_129 hL.1 (v := .int (σ 0 0)) rfl ?_
    refine z_rdS (pc := 17) (zk9 kX4_toldFault_0) (st := []) lkX4_52 isX4_outside (c_outside) rfl ⟨rfl, rfl⟩ rfl rfl ?_ rfl
    refine z_oif_ne (pc := 20) (zk10 kX4_toldFault_0) (tgt := 36) (by decide) (fun c_4 => ?_) (fun c_4 => ?_)
    · have c_5 : okR 0 (σ 0 0) y = false := by simpa using c_4
      refine z_bipush (pc := 36) (zk1 kX4_toldFault_1) (v := (-2)) (by decide) ?_
      exact z_iret (pc := 38) (zk2 kX4_toldFault_1) rfl (Nat.zero_le _) (Nat.zero_le _) ⟨by simp [rowF, okS, c_1, c_3, c_4, c_5, show nI 2 = 2 from rfl, show nI 3 = 3 from rfl, show nI 4 = 4 from rfl, show nI 0 = 0 from rfl], rfl, rfl⟩
    · have c_6 : okR 0 (σ 0 0) y = true := by simpa using c_4
      refine z_aload_n (pc := 23) (zk11 kX4_toldFault_0) rfl ?_
      refine z_iload_n (pc := 24) (zk12 kX4_toldFault_0) rfl ?_
      refine z_rdV (pc := 25) (zk13 kX4_toldFault_0) (st := []) lkX4_99 ivX4_noLetter hX.1 rfl rfl (c_noLetter hX hL) rfl ⟨rfl, rfl⟩ rfl rfl ?_ rfl
      refine z_oif_ne (pc := 28) (zk14 kX4_toldFault_0) (tgt := 36) (by decide) (fun c_7 => ?_) (fun c_7 => ?_)
      · have c_8 : okR 0 (σ 9 0 - 1) z = false := by simpa using c_7
        refine z_bipush (pc := 36) (zk1 kX4_toldFault_1) (v := (-2)) (by decide) ?_
        exact z_iret (pc := 38) (zk2 kX4_toldFault_1) rfl (Nat.zero_le _) (Nat.zero_le _) ⟨by simp [rowF, okS, c_1, c_3, c_4, c_6, c_7, c_8, show nI 2 = 2 from rfl, show nI 3 = 3 from rfl, show nI 4 = 4 from rfl, show nI 0 = 0 from rfl], rfl, rfl⟩
      · have c_9 : okR 0 (σ 9 0 - 1) z = true := by simpa using c_7
        refine z_iload (pc := 31) (zk15 kX4_toldFault_0) rfl ?_
        refine z_oif_eq (pc := 33) (zk0 kX4_toldFault_1) (tgt := 39) (by decide) (fun c_10 => ?_) (fun c_10 => ?_)
        · refine z_aload_n (pc := 39) (zk3 kX4_toldFault_1) rfl ?_
          refine z_getf (pc := 40) (zk4 kX4_toldFault_1) flX4_28 hX.1 gXo_3 ?_
          refine z_iload_n (pc := 43) (zk5 kX4_toldFault_1) rfl ?_
          obtain ⟨kx, hkx, rfl⟩ := okR_c (c := 7) (by decide) c_3
          refine z_aald3N (pc := 44) (zk6 kX4_toldFault_1) (j := kx) (b := p + 32 + 2 * kx) hX.2.1 (show kx < 8 by omega) rfl (if_pos (show kx < 8 by omega)) ?_
          refine z_iload_n (pc := 45) (zk7 kX4_toldFault_1) rfl ?_
          refine z_rdV (pc := 46) (zk8 kX4_toldFault_1) (st := []) lkX4_64 ivX2_rowFault (hK.2.2.1 kx (show kx < 8 by omega)).1 rfl rfl (c_xFault (hK.2.2.1 kx (show kx < 8 by omega)) hS h8 (show kx < 8 by omega)) rfl ⟨rfl, rfl⟩ rfl rfl ?_ rfl
          by_cases f2_ : τ 1 kx = 2
          · refine z_top (congrArg Value.int (show _ = ((-3) : Int32) from by rw [if_pos f2_])) ?_
            exact z_iret (pc := 49) (zk9 kX4_toldFault_1) rfl (Nat.zero_le _) (Nat.zero_le _) ⟨by simp [rowF, okS, c_1, c_3, c_4, c_6, c_7, c_9, c_10, f2_, ix_nI (show kx ≤ 1000 by omega), show nI 2 = 2 from rfl, show nI 3 = 3 from rfl, show nI 4 = 4 from rfl, show nI 0 = 0 from rfl], rfl, rfl⟩
          by_cases f0_ : τ 1 kx = 0
          · refine z_top (congrArg Value.int (show _ = ((-4) : Int32) from by rw [if_neg f2_, if_pos f0_])) ?_
            exact z_iret (pc := 49) (zk9 kX4_toldFault_1) rfl (Nat.zero_le _) (Nat.zero_le _) ⟨by simp [rowF, okS, c_1, c_3, c_4, c_6, c_7, c_9, c_10, f2_, f0_, ix_nI (show kx ≤ 1000 by omega), show nI 2 = 2 from rfl, show nI 3 = 3 from rfl, show nI 4 = 4 from rfl, show nI 0 = 0 from rfl], rfl, rfl⟩
          by_cases f3_ : τ 3 kx < y
          · refine z_top (congrArg Value.int (show _ = ((-2) : Int32) from by rw [if_neg f2_, if_neg f0_, if_pos f3_])) ?_
            exact z_iret (pc := 49) (zk9 kX4_toldFault_1) rfl (Nat.zero_le _) (Nat.zero_le _) ⟨by simp [rowF, okS, c_1, c_3, c_4, c_6, c_7, c_9, c_10, f2_, f0_, f3_, Int32.not_le.mpr f3_, ix_nI (show kx ≤ 1000 by omega), show nI 2 = 2 from rfl, show nI 3 = 3 from rfl, show nI 4 = 4 from rfl, show nI 0 = 0 from rfl], rfl, rfl⟩
          refine z_top (congrArg Value.int (show _ = (0 : Int32) from by rw [if_neg f2_, if_neg f0_, if_neg f3_])) ?_
          exact z_iret (pc := 49) (zk9 kX4_toldFault_1) rfl (Nat.zero_le _) (Nat.zero_le _) ⟨by simp [rowF, okS, c_1, c_3, c_4, c_6, c_7, c_9, c_10, f2_, f0_, f3_, Int32.not_lt.mp f3_, ix_nI (show kx ≤ 1000 by omega), show nI 2 = 2 from rfl, show nI 3 = 3 from rfl, show nI 4 = 4 from rfl, show nI 0 = 0 from rfl], rfl, rfl⟩
        · refine z_bipush (pc := 36) (zk1 kX4_toldFault_1) (v := (-2)) (by decide) ?_
          exact z_iret (pc := 38) (zk2 kX4_toldFault_1) rfl (Nat.zero_le _) (Nat.zero_le _) ⟨by simp [rowF, okS, c_1, c_3, c_4, c_6, c_7, c_9, c_10, show nI 2 = 2 from rfl, show nI 3 = 3 from rfl, show nI 4 = 4 from rfl, show nI 0 = 0 from rfl], rfl, rfl⟩
