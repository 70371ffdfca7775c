theorem SW_flw {τ : Ln} {m : Nat} {x : Int32} {i : Nat} (hS : SW τ m) : SW (flwT τ x i) m := by
  refine ⟨fun s hs => ?_, hS.2⟩
  by_cases c : s < i ∧ τ 1 s = 2 ∧ x ≤ τ 4 s
  · left; simp [flwT, c]
  · have e : flwT τ x i 1 s = τ 1 s := by simp only [flwT, if_true]; exact if_neg c
    rw [e]
    exact hS.1 s hs
theorem flw_held {τ : Ln} {i : Nat} : heldF (up2 τ 1 i 0) i = -1 ∧ sizeF (up2 τ 1 i 0) i = 0 := by simp [heldF, sizeF, up2, upd]
theorem flw_id {τ : Ln} {m : Nat} (hS : SW τ m) (h8 : m ≤ 8) {x : Int32} (hx : x = nI m) : flwT τ x 8 = τ := by
  funext f
  by_cases h : f = 1
  · subst h
    funext s
    simp only [flwT, if_true]
    refine if_neg (fun q => ?_)
    obtain ⟨l, hl, e⟩ := SW_shown hS q.1 q.2.1
    have := q.2.2
    rw [e, hx, nI_le_iff (by omega) (by omega)] at this
    omega
  · simp [flwT, h]
theorem okR_lt {m l : Nat} (hm : m ≤ 8) (hl : l ≤ 8) : okR 0 (nI m - 1) (nI l) = decide (l < m) := by
  by_cases c : l < m
  · rw [okR_k (by omega) c, decide_eq_true c]
  · rw [decide_eq_false c]
    cases q : okR 0 (nI m - 1) (nI l) with
    | false => rfl
    | true =>
      obtain ⟨k, hk, e⟩ := okR_nI (by omega) q
      exact absurd hk (by rw [(nI_eqI (by omega) (by omega)).mp e] at c; exact c)
theorem XR.kp {h h1 : zH} {p : Nat} {κ κ1 τ : Ln} {ε : El} (H : XR h p κ τ ε) (hU : Upd h h1 (p + 10) 9) (hn : LnAt h1 (p + 10) κ1) : XR h1 p κ1 τ ε := by
  obtain ⟨a, ⟨mk, tl, γ, b, c⟩, d, ω, e⟩ := H
  exact ⟨hn, ⟨mk, tl, γ, b.fr hU (by omega), c.fr hU (by omega)⟩, fun s hs => (d s hs).fr hU (by omega), ω, e.fr hU (by omega)⟩
set_option maxRecDepth 20000 in
theorem c_drop {D : zD} {B : Nat} {h : zH} {sz : Nat} {p m m2 : Nat} {σ κ τ : Ln} {ε : El} {ik : Int32} (hX : XoAt h p ik (rfo τ)) (hL : LnAt h (p + 1) σ) (hK : XR h p κ τ ε) (hB : B ≤ p) (hS : SW τ m) (h8 : m ≤ 8) (hm2 : σ 9 0 = nI m2) (h82 : m2 ≤ 8) : zM D B xX4_dropMissingLetters [.ref p] h sz (fun r h1 z1 => r = none ∧ XoAt h1 p ik (rfo τ) ∧ LnAt h1 (p + 1) σ ∧ XR h1 p κ (flwT τ (σ 9 0) 8) ε ∧ Upd h h1 p 51 ∧ z1 = sz) := by
  have hU : Upd h h p 51 := Upd.rf
  refine zM.of (by decide) rfl (n := 1) ?_
  show Z D B xX4_dropMissingLetters 0 0 _ 0 [some (.ref p), none] [] h sz
  refine z_iconst (pc := 0) (zk0 kX4_dropMissingLetters_0) (v := 0) (by decide) ?_
  refine z_istore_n (pc := 1) (zk1 kX4_dropMissingLetters_0) rfl rfl ?_
  show Z D B xX4_dropMissingLetters _ _ _ 2 [some (.ref p), some (.int 0)] _ _ _
  have lp2 : ∀ (n_ : Nat) (g : zH) (i : Nat), 8 - i < n_ → (i ≤ 8) → (XoAt g p ik (rfo τ)) → (LnAt g (p + 1) σ) → (XR g p κ (flwT τ (σ 9 0) i) ε) → (Upd h g p 51) → Z D B xX4_dropMissingLetters 0 0 (fun r h1 z1 => r = none ∧ XoAt h1 p ik (rfo τ) ∧ LnAt h1 (p + 1) σ ∧ XR h1 p κ (flwT τ (σ 9 0) 8) ε ∧ Upd h h1 p 51 ∧ z1 = sz) 2 [some (.ref p), some (.int (nI i))] [] g sz := by
    intro n_
    induction n_ with
    | zero => intro g i hm_; exact absurd hm_ (Nat.not_lt_zero _)
    | succ n_ ih2 =>
      intro g i hm_ hi_i hX hL hK hU
      refine z_iload_n (pc := 2) (zk2 kX4_dropMissingLetters_0) rfl ?_
      refine z_bipush (pc := 3) (zk3 kX4_dropMissingLetters_0) (v := 8) (by decide) ?_
      refine z_icmp_ge (pc := 5) (zk4 kX4_dropMissingLetters_0) (tgt := 51) (by decide) (fun c_1 => ?_) (fun c_1 => ?_)
      · have hie_i : i = 8 := nI_ge_yes (a := 8) (by omega) (by omega) (by omega) c_1
        exact z_vret (pc := 51) (zk10 kX4_dropMissingLetters_1) rfl (Nat.zero_le _) (Nat.zero_le _) ⟨rfl, hX, hL, by rw [hie_i] at hK; exact hK, hU, rfl⟩
      · have hlt_i : i < 8 := nI_ge_not (a := 8) (by omega) (by omega) c_1
        refine z_aload_n (pc := 8) (zk5 kX4_dropMissingLetters_0) rfl ?_
        refine z_getf (pc := 9) (zk6 kX4_dropMissingLetters_0) flX4_28 hX.1 gXo_3 ?_
        refine z_iload_n (pc := 12) (zk7 kX4_dropMissingLetters_0) rfl ?_
        refine z_aald3N (pc := 13) (zk8 kX4_dropMissingLetters_0) (j := i) (b := p + 32 + 2 * i) hX.2.1 (show i < 8 by omega) rfl (if_pos (show i < 8 by omega)) ?_
        refine z_rdV (pc := 14) (zk9 kX4_dropMissingLetters_0) (st := []) lkX4_74 ivX2_holdsLetter (hK.2.2.1 i (show i < 8 by omega)).1 rfl rfl (c_xLetter (hK.2.2.1 i (show i < 8 by omega)) (SW_flw hS) h8 (show i < 8 by omega)) rfl ⟨rfl, rfl⟩ rfl rfl ?_ rfl
        refine z_oif_eq (pc := 17) (zk10 kX4_dropMissingLetters_0) (tgt := 45) (by decide) (fun c_2 => ?_) (fun c_2 => ?_)
        · refine z_iinc (pc := 45) (zk8 kX4_dropMissingLetters_1) (v := nI (i + 1)) rfl zinc rfl rfl ?_
          show Z D B xX4_dropMissingLetters _ _ _ 48 [some (.ref p), some (.int (nI (i + 1)))] _ _ _
          refine z_goto (pc := 48) (zk9 kX4_dropMissingLetters_1) (tgt := 2) (by decide) ?_
          exact ih2 g (i + 1) (by omega) (by omega) hX hL (by rw [← flwT_n (fun q => absurd q (of_decide_eq_false c_2))]; exact hK) hU
        · refine z_aload_n (pc := 20) (zk11 kX4_dropMissingLetters_0) rfl ?_
          refine z_aload_n (pc := 21) (zk12 kX4_dropMissingLetters_0) rfl ?_
          refine z_getf (pc := 22) (zk13 kX4_dropMissingLetters_0) flX4_28 hX.1 gXo_3 ?_
          refine z_iload_n (pc := 25) (zk14 kX4_dropMissingLetters_0) rfl ?_
          refine z_aald3N (pc := 26) (zk15 kX4_dropMissingLetters_0) (j := i) (b := p + 32 + 2 * i) hX.2.1 (show i < 8 by omega) rfl (if_pos (show i < 8 by omega)) ?_
          refine z_rdV (pc := 27) (zk0 kX4_dropMissingLetters_1) (st := [.ref p]) lkX4_112 ivX2_shownLetter (hK.2.2.1 i (show i < 8 by omega)).1 rfl rfl (c_xShown (hK.2.2.1 i (show i < 8 by omega)) (SW_flw hS) h8 (show i < 8 by omega)) rfl ⟨rfl, rfl⟩ rfl rfl ?_ rfl
          have f2_ := of_decide_eq_true c_2
          obtain ⟨l_, hl_, el_⟩ := SW_shown (SW_flw hS) (by omega) f2_
          refine z_top (congrArg Value.int (show _ = nI l_ from by rw [if_pos f2_, el_])) ?_
          refine z_rdV (pc := 30) (zk1 kX4_dropMissingLetters_1) (st := []) lkX4_99 ivX4_noLetter hX.1 rfl rfl (c_noLetter hX hL) rfl ⟨rfl, rfl⟩ rfl rfl ?_ rfl
          refine z_oif_eq (pc := 33) (zk2 kX4_dropMissingLetters_1) (tgt := 45) (by decide) (fun c_3 => ?_) (fun c_3 => ?_)
          · have c_4 : okR 0 (σ 9 0 - 1) (nI l_) = true := by simpa using c_3
            have hlm : (flwT τ (σ 9 0) i) 4 i < σ 9 0 := by
              rw [el_, hm2, nI_ltI (by omega) (by omega)]
              rw [hm2, okR_lt h82 (by omega)] at c_3
              simpa using c_3
            refine z_iinc (pc := 45) (zk8 kX4_dropMissingLetters_1) (v := nI (i + 1)) rfl zinc rfl rfl ?_
            show Z D B xX4_dropMissingLetters _ _ _ 48 [some (.ref p), some (.int (nI (i + 1)))] _ _ _
            refine z_goto (pc := 48) (zk9 kX4_dropMissingLetters_1) (tgt := 2) (by decide) ?_
            exact ih2 g (i + 1) (by omega) (by omega) hX hL (by rw [← flwT_n (fun _ => hlm)]; exact hK) hU
          · have c_5 : okR 0 (σ 9 0 - 1) (nI l_) = false := by simpa using c_3
            have hlm : ¬ (flwT τ (σ 9 0) i) 4 i < σ 9 0 := by
              intro q
              rw [el_, hm2, nI_ltI (by omega) (by omega)] at q
              rw [hm2, okR_lt h82 (by omega), decide_eq_true q] at c_3
              cases c_3
            refine z_aload_n (pc := 36) (zk3 kX4_dropMissingLetters_1) rfl ?_
            refine z_getf (pc := 37) (zk4 kX4_dropMissingLetters_1) flX4_28 hX.1 gXo_3 ?_
            refine z_iload_n (pc := 40) (zk5 kX4_dropMissingLetters_1) rfl ?_
            refine z_aald3N (pc := 41) (zk6 kX4_dropMissingLetters_1) (j := i) (b := p + 32 + 2 * i) hX.2.1 (show i < 8 by omega) rfl (if_pos (show i < 8 by omega)) ?_
            refine z_efV (pc := 42) (zk7 kX4_dropMissingLetters_1) (st := []) lkX4_102 ivX2_clearOut (hK.2.2.1 i (show i < 8 by omega)).1 rfl rfl (c_clearOut (hK.2.2.1 i (show i < 8 by omega)) (by omega) ) rfl ⟨rfl, rfl⟩ rfl rfl (fun r_ h_7 z_ q_6 => ?_) rfl
            obtain ⟨er_, hR, hU_8, ez_⟩ := q_6
            rw [er_, ez_]
            clear er_ ez_
            replace hX := XoAt.fr hX hU_8 (by omega)
            replace hL := LnAt.fr hL hU_8 (by omega)
            replace hU := hU.tr hU_8 (by omega) (by omega)
            replace hK : XR h_7 p κ (flwT τ (σ 9 0) (i + 1)) ε := XR.sh hK (show i < 8 by omega) hU_8 (by rw [← flwT_y f2_ hlm, flw_held.1, flw_held.2]; exact hR) (fun r h1 h2 => by rw [← flwT_y f2_ hlm]; exact ⟨(heldF_o h2).1, (heldF_o h2).2, rfl⟩) rfl rfl
            clear hR
            replace hX : XoAt h_7 p ik (rfo (flwT τ (σ 9 0) (i + 1))) := hX
            show Z D B xX4_dropMissingLetters _ _ _ 45 _ [] _ _
            refine z_iinc (pc := 45) (zk8 kX4_dropMissingLetters_1) (v := nI (i + 1)) rfl zinc rfl rfl ?_
            show Z D B xX4_dropMissingLetters _ _ _ 48 [some (.ref p), some (.int (nI (i + 1)))] _ _ _
            refine z_goto (pc := 48) (zk9 kX4_dropMissingLetters_1) (tgt := 2) (by decide) ?_
            exact ih2 h_7 (i + 1) (by omega) (by omega) hX hL hK hU
  exact lp2 _ h 0 (Nat.lt_succ_self _) (by omega) hX hL (by rw [flwT_0]; exact hK) hU
set_option maxRecDepth 20000 in
theorem cX_round {D : zD} {B : Nat} {h : zH} {sz : Nat} {p : Nat} {σ κ τ : Ln} {ε : El} {ik : Int32} {b : Bool} {n m : Nat} (hX : XoAt h p ik (rfo τ)) (hL : LnAt h (p + 1) σ) (hK : XR h p κ τ ε) (hB : B ≤ p) (hn : σ 0 0 = nI n) (h12 : n ≤ 12) (hm : σ 9 0 = nI m) (h8 : m ≤ 8) (hbk : σ 6 0 = 0 ∨ σ 6 0 = 1) (htn : ∀ l, l < m → ∃ t, t < n ∧ σ 12 l = nI t) (hlen : ∀ l, l < m → ∃ g, 1 ≤ g ∧ g ≤ 40 ∧ σ 13 l = nI g) (h2 : 2 ≤ n) (hS : SW τ m) : zM D B xX4_round [.ref p, .int (oI b)] h sz (xQ h p sz ik κ (sp_round σ τ ε b)) := by
  have hU : Upd h h p 51 := Upd.rf
  refine zM.of (by decide) rfl (n := 0) ?_
  show Z D B xX4_round 0 0 _ 0 [some (.ref p), some (.int (oI b))] [] h sz
  refine z_aload_n (pc := 0) (zk0 kX4_round_0) rfl ?_
  refine z_getf (pc := 1) (zk1 kX4_round_0) flX4_10 hX.1 gXo_0 ?_
  refine z_efV (pc := 4) (zk2 kX4_round_0) (st := []) lkX4_348 ivX1_goRound hL.1 rfl rfl (c_goRound hL hn h12 hm h8 (by omega)) rfl ⟨rfl, rfl⟩ rfl rfl (fun r_ h_2 z_ q_1 => ?_) rfl
  obtain ⟨er_, hR, hU_3, ez_⟩ := q_1
  rw [er_, ez_]
  clear er_ ez_
  replace hX := XoAt.fr hX hU_3 (by omega)
  replace hU := hU.tr hU_3 (by omega) (by omega)
  replace hK := XR.fr hK hU_3 (by omega)
  replace hL := hR; clear hR
  show Z D B xX4_round _ _ _ 7 _ [] _ _
  refine z_iload_n (pc := 7) (zk3 kX4_round_0) rfl ?_
  refine z_oif_eq (pc := 8) (zk4 kX4_round_0) (tgt := 23) (by decide) (fun c_4 => ?_) (fun c_4 => ?_)
  · refine z_aload_n (pc := 23) (zk11 kX4_round_0) rfl ?_
    refine z_getf (pc := 24) (zk12 kX4_round_0) flX4_10 hX.1 gXo_0 ?_
    refine z_rdV (pc := 27) (zk13 kX4_round_0) (st := []) lkX4_354 ivX1_allEars hL.1 rfl rfl (c_allEars hL hn h12) rfl ⟨rfl, rfl⟩ rfl rfl ?_ rfl
    exact z_iret (pc := 30) (zk14 kX4_round_0) rfl (Nat.zero_le _) (Nat.zero_le _) (by
            rw [show sp_round σ τ ε b = (sum0 ((roundF σ) 4) (hsN (roundF σ)), (roundF σ), τ, ε) from by (rw [sp_round, show goneF σ b = roundF σ by rw [goneF, c_4]; rfl, flw_id hS h8 (show roundF σ 9 0 = nI m from hm)]; rfl)]
            exact ⟨rfl, hX, hL, hK, hU, rfl⟩)
  · refine z_aload_n (pc := 11) (zk5 kX4_round_0) rfl ?_
    refine z_getf (pc := 12) (zk6 kX4_round_0) flX4_10 hX.1 gXo_0 ?_
    refine z_iconst (pc := 15) (zk7 kX4_round_0) (v := 0) (by decide) ?_
    refine z_Ln_w9 (pc := 16) (zk8 kX4_round_0) flX4_272 hL (by omega) (fun h_5 hR hU_6 => ?_)
    replace hX := XoAt.fr hX hU_6 (by omega)
    replace hU := hU.tr hU_6 (by omega) (by omega)
    replace hK := XR.fr hK hU_6 (by omega)
    replace hL := hR; clear hR
    refine z_aload_n (pc := 19) (zk9 kX4_round_0) rfl ?_
    refine z_efV (pc := 20) (zk10 kX4_round_0) (st := []) lkX4_351 ivX4_dropMissingLetters hX.1 rfl rfl (c_drop hX hL hK (by omega) hS h8 (m2 := 0) rfl (by decide)) rfl ⟨rfl, rfl⟩ rfl rfl (fun r_ h_8 z_ q_7 => ?_) rfl
    obtain ⟨er_, hX_, hL_, hK_, hU_9, ez_⟩ := q_7
    rw [er_, ez_]
    clear er_ ez_
    replace hU := hU.tr hU_9 (by omega) (by omega)
    replace hX := hX_; replace hL := hL_; replace hK := hK_; clear hX_ hL_ hK_
    replace hX : XoAt h_8 p ik (rfo (flwT τ (0) 8)) := hX
    show Z D B xX4_round _ _ _ 23 _ [] _ _
    refine z_aload_n (pc := 23) (zk11 kX4_round_0) rfl ?_
    refine z_getf (pc := 24) (zk12 kX4_round_0) flX4_10 hX.1 gXo_0 ?_
    refine z_rdV (pc := 27) (zk13 kX4_round_0) (st := []) lkX4_354 ivX1_allEars hL.1 rfl rfl (c_allEars hL hn h12) rfl ⟨rfl, rfl⟩ rfl rfl ?_ rfl
    exact z_iret (pc := 30) (zk14 kX4_round_0) rfl (Nat.zero_le _) (Nat.zero_le _) (by
            rw [show sp_round σ τ ε b = (sum0 ((up2 (roundF σ) 9 0 0) 4) (hsN (up2 (roundF σ) 9 0 0)), (up2 (roundF σ) 9 0 0), (flwT τ (0) 8), ε) from by (simp only [sp_round, goneF, c_4, if_true, earsF]; rfl)]
            exact ⟨rfl, hX, hL, hK, hU, rfl⟩)
set_option maxRecDepth 20000 in
theorem cX_image {D : zD} {B : Nat} {h : zH} {sz : Nat} {p : Nat} {σ κ τ : Ln} {ε : El} {ik : Int32} (hX : XoAt h p ik (rfo τ)) (hL : LnAt h (p + 1) σ) (hK : XR h p κ τ ε) (hB : B ≤ p) (hbk : σ 6 0 = 0 ∨ σ 6 0 = 1) : zM D B xX4_image [.ref p] h sz (xQ h p sz 1 σ (1, σ, τ, ε)) := by
  have hU : Upd h h p 51 := Upd.rf
  have hQ := hK.1
  refine zM.of (by decide) rfl (n := 0) ?_
  show Z D B xX4_image 0 0 _ 0 [some (.ref p)] [] h sz
  refine z_aload_n (pc := 0) (zk0 kX4_image_0) rfl ?_
  refine z_getf (pc := 1) (zk1 kX4_image_0) flX4_16 hX.1 gXo_1 ?_
  refine z_aload_n (pc := 4) (zk2 kX4_image_0) rfl ?_
  refine z_getf (pc := 5) (zk3 kX4_image_0) flX4_10 hX.1 gXo_0 ?_
  refine z_efV (pc := 8) (zk4 kX4_image_0) (st := []) lkX4_191 ivX1_takeFrom hQ.1 rfl rfl (c_takeFrom hQ hL (by omega) (by omega) hbk) rfl ⟨rfl, rfl⟩ rfl rfl (fun r_ h_2 z_ q_1 => ?_) rfl
  obtain ⟨er_, hR, hO_, hU_3, ez_⟩ := q_1
  rw [er_, ez_]
  clear er_ ez_ hO_
  replace hX := XoAt.fr hX hU_3 (by omega)
  replace hL := LnAt.fr hL hU_3 (by omega)
  replace hU := hU.tr hU_3 (by omega) (by omega)
  replace hQ := hR; clear hR
  replace hK := XR.kp hK hU_3 hQ
  show Z D B xX4_image _ _ _ 11 _ [] _ _
  refine z_aload_n (pc := 11) (zk5 kX4_image_0) rfl ?_
  refine z_iconst (pc := 12) (zk6 kX4_image_0) (v := 1) (by decide) ?_
  refine z_Xo_w6 (pc := 13) (zk7 kX4_image_0) flX4_44 hX (by omega) (by decide) (fun h_4 hR hU_5 => ?_)
  replace hL := LnAt.fr hL hU_5 (by omega)
  replace hQ := LnAt.fr hQ hU_5 (by omega)
  replace hU := hU.tr hU_5 (by omega) (by omega)
  replace hK := XR.fr hK hU_5 (by omega)
  replace hX := hR; clear hR
  refine z_iconst (pc := 16) (zk8 kX4_image_0) (v := 1) (by decide) ?_
  exact z_iret (pc := 17) (zk9 kX4_image_0) rfl (Nat.zero_le _) (Nat.zero_le _) ⟨rfl, hX, hL, hK, hU, rfl⟩
set_option maxRecDepth 20000 in
theorem cX_back0 {D : zD} {B : Nat} {h : zH} {sz : Nat} {p : Nat} {σ κ τ : Ln} {ε : El} {ik : Int32} (hX : XoAt h p ik (rfo τ)) (hL : LnAt h (p + 1) σ) (hK : XR h p κ τ ε) (hB : B ≤ p) (hik : ik = 0) : zM D B xX4_back [.ref p] h sz (xQ h p sz ik κ (-5, σ, rfN τ 5, ε)) := by
  have hU : Upd h h p 51 := Upd.rf
  have hQ := hK.1
  refine zM.of (by decide) rfl (n := 0) ?_
  show Z D B xX4_back 0 0 _ 0 [some (.ref p)] [] h sz
  refine z_aload_n (pc := 0) (zk0 kX4_back_0) rfl ?_
  refine z_getf (pc := 1) (zk1 kX4_back_0) flX4_44 hX.1 (v := .int ik) rfl ?_
  refine z_if_ne (pc := 4) (zk2 kX4_back_0) (tgt := 14) (by decide) (fun q => absurd hik q) (fun _ => ?_)
  refine z_aload_n (pc := 7) (zk3 kX4_back_0) rfl ?_
  refine z_bipush (pc := 8) (zk4 kX4_back_0) (v := (-5)) (by decide) ?_
  refine z_efV (pc := 10) (zk5 kX4_back_0) (st := []) lkX4_56 ivX4_refuse hX.1 rfl rfl (c_xrefuse (i := 3) hX hB (by decide) (by decide) (by decide)) rfl ⟨rfl, rfl⟩ rfl rfl (fun r_ h_2 z_ q_1 => ?_) rfl
  obtain ⟨er_, hR, hU_3, ez_⟩ := q_1
  rw [er_, ez_]
  clear er_ ez_
  replace hL := LnAt.fr hL hU_3 (by omega)
  replace hQ := LnAt.fr hQ hU_3 (by omega)
  replace hU := hU.tr hU_3 (by omega) (by omega)
  replace hK := XR.fr hK hU_3 (by omega)
  replace hX := hR; clear hR
  show Z D B xX4_back _ _ _ 13 _ [.int (-5)] _ _
  exact z_iret (pc := 13) (zk6 kX4_back_0) rfl (Nat.zero_le _) (Nat.zero_le _) ⟨rfl, hX, hL, hK, hU, rfl⟩
set_option maxRecDepth 20000 in
theorem cX_back1 {D : zD} {B : Nat} {h : zH} {sz : Nat} {p : Nat} {σ κ τ : Ln} {ε : El} {ik : Int32} {m m2 : Nat} (hX : XoAt h p ik (rfo τ)) (hL : LnAt h (p + 1) σ) (hK : XR h p κ τ ε) (hB : B ≤ p) (hik : ¬ ik = 0) (hS : SW τ m) (h8 : m ≤ 8) (hm2 : κ 9 0 = nI m2) (h82 : m2 ≤ 8) (hbκ : κ 6 0 = 0 ∨ κ 6 0 = 1) : zM D B xX4_back [.ref p] h sz (xQ h p sz ik κ (1, κ, flwT τ (κ 9 0) 8, ε)) := by
  have hU : Upd h h p 51 := Upd.rf
  have hQ := hK.1
  refine zM.of (by decide) rfl (n := 0) ?_
  show Z D B xX4_back 0 0 _ 0 [some (.ref p)] [] h sz
  refine z_aload_n (pc := 0) (zk0 kX4_back_0) rfl ?_
  refine z_getf (pc := 1) (zk1 kX4_back_0) flX4_44 hX.1 (v := .int ik) rfl ?_
  refine z_if_ne (pc := 4) (zk2 kX4_back_0) (tgt := 14) (by decide) (fun _ => ?_) (fun q => absurd q hik)
  refine z_aload_n (pc := 14) (zk7 kX4_back_0) rfl ?_
  refine z_getf (pc := 15) (zk8 kX4_back_0) flX4_10 hX.1 gXo_0 ?_
  refine z_aload_n (pc := 18) (zk9 kX4_back_0) rfl ?_
  refine z_getf (pc := 19) (zk10 kX4_back_0) flX4_16 hX.1 gXo_1 ?_
  refine z_efV (pc := 22) (zk11 kX4_back_0) (st := []) lkX4_191 ivX1_takeFrom hL.1 rfl rfl (c_takeFrom hL hQ (by omega) (by omega) hbκ) rfl ⟨rfl, rfl⟩ rfl rfl (fun r_ h_2 z_ q_1 => ?_) rfl
  obtain ⟨er_, hR, hO_, hU_3, ez_⟩ := q_1
  rw [er_, ez_]
  clear er_ ez_ hO_
  replace hX := XoAt.fr hX hU_3 (by omega)
  replace hQ := LnAt.fr hQ hU_3 (by omega)
  replace hU := hU.tr hU_3 (by omega) (by omega)
  replace hK := XR.fr hK hU_3 (by omega)
  replace hL := hR; clear hR
  show Z D B xX4_back _ _ _ 25 _ [] _ _
  refine z_aload_n (pc := 25) (zk12 kX4_back_0) rfl ?_
  refine z_efV (pc := 26) (zk13 kX4_back_0) (st := []) lkX4_351 ivX4_dropMissingLetters hX.1 rfl rfl (c_drop hX hL hK (by omega) hS h8 hm2 h82) rfl ⟨rfl, rfl⟩ rfl rfl (fun r_ h_5 z_ q_4 => ?_) rfl
  obtain ⟨er_, hX_, hL_, hK_, hU_6, ez_⟩ := q_4
  rw [er_, ez_]
  clear er_ ez_
  replace hU := hU.tr hU_6 (by omega) (by omega)
  replace hX := hX_; replace hL := hL_; replace hK := hK_; clear hX_ hL_ hK_
  replace hX : XoAt h_5 p ik (rfo (flwT τ (κ 9 0) 8)) := hX
  show Z D B xX4_back _ _ _ 29 _ [] _ _
  refine z_iconst (pc := 29) (zk14 kX4_back_0) (v := 1) (by decide) ?_
  exact z_iret (pc := 30) (zk15 kX4_back_0) rfl (Nat.zero_le _) (Nat.zero_le _) ⟨rfl, hX, hL, hK, hU, rfl⟩
