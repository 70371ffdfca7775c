theorem sub_int {r : Nat} {z : Int32} (hr : r ≤ 40) (h0 : 0 ≤ z) : (nI r - z).toInt = (r : Int) - z.toInt := by
  have h1 := Int32.le_toInt z
  have h2 := Int32.toInt_lt z
  rw [Int32.le_iff_toInt_le] at h0
  have e : (0 : Int32).toInt = 0 := rfl
  rw [e] at h0
  rw [Int32.toInt_sub, nI_toInt (by omega), Int.bmod_eq_of_le (by omega) (by omega)]
theorem part_nat {r : Nat} {z v : Int32} (hr : r ≤ 40) (h0 : 0 ≤ z) (h1 : 0 ≤ v) (h2 : v ≤ nI r - z) : ∃ a b, a + b ≤ r ∧ z = nI a ∧ v = nI b := by
  rw [Int32.le_iff_toInt_le, sub_int hr h0] at h2
  rw [Int32.le_iff_toInt_le] at h0 h1
  have e : (0 : Int32).toInt = 0 := rfl
  rw [e] at h0 h1
  refine ⟨z.toInt.toNat, v.toInt.toNat, by omega, ?_, ?_⟩
  · rw [← Int32.toInt_inj, nI_toInt (by omega)]; omega
  · rw [← Int32.toInt_inj, nI_toInt (by omega)]; omega
theorem part_bad {r : Nat} {z v : Int32} (hr : r ≤ 40) (h : (decide (0 ≤ z) && decide (0 ≤ v) && decide (v ≤ nI r - z)) = false) : v < 0 ∨ z < 0 ∨ nI r < v ∨ nI r - v < z := by
  by_cases h0 : 0 ≤ z
  · by_cases h1 : 0 ≤ v
    · rw [decide_eq_true h0, decide_eq_true h1] at h
      have h2 : ¬ v ≤ nI r - z := of_decide_eq_false h
      rw [Int32.le_iff_toInt_le, sub_int hr h0] at h2
      refine Or.inr (Or.inr (Or.inr ?_))
      rw [Int32.lt_iff_toInt_lt, sub_int hr h1]
      omega
    · exact Or.inl (Int32.not_le.mp h1)
  · exact Or.inr (Or.inl (Int32.not_le.mp h0))
theorem part_good {r a b : Nat} (hr : r ≤ 40) (h : a + b ≤ r) : ¬ nI b < 0 ∧ ¬ nI a < 0 ∧ ¬ nI r < nI b ∧ ¬ nI r - nI b < nI a := by
  refine ⟨nI_pos (by omega), nI_pos (by omega), ?_, ?_⟩
  · rw [nI_ltI (by omega) (by omega)]; omega
  · rw [nI_sub1 (by omega), nI_ltI (by omega) (by omega)]; omega
theorem cp_b1 {a b c d e f g : Prop} (h : a ∨ b ∨ d ∨ f) : a ∨ b ∨ c ∨ d ∨ e ∨ f ∨ g := by
  rcases h with q | q | q | q
  · exact Or.inl q
  · exact Or.inr (Or.inl q)
  · exact Or.inr (Or.inr (Or.inr (Or.inl q)))
  · exact Or.inr (Or.inr (Or.inr (Or.inr (Or.inr (Or.inl q)))))
theorem cp_b2 {a b c d e f g : Prop} (h : a ∨ c ∨ e ∨ g) : a ∨ b ∨ c ∨ d ∨ e ∨ f ∨ g := by
  rcases h with q | q | q | q
  · exact Or.inl q
  · exact Or.inr (Or.inr (Or.inl q))
  · exact Or.inr (Or.inr (Or.inr (Or.inr (Or.inl q))))
  · exact Or.inr (Or.inr (Or.inr (Or.inr (Or.inr (Or.inr q)))))
theorem cp_g {a b c d e f g : Prop} (h1 : ¬ a ∧ ¬ b ∧ ¬ d ∧ ¬ f) (h2 : ¬ a ∧ ¬ c ∧ ¬ e ∧ ¬ g) : ¬ (a ∨ b ∨ c ∨ d ∨ e ∨ f ∨ g) := by
  intro h
  rcases h with q | q | q | q | q | q | q
  · exact h1.1 q
  · exact h1.2.1 q
  · exact h2.2.1 q
  · exact h1.2.2.1 q
  · exact h2.2.2.1 q
  · exact h1.2.2.2 q
  · exact h2.2.2.2 q
theorem ShAt.cp {h : zH} {p : Nat} {he sn : Int32} {el f : Nat → Int64} (H : ShAt h p he sn el) : ShAt (zup h (p + 1) (zJ 40 f)) p he sn f := ⟨(zup_n (by omega)).trans H.1, zup_s⟩
set_option maxRecDepth 20000 in
theorem cX_copy {D : zD} {B : Nat} {h : zH} {sz : Nat} {p : Nat} {σ κ τ : Ln} {ε : El} {ik : Int32} {x : Int32} {y : Int32} {z : Int32} {u : Int32} {v : Int32} {n m : Nat} (hX : XoAt h p ik (rfo τ)) (hL : LnAt h (p + 1) σ) (hK : XR h p κ τ ε) (hB : B ≤ p) (hn : σ 0 0 = nI n) (h12 : n ≤ 12) (hm : σ 9 0 = nI m) (h8 : m ≤ 8) (hbk : σ 6 0 = 0 ∨ σ 6 0 = 1) (htn : ∀ l, l < m → ∃ t, t < n ∧ σ 12 l = nI t) (hlen : ∀ l, l < m → ∃ g, 1 ≤ g ∧ g ≤ 40 ∧ σ 13 l = nI g) (h2 : 2 ≤ n) (hS : SW τ m) : zM D B xX4_copy [.ref p, .int x, .int y, .int z, .int u, .int v] h sz (xQ h p sz ik κ (sp_copy σ τ ε x y z u v)) := by
  have hU : Upd h h p 51 := Upd.rf
  refine zM.of (by decide) rfl (n := 3) ?_
  show Z D B xX4_copy 0 0 _ 0 [some (.ref p), some (.int x), some (.int y), some (.int z), some (.int u), some (.int v), none, none, none] [] h sz
  refine z_aload_n (pc := 0) (zk0 kX4_copy_0) rfl ?_
  refine z_iload_n (pc := 1) (zk1 kX4_copy_0) rfl ?_
  refine z_rdV (pc := 2) (zk2 kX4_copy_0) (st := []) lkX4_48 ivX4_noShelf hX.1 rfl rfl (c_noShelf hX hL) rfl ⟨rfl, rfl⟩ rfl rfl ?_ rfl
  refine z_oif_ne (pc := 5) (zk3 kX4_copy_0) (tgt := 16) (by decide) (fun c_1 => ?_) (fun c_1 => ?_)
  · have c_2 : okR 0 7 x = false := by simpa using c_1
    refine z_aload_n (pc := 16) (zk8 kX4_copy_0) rfl ?_
    refine z_bipush (pc := 17) (zk9 kX4_copy_0) (v := (-2)) (by decide) ?_
    refine z_efV (pc := 19) (zk10 kX4_copy_0) (st := []) lkX4_56 ivX4_refuse hX.1 rfl rfl (c_xrefuse (i := 0) hX hB (by decide) (by decide) (by decide)) rfl ⟨rfl, rfl⟩ rfl rfl (fun r_ h_4 z_ q_3 => ?_) rfl
    obtain ⟨er_, hR, hU_5, ez_⟩ := q_3
    rw [er_, ez_]
    clear er_ ez_
    replace hL := LnAt.fr hL hU_5 (by omega)
    replace hU := hU.tr hU_5 (by omega) (by omega)
    replace hK := XR.fr hK hU_5 (by omega)
    replace hX := hR; clear hR
    show Z D B xX4_copy _ _ _ 22 _ [.int (-2)] _ _
    exact z_iret (pc := 22) (zk11 kX4_copy_0) rfl (Nat.zero_le _) (Nat.zero_le _) (by
            rw [show sp_copy σ τ ε x y z u v = ((-2), σ, (rfN τ 2), ε) from by simp [sp_copy, sBad, okS, okH, okL, okT, okB, sRd, up2_id, up2_id2, oI, sOther, sNone, sFull, c_1, c_2]]
            exact ⟨rfl, hX, hL, hK, hU, rfl⟩)
  · have c_6 : okR 0 7 x = true := by simpa using c_1
    refine z_aload_n (pc := 8) (zk4 kX4_copy_0) rfl ?_
    refine z_iload_n (pc := 9) (zk5 kX4_copy_0) rfl ?_
    refine z_rdV (pc := 10) (zk6 kX4_copy_0) (st := []) lkX4_48 ivX4_noShelf hX.1 rfl rfl (c_noShelf hX hL) rfl ⟨rfl, rfl⟩ rfl rfl ?_ rfl
    refine z_oif_eq (pc := 13) (zk7 kX4_copy_0) (tgt := 23) (by decide) (fun c_7 => ?_) (fun c_7 => ?_)
    · have c_8 : okR 0 7 y = true := by simpa using c_7
      refine z_aload_n (pc := 23) (zk12 kX4_copy_0) rfl ?_
      refine z_getf (pc := 24) (zk13 kX4_copy_0) flX4_28 hX.1 gXo_3 ?_
      refine z_iload_n (pc := 27) (zk14 kX4_copy_0) rfl ?_
      obtain ⟨kx, hkx, rfl⟩ := okR_c (c := 7) (by decide) c_6
      refine z_aald3N (pc := 28) (zk15 kX4_copy_0) (j := kx) (b := p + 32 + 2 * kx) hX.2.1 (show kx < 8 by omega) rfl (if_pos (show kx < 8 by omega)) ?_
      refine z_astore (pc := 29) (zk0 kX4_copy_1) rfl rfl ?_
      show Z D B xX4_copy _ _ _ 31 [some (.ref p), some (.int (nI kx)), some (.int y), some (.int z), some (.int u), some (.int v), some (.ref (p + 32 + 2 * kx)), none, none] _ _ _
      refine z_aload_n (pc := 31) (zk1 kX4_copy_1) rfl ?_
      refine z_getf (pc := 32) (zk2 kX4_copy_1) flX4_28 hX.1 gXo_3 ?_
      refine z_iload_n (pc := 35) (zk3 kX4_copy_1) rfl ?_
      obtain ⟨ky, hky, rfl⟩ := okR_c (c := 7) (by decide) c_8
      refine z_aald3N (pc := 36) (zk4 kX4_copy_1) (j := ky) (b := p + 32 + 2 * ky) hX.2.1 (show ky < 8 by omega) rfl (if_pos (show ky < 8 by omega)) ?_
      refine z_astore (pc := 37) (zk5 kX4_copy_1) rfl rfl ?_
      show Z D B xX4_copy _ _ _ 39 [some (.ref p), some (.int (nI kx)), some (.int (nI ky)), some (.int z), some (.int u), some (.int v), some (.ref (p + 32 + 2 * kx)), some (.ref (p + 32 + 2 * ky)), none] _ _ _
      refine z_aload (pc := 39) (zk6 kX4_copy_1) rfl ?_
      refine z_rdV (pc := 41) (zk7 kX4_copy_1) (st := []) lkX4_74 ivX2_holdsLetter (hK.2.2.1 kx (show kx < 8 by omega)).1 rfl rfl (c_xLetter (hK.2.2.1 kx (show kx < 8 by omega)) hS h8 (show kx < 8 by omega)) rfl ⟨rfl, rfl⟩ rfl rfl ?_ rfl
      refine z_oif_ne (pc := 44) (zk8 kX4_copy_1) (tgt := 55) (by decide) (fun c_9 => ?_) (fun c_9 => ?_)
      · refine z_aload_n (pc := 55) (zk12 kX4_copy_1) rfl ?_
        refine z_bipush (pc := 56) (zk13 kX4_copy_1) (v := (-3)) (by decide) ?_
        refine z_efV (pc := 58) (zk14 kX4_copy_1) (st := []) lkX4_56 ivX4_refuse hX.1 rfl rfl (c_xrefuse (i := 1) hX hB (by decide) (by decide) (by decide)) rfl ⟨rfl, rfl⟩ rfl rfl (fun r_ h_11 z_ q_10 => ?_) rfl
        obtain ⟨er_, hR, hU_12, ez_⟩ := q_10
        rw [er_, ez_]
        clear er_ ez_
        replace hL := LnAt.fr hL hU_12 (by omega)
        replace hU := hU.tr hU_12 (by omega) (by omega)
        replace hK := XR.fr hK hU_12 (by omega)
        replace hX := hR; clear hR
        show Z D B xX4_copy _ _ _ 61 _ [.int (-3)] _ _
        exact z_iret (pc := 61) (zk15 kX4_copy_1) rfl (Nat.zero_le _) (Nat.zero_le _) (by
                    rw [show sp_copy σ τ ε (nI kx) (nI ky) z u v = ((-3), σ, (rfN τ 3), ε) from by rw [sp_copy, ix_nI (show kx ≤ 1000 by omega), ix_nI (show ky ≤ 1000 by omega), if_neg (show ¬ okS (nI kx) = false by rw [okS, c_6]; decide), if_neg (show ¬ okS (nI ky) = false by rw [okS, c_8]; decide), if_pos (of_decide_eq_true c_9)]; rfl]
                    exact ⟨rfl, hX, hL, hK, hU, rfl⟩)
      · refine z_aload (pc := 47) (zk9 kX4_copy_1) rfl ?_
        refine z_rdV (pc := 49) (zk10 kX4_copy_1) (st := []) lkX4_74 ivX2_holdsLetter (hK.2.2.1 ky (show ky < 8 by omega)).1 rfl rfl (c_xLetter (hK.2.2.1 ky (show ky < 8 by omega)) hS h8 (show ky < 8 by omega)) rfl ⟨rfl, rfl⟩ rfl rfl ?_ rfl
        refine z_oif_eq (pc := 52) (zk11 kX4_copy_1) (tgt := 62) (by decide) (fun c_13 => ?_) (fun c_13 => ?_)
        · refine z_aload (pc := 62) (zk0 kX4_copy_2) rfl ?_
          refine z_rdV (pc := 64) (zk1 kX4_copy_2) (st := []) lkX4_78 ivX2_holdsNothing (hK.2.2.1 kx (show kx < 8 by omega)).1 rfl rfl (c_xNothing (hK.2.2.1 kx (show kx < 8 by omega)) hS h8 (show kx < 8 by omega)) rfl ⟨rfl, rfl⟩ rfl rfl ?_ rfl
          refine z_oif_ne (pc := 67) (zk2 kX4_copy_2) (tgt := 78) (by decide) (fun c_14 => ?_) (fun c_14 => ?_)
          · refine z_iconst (pc := 78) (zk6 kX4_copy_2) (v := 1) (by decide) ?_
            refine z_goto (pc := 79) (zk7 kX4_copy_2) (tgt := 83) (by decide) ?_
            refine z_istore (pc := 83) (zk9 kX4_copy_2) rfl rfl ?_
            show Z D B xX4_copy _ _ _ 85 [some (.ref p), some (.int (nI kx)), some (.int (nI ky)), some (.int z), some (.int u), some (.int v), some (.ref (p + 32 + 2 * kx)), some (.ref (p + 32 + 2 * ky)), some (.int 1)] _ _ _
            refine z_iload (pc := 85) (zk10 kX4_copy_2) rfl ?_
            refine z_if_ne (pc := 87) (zk11 kX4_copy_2) (tgt := 110) (by decide) (fun _ => ?_) (fun q => absurd q (by decide))
            refine z_iload (pc := 110) (zk5 kX4_copy_3) rfl ?_
            refine z_if_eq (pc := 112) (zk6 kX4_copy_3) (tgt := 122) (by decide) (fun q => absurd q (by decide)) (fun _ => ?_)
            refine z_aload_n (pc := 115) (zk7 kX4_copy_3) rfl ?_
            refine z_bipush (pc := 116) (zk8 kX4_copy_3) (v := (-4)) (by decide) ?_
            refine z_efV (pc := 118) (zk9 kX4_copy_3) (st := []) lkX4_56 ivX4_refuse hX.1 rfl rfl (c_xrefuse (i := 2) hX hB (by decide) (by decide) (by decide)) rfl ⟨rfl, rfl⟩ rfl rfl (fun r_ h_16 z_ q_15 => ?_) rfl
            obtain ⟨er_, hR, hU_17, ez_⟩ := q_15
            rw [er_, ez_]
            clear er_ ez_
            replace hL := LnAt.fr hL hU_17 (by omega)
            replace hU := hU.tr hU_17 (by omega) (by omega)
            replace hK := XR.fr hK hU_17 (by omega)
            replace hX := hR; clear hR
            show Z D B xX4_copy _ _ _ 121 _ [.int (-4)] _ _
            exact z_iret (pc := 121) (zk10 kX4_copy_3) rfl (Nat.zero_le _) (Nat.zero_le _) (by
                            rw [show sp_copy σ τ ε (nI kx) (nI ky) z u v = ((-4), σ, (rfN τ 4), ε) from by rw [sp_copy, ix_nI (show kx ≤ 1000 by omega), ix_nI (show ky ≤ 1000 by omega), if_neg (show ¬ okS (nI kx) = false by rw [okS, c_6]; decide), if_neg (show ¬ okS (nI ky) = false by rw [okS, c_8]; decide), if_neg (of_decide_eq_false c_9), if_neg (of_decide_eq_false c_13), if_neg (fun q => by rw [of_decide_eq_true c_14] at q; exact absurd q.1 (by decide)), if_pos (of_decide_eq_true c_14)]; rfl]
                            exact ⟨rfl, hX, hL, hK, hU, rfl⟩)
          · refine z_aload (pc := 70) (zk3 kX4_copy_2) rfl ?_
            refine z_rdV (pc := 72) (zk4 kX4_copy_2) (st := []) lkX4_78 ivX2_holdsNothing (hK.2.2.1 ky (show ky < 8 by omega)).1 rfl rfl (c_xNothing (hK.2.2.1 ky (show ky < 8 by omega)) hS h8 (show ky < 8 by omega)) rfl ⟨rfl, rfl⟩ rfl rfl ?_ rfl
            refine z_oif_eq (pc := 75) (zk5 kX4_copy_2) (tgt := 82) (by decide) (fun c_18 => ?_) (fun c_18 => ?_)
            · refine z_iconst (pc := 82) (zk8 kX4_copy_2) (v := 0) (by decide) ?_
              refine z_istore (pc := 83) (zk9 kX4_copy_2) rfl rfl ?_
              show Z D B xX4_copy _ _ _ 85 [some (.ref p), some (.int (nI kx)), some (.int (nI ky)), some (.int z), some (.int u), some (.int v), some (.ref (p + 32 + 2 * kx)), some (.ref (p + 32 + 2 * ky)), some (.int 0)] _ _ _
              refine z_iload (pc := 85) (zk10 kX4_copy_2) rfl ?_
              refine z_if_ne (pc := 87) (zk11 kX4_copy_2) (tgt := 110) (by decide) (fun q => absurd (by decide) q) (fun _ => ?_)
              obtain ⟨h1p, -, rp, hrp, erp⟩ := SW_row hS (show kx < 8 by omega) (of_decide_eq_false c_9) (of_decide_eq_false c_14)
              obtain ⟨h1q, -, rq, hrq, erq⟩ := SW_row hS (show ky < 8 by omega) (of_decide_eq_false c_13) (of_decide_eq_false c_18)
              refine z_aload (pc := 90) (zk12 kX4_copy_2) rfl ?_
              refine z_getf (pc := 92) (zk13 kX4_copy_2) flX4_81 (hK.2.2.1 kx (show kx < 8 by omega)).1 (v := .int (heldF τ kx)) rfl ?_
              refine z_top (congrArg Value.int (held_1 h1p).1) ?_
              refine z_aload (pc := 95) (zk14 kX4_copy_2) rfl ?_
              refine z_getf (pc := 97) (zk15 kX4_copy_2) flX4_81 (hK.2.2.1 ky (show ky < 8 by omega)).1 (v := .int (heldF τ ky)) rfl ?_
              refine z_top (congrArg Value.int (held_1 h1q).1) ?_
              refine z_icmp_eq (pc := 100) (zk0 kX4_copy_3) (tgt := 110) (by decide) (fun c_19 => ?_) (fun c_19 => ?_)
              · refine z_iload (pc := 110) (zk5 kX4_copy_3) rfl ?_
                refine z_if_eq (pc := 112) (zk6 kX4_copy_3) (tgt := 122) (by decide) (fun _ => ?_) (fun q => absurd (by decide) q)
                refine z_aload (pc := 122) (zk11 kX4_copy_3) rfl ?_
                refine z_iload_n (pc := 124) (zk12 kX4_copy_3) rfl ?_
                refine z_iload (pc := 125) (zk13 kX4_copy_3) rfl ?_
                refine z_rdV (pc := 127) (zk14 kX4_copy_3) (st := []) lkX4_85 ivX2_hasPart (hK.2.2.1 kx (show kx < 8 by omega)).1 rfl rfl (c_hasPart (hK.2.2.1 kx (show kx < 8 by omega))) rfl ⟨rfl, rfl⟩ rfl rfl ?_ rfl
                rw [show sizeF τ kx = nI rp by rw [(held_1 h1p).2, erp]]
                refine z_oif_eq (pc := 130) (zk15 kX4_copy_3) (tgt := 145) (by decide) (fun c_20 => ?_) (fun c_20 => ?_)
                · refine z_aload_n (pc := 145) (zk5 kX4_copy_4) rfl ?_
                  refine z_bipush (pc := 146) (zk6 kX4_copy_4) (v := (-2)) (by decide) ?_
                  refine z_efV (pc := 148) (zk7 kX4_copy_4) (st := []) lkX4_56 ivX4_refuse hX.1 rfl rfl (c_xrefuse (i := 0) hX hB (by decide) (by decide) (by decide)) rfl ⟨rfl, rfl⟩ rfl rfl (fun r_ h_22 z_ q_21 => ?_) rfl
                  obtain ⟨er_, hR, hU_23, ez_⟩ := q_21
                  rw [er_, ez_]
                  clear er_ ez_
                  replace hL := LnAt.fr hL hU_23 (by omega)
                  replace hU := hU.tr hU_23 (by omega) (by omega)
                  replace hK := XR.fr hK hU_23 (by omega)
                  replace hX := hR; clear hR
                  show Z D B xX4_copy _ _ _ 151 _ [.int (-2)] _ _
                  exact z_iret (pc := 151) (zk8 kX4_copy_4) rfl (Nat.zero_le _) (Nat.zero_le _) (by
                                        rw [show sp_copy σ τ ε (nI kx) (nI ky) z u v = ((-2), σ, (rfN τ 2), ε) from by rw [sp_copy, ix_nI (show kx ≤ 1000 by omega), ix_nI (show ky ≤ 1000 by omega), if_neg (show ¬ okS (nI kx) = false by rw [okS, c_6]; decide), if_neg (show ¬ okS (nI ky) = false by rw [okS, c_8]; decide), if_neg (of_decide_eq_false c_9), if_neg (of_decide_eq_false c_13), if_neg (fun q => q.2.2 c_19), if_neg (of_decide_eq_false c_14), if_neg (of_decide_eq_false c_18), erp, erq, if_pos (cp_b1 (part_bad hrp c_20))]; rfl]
                                        exact ⟨rfl, hX, hL, hK, hU, rfl⟩)
                · obtain ⟨c_24, c_25⟩ := Bool.and_eq_true_iff.mp c_20
                  obtain ⟨c_26, c_27⟩ := Bool.and_eq_true_iff.mp c_24
                  refine z_aload (pc := 133) (zk0 kX4_copy_4) rfl ?_
                  refine z_iload (pc := 135) (zk1 kX4_copy_4) rfl ?_
                  refine z_iload (pc := 137) (zk2 kX4_copy_4) rfl ?_
                  refine z_rdV (pc := 139) (zk3 kX4_copy_4) (st := []) lkX4_85 ivX2_hasPart (hK.2.2.1 ky (show ky < 8 by omega)).1 rfl rfl (c_hasPart (hK.2.2.1 ky (show ky < 8 by omega))) rfl ⟨rfl, rfl⟩ rfl rfl ?_ rfl
                  rw [show sizeF τ ky = nI rq by rw [(held_1 h1q).2, erq]]
                  refine z_oif_ne (pc := 142) (zk4 kX4_copy_4) (tgt := 152) (by decide) (fun c_28 => ?_) (fun c_28 => ?_)
                  · obtain ⟨c_29, c_30⟩ := Bool.and_eq_true_iff.mp c_28
                    obtain ⟨c_31, c_32⟩ := Bool.and_eq_true_iff.mp c_29
                    obtain ⟨kz, kv, hab, ez1_, ev1_⟩ := part_nat hrp (of_decide_eq_true c_26) (of_decide_eq_true c_32) (of_decide_eq_true c_25)
                    obtain ⟨ku, kv2, hcd, eu1_, ev2_⟩ := part_nat hrq (of_decide_eq_true c_31) (of_decide_eq_true c_32) (of_decide_eq_true c_30)
                    have ekv : kv2 = kv := (nI_eqI (by omega) (by omega)).mp (ev2_.symm.trans ev1_)
                    subst ekv ez1_ eu1_ ev1_
                    refine z_aload (pc := 152) (zk9 kX4_copy_4) rfl ?_
                    refine z_getf (pc := 154) (zk10 kX4_copy_4) flX4_89 (hK.2.2.1 kx (show kx < 8 by omega)).1 gSh_2 ?_
                    refine z_iload_n (pc := 157) (zk11 kX4_copy_4) rfl ?_
                    refine z_aload (pc := 158) (zk12 kX4_copy_4) rfl ?_
                    refine z_getf (pc := 160) (zk13 kX4_copy_4) flX4_89 (hK.2.2.1 ky (show ky < 8 by omega)).1 gSh_2 ?_
                    refine z_iload (pc := 163) (zk14 kX4_copy_4) rfl ?_
                    refine z_iload (pc := 165) (zk15 kX4_copy_4) rfl ?_
                    refine z_copyJ (pc := 167) (zk0 kX4_copy_5) (f := ε kx) (g := ε ky) (n0 := 40) (n1 := 40) zcpX4_93 (hK.2.2.1 kx (by omega)).2 (hK.2.2.1 ky (by omega)).2 (by omega) (nI_pos (by omega)) (nI_pos (by omega)) (nI_pos (by omega)) (by rw [nI_clamp (by omega), nI_clamp (by omega)]; omega) (by rw [nI_clamp (by omega), nI_clamp (by omega)]; omega) rfl rfl ?_
                    rw [nI_clamp (n := kz) (by omega), nI_clamp (n := ku) (by omega), nI_clamp (n := kv2) (by omega)]
                    have hU_33 : Upd h (zup h (p + 32 + 2 * ky + 1) (zJ 40 (va_cpy (ε kx) (ε ky) kz ku kv2))) (p + 32 + 2 * ky) 2 := Upd.one.wd (by omega) (by omega)
                    have hR := ShAt.cp (f := va_cpy (ε kx) (ε ky) kz ku kv2) (hK.2.2.1 ky (by omega))
                    generalize zup h (p + 32 + 2 * ky + 1) (zJ 40 (va_cpy (ε kx) (ε ky) kz ku kv2)) = h_34 at hU_33 hR ⊢
                    replace hX := XoAt.fr hX hU_33 (by omega)
                    replace hL := LnAt.fr hL hU_33 (by omega)
                    replace hU := hU.tr hU_33 (by omega) (by omega)
                    replace hK : XR h_34 p κ τ (cpE ε kx ky kz ku kv2) := XR.sh hK (show ky < 8 by omega) hU_33 (by rw [show (cpE ε kx ky kz ku kv2) ky = va_cpy (ε kx) (ε ky) kz ku kv2 by simp [cpE]]; exact hR) (fun r h1 h2 => ⟨rfl, rfl, by simp [cpE, h2]⟩) rfl rfl
                    clear hR
                    refine z_iload (pc := 170) (zk1 kX4_copy_5) rfl ?_
                    exact z_iret (pc := 172) (zk2 kX4_copy_5) rfl (Nat.zero_le _) (Nat.zero_le _) (by
                                            rw [show sp_copy σ τ ε (nI kx) (nI ky) (nI kz) (nI ku) (nI kv2) = ((nI kv2), σ, τ, (cpE ε kx ky kz ku kv2)) from by (rw [sp_copy, ix_nI (show kx ≤ 1000 by omega), ix_nI (show ky ≤ 1000 by omega), if_neg (show ¬ okS (nI kx) = false by rw [okS, c_6]; decide), if_neg (show ¬ okS (nI ky) = false by rw [okS, c_8]; decide), if_neg (of_decide_eq_false c_9), if_neg (of_decide_eq_false c_13), if_neg (fun q => q.2.2 c_19), if_neg (of_decide_eq_false c_14), if_neg (of_decide_eq_false c_18), erp, erq, if_neg (cp_g (part_good hrp hab) (part_good hrq hcd))]; simp [ix_nI (show kz ≤ 1000 by omega), ix_nI (show ku ≤ 1000 by omega), ix_nI (show kv2 ≤ 1000 by omega)])]
                                            exact ⟨rfl, hX, hL, hK, hU, rfl⟩)
                  · refine z_aload_n (pc := 145) (zk5 kX4_copy_4) rfl ?_
                    refine z_bipush (pc := 146) (zk6 kX4_copy_4) (v := (-2)) (by decide) ?_
                    refine z_efV (pc := 148) (zk7 kX4_copy_4) (st := []) lkX4_56 ivX4_refuse hX.1 rfl rfl (c_xrefuse (i := 0) hX hB (by decide) (by decide) (by decide)) rfl ⟨rfl, rfl⟩ rfl rfl (fun r_ h_36 z_ q_35 => ?_) rfl
                    obtain ⟨er_, hR, hU_37, ez_⟩ := q_35
                    rw [er_, ez_]
                    clear er_ ez_
                    replace hL := LnAt.fr hL hU_37 (by omega)
                    replace hU := hU.tr hU_37 (by omega) (by omega)
                    replace hK := XR.fr hK hU_37 (by omega)
                    replace hX := hR; clear hR
                    show Z D B xX4_copy _ _ _ 151 _ [.int (-2)] _ _
                    exact z_iret (pc := 151) (zk8 kX4_copy_4) rfl (Nat.zero_le _) (Nat.zero_le _) (by
                                            rw [show sp_copy σ τ ε (nI kx) (nI ky) z u v = ((-2), σ, (rfN τ 2), ε) from by rw [sp_copy, ix_nI (show kx ≤ 1000 by omega), ix_nI (show ky ≤ 1000 by omega), if_neg (show ¬ okS (nI kx) = false by rw [okS, c_6]; decide), if_neg (show ¬ okS (nI ky) = false by rw [okS, c_8]; decide), if_neg (of_decide_eq_false c_9), if_neg (of_decide_eq_false c_13), if_neg (fun q => q.2.2 c_19), if_neg (of_decide_eq_false c_14), if_neg (of_decide_eq_false c_18), erp, erq, if_pos (cp_b2 (part_bad hrq c_28))]; rfl]
                                            exact ⟨rfl, hX, hL, hK, hU, rfl⟩)
              · refine z_aload_n (pc := 103) (zk1 kX4_copy_3) rfl ?_
                refine z_bipush (pc := 104) (zk2 kX4_copy_3) (v := (-3)) (by decide) ?_
                refine z_efV (pc := 106) (zk3 kX4_copy_3) (st := []) lkX4_56 ivX4_refuse hX.1 rfl rfl (c_xrefuse (i := 1) hX hB (by decide) (by decide) (by decide)) rfl ⟨rfl, rfl⟩ rfl rfl (fun r_ h_39 z_ q_38 => ?_) rfl
                obtain ⟨er_, hR, hU_40, ez_⟩ := q_38
                rw [er_, ez_]
                clear er_ ez_
                replace hL := LnAt.fr hL hU_40 (by omega)
                replace hU := hU.tr hU_40 (by omega) (by omega)
                replace hK := XR.fr hK hU_40 (by omega)
                replace hX := hR; clear hR
                show Z D B xX4_copy _ _ _ 109 _ [.int (-3)] _ _
                exact z_iret (pc := 109) (zk4 kX4_copy_3) rfl (Nat.zero_le _) (Nat.zero_le _) (by
                                    rw [show sp_copy σ τ ε (nI kx) (nI ky) z u v = ((-3), σ, (rfN τ 3), ε) from by rw [sp_copy, ix_nI (show kx ≤ 1000 by omega), ix_nI (show ky ≤ 1000 by omega), if_neg (show ¬ okS (nI kx) = false by rw [okS, c_6]; decide), if_neg (show ¬ okS (nI ky) = false by rw [okS, c_8]; decide), if_neg (of_decide_eq_false c_9), if_neg (of_decide_eq_false c_13), if_pos ⟨h1p, h1q, c_19⟩]; rfl]
                                    exact ⟨rfl, hX, hL, hK, hU, rfl⟩)
            · refine z_iconst (pc := 78) (zk6 kX4_copy_2) (v := 1) (by decide) ?_
              refine z_goto (pc := 79) (zk7 kX4_copy_2) (tgt := 83) (by decide) ?_
              refine z_istore (pc := 83) (zk9 kX4_copy_2) rfl rfl ?_
              show Z D B xX4_copy _ _ _ 85 [some (.ref p), some (.int (nI kx)), some (.int (nI ky)), some (.int z), some (.int u), some (.int v), some (.ref (p + 32 + 2 * kx)), some (.ref (p + 32 + 2 * ky)), some (.int 1)] _ _ _
              refine z_iload (pc := 85) (zk10 kX4_copy_2) rfl ?_
              refine z_if_ne (pc := 87) (zk11 kX4_copy_2) (tgt := 110) (by decide) (fun _ => ?_) (fun q => absurd q (by decide))
              refine z_iload (pc := 110) (zk5 kX4_copy_3) rfl ?_
              refine z_if_eq (pc := 112) (zk6 kX4_copy_3) (tgt := 122) (by decide) (fun q => absurd q (by decide)) (fun _ => ?_)
              refine z_aload_n (pc := 115) (zk7 kX4_copy_3) rfl ?_
              refine z_bipush (pc := 116) (zk8 kX4_copy_3) (v := (-4)) (by decide) ?_
              refine z_efV (pc := 118) (zk9 kX4_copy_3) (st := []) lkX4_56 ivX4_refuse hX.1 rfl rfl (c_xrefuse (i := 2) hX hB (by decide) (by decide) (by decide)) rfl ⟨rfl, rfl⟩ rfl rfl (fun r_ h_42 z_ q_41 => ?_) rfl
              obtain ⟨er_, hR, hU_43, ez_⟩ := q_41
              rw [er_, ez_]
              clear er_ ez_
              replace hL := LnAt.fr hL hU_43 (by omega)
              replace hU := hU.tr hU_43 (by omega) (by omega)
              replace hK := XR.fr hK hU_43 (by omega)
              replace hX := hR; clear hR
              show Z D B xX4_copy _ _ _ 121 _ [.int (-4)] _ _
              exact z_iret (pc := 121) (zk10 kX4_copy_3) rfl (Nat.zero_le _) (Nat.zero_le _) (by
                                rw [show sp_copy σ τ ε (nI kx) (nI ky) z u v = ((-4), σ, (rfN τ 4), ε) from by rw [sp_copy, ix_nI (show kx ≤ 1000 by omega), ix_nI (show ky ≤ 1000 by omega), if_neg (show ¬ okS (nI kx) = false by rw [okS, c_6]; decide), if_neg (show ¬ okS (nI ky) = false by rw [okS, c_8]; decide), if_neg (of_decide_eq_false c_9), if_neg (of_decide_eq_false c_13), if_neg (fun q => by rw [of_decide_eq_true c_18] at q; exact absurd q.2.1 (by decide)), if_neg (of_decide_eq_false c_14), if_pos (of_decide_eq_true c_18)]; rfl]
                                exact ⟨rfl, hX, hL, hK, hU, rfl⟩)
        · refine z_aload_n (pc := 55) (zk12 kX4_copy_1) rfl ?_
          refine z_bipush (pc := 56) (zk13 kX4_copy_1) (v := (-3)) (by decide) ?_
          refine z_efV (pc := 58) (zk14 kX4_copy_1) (st := []) lkX4_56 ivX4_refuse hX.1 rfl rfl (c_xrefuse (i := 1) hX hB (by decide) (by decide) (by decide)) rfl ⟨rfl, rfl⟩ rfl rfl (fun r_ h_45 z_ q_44 => ?_) rfl
          obtain ⟨er_, hR, hU_46, ez_⟩ := q_44
          rw [er_, ez_]
          clear er_ ez_
          replace hL := LnAt.fr hL hU_46 (by omega)
          replace hU := hU.tr hU_46 (by omega) (by omega)
          replace hK := XR.fr hK hU_46 (by omega)
          replace hX := hR; clear hR
          show Z D B xX4_copy _ _ _ 61 _ [.int (-3)] _ _
          exact z_iret (pc := 61) (zk15 kX4_copy_1) rfl (Nat.zero_le _) (Nat.zero_le _) (by
                        rw [show sp_copy σ τ ε (nI kx) (nI ky) z u v = ((-3), σ, (rfN τ 3), ε) from by rw [sp_copy, ix_nI (show kx ≤ 1000 by omega), ix_nI (show ky ≤ 1000 by omega), if_neg (show ¬ okS (nI kx) = false by rw [okS, c_6]; decide), if_neg (show ¬ okS (nI ky) = false by rw [okS, c_8]; decide), if_neg (of_decide_eq_false c_9), if_pos (of_decide_eq_true c_13)]; rfl]
                        exact ⟨rfl, hX, hL, hK, hU, rfl⟩)
    · have c_47 : okR 0 7 y = false := by simpa using c_7
      refine z_aload_n (pc := 16) (zk8 kX4_copy_0) rfl ?_
      refine z_bipush (pc := 17) (zk9 kX4_copy_0) (v := (-2)) (by decide) ?_
      refine z_efV (pc := 19) (zk10 kX4_copy_0) (st := []) lkX4_56 ivX4_refuse hX.1 rfl rfl (c_xrefuse (i := 0) hX hB (by decide) (by decide) (by decide)) rfl ⟨rfl, rfl⟩ rfl rfl (fun r_ h_49 z_ q_48 => ?_) rfl
      obtain ⟨er_, hR, hU_50, ez_⟩ := q_48
      rw [er_, ez_]
      clear er_ ez_
      replace hL := LnAt.fr hL hU_50 (by omega)
      replace hU := hU.tr hU_50 (by omega) (by omega)
      replace hK := XR.fr hK hU_50 (by omega)
      replace hX := hR; clear hR
      show Z D B xX4_copy _ _ _ 22 _ [.int (-2)] _ _
      exact z_iret (pc := 22) (zk11 kX4_copy_0) rfl (Nat.zero_le _) (Nat.zero_le _) (by
                rw [show sp_copy σ τ ε x y z u v = ((-2), σ, (rfN τ 2), ε) from by simp [sp_copy, sBad, okS, okH, okL, okT, okB, sRd, up2_id, up2_id2, oI, sOther, sNone, sFull, c_1, c_6, c_7, c_47]]
                exact ⟨rfl, hX, hL, hK, hU, rfl⟩)
