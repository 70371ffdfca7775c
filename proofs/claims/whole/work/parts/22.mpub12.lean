theorem cp_nat {r : Nat} {v : Int32} (hr : r ≤ 40) (h0 : ¬ v < 0) (h1 : ¬ nI r < v) : ∃ k, k ≤ r ∧ v = nI k := by
  obtain ⟨k, hk, e⟩ := okR_c (c := r) (x := v) (by omega) (by unfold okR; rw [decide_eq_true (Int32.not_lt.mp h0), decide_eq_true (Int32.not_lt.mp h1)]; rfl)
  exact ⟨k, by omega, e⟩
theorem cp_le {a b : Nat} (ha : a ≤ 40) (hb : b ≤ 40) (h : ¬ nI a < nI b) : b ≤ a := by
  rcases Nat.lt_or_ge a b with q | q
  · exact absurd ((nI_ltI (by omega) (by omega)).mpr q) h
  · exact q
theorem mv_s {m : Nat → Int64} {e : Nat → Int64} {k i : Nat} (h : ∀ a, a < i → m a = e (k + a)) : ∀ a, a < i + 1 → vp_updL m i (e (k + i)) a = e (k + a) := by
  intro a ha
  by_cases c : a = i
  · subst c; simp [vp_updL]
  · simp [vp_updL, c, h a (by omega)]
theorem cpE_0 (ε : El) (p q i j : Nat) : cpE ε p q i j 0 = ε := by
  funext a
  by_cases h : a = q
  · subst h; funext k; simp [cpE, va_cpy]; omega
  · simp [cpE, h]
theorem cpE_s {ε : El} {p q i0 j0 j : Nat} {v : Int64} (hv : v = ε p (i0 + j)) : upE (cpE ε p q i0 j0 j) q (j0 + j) v = cpE ε p q i0 j0 (j + 1) := by
  subst hv
  funext a
  by_cases h : a = q
  · subst h; funext k
    by_cases c : k = j0 + j
    · subst c
      simp [upE, vp_updL, cpE, va_cpy, show j0 + j < j0 + (j + 1) by omega]
    · have e : (j0 ≤ k ∧ k < j0 + (j + 1)) ↔ (j0 ≤ k ∧ k < j0 + j) := by omega
      simp only [upE, vp_updL, cpE, va_cpy, if_true, if_neg c, e]
  · simp [upE, cpE, h]
set_option maxRecDepth 20000 in
theorem cP_copy {D : zD} {B : Nat} {h : zH} {sz : Nat} {p : Nat} {σ τ ω : Ln} {ε : El} {mv : Nat → Int64} {kp tr : Option Nat} {x : Int32} {y : Int32} {z : Int32} {u : Int32} {v : Int32} {n m : Nat} (hM : MoAt h p σ τ ω ε mv kp tr) (hB : B ≤ p) (hn : σ 0 0 = nI n) (h12 : n ≤ 12) (hm : σ 9 0 = nI m) (h8 : m ≤ 8) (hto : ∀ l, l < m → ToOk σ l) (hS : SW τ m) : zM D B xX5_copy [.ref p, .int x, .int y, .int z, .int u, .int v] h sz (mQ h p sz kp tr (sp_copy σ τ ε x y z u v)) := by
  have hU : Upd h h p 29 := Upd.rf
  refine zM.of (by decide) rfl (n := 1) ?_
  show Z D B xX5_copy 0 0 _ 0 [some (.ref p), some (.int x), some (.int y), some (.int z), some (.int u), some (.int v), none] [] h sz
  refine z_iload_n (pc := 0) (zk0 kX5_copy_0) rfl ?_
  refine z_i2l (pc := 1) (zk1 kX5_copy_0) ?_
  refine z_lconst (pc := 2) (zk2 kX5_copy_0) (v := 0) (by decide) ?_
  refine z_ldc2 (pc := 3) (zk3 kX5_copy_0) klX5_88 ?_
  refine z_rdS (pc := 6) (zk4 kX5_copy_0) (st := []) lkX5_81 isX5_in (c_inI (x := x) (a := 0) (b := 7) (by decide) (by decide)) rfl ⟨rfl, rfl⟩ rfl rfl ?_ rfl
  refine z_oif_eq (pc := 9) (zk5 kX5_copy_0) (tgt := 24) (by decide) (fun c_1 => ?_) (fun c_1 => ?_)
  · refine z_aload_n (pc := 24) (zk12 kX5_copy_0) rfl ?_
    refine z_bipush (pc := 25) (zk13 kX5_copy_0) (v := (-2)) (by decide) ?_
    refine z_efV (pc := 27) (zk14 kX5_copy_0) (st := []) lkX5_94 ivX5_refuse hM.1 rfl rfl (c_refuse hM (by omega) (j := 2) (by decide) (by decide)) rfl ⟨rfl, rfl⟩ rfl rfl (fun r_ h_3 z_ q_2 => ?_) rfl
    obtain ⟨er_, hR, hU_4, ez_⟩ := q_2
    rw [er_, ez_]
    clear er_ ez_
    replace hU := hU.tr hU_4 (by omega) (by omega)
    replace hM := hR; clear hR
    show Z D B xX5_copy _ _ _ 30 _ [.int (-2)] _ _
    exact z_iret (pc := 30) (zk15 kX5_copy_0) rfl (Nat.zero_le _) (Nat.zero_le _) (by
            rw [show sp_copy σ τ ε x y z u v = ((-2), σ, rfN τ 2, ε) from by simp [sp_copy, sBad, okS, okH, okL, okT, okB, sRd, up2_id, up2_id2, oI, sOther, sNone, sFull, c_1]]
            exact ⟨_, _, rfl, hM, hU, rfl⟩)
  · refine z_iload_n (pc := 12) (zk6 kX5_copy_0) rfl ?_
    refine z_i2l (pc := 13) (zk7 kX5_copy_0) ?_
    refine z_lconst (pc := 14) (zk8 kX5_copy_0) (v := 0) (by decide) ?_
    refine z_ldc2 (pc := 15) (zk9 kX5_copy_0) klX5_88 ?_
    refine z_rdS (pc := 18) (zk10 kX5_copy_0) (st := []) lkX5_81 isX5_in (c_inI (x := y) (a := 0) (b := 7) (by decide) (by decide)) rfl ⟨rfl, rfl⟩ rfl rfl ?_ rfl
    refine z_oif_ne (pc := 21) (zk11 kX5_copy_0) (tgt := 31) (by decide) (fun c_5 => ?_) (fun c_5 => ?_)
    · refine z_aload_n (pc := 31) (zk0 kX5_copy_1) rfl ?_
      refine z_getf (pc := 32) (zk1 kX5_copy_1) flX5_7 hM.1 gMo_0 ?_
      refine z_iload_n (pc := 35) (zk2 kX5_copy_1) rfl ?_
      obtain ⟨kx, hkx, rfl⟩ := okR_c (c := 7) (by decide) c_1
      refine z_ialdN (pc := 36) (zk3 kX5_copy_1) (f := τ 1) (j := kx) hM.2.1 (show kx < 8 by omega) rfl ?_
      refine z_iconst (pc := 37) (zk4 kX5_copy_1) (v := 2) (by decide) ?_
      refine z_icmp_eq (pc := 38) (zk5 kX5_copy_1) (tgt := 86) (by decide) (fun c_6 => ?_) (fun c_6 => ?_)
      · refine z_aload_n (pc := 86) (zk1 kX5_copy_3) rfl ?_
        refine z_bipush (pc := 87) (zk2 kX5_copy_3) (v := (-3)) (by decide) ?_
        refine z_efV (pc := 89) (zk3 kX5_copy_3) (st := []) lkX5_94 ivX5_refuse hM.1 rfl rfl (c_refuse hM (by omega) (j := 3) (by decide) (by decide)) rfl ⟨rfl, rfl⟩ rfl rfl (fun r_ h_8 z_ q_7 => ?_) rfl
        obtain ⟨er_, hR, hU_9, ez_⟩ := q_7
        rw [er_, ez_]
        clear er_ ez_
        replace hU := hU.tr hU_9 (by omega) (by omega)
        replace hM := hR; clear hR
        show Z D B xX5_copy _ _ _ 92 _ [.int (-3)] _ _
        exact z_iret (pc := 92) (zk4 kX5_copy_3) rfl (Nat.zero_le _) (Nat.zero_le _) (by
                    rw [show sp_copy σ τ ε (nI kx) y z u v = ((-3), σ, rfN τ 3, ε) from by simp [sp_copy, sBad, okS, okH, okL, okT, okB, sRd, up2_id, up2_id2, oI, sOther, sNone, sFull, c_1, c_5, c_6, ix_nI (show kx ≤ 1000 by omega)]]
                    exact ⟨_, _, rfl, hM, hU, rfl⟩)
      · refine z_aload_n (pc := 41) (zk6 kX5_copy_1) rfl ?_
        refine z_getf (pc := 42) (zk7 kX5_copy_1) flX5_7 hM.1 gMo_0 ?_
        refine z_iload_n (pc := 45) (zk8 kX5_copy_1) rfl ?_
        obtain ⟨ky, hky, rfl⟩ := okR_c (c := 7) (by decide) c_5
        refine z_ialdN (pc := 46) (zk9 kX5_copy_1) (f := τ 1) (j := ky) hM.2.1 (show ky < 8 by omega) rfl ?_
        refine z_iconst (pc := 47) (zk10 kX5_copy_1) (v := 2) (by decide) ?_
        refine z_icmp_eq (pc := 48) (zk11 kX5_copy_1) (tgt := 86) (by decide) (fun c_10 => ?_) (fun c_10 => ?_)
        · refine z_aload_n (pc := 86) (zk1 kX5_copy_3) rfl ?_
          refine z_bipush (pc := 87) (zk2 kX5_copy_3) (v := (-3)) (by decide) ?_
          refine z_efV (pc := 89) (zk3 kX5_copy_3) (st := []) lkX5_94 ivX5_refuse hM.1 rfl rfl (c_refuse hM (by omega) (j := 3) (by decide) (by decide)) rfl ⟨rfl, rfl⟩ rfl rfl (fun r_ h_12 z_ q_11 => ?_) rfl
          obtain ⟨er_, hR, hU_13, ez_⟩ := q_11
          rw [er_, ez_]
          clear er_ ez_
          replace hU := hU.tr hU_13 (by omega) (by omega)
          replace hM := hR; clear hR
          show Z D B xX5_copy _ _ _ 92 _ [.int (-3)] _ _
          exact z_iret (pc := 92) (zk4 kX5_copy_3) rfl (Nat.zero_le _) (Nat.zero_le _) (by
                        rw [show sp_copy σ τ ε (nI kx) (nI ky) z u v = ((-3), σ, rfN τ 3, ε) from by simp [sp_copy, sBad, okS, okH, okL, okT, okB, sRd, up2_id, up2_id2, oI, sOther, sNone, sFull, c_1, c_5, c_6, c_10, ix_nI (show kx ≤ 1000 by omega), ix_nI (show ky ≤ 1000 by omega)]]
                        exact ⟨_, _, rfl, hM, hU, rfl⟩)
        · refine z_aload_n (pc := 51) (zk12 kX5_copy_1) rfl ?_
          refine z_getf (pc := 52) (zk13 kX5_copy_1) flX5_7 hM.1 gMo_0 ?_
          refine z_iload_n (pc := 55) (zk14 kX5_copy_1) rfl ?_
          refine z_ialdN (pc := 56) (zk15 kX5_copy_1) (f := τ 1) (j := kx) hM.2.1 (show kx < 8 by omega) rfl ?_
          refine z_iconst (pc := 57) (zk0 kX5_copy_2) (v := 1) (by decide) ?_
          refine z_icmp_ne (pc := 58) (zk1 kX5_copy_2) (tgt := 93) (by decide) (fun c_14 => ?_) (fun c_14 => ?_)
          · refine z_aload_n (pc := 93) (zk5 kX5_copy_3) rfl ?_
            refine z_getf (pc := 94) (zk6 kX5_copy_3) flX5_7 hM.1 gMo_0 ?_
            refine z_iload_n (pc := 97) (zk7 kX5_copy_3) rfl ?_
            refine z_ialdN (pc := 98) (zk8 kX5_copy_3) (f := τ 1) (j := kx) hM.2.1 (show kx < 8 by omega) rfl ?_
            refine z_if_eq (pc := 99) (zk9 kX5_copy_3) (tgt := 111) (by decide) (fun c_15 => ?_) (fun c_15 => ?_)
            · refine z_aload_n (pc := 111) (zk15 kX5_copy_3) rfl ?_
              refine z_bipush (pc := 112) (zk0 kX5_copy_4) (v := (-4)) (by decide) ?_
              refine z_efV (pc := 114) (zk1 kX5_copy_4) (st := []) lkX5_94 ivX5_refuse hM.1 rfl rfl (c_refuse hM (by omega) (j := 4) (by decide) (by decide)) rfl ⟨rfl, rfl⟩ rfl rfl (fun r_ h_17 z_ q_16 => ?_) rfl
              obtain ⟨er_, hR, hU_18, ez_⟩ := q_16
              rw [er_, ez_]
              clear er_ ez_
              replace hU := hU.tr hU_18 (by omega) (by omega)
              replace hM := hR; clear hR
              show Z D B xX5_copy _ _ _ 117 _ [.int (-4)] _ _
              exact z_iret (pc := 117) (zk2 kX5_copy_4) rfl (Nat.zero_le _) (Nat.zero_le _) (by
                                rw [show sp_copy σ τ ε (nI kx) (nI ky) z u v = ((-4), σ, rfN τ 4, ε) from by simp [sp_copy, sBad, okS, okH, okL, okT, okB, sRd, up2_id, up2_id2, oI, sOther, sNone, sFull, c_1, c_5, c_6, c_10, c_14, c_15, ix_nI (show kx ≤ 1000 by omega), ix_nI (show ky ≤ 1000 by omega)]]
                                exact ⟨_, _, rfl, hM, hU, rfl⟩)
            · refine z_aload_n (pc := 102) (zk10 kX5_copy_3) rfl ?_
              refine z_getf (pc := 103) (zk11 kX5_copy_3) flX5_7 hM.1 gMo_0 ?_
              refine z_iload_n (pc := 106) (zk12 kX5_copy_3) rfl ?_
              refine z_ialdN (pc := 107) (zk13 kX5_copy_3) (f := τ 1) (j := ky) hM.2.1 (show ky < 8 by omega) rfl ?_
              refine z_if_ne (pc := 108) (zk14 kX5_copy_3) (tgt := 118) (by decide) (fun c_19 => ?_) (fun c_19 => ?_)
              · exact (SW_no hS (by omega) c_15 c_14 c_6).elim
              · refine z_aload_n (pc := 111) (zk15 kX5_copy_3) rfl ?_
                refine z_bipush (pc := 112) (zk0 kX5_copy_4) (v := (-4)) (by decide) ?_
                refine z_efV (pc := 114) (zk1 kX5_copy_4) (st := []) lkX5_94 ivX5_refuse hM.1 rfl rfl (c_refuse hM (by omega) (j := 4) (by decide) (by decide)) rfl ⟨rfl, rfl⟩ rfl rfl (fun r_ h_21 z_ q_20 => ?_) rfl
                obtain ⟨er_, hR, hU_22, ez_⟩ := q_20
                rw [er_, ez_]
                clear er_ ez_
                replace hU := hU.tr hU_22 (by omega) (by omega)
                replace hM := hR; clear hR
                show Z D B xX5_copy _ _ _ 117 _ [.int (-4)] _ _
                exact z_iret (pc := 117) (zk2 kX5_copy_4) rfl (Nat.zero_le _) (Nat.zero_le _) (by
                                    rw [show sp_copy σ τ ε (nI kx) (nI ky) z u v = ((-4), σ, rfN τ 4, ε) from by simp [sp_copy, sBad, okS, okH, okL, okT, okB, sRd, up2_id, up2_id2, oI, sOther, sNone, sFull, c_1, c_5, c_6, c_10, c_14, c_15, c_19, ix_nI (show kx ≤ 1000 by omega), ix_nI (show ky ≤ 1000 by omega)]]
                                    exact ⟨_, _, rfl, hM, hU, rfl⟩)
          · refine z_aload_n (pc := 61) (zk2 kX5_copy_2) rfl ?_
            refine z_getf (pc := 62) (zk3 kX5_copy_2) flX5_7 hM.1 gMo_0 ?_
            refine z_iload_n (pc := 65) (zk4 kX5_copy_2) rfl ?_
            refine z_ialdN (pc := 66) (zk5 kX5_copy_2) (f := τ 1) (j := ky) hM.2.1 (show ky < 8 by omega) rfl ?_
            refine z_iconst (pc := 67) (zk6 kX5_copy_2) (v := 1) (by decide) ?_
            refine z_icmp_ne (pc := 68) (zk7 kX5_copy_2) (tgt := 93) (by decide) (fun c_23 => ?_) (fun c_23 => ?_)
            · refine z_aload_n (pc := 93) (zk5 kX5_copy_3) rfl ?_
              refine z_getf (pc := 94) (zk6 kX5_copy_3) flX5_7 hM.1 gMo_0 ?_
              refine z_iload_n (pc := 97) (zk7 kX5_copy_3) rfl ?_
              refine z_ialdN (pc := 98) (zk8 kX5_copy_3) (f := τ 1) (j := kx) hM.2.1 (show kx < 8 by omega) rfl ?_
              refine z_if_eq (pc := 99) (zk9 kX5_copy_3) (tgt := 111) (by decide) (fun q => absurd q (by rw [c_14]; decide)) (fun _ => ?_)
              refine z_aload_n (pc := 102) (zk10 kX5_copy_3) rfl ?_
              refine z_getf (pc := 103) (zk11 kX5_copy_3) flX5_7 hM.1 gMo_0 ?_
              refine z_iload_n (pc := 106) (zk12 kX5_copy_3) rfl ?_
              refine z_ialdN (pc := 107) (zk13 kX5_copy_3) (f := τ 1) (j := ky) hM.2.1 (show ky < 8 by omega) rfl ?_
              refine z_if_ne (pc := 108) (zk14 kX5_copy_3) (tgt := 118) (by decide) (fun c_24 => ?_) (fun c_24 => ?_)
              · exact (SW_no hS (by omega) c_24 c_23 c_10).elim
              · refine z_aload_n (pc := 111) (zk15 kX5_copy_3) rfl ?_
                refine z_bipush (pc := 112) (zk0 kX5_copy_4) (v := (-4)) (by decide) ?_
                refine z_efV (pc := 114) (zk1 kX5_copy_4) (st := []) lkX5_94 ivX5_refuse hM.1 rfl rfl (c_refuse hM (by omega) (j := 4) (by decide) (by decide)) rfl ⟨rfl, rfl⟩ rfl rfl (fun r_ h_26 z_ q_25 => ?_) rfl
                obtain ⟨er_, hR, hU_27, ez_⟩ := q_25
                rw [er_, ez_]
                clear er_ ez_
                replace hU := hU.tr hU_27 (by omega) (by omega)
                replace hM := hR; clear hR
                show Z D B xX5_copy _ _ _ 117 _ [.int (-4)] _ _
                exact z_iret (pc := 117) (zk2 kX5_copy_4) rfl (Nat.zero_le _) (Nat.zero_le _) (by
                                    rw [show sp_copy σ τ ε (nI kx) (nI ky) z u v = ((-4), σ, rfN τ 4, ε) from by simp [sp_copy, sBad, okS, okH, okL, okT, okB, sRd, up2_id, up2_id2, oI, sOther, sNone, sFull, c_1, c_5, c_6, c_10, c_14, c_23, c_24, ix_nI (show kx ≤ 1000 by omega), ix_nI (show ky ≤ 1000 by omega)]]
                                    exact ⟨_, _, rfl, hM, hU, rfl⟩)
            · refine z_aload_n (pc := 71) (zk8 kX5_copy_2) rfl ?_
              refine z_getf (pc := 72) (zk9 kX5_copy_2) flX5_13 hM.1 gMo_1 ?_
              refine z_iload_n (pc := 75) (zk10 kX5_copy_2) rfl ?_
              refine z_ialdN (pc := 76) (zk11 kX5_copy_2) (f := τ 2) (j := kx) hM.2.2.1 (show kx < 8 by omega) rfl ?_
              refine z_aload_n (pc := 77) (zk12 kX5_copy_2) rfl ?_
              refine z_getf (pc := 78) (zk13 kX5_copy_2) flX5_13 hM.1 gMo_1 ?_
              refine z_iload_n (pc := 81) (zk14 kX5_copy_2) rfl ?_
              refine z_ialdN (pc := 82) (zk15 kX5_copy_2) (f := τ 2) (j := ky) hM.2.2.1 (show ky < 8 by omega) rfl ?_
              refine z_icmp_eq (pc := 83) (zk0 kX5_copy_3) (tgt := 93) (by decide) (fun c_28 => ?_) (fun c_28 => ?_)
              · refine z_aload_n (pc := 93) (zk5 kX5_copy_3) rfl ?_
                refine z_getf (pc := 94) (zk6 kX5_copy_3) flX5_7 hM.1 gMo_0 ?_
                refine z_iload_n (pc := 97) (zk7 kX5_copy_3) rfl ?_
                refine z_ialdN (pc := 98) (zk8 kX5_copy_3) (f := τ 1) (j := kx) hM.2.1 (show kx < 8 by omega) rfl ?_
                refine z_if_eq (pc := 99) (zk9 kX5_copy_3) (tgt := 111) (by decide) (fun q => absurd q (by rw [c_14]; decide)) (fun _ => ?_)
                refine z_aload_n (pc := 102) (zk10 kX5_copy_3) rfl ?_
                refine z_getf (pc := 103) (zk11 kX5_copy_3) flX5_7 hM.1 gMo_0 ?_
                refine z_iload_n (pc := 106) (zk12 kX5_copy_3) rfl ?_
                refine z_ialdN (pc := 107) (zk13 kX5_copy_3) (f := τ 1) (j := ky) hM.2.1 (show ky < 8 by omega) rfl ?_
                refine z_if_ne (pc := 108) (zk14 kX5_copy_3) (tgt := 118) (by decide) (fun _ => ?_) (fun q => absurd q (by rw [c_23]; decide))
                refine z_iload (pc := 118) (zk3 kX5_copy_4) rfl ?_
                refine z_if_lt (pc := 120) (zk4 kX5_copy_4) (tgt := 181) (by decide) (fun c_29 => ?_) (fun c_29 => ?_)
                · refine z_aload_n (pc := 181) (zk5 kX5_copy_6) rfl ?_
                  refine z_bipush (pc := 182) (zk6 kX5_copy_6) (v := (-2)) (by decide) ?_
                  refine z_efV (pc := 184) (zk7 kX5_copy_6) (st := []) lkX5_94 ivX5_refuse hM.1 rfl rfl (c_refuse hM (by omega) (j := 2) (by decide) (by decide)) rfl ⟨rfl, rfl⟩ rfl rfl (fun r_ h_31 z_ q_30 => ?_) rfl
                  obtain ⟨er_, hR, hU_32, ez_⟩ := q_30
                  rw [er_, ez_]
                  clear er_ ez_
                  replace hU := hU.tr hU_32 (by omega) (by omega)
                  replace hM := hR; clear hR
                  show Z D B xX5_copy _ _ _ 187 _ [.int (-2)] _ _
                  exact z_iret (pc := 187) (zk8 kX5_copy_6) rfl (Nat.zero_le _) (Nat.zero_le _) (by
                                        rw [show sp_copy σ τ ε (nI kx) (nI ky) z u v = ((-2), σ, rfN τ 2, ε) from by simp [sp_copy, sBad, okS, okH, okL, okT, okB, sRd, up2_id, up2_id2, oI, sOther, sNone, sFull, c_1, c_5, c_6, c_10, c_14, c_23, c_28, c_29, Int32.not_le.mpr c_29, ix_nI (show kx ≤ 1000 by omega), ix_nI (show ky ≤ 1000 by omega)]]
                                        exact ⟨_, _, rfl, hM, hU, rfl⟩)
                · refine z_iload_n (pc := 123) (zk5 kX5_copy_4) rfl ?_
                  refine z_if_lt (pc := 124) (zk6 kX5_copy_4) (tgt := 181) (by decide) (fun c_33 => ?_) (fun c_33 => ?_)
                  · refine z_aload_n (pc := 181) (zk5 kX5_copy_6) rfl ?_
                    refine z_bipush (pc := 182) (zk6 kX5_copy_6) (v := (-2)) (by decide) ?_
                    refine z_efV (pc := 184) (zk7 kX5_copy_6) (st := []) lkX5_94 ivX5_refuse hM.1 rfl rfl (c_refuse hM (by omega) (j := 2) (by decide) (by decide)) rfl ⟨rfl, rfl⟩ rfl rfl (fun r_ h_35 z_ q_34 => ?_) rfl
                    obtain ⟨er_, hR, hU_36, ez_⟩ := q_34
                    rw [er_, ez_]
                    clear er_ ez_
                    replace hU := hU.tr hU_36 (by omega) (by omega)
                    replace hM := hR; clear hR
                    show Z D B xX5_copy _ _ _ 187 _ [.int (-2)] _ _
                    exact z_iret (pc := 187) (zk8 kX5_copy_6) rfl (Nat.zero_le _) (Nat.zero_le _) (by
                                            rw [show sp_copy σ τ ε (nI kx) (nI ky) z u v = ((-2), σ, rfN τ 2, ε) from by simp [sp_copy, sBad, okS, okH, okL, okT, okB, sRd, up2_id, up2_id2, oI, sOther, sNone, sFull, c_1, c_5, c_6, c_10, c_14, c_23, c_28, c_29, Int32.not_lt.mp c_29, c_33, Int32.not_le.mpr c_33, ix_nI (show kx ≤ 1000 by omega), ix_nI (show ky ≤ 1000 by omega)]]
                                            exact ⟨_, _, rfl, hM, hU, rfl⟩)
                  · refine z_iload (pc := 127) (zk7 kX5_copy_4) rfl ?_
                    refine z_if_lt (pc := 129) (zk8 kX5_copy_4) (tgt := 181) (by decide) (fun c_37 => ?_) (fun c_37 => ?_)
                    · refine z_aload_n (pc := 181) (zk5 kX5_copy_6) rfl ?_
                      refine z_bipush (pc := 182) (zk6 kX5_copy_6) (v := (-2)) (by decide) ?_
                      refine z_efV (pc := 184) (zk7 kX5_copy_6) (st := []) lkX5_94 ivX5_refuse hM.1 rfl rfl (c_refuse hM (by omega) (j := 2) (by decide) (by decide)) rfl ⟨rfl, rfl⟩ rfl rfl (fun r_ h_39 z_ q_38 => ?_) rfl
                      obtain ⟨er_, hR, hU_40, ez_⟩ := q_38
                      rw [er_, ez_]
                      clear er_ ez_
                      replace hU := hU.tr hU_40 (by omega) (by omega)
                      replace hM := hR; clear hR
                      show Z D B xX5_copy _ _ _ 187 _ [.int (-2)] _ _
                      exact z_iret (pc := 187) (zk8 kX5_copy_6) rfl (Nat.zero_le _) (Nat.zero_le _) (by
                                                rw [show sp_copy σ τ ε (nI kx) (nI ky) z u v = ((-2), σ, rfN τ 2, ε) from by simp [sp_copy, sBad, okS, okH, okL, okT, okB, sRd, up2_id, up2_id2, oI, sOther, sNone, sFull, c_1, c_5, c_6, c_10, c_14, c_23, c_28, c_29, Int32.not_lt.mp c_29, c_33, Int32.not_lt.mp c_33, c_37, Int32.not_le.mpr c_37, ix_nI (show kx ≤ 1000 by omega), ix_nI (show ky ≤ 1000 by omega)]]
                                                exact ⟨_, _, rfl, hM, hU, rfl⟩)
                    · refine z_iload (pc := 132) (zk9 kX5_copy_4) rfl ?_
                      refine z_aload_n (pc := 134) (zk10 kX5_copy_4) rfl ?_
                      refine z_getf (pc := 135) (zk11 kX5_copy_4) flX5_16 hM.1 gMo_2 ?_
                      refine z_iload_n (pc := 138) (zk12 kX5_copy_4) rfl ?_
                      refine z_ialdN (pc := 139) (zk13 kX5_copy_4) (f := τ 3) (j := kx) hM.2.2.2.1 (show kx < 8 by omega) rfl ?_
                      refine z_icmp_gt (pc := 140) (zk14 kX5_copy_4) (tgt := 181) (by decide) (fun c_41 => ?_) (fun c_41 => ?_)
                      · refine z_aload_n (pc := 181) (zk5 kX5_copy_6) rfl ?_
                        refine z_bipush (pc := 182) (zk6 kX5_copy_6) (v := (-2)) (by decide) ?_
                        refine z_efV (pc := 184) (zk7 kX5_copy_6) (st := []) lkX5_94 ivX5_refuse hM.1 rfl rfl (c_refuse hM (by omega) (j := 2) (by decide) (by decide)) rfl ⟨rfl, rfl⟩ rfl rfl (fun r_ h_43 z_ q_42 => ?_) rfl
                        obtain ⟨er_, hR, hU_44, ez_⟩ := q_42
                        rw [er_, ez_]
                        clear er_ ez_
                        replace hU := hU.tr hU_44 (by omega) (by omega)
                        replace hM := hR; clear hR
                        show Z D B xX5_copy _ _ _ 187 _ [.int (-2)] _ _
                        exact z_iret (pc := 187) (zk8 kX5_copy_6) rfl (Nat.zero_le _) (Nat.zero_le _) (by
                                                    rw [show sp_copy σ τ ε (nI kx) (nI ky) z u v = ((-2), σ, rfN τ 2, ε) from by simp [sp_copy, sBad, okS, okH, okL, okT, okB, sRd, up2_id, up2_id2, oI, sOther, sNone, sFull, c_1, c_5, c_6, c_10, c_14, c_23, c_28, c_29, Int32.not_lt.mp c_29, c_33, Int32.not_lt.mp c_33, c_37, Int32.not_lt.mp c_37, c_41, Int32.not_le.mpr c_41, ix_nI (show kx ≤ 1000 by omega), ix_nI (show ky ≤ 1000 by omega)]]
                                                    exact ⟨_, _, rfl, hM, hU, rfl⟩)
                      · refine z_iload (pc := 143) (zk15 kX5_copy_4) rfl ?_
                        refine z_aload_n (pc := 145) (zk0 kX5_copy_5) rfl ?_
                        refine z_getf (pc := 146) (zk1 kX5_copy_5) flX5_16 hM.1 gMo_2 ?_
                        refine z_iload_n (pc := 149) (zk2 kX5_copy_5) rfl ?_
                        refine z_ialdN (pc := 150) (zk3 kX5_copy_5) (f := τ 3) (j := ky) hM.2.2.2.1 (show ky < 8 by omega) rfl ?_
                        refine z_icmp_gt (pc := 151) (zk4 kX5_copy_5) (tgt := 181) (by decide) (fun c_45 => ?_) (fun c_45 => ?_)
                        · refine z_aload_n (pc := 181) (zk5 kX5_copy_6) rfl ?_
                          refine z_bipush (pc := 182) (zk6 kX5_copy_6) (v := (-2)) (by decide) ?_
                          refine z_efV (pc := 184) (zk7 kX5_copy_6) (st := []) lkX5_94 ivX5_refuse hM.1 rfl rfl (c_refuse hM (by omega) (j := 2) (by decide) (by decide)) rfl ⟨rfl, rfl⟩ rfl rfl (fun r_ h_47 z_ q_46 => ?_) rfl
                          obtain ⟨er_, hR, hU_48, ez_⟩ := q_46
                          rw [er_, ez_]
                          clear er_ ez_
                          replace hU := hU.tr hU_48 (by omega) (by omega)
                          replace hM := hR; clear hR
                          show Z D B xX5_copy _ _ _ 187 _ [.int (-2)] _ _
                          exact z_iret (pc := 187) (zk8 kX5_copy_6) rfl (Nat.zero_le _) (Nat.zero_le _) (by
                                                        rw [show sp_copy σ τ ε (nI kx) (nI ky) z u v = ((-2), σ, rfN τ 2, ε) from by simp [sp_copy, sBad, okS, okH, okL, okT, okB, sRd, up2_id, up2_id2, oI, sOther, sNone, sFull, c_1, c_5, c_6, c_10, c_14, c_23, c_28, c_29, Int32.not_lt.mp c_29, c_33, Int32.not_lt.mp c_33, c_37, Int32.not_lt.mp c_37, c_41, Int32.not_lt.mp c_41, c_45, Int32.not_le.mpr c_45, ix_nI (show kx ≤ 1000 by omega), ix_nI (show ky ≤ 1000 by omega)]]
                                                        exact ⟨_, _, rfl, hM, hU, rfl⟩)
                        · refine z_iload_n (pc := 154) (zk5 kX5_copy_5) rfl ?_
                          refine z_aload_n (pc := 155) (zk6 kX5_copy_5) rfl ?_
                          refine z_getf (pc := 156) (zk7 kX5_copy_5) flX5_16 hM.1 gMo_2 ?_
                          refine z_iload_n (pc := 159) (zk8 kX5_copy_5) rfl ?_
                          refine z_ialdN (pc := 160) (zk9 kX5_copy_5) (f := τ 3) (j := kx) hM.2.2.2.1 (show kx < 8 by omega) rfl ?_
                          refine z_iload (pc := 161) (zk10 kX5_copy_5) rfl ?_
                          refine z_isub (pc := 163) (zk11 kX5_copy_5) ?_
                          refine z_icmp_gt (pc := 164) (zk12 kX5_copy_5) (tgt := 181) (by decide) (fun c_49 => ?_) (fun c_49 => ?_)
                          · refine z_aload_n (pc := 181) (zk5 kX5_copy_6) rfl ?_
                            refine z_bipush (pc := 182) (zk6 kX5_copy_6) (v := (-2)) (by decide) ?_
                            refine z_efV (pc := 184) (zk7 kX5_copy_6) (st := []) lkX5_94 ivX5_refuse hM.1 rfl rfl (c_refuse hM (by omega) (j := 2) (by decide) (by decide)) rfl ⟨rfl, rfl⟩ rfl rfl (fun r_ h_51 z_ q_50 => ?_) rfl
                            obtain ⟨er_, hR, hU_52, ez_⟩ := q_50
                            rw [er_, ez_]
                            clear er_ ez_
                            replace hU := hU.tr hU_52 (by omega) (by omega)
                            replace hM := hR; clear hR
                            show Z D B xX5_copy _ _ _ 187 _ [.int (-2)] _ _
                            exact z_iret (pc := 187) (zk8 kX5_copy_6) rfl (Nat.zero_le _) (Nat.zero_le _) (by
                                                            rw [show sp_copy σ τ ε (nI kx) (nI ky) z u v = ((-2), σ, rfN τ 2, ε) from by simp [sp_copy, sBad, okS, okH, okL, okT, okB, sRd, up2_id, up2_id2, oI, sOther, sNone, sFull, c_1, c_5, c_6, c_10, c_14, c_23, c_28, c_29, Int32.not_lt.mp c_29, c_33, Int32.not_lt.mp c_33, c_37, Int32.not_lt.mp c_37, c_41, Int32.not_lt.mp c_41, c_45, Int32.not_lt.mp c_45, c_49, Int32.not_le.mpr c_49, ix_nI (show kx ≤ 1000 by omega), ix_nI (show ky ≤ 1000 by omega)]]
                                                            exact ⟨_, _, rfl, hM, hU, rfl⟩)
                          · refine z_iload (pc := 167) (zk13 kX5_copy_5) rfl ?_
                            refine z_aload_n (pc := 169) (zk14 kX5_copy_5) rfl ?_
                            refine z_getf (pc := 170) (zk15 kX5_copy_5) flX5_16 hM.1 gMo_2 ?_
                            refine z_iload_n (pc := 173) (zk0 kX5_copy_6) rfl ?_
                            refine z_ialdN (pc := 174) (zk1 kX5_copy_6) (f := τ 3) (j := ky) hM.2.2.2.1 (show ky < 8 by omega) rfl ?_
                            refine z_iload (pc := 175) (zk2 kX5_copy_6) rfl ?_
                            refine z_isub (pc := 177) (zk3 kX5_copy_6) ?_
                            refine z_icmp_le (pc := 178) (zk4 kX5_copy_6) (tgt := 188) (by decide) (fun c_53 => ?_) (fun c_53 => ?_)
                            · obtain ⟨rp, hrp, erp⟩ := SW_row1 hS (by omega) c_14
                              obtain ⟨rq, hrq, erq⟩ := SW_row1 hS (by omega) c_23
                              obtain ⟨kv, hkv, rfl⟩ := cp_nat hrp c_29 (by rw [← erp]; exact c_41)
                              have hkv2 : kv ≤ rq := cp_le hrq (by omega) (by rw [← erq]; exact c_45)
                              obtain ⟨kz, hkz, rfl⟩ := cp_nat (r := rp - kv) (by omega) c_33 (by rw [← nI_sub1 hkv, ← erp]; exact c_49)
                              obtain ⟨ku, hku, rfl⟩ := cp_nat (r := rq - kv) (by omega) c_37 (by rw [← nI_sub1 hkv2, ← erq]; exact (Int32.not_lt.mpr c_53))
                              refine z_iconst (pc := 188) (zk9 kX5_copy_6) (v := 0) (by decide) ?_
                              refine z_istore (pc := 189) (zk10 kX5_copy_6) rfl rfl ?_
                              show Z D B xX5_copy _ _ _ 191 [some (.ref p), some (.int (nI kx)), some (.int (nI ky)), some (.int (nI kz)), some (.int (nI ku)), some (.int (nI kv)), some (.int 0)] _ _ _
                              have lp191 : ∀ (n_ : Nat) (g : zH) (m1 : Nat → Int64) (i : Nat), kv - i < n_ → (i ≤ kv) → (∀ a, a < i → m1 a = ε kx (kz + a)) → (MoAt g p σ τ ω ε m1 kp tr) → (Upd h g p 29) → Z D B xX5_copy 0 0 (mQ h p sz kp tr (sp_copy σ τ ε (nI kx) (nI ky) (nI kz) (nI ku) (nI kv))) 191 [some (.ref p), some (.int (nI kx)), some (.int (nI ky)), some (.int (nI kz)), some (.int (nI ku)), some (.int (nI kv)), some (.int (nI i))] [] g sz := by
                                intro n_
                                induction n_ with
                                | zero => intro g m1 i hm_; exact absurd hm_ (Nat.not_lt_zero _)
                                | succ n_ ih191 =>
                                  intro g m1 i hm_ hi_i hmm hM hU
                                  refine z_iload (pc := 191) (zk11 kX5_copy_6) rfl ?_
                                  refine z_iload (pc := 193) (zk12 kX5_copy_6) rfl ?_
                                  refine z_icmp_ge (pc := 195) (zk13 kX5_copy_6) (tgt := 222) (by decide) (fun c_54 => ?_) (fun c_54 => ?_)
                                  · have hie_i : i = kv := nI_ge_yes (a := kv) (by omega) (by omega) (by omega) c_54
                                    refine z_iconst (pc := 222) (zk12 kX5_copy_7) (v := 0) (by decide) ?_
                                    refine z_istore (pc := 223) (zk13 kX5_copy_7) rfl rfl ?_
                                    show Z D B xX5_copy _ _ _ 225 [some (.ref p), some (.int (nI kx)), some (.int (nI ky)), some (.int (nI kz)), some (.int (nI ku)), some (.int (nI kv)), some (.int 0)] _ _ _
                                    have lp225 : ∀ (n_ : Nat) (g2 : zH) (j : Nat), kv - j < n_ → (j ≤ kv) → (MoAt g2 p σ τ ω (cpE ε kx ky kz ku j) m1 kp tr) → (Upd h g2 p 29) → Z D B xX5_copy 0 0 (mQ h p sz kp tr (sp_copy σ τ ε (nI kx) (nI ky) (nI kz) (nI ku) (nI kv))) 225 [some (.ref p), some (.int (nI kx)), some (.int (nI ky)), some (.int (nI kz)), some (.int (nI ku)), some (.int (nI kv)), some (.int (nI j))] [] g2 sz := by
                                      intro n_
                                      induction n_ with
                                      | zero => intro g2 j hm_; exact absurd hm_ (Nat.not_lt_zero _)
                                      | succ n_ ih225 =>
                                        intro g2 j hm_ hi_j hM hU
                                        refine z_iload (pc := 225) (zk14 kX5_copy_7) rfl ?_
                                        refine z_iload (pc := 227) (zk15 kX5_copy_7) rfl ?_
                                        refine z_icmp_ge (pc := 229) (zk0 kX5_copy_8) (tgt := 257) (by decide) (fun c_55 => ?_) (fun c_55 => ?_)
                                        · have hie_j : j = kv := nI_ge_yes (a := kv) (by omega) (by omega) (by omega) c_55
                                          refine z_iload (pc := 257) (zk15 kX5_copy_8) rfl ?_
                                          exact z_iret (pc := 259) (zk0 kX5_copy_9) rfl (Nat.zero_le _) (Nat.zero_le _) (by
                                                                                        rw [show sp_copy σ τ ε (nI kx) (nI ky) (nI kz) (nI ku) (nI kv) = ((nI kv), σ, τ, (cpE ε kx ky kz ku j)) from by simp [sp_copy, sBad, okS, okH, okL, okT, okB, sRd, up2_id, up2_id2, oI, sOther, sNone, sFull, c_1, c_5, c_6, c_10, c_14, c_23, c_28, c_29, Int32.not_lt.mp c_29, c_33, Int32.not_lt.mp c_33, c_37, Int32.not_lt.mp c_37, c_41, Int32.not_lt.mp c_41, c_45, Int32.not_lt.mp c_45, c_49, Int32.not_lt.mp c_49, c_53, Int32.not_lt.mpr c_53, c_54, Int32.not_lt.mpr c_54, c_55, Int32.not_lt.mpr c_55, ix_nI (show kx ≤ 1000 by omega), ix_nI (show ky ≤ 1000 by omega), ix_nI (show kv ≤ 1000 by omega), ix_nI (show kz ≤ 1000 by omega), ix_nI (show ku ≤ 1000 by omega), hie_j]]
                                                                                        exact ⟨_, _, rfl, hM, hU, rfl⟩)
                                        · have hlt_j : j < kv := nI_ge_not (a := kv) (by omega) (by omega) c_55
                                          refine z_aload_n (pc := 232) (zk1 kX5_copy_8) rfl ?_
                                          refine z_getf (pc := 233) (zk2 kX5_copy_8) flX5_21 hM.1 gMo_3 ?_
                                          refine z_iload_n (pc := 236) (zk3 kX5_copy_8) rfl ?_
                                          refine z_aald4N (pc := 237) (zk4 kX5_copy_8) (j := ky) (b := p + 4 + 1 + ky) hM.2.2.2.2.1 (show ky < 8 by omega) rfl (if_pos (show ky < 8 by omega)) ?_
                                          refine z_iload (pc := 238) (zk5 kX5_copy_8) rfl ?_
                                          refine z_iload (pc := 240) (zk6 kX5_copy_8) rfl ?_
                                          refine z_iadd (pc := 242) (zk7 kX5_copy_8) ?_
                                          refine z_top (congrArg Value.int (nI_add _ _)) ?_
                                          refine z_aload_n (pc := 243) (zk8 kX5_copy_8) rfl ?_
                                          refine z_getf (pc := 244) (zk9 kX5_copy_8) flX5_24 hM.1 gMo_4 ?_
                                          refine z_iload (pc := 247) (zk10 kX5_copy_8) rfl ?_
                                          refine z_laldN (pc := 249) (zk11 kX5_copy_8) (f := m1) (j := j) hM.2.2.2.2.2.2.1 (show j < 40 by omega) rfl ?_
                                          refine z_Mo_srow (pc := 250) (zk12 kX5_copy_8) (s := ky) (j := ku + j) hM (by omega) (show ky < 8 by omega) (show ku + j < 40 by omega) (fun h_56 hR hU_57 => ?_)
                                          replace hU := hU.tr hU_57 (by omega) (by omega)
                                          replace hM := hR; clear hR
                                          refine z_iinc (pc := 251) (zk13 kX5_copy_8) (v := nI (j + 1)) rfl zinc rfl rfl ?_
                                          show Z D B xX5_copy _ _ _ 254 [some (.ref p), some (.int (nI kx)), some (.int (nI ky)), some (.int (nI kz)), some (.int (nI ku)), some (.int (nI kv)), some (.int (nI (j + 1)))] _ _ _
                                          refine z_goto (pc := 254) (zk14 kX5_copy_8) (tgt := 225) (by decide) ?_
                                          exact ih225 h_56 (j + 1) (by omega) (by omega) (by rw [← cpE_s (hmm j (by omega))]; exact hM) hU
                                    exact lp225 _ g 0 (Nat.lt_succ_self _) (by omega) (by rw [cpE_0]; exact hM) hU
                                  · have hlt_i : i < kv := nI_ge_not (a := kv) (by omega) (by omega) c_54
                                    refine z_aload_n (pc := 198) (zk14 kX5_copy_6) rfl ?_
                                    refine z_getf (pc := 199) (zk15 kX5_copy_6) flX5_24 hM.1 gMo_4 ?_
                                    refine z_iload (pc := 202) (zk0 kX5_copy_7) rfl ?_
                                    refine z_aload_n (pc := 204) (zk1 kX5_copy_7) rfl ?_
                                    refine z_getf (pc := 205) (zk2 kX5_copy_7) flX5_21 hM.1 gMo_3 ?_
                                    refine z_iload_n (pc := 208) (zk3 kX5_copy_7) rfl ?_
                                    refine z_aald4N (pc := 209) (zk4 kX5_copy_7) (j := kx) (b := p + 4 + 1 + kx) hM.2.2.2.2.1 (show kx < 8 by omega) rfl (if_pos (show kx < 8 by omega)) ?_
                                    refine z_iload_n (pc := 210) (zk5 kX5_copy_7) rfl ?_
                                    refine z_iload (pc := 211) (zk6 kX5_copy_7) rfl ?_
                                    refine z_iadd (pc := 213) (zk7 kX5_copy_7) ?_
                                    refine z_top (congrArg Value.int (nI_add _ _)) ?_
                                    refine z_laldN (pc := 214) (zk8 kX5_copy_7) (j := kz + i) (hM.2.2.2.2.2.1 kx (show kx < 8 by omega)) (show kz + i < 40 by omega) rfl ?_
                                    refine z_Mo_s13 (pc := 215) (zk9 kX5_copy_7) (j := i) hM (by omega) (show i < 40 by omega) (fun h_58 hR hU_59 => ?_)
                                    replace hU := hU.tr hU_59 (by omega) (by omega)
                                    replace hM := hR; clear hR
                                    refine z_iinc (pc := 216) (zk10 kX5_copy_7) (v := nI (i + 1)) rfl zinc rfl rfl ?_
                                    show Z D B xX5_copy _ _ _ 219 [some (.ref p), some (.int (nI kx)), some (.int (nI ky)), some (.int (nI kz)), some (.int (nI ku)), some (.int (nI kv)), some (.int (nI (i + 1)))] _ _ _
                                    refine z_goto (pc := 219) (zk11 kX5_copy_7) (tgt := 191) (by decide) ?_
                                    exact ih191 h_58 (vp_updL m1 i (ε kx (kz + i))) (i + 1) (by omega) (by omega) (mv_s hmm) hM hU
                              exact lp191 _ h mv 0 (Nat.lt_succ_self _) (by omega) (fun a q => absurd q (Nat.not_lt_zero _)) hM hU
                            · refine z_aload_n (pc := 181) (zk5 kX5_copy_6) rfl ?_
                              refine z_bipush (pc := 182) (zk6 kX5_copy_6) (v := (-2)) (by decide) ?_
                              refine z_efV (pc := 184) (zk7 kX5_copy_6) (st := []) lkX5_94 ivX5_refuse hM.1 rfl rfl (c_refuse hM (by omega) (j := 2) (by decide) (by decide)) rfl ⟨rfl, rfl⟩ rfl rfl (fun r_ h_61 z_ q_60 => ?_) rfl
                              obtain ⟨er_, hR, hU_62, ez_⟩ := q_60
                              rw [er_, ez_]
                              clear er_ ez_
                              replace hU := hU.tr hU_62 (by omega) (by omega)
                              replace hM := hR; clear hR
                              show Z D B xX5_copy _ _ _ 187 _ [.int (-2)] _ _
                              exact z_iret (pc := 187) (zk8 kX5_copy_6) rfl (Nat.zero_le _) (Nat.zero_le _) (by
                                                                rw [show sp_copy σ τ ε (nI kx) (nI ky) z u v = ((-2), σ, rfN τ 2, ε) from by simp [sp_copy, sBad, okS, okH, okL, okT, okB, sRd, up2_id, up2_id2, oI, sOther, sNone, sFull, c_1, c_5, c_6, c_10, c_14, c_23, c_28, c_29, Int32.not_lt.mp c_29, c_33, Int32.not_lt.mp c_33, c_37, Int32.not_lt.mp c_37, c_41, Int32.not_lt.mp c_41, c_45, Int32.not_lt.mp c_45, c_49, Int32.not_lt.mp c_49, c_53, Int32.not_le.mp c_53, ix_nI (show kx ≤ 1000 by omega), ix_nI (show ky ≤ 1000 by omega)]]
                                                                exact ⟨_, _, rfl, hM, hU, rfl⟩)
              · refine z_aload_n (pc := 86) (zk1 kX5_copy_3) rfl ?_
                refine z_bipush (pc := 87) (zk2 kX5_copy_3) (v := (-3)) (by decide) ?_
                refine z_efV (pc := 89) (zk3 kX5_copy_3) (st := []) lkX5_94 ivX5_refuse hM.1 rfl rfl (c_refuse hM (by omega) (j := 3) (by decide) (by decide)) rfl ⟨rfl, rfl⟩ rfl rfl (fun r_ h_64 z_ q_63 => ?_) rfl
                obtain ⟨er_, hR, hU_65, ez_⟩ := q_63
                rw [er_, ez_]
                clear er_ ez_
                replace hU := hU.tr hU_65 (by omega) (by omega)
                replace hM := hR; clear hR
                show Z D B xX5_copy _ _ _ 92 _ [.int (-3)] _ _
                exact z_iret (pc := 92) (zk4 kX5_copy_3) rfl (Nat.zero_le _) (Nat.zero_le _) (by
                                    rw [show sp_copy σ τ ε (nI kx) (nI ky) z u v = ((-3), σ, rfN τ 3, ε) from by simp [sp_copy, sBad, okS, okH, okL, okT, okB, sRd, up2_id, up2_id2, oI, sOther, sNone, sFull, c_1, c_5, c_6, c_10, c_14, c_23, c_28, ix_nI (show kx ≤ 1000 by omega), ix_nI (show ky ≤ 1000 by omega)]]
                                    exact ⟨_, _, rfl, hM, hU, rfl⟩)
    · refine z_aload_n (pc := 24) (zk12 kX5_copy_0) rfl ?_
      refine z_bipush (pc := 25) (zk13 kX5_copy_0) (v := (-2)) (by decide) ?_
      refine z_efV (pc := 27) (zk14 kX5_copy_0) (st := []) lkX5_94 ivX5_refuse hM.1 rfl rfl (c_refuse hM (by omega) (j := 2) (by decide) (by decide)) rfl ⟨rfl, rfl⟩ rfl rfl (fun r_ h_67 z_ q_66 => ?_) rfl
      obtain ⟨er_, hR, hU_68, ez_⟩ := q_66
      rw [er_, ez_]
      clear er_ ez_
      replace hU := hU.tr hU_68 (by omega) (by omega)
      replace hM := hR; clear hR
      show Z D B xX5_copy _ _ _ 30 _ [.int (-2)] _ _
      exact z_iret (pc := 30) (zk15 kX5_copy_0) rfl (Nat.zero_le _) (Nat.zero_le _) (by
                rw [show sp_copy σ τ ε x y z u v = ((-2), σ, rfN τ 2, ε) from by simp [sp_copy, sBad, okS, okH, okL, okT, okB, sRd, up2_id, up2_id2, oI, sOther, sNone, sFull, c_1, c_5]]
                exact ⟨_, _, rfl, hM, hU, rfl⟩)
