theorem SW_row {τ : Ln} {m s : Nat} (hS : SW τ m) (hs : s < 8) (h2 : ¬ τ 1 s = 2) (h0 : ¬ τ 1 s = 0) : τ 1 s = 1 ∧ (∃ k, k < 5 ∧ τ 2 s = nI k) ∧ ∃ k, k ≤ 40 ∧ τ 3 s = nI k := by
  rcases hS.1 s hs with q | q | q
  · exact absurd q h0
  · exact q
  · exact absurd q.1 h2
theorem SW_row1 {τ : Ln} {m s : Nat} (hS : SW τ m) (hs : s < 8) (h1 : τ 1 s = 1) : ∃ k, k ≤ 40 ∧ τ 3 s = nI k :=
  (SW_row hS hs (by rw [h1]; decide) (by rw [h1]; decide)).2.2
theorem SW_shown {τ : Ln} {m s : Nat} (hS : SW τ m) (hs : s < 8) (h2 : τ 1 s = 2) : ∃ l, l < m ∧ τ 4 s = nI l := by
  rcases hS.1 s hs with q | q | q
  · rw [q] at h2; exact absurd h2 (by decide)
  · rw [q.1] at h2; exact absurd h2 (by decide)
  · exact q.2
theorem SW_no {τ : Ln} {m s : Nat} (hS : SW τ m) (hs : s < 8) (h0 : ¬ τ 1 s = 0) (h1 : ¬ τ 1 s = 1) (h2 : ¬ τ 1 s = 2) : False := by
  rcases hS.1 s hs with q | q | q
  · exact h0 q
  · exact h1 q.1
  · exact h2 q.1
theorem zrE_0 (ε : El) (s : Nat) : zrE ε s 0 = ε := by
  funext a j
  by_cases h : a = s
  · subst h; simp [zrE]
  · simp [zrE, h]
theorem zrE_s (ε : El) (s i : Nat) : upE (zrE ε s i) s i 0 = zrE ε s (i + 1) := by
  funext a j
  by_cases h : a = s
  · subst h
    by_cases e : j = i
    · subst e; simp [upE, zrE, vp_updL]
    · have : j < i + 1 ↔ j < i := by omega
      simp [upE, zrE, vp_updL, e, this]
  · simp [upE, zrE, h]
theorem lt8 {m : Nat} (h : m ≤ 8) (c : ¬ nI m = 8) : m < 8 := by
  rcases Nat.lt_or_ge m 8 with q | q
  · exact q
  · exact absurd (by rw [show m = 8 by omega]; rfl) c
theorem lt250 {m : Nat} (h : m ≤ 250) (c : ¬ nI m = 250) : m < 250 := by
  rcases Nat.lt_or_ge m 250 with q | q
  · exact q
  · exact absurd (by rw [show m = 250 by omega]; rfl) c
theorem addF_9 (σ : Ln) (m : Nat) (k a t g : Int32) : addF σ m k a t g 9 0 = nI (m + 1) := rfl
theorem okR_1 {c : Nat} {x : Int32} (hc : c ≤ 900) (h : okR 1 (nI c) x = true) : ∃ k, (1 ≤ k ∧ k ≤ c) ∧ x = nI k := by
  have h1 := (Bool.and_eq_true_iff.mp h).1
  have h2 := (Bool.and_eq_true_iff.mp h).2
  have q1 : (1 : Int32) ≤ x := of_decide_eq_true h1
  have q2 := of_decide_eq_true h2
  have q0 : okR 0 (nI c) x = true := by
    unfold okR
    rw [decide_eq_true q2, decide_eq_true (show (0 : Int32) ≤ x from Int32.le_trans (by decide) q1)]; rfl
  obtain ⟨k, hk, rfl⟩ := okR_c hc q0
  refine ⟨k, ⟨?_, by omega⟩, rfl⟩
  rcases Nat.eq_zero_or_pos k with e | e
  · subst e; exact absurd q1 (by decide)
  · exact e
theorem okR_ref {x : Int32} (h : okR 12 16 x = true) : ∃ k, k < 8 ∧ x - 10 = nI k := by
  have q1 : (12 : Int32) ≤ x := of_decide_eq_true (Bool.and_eq_true_iff.mp h).1
  have q2 : x ≤ 16 := of_decide_eq_true (Bool.and_eq_true_iff.mp h).2
  have q0 : okR 0 (nI 16) x = true := by
    unfold okR
    rw [decide_eq_true (show x ≤ nI 16 from q2), decide_eq_true (show (0 : Int32) ≤ x from Int32.le_trans (by decide) q1)]; rfl
  obtain ⟨k, hk, rfl⟩ := okR_c (by decide) q0
  have : 12 ≤ k := (nI_le_iff (a := 12) (by omega) (by omega)).mp q1
  exact ⟨k - 10, by omega, nI_sub1 (a := k) (b := 10) (by omega)⟩
theorem daysF_n (σ : Ln) : ∀ i, daysF σ i 0 0 = σ 0 0 ∧ daysF σ i 9 0 = σ 9 0 ∧ daysF σ i 12 = σ 12
  | 0 => ⟨rfl, rfl, rfl⟩
  | i + 1 => ⟨(daysF_n σ i).1, (daysF_n σ i).2.1, (daysF_n σ i).2.2⟩
set_option maxRecDepth 20000 in
theorem cP_row {D : zD} {B : Nat} {h : zH} {sz : Nat} {p : Nat} {σ τ ω : Ln} {ε : El} {mv : Nat → Int64} {kp tr : Option Nat} {x : Int32} {y : Int32} {z : Int32} {n m : Nat} (hM : MoAt h p σ τ ω ε mv kp tr) (hB : B ≤ p) (hn : σ 0 0 = nI n) (h12 : n ≤ 12) (hm : σ 9 0 = nI m) (h8 : m ≤ 8) (hto : ∀ l, l < m → ToOk σ l) : zM D B xX5_row [.ref p, .int x, .int y, .int z] h sz (mQ h p sz kp tr (sp_row σ τ ε x y z)) := by
  have hU : Upd h h p 29 := Upd.rf
  refine zM.of (by decide) rfl (n := 1) ?_
  show Z D B xX5_row 0 0 _ 0 [some (.ref p), some (.int x), some (.int y), some (.int z), none] [] h sz
  refine z_iload_n (pc := 0) (zk0 kX5_row_0) rfl ?_
  refine z_i2l (pc := 1) (zk1 kX5_row_0) ?_
  refine z_lconst (pc := 2) (zk2 kX5_row_0) (v := 0) (by decide) ?_
  refine z_ldc2 (pc := 3) (zk3 kX5_row_0) klX5_88 ?_
  refine z_rdS (pc := 6) (zk4 kX5_row_0) (st := []) lkX5_81 isX5_in (c_inI (x := x) (a := 0) (b := 7) (by decide) (by decide)) rfl ⟨rfl, rfl⟩ rfl rfl ?_ rfl
  refine z_oif_eq (pc := 9) (zk5 kX5_row_0) (tgt := 36) (by decide) (fun c_1 => ?_) (fun c_1 => ?_)
  · refine z_aload_n (pc := 36) (zk2 kX5_row_1) rfl ?_
    refine z_bipush (pc := 37) (zk3 kX5_row_1) (v := (-2)) (by decide) ?_
    refine z_efV (pc := 39) (zk4 kX5_row_1) (st := []) lkX5_94 ivX5_refuse hM.1 rfl rfl (c_refuse hM (by omega) (j := 2) (by decide) (by decide)) rfl ⟨rfl, rfl⟩ rfl rfl (fun r_ h_3 z_ q_2 => ?_) rfl
    obtain ⟨er_, hR, hU_4, ez_⟩ := q_2
    rw [er_, ez_]
    clear er_ ez_
    replace hU := hU.tr hU_4 (by omega) (by omega)
    replace hM := hR; clear hR
    show Z D B xX5_row _ _ _ 42 _ [.int (-2)] _ _
    exact z_iret (pc := 42) (zk5 kX5_row_1) rfl (Nat.zero_le _) (Nat.zero_le _) (by
            rw [show sp_row σ τ ε x y z = ((-2), σ, rfN τ 2, ε) from by simp [sp_row, sBad, okS, okH, okL, okT, okB, sRd, up2_id, up2_id2, oI, sOther, sNone, sFull, c_1]]
            exact ⟨_, _, rfl, hM, hU, rfl⟩)
  · refine z_iload_n (pc := 12) (zk6 kX5_row_0) rfl ?_
    refine z_i2l (pc := 13) (zk7 kX5_row_0) ?_
    refine z_lconst (pc := 14) (zk8 kX5_row_0) (v := 0) (by decide) ?_
    refine z_ldc2 (pc := 15) (zk9 kX5_row_0) klX5_90 ?_
    refine z_rdS (pc := 18) (zk10 kX5_row_0) (st := []) lkX5_81 isX5_in (c_inI (x := y) (a := 0) (b := 4) (by decide) (by decide)) rfl ⟨rfl, rfl⟩ rfl rfl ?_ rfl
    refine z_oif_eq (pc := 21) (zk11 kX5_row_0) (tgt := 36) (by decide) (fun c_5 => ?_) (fun c_5 => ?_)
    · refine z_aload_n (pc := 36) (zk2 kX5_row_1) rfl ?_
      refine z_bipush (pc := 37) (zk3 kX5_row_1) (v := (-2)) (by decide) ?_
      refine z_efV (pc := 39) (zk4 kX5_row_1) (st := []) lkX5_94 ivX5_refuse hM.1 rfl rfl (c_refuse hM (by omega) (j := 2) (by decide) (by decide)) rfl ⟨rfl, rfl⟩ rfl rfl (fun r_ h_7 z_ q_6 => ?_) rfl
      obtain ⟨er_, hR, hU_8, ez_⟩ := q_6
      rw [er_, ez_]
      clear er_ ez_
      replace hU := hU.tr hU_8 (by omega) (by omega)
      replace hM := hR; clear hR
      show Z D B xX5_row _ _ _ 42 _ [.int (-2)] _ _
      exact z_iret (pc := 42) (zk5 kX5_row_1) rfl (Nat.zero_le _) (Nat.zero_le _) (by
                rw [show sp_row σ τ ε x y z = ((-2), σ, rfN τ 2, ε) from by simp [sp_row, sBad, okS, okH, okL, okT, okB, sRd, up2_id, up2_id2, oI, sOther, sNone, sFull, c_1, c_5]]
                exact ⟨_, _, rfl, hM, hU, rfl⟩)
    · refine z_iload_n (pc := 24) (zk12 kX5_row_0) rfl ?_
      refine z_i2l (pc := 25) (zk13 kX5_row_0) ?_
      refine z_lconst (pc := 26) (zk14 kX5_row_0) (v := 0) (by decide) ?_
      refine z_ldc2 (pc := 27) (zk15 kX5_row_0) klX5_92 ?_
      refine z_rdS (pc := 30) (zk0 kX5_row_1) (st := []) lkX5_81 isX5_in (c_inI (x := z) (a := 0) (b := 40) (by decide) (by decide)) rfl ⟨rfl, rfl⟩ rfl rfl ?_ rfl
      refine z_oif_ne (pc := 33) (zk1 kX5_row_1) (tgt := 43) (by decide) (fun c_9 => ?_) (fun c_9 => ?_)
      · refine z_aload_n (pc := 43) (zk6 kX5_row_1) rfl ?_
        refine z_getf (pc := 44) (zk7 kX5_row_1) flX5_7 hM.1 gMo_0 ?_
        refine z_iload_n (pc := 47) (zk8 kX5_row_1) rfl ?_
        refine z_iconst (pc := 48) (zk9 kX5_row_1) (v := 1) (by decide) ?_
        obtain ⟨kx, hkx, rfl⟩ := okR_c (c := 7) (by decide) c_1
        refine z_Mo_s1 (pc := 49) (zk10 kX5_row_1) (j := kx) hM (by omega) (show kx < 8 by omega) (fun h_10 hR hU_11 => ?_)
        replace hU := hU.tr hU_11 (by omega) (by omega)
        replace hM := hR; clear hR
        refine z_aload_n (pc := 50) (zk11 kX5_row_1) rfl ?_
        refine z_getf (pc := 51) (zk12 kX5_row_1) flX5_13 hM.1 gMo_1 ?_
        refine z_iload_n (pc := 54) (zk13 kX5_row_1) rfl ?_
        refine z_iload_n (pc := 55) (zk14 kX5_row_1) rfl ?_
        refine z_Mo_s2 (pc := 56) (zk15 kX5_row_1) (j := kx) hM (by omega) (show kx < 8 by omega) (fun h_12 hR hU_13 => ?_)
        replace hU := hU.tr hU_13 (by omega) (by omega)
        replace hM := hR; clear hR
        refine z_aload_n (pc := 57) (zk0 kX5_row_2) rfl ?_
        refine z_getf (pc := 58) (zk1 kX5_row_2) flX5_16 hM.1 gMo_2 ?_
        refine z_iload_n (pc := 61) (zk2 kX5_row_2) rfl ?_
        refine z_iload_n (pc := 62) (zk3 kX5_row_2) rfl ?_
        refine z_Mo_s3 (pc := 63) (zk4 kX5_row_2) (j := kx) hM (by omega) (show kx < 8 by omega) (fun h_14 hR hU_15 => ?_)
        replace hU := hU.tr hU_15 (by omega) (by omega)
        replace hM := hR; clear hR
        refine z_iconst (pc := 64) (zk5 kX5_row_2) (v := 0) (by decide) ?_
        refine z_istore (pc := 65) (zk6 kX5_row_2) rfl rfl ?_
        show Z D B xX5_row _ _ _ 67 [some (.ref p), some (.int (nI kx)), some (.int y), some (.int z), some (.int 0)] _ _ _
        have lp67 : ∀ (n_ : Nat) (g : zH) (i : Nat), 40 - i < n_ → (i ≤ 40) → (MoAt g p σ (up2 (up2 (up2 τ 1 kx 1) 2 kx y) 3 kx z) ω (zrE ε kx i) mv kp tr) → (Upd h g p 29) → Z D B xX5_row 0 0 (mQ h p sz kp tr (sp_row σ τ ε (nI kx) y z)) 67 [some (.ref p), some (.int (nI kx)), some (.int y), some (.int z), some (.int (nI i))] [] g sz := by
          intro n_
          induction n_ with
          | zero => intro g i hm_; exact absurd hm_ (Nat.not_lt_zero _)
          | succ n_ ih67 =>
            intro g i hm_ hi_i hM hU
            refine z_iload (pc := 67) (zk7 kX5_row_2) rfl ?_
            refine z_bipush (pc := 69) (zk8 kX5_row_2) (v := 40) (by decide) ?_
            refine z_icmp_ge (pc := 71) (zk9 kX5_row_2) (tgt := 90) (by decide) (fun c_16 => ?_) (fun c_16 => ?_)
            · have hie_i : i = 40 := nI_ge_yes (a := 40) (by omega) (by omega) (by omega) c_16
              refine z_iconst (pc := 90) (zk3 kX5_row_3) (v := 1) (by decide) ?_
              exact z_iret (pc := 91) (zk4 kX5_row_3) rfl (Nat.zero_le _) (Nat.zero_le _) (by
                                rw [show sp_row σ τ ε (nI kx) y z = (1, σ, (up2 (up2 (up2 τ 1 kx 1) 2 kx y) 3 kx z), (zrE ε kx i)) from by simp [sp_row, sBad, okS, okH, okL, okT, okB, sRd, up2_id, up2_id2, oI, sOther, sNone, sFull, c_1, c_5, c_9, c_16, Int32.not_lt.mpr c_16, ix_nI (show kx ≤ 1000 by omega), hie_i]]
                                exact ⟨_, _, rfl, hM, hU, rfl⟩)
            · have hlt_i : i < 40 := nI_ge_not (a := 40) (by omega) (by omega) c_16
              refine z_aload_n (pc := 74) (zk10 kX5_row_2) rfl ?_
              refine z_getf (pc := 75) (zk11 kX5_row_2) flX5_21 hM.1 gMo_3 ?_
              refine z_iload_n (pc := 78) (zk12 kX5_row_2) rfl ?_
              refine z_aald4N (pc := 79) (zk13 kX5_row_2) (j := kx) (b := p + 4 + 1 + kx) hM.2.2.2.2.1 (show kx < 8 by omega) rfl (if_pos (show kx < 8 by omega)) ?_
              refine z_iload (pc := 80) (zk14 kX5_row_2) rfl ?_
              refine z_lconst (pc := 82) (zk15 kX5_row_2) (v := 0) (by decide) ?_
              refine z_Mo_srow (pc := 83) (zk0 kX5_row_3) (s := kx) (j := i) hM (by omega) (show kx < 8 by omega) (show i < 40 by omega) (fun h_17 hR hU_18 => ?_)
              replace hU := hU.tr hU_18 (by omega) (by omega)
              replace hM := hR; clear hR
              refine z_iinc (pc := 84) (zk1 kX5_row_3) (v := nI (i + 1)) rfl zinc rfl rfl ?_
              show Z D B xX5_row _ _ _ 87 [some (.ref p), some (.int (nI kx)), some (.int y), some (.int z), some (.int (nI (i + 1)))] _ _ _
              refine z_goto (pc := 87) (zk2 kX5_row_3) (tgt := 67) (by decide) ?_
              exact ih67 h_17 (i + 1) (by omega) (by omega) (by rw [← zrE_s]; exact hM) hU
        exact lp67 _ h_14 0 (Nat.lt_succ_self _) (by omega) (by rw [zrE_0]; exact hM) hU
      · refine z_aload_n (pc := 36) (zk2 kX5_row_1) rfl ?_
        refine z_bipush (pc := 37) (zk3 kX5_row_1) (v := (-2)) (by decide) ?_
        refine z_efV (pc := 39) (zk4 kX5_row_1) (st := []) lkX5_94 ivX5_refuse hM.1 rfl rfl (c_refuse hM (by omega) (j := 2) (by decide) (by decide)) rfl ⟨rfl, rfl⟩ rfl rfl (fun r_ h_20 z_ q_19 => ?_) rfl
        obtain ⟨er_, hR, hU_21, ez_⟩ := q_19
        rw [er_, ez_]
        clear er_ ez_
        replace hU := hU.tr hU_21 (by omega) (by omega)
        replace hM := hR; clear hR
        show Z D B xX5_row _ _ _ 42 _ [.int (-2)] _ _
        exact z_iret (pc := 42) (zk5 kX5_row_1) rfl (Nat.zero_le _) (Nat.zero_le _) (by
                    rw [show sp_row σ τ ε x y z = ((-2), σ, rfN τ 2, ε) from by simp [sp_row, sBad, okS, okH, okL, okT, okB, sRd, up2_id, up2_id2, oI, sOther, sNone, sFull, c_1, c_5, c_9]]
                    exact ⟨_, _, rfl, hM, hU, rfl⟩)
set_option maxRecDepth 20000 in
theorem cP_set {D : zD} {B : Nat} {h : zH} {sz : Nat} {p : Nat} {σ τ ω : Ln} {ε : El} {mv : Nat → Int64} {kp tr : Option Nat} {x : Int32} {y : Int32} {v : Int64} {n m : Nat} (hM : MoAt h p σ τ ω ε mv kp tr) (hB : B ≤ p) (hn : σ 0 0 = nI n) (h12 : n ≤ 12) (hm : σ 9 0 = nI m) (h8 : m ≤ 8) (hto : ∀ l, l < m → ToOk σ l) (hS : SW τ m) : zM D B xX5_set [.ref p, .int x, .int y, .long v] h sz (mQ h p sz kp tr (sp_set σ τ ε x y v)) := by
  have hU : Upd h h p 29 := Upd.rf
  refine zM.of (by decide) rfl (n := 1) ?_
  show Z D B xX5_set 0 0 _ 0 [some (.ref p), some (.int x), some (.int y), some (.long v), none, none] [] h sz
  refine z_aload_n (pc := 0) (zk0 kX5_set_0) rfl ?_
  refine z_iload_n (pc := 1) (zk1 kX5_set_0) rfl ?_
  refine z_efV (pc := 2) (zk2 kX5_set_0) (st := []) lkX5_98 ivX5_noRow hM.1 rfl rfl (c_noRow hM hB) rfl ⟨rfl, rfl⟩ rfl rfl (fun r_ h_2 z_ q_1 => ?_) rfl
  rcases q_1 with ⟨f1_, er_, hR, hU_3, ez_⟩ | ⟨⟨f1_, f2_⟩, er_, hR, hU_3, ez_⟩ | ⟨⟨f1_, f2_, f3_⟩, er_, hR, hU_3, ez_⟩ | ⟨⟨f1_, f2_, f3_⟩, er_, hR, hU_3, ez_⟩
  · rw [er_, ez_]
    clear er_ ez_
    replace hU := hU.tr hU_3 (by omega) (by omega)
    replace hM := hR; clear hR
    show Z D B xX5_set _ _ _ 5 _ [.int (-2)] _ _
    refine z_istore (pc := 5) (zk3 kX5_set_0) rfl rfl ?_
    show Z D B xX5_set _ _ _ 7 [some (.ref p), some (.int x), some (.int y), some (.long v), none, some (.int (-2))] _ _ _
    refine z_iload (pc := 7) (zk4 kX5_set_0) rfl ?_
    refine z_if_eq (pc := 9) (zk5 kX5_set_0) (tgt := 15) (by decide) (fun q => absurd q (by decide)) (fun _ => ?_)
    refine z_iload (pc := 12) (zk6 kX5_set_0) rfl ?_
    exact z_iret (pc := 14) (zk7 kX5_set_0) rfl (Nat.zero_le _) (Nat.zero_le _) (by
            rw [show sp_set σ τ ε x y v = ((-2), σ, (rfN τ 2), ε) from by simp [sp_set, sBad, okS, okH, okL, okT, okB, sRd, up2_id, up2_id2, oI, sOther, sNone, sFull, f1_]]
            exact ⟨_, _, rfl, hM, hU, rfl⟩)
  · rw [er_, ez_]
    clear er_ ez_
    replace hU := hU.tr hU_3 (by omega) (by omega)
    replace hM := hR; clear hR
    show Z D B xX5_set _ _ _ 5 _ [.int (-3)] _ _
    refine z_istore (pc := 5) (zk3 kX5_set_0) rfl rfl ?_
    show Z D B xX5_set _ _ _ 7 [some (.ref p), some (.int x), some (.int y), some (.long v), none, some (.int (-3))] _ _ _
    refine z_iload (pc := 7) (zk4 kX5_set_0) rfl ?_
    refine z_if_eq (pc := 9) (zk5 kX5_set_0) (tgt := 15) (by decide) (fun q => absurd q (by decide)) (fun _ => ?_)
    refine z_iload (pc := 12) (zk6 kX5_set_0) rfl ?_
    exact z_iret (pc := 14) (zk7 kX5_set_0) rfl (Nat.zero_le _) (Nat.zero_le _) (by
            rw [show sp_set σ τ ε x y v = ((-3), σ, (rfN τ 3), ε) from by simp [sp_set, sBad, okS, okH, okL, okT, okB, sRd, up2_id, up2_id2, oI, sOther, sNone, sFull, f1_, f2_]]
            exact ⟨_, _, rfl, hM, hU, rfl⟩)
  · rw [er_, ez_]
    clear er_ ez_
    replace hU := hU.tr hU_3 (by omega) (by omega)
    replace hM := hR; clear hR
    show Z D B xX5_set _ _ _ 5 _ [.int (-4)] _ _
    refine z_istore (pc := 5) (zk3 kX5_set_0) rfl rfl ?_
    show Z D B xX5_set _ _ _ 7 [some (.ref p), some (.int x), some (.int y), some (.long v), none, some (.int (-4))] _ _ _
    refine z_iload (pc := 7) (zk4 kX5_set_0) rfl ?_
    refine z_if_eq (pc := 9) (zk5 kX5_set_0) (tgt := 15) (by decide) (fun q => absurd q (by decide)) (fun _ => ?_)
    refine z_iload (pc := 12) (zk6 kX5_set_0) rfl ?_
    exact z_iret (pc := 14) (zk7 kX5_set_0) rfl (Nat.zero_le _) (Nat.zero_le _) (by
            rw [show sp_set σ τ ε x y v = ((-4), σ, (rfN τ 4), ε) from by simp [sp_set, sBad, okS, okH, okL, okT, okB, sRd, up2_id, up2_id2, oI, sOther, sNone, sFull, f1_, f2_, f3_]]
            exact ⟨_, _, rfl, hM, hU, rfl⟩)
  · rw [er_, ez_]
    clear er_ ez_
    replace hU := hU.tr hU_3 (by omega) (by omega)
    replace hM := hR; clear hR
    show Z D B xX5_set _ _ _ 5 _ [.int 0] _ _
    refine z_istore (pc := 5) (zk3 kX5_set_0) rfl rfl ?_
    show Z D B xX5_set _ _ _ 7 [some (.ref p), some (.int x), some (.int y), some (.long v), none, some (.int 0)] _ _ _
    refine z_iload (pc := 7) (zk4 kX5_set_0) rfl ?_
    refine z_if_eq (pc := 9) (zk5 kX5_set_0) (tgt := 15) (by decide) (fun _ => ?_) (fun q => absurd (by decide) q)
    obtain ⟨kx, hkx, rfl⟩ := okR_c (c := 7) (by decide) f1_
    rw [ix_nI (show kx ≤ 1000 by omega)] at f2_ f3_
    obtain ⟨r_, hr_, er_⟩ := (SW_row hS (by omega) f2_ f3_).2.2
    refine z_iload_n (pc := 15) (zk8 kX5_set_0) rfl ?_
    refine z_i2l (pc := 16) (zk9 kX5_set_0) ?_
    refine z_lconst (pc := 17) (zk10 kX5_set_0) (v := 0) (by decide) ?_
    refine z_aload_n (pc := 18) (zk11 kX5_set_0) rfl ?_
    refine z_getf (pc := 19) (zk12 kX5_set_0) flX5_16 hM.1 gMo_2 ?_
    refine z_iload_n (pc := 22) (zk13 kX5_set_0) rfl ?_
    refine z_ialdN (pc := 23) (zk14 kX5_set_0) (f := τ 3) (j := kx) hM.2.2.2.1 (show kx < 8 by omega) rfl ?_
    refine z_iconst (pc := 24) (zk15 kX5_set_0) (v := 1) (by decide) ?_
    refine z_isub (pc := 25) (zk0 kX5_set_1) ?_
    refine z_i2l (pc := 26) (zk1 kX5_set_1) ?_
    refine z_rdS (pc := 27) (zk2 kX5_set_1) (st := []) lkX5_81 isX5_in (c_inI (x := y) (a := 0) (b := (τ 3 kx) - 1) (by decide) rfl) rfl ⟨rfl, rfl⟩ rfl rfl ?_ rfl
    refine z_oif_ne (pc := 30) (zk3 kX5_set_1) (tgt := 40) (by decide) (fun c_4 => ?_) (fun c_4 => ?_)
    · refine z_aload_n (pc := 40) (zk8 kX5_set_1) rfl ?_
      refine z_getf (pc := 41) (zk9 kX5_set_1) flX5_21 hM.1 gMo_3 ?_
      refine z_iload_n (pc := 44) (zk10 kX5_set_1) rfl ?_
      refine z_aald4N (pc := 45) (zk11 kX5_set_1) (j := kx) (b := p + 4 + 1 + kx) hM.2.2.2.2.1 (show kx < 8 by omega) rfl (if_pos (show kx < 8 by omega)) ?_
      refine z_iload_n (pc := 46) (zk12 kX5_set_1) rfl ?_
      refine z_aload_n (pc := 47) (zk13 kX5_set_1) rfl ?_
      refine z_getf (pc := 48) (zk14 kX5_set_1) flX5_13 hM.1 gMo_1 ?_
      refine z_iload_n (pc := 51) (zk15 kX5_set_1) rfl ?_
      refine z_ialdN (pc := 52) (zk0 kX5_set_2) (f := τ 2) (j := kx) hM.2.2.1 (show kx < 8 by omega) rfl ?_
      refine z_lload_n (pc := 53) (zk1 kX5_set_2) rfl ?_
      refine z_rdS (pc := 54) (zk2 kX5_set_2) (st := [.int y, .ref (p + 4 + 1 + kx)]) lkX5_101 isX5_fit (c_fit) rfl ⟨rfl, rfl⟩ rfl rfl ?_ rfl
      obtain ⟨ky, hky, rfl⟩ := okR_nI (n := r_) (by omega) (by rw [← er_]; exact c_4)
      refine z_Mo_srow (pc := 57) (zk3 kX5_set_2) (s := kx) (j := ky) hM (by omega) (show kx < 8 by omega) (show ky < 40 by omega) (fun h_5 hR hU_6 => ?_)
      replace hU := hU.tr hU_6 (by omega) (by omega)
      replace hM := hR; clear hR
      refine z_iconst (pc := 58) (zk4 kX5_set_2) (v := 1) (by decide) ?_
      exact z_iret (pc := 59) (zk5 kX5_set_2) rfl (Nat.zero_le _) (Nat.zero_le _) (by
                rw [show sp_set σ τ ε (nI kx) (nI ky) v = (1, σ, τ, (upE ε kx ky (fitF (τ 2 kx) v))) from by simp [sp_set, sBad, okS, okH, okL, okT, okB, sRd, up2_id, up2_id2, oI, sOther, sNone, sFull, f1_, f2_, f3_, c_4, ix_nI (show kx ≤ 1000 by omega), ix_nI (show ky ≤ 1000 by omega)]]
                exact ⟨_, _, rfl, hM, hU, rfl⟩)
    · refine z_aload_n (pc := 33) (zk4 kX5_set_1) rfl ?_
      refine z_bipush (pc := 34) (zk5 kX5_set_1) (v := (-2)) (by decide) ?_
      refine z_efV (pc := 36) (zk6 kX5_set_1) (st := []) lkX5_94 ivX5_refuse hM.1 rfl rfl (c_refuse hM (by omega) (j := 2) (by decide) (by decide)) rfl ⟨rfl, rfl⟩ rfl rfl (fun r_ h_8 z_ q_7 => ?_) rfl
      obtain ⟨er_, hR, hU_9, ez_⟩ := q_7
      rw [er_, ez_]
      clear er_ ez_
      replace hU := hU.tr hU_9 (by omega) (by omega)
      replace hM := hR; clear hR
      show Z D B xX5_set _ _ _ 39 _ [.int (-2)] _ _
      exact z_iret (pc := 39) (zk7 kX5_set_1) rfl (Nat.zero_le _) (Nat.zero_le _) (by
                rw [show sp_set σ τ ε (nI kx) y v = ((-2), σ, rfN τ 2, ε) from by simp [sp_set, sBad, okS, okH, okL, okT, okB, sRd, up2_id, up2_id2, oI, sOther, sNone, sFull, f1_, f2_, f3_, c_4, ix_nI (show kx ≤ 1000 by omega)]]
                exact ⟨_, _, rfl, hM, hU, rfl⟩)
set_option maxRecDepth 20000 in
theorem cP_holds {D : zD} {B : Nat} {h : zH} {sz : Nat} {p : Nat} {σ τ ω : Ln} {ε : El} {mv : Nat → Int64} {kp tr : Option Nat} {x : Int32} {n m : Nat} (hM : MoAt h p σ τ ω ε mv kp tr) (hB : B ≤ p) (hn : σ 0 0 = nI n) (h12 : n ≤ 12) (hm : σ 9 0 = nI m) (h8 : m ≤ 8) (hto : ∀ l, l < m → ToOk σ l) : zM D B xX5_holds [.ref p, .int x] h sz (mQ h p sz kp tr (sp_holds σ τ ε x)) := by
  have hU : Upd h h p 29 := Upd.rf
  refine zM.of (by decide) rfl (n := 0) ?_
  show Z D B xX5_holds 0 0 _ 0 [some (.ref p), some (.int x)] [] h sz
  refine z_iload_n (pc := 0) (zk0 kX5_holds_0) rfl ?_
  refine z_i2l (pc := 1) (zk1 kX5_holds_0) ?_
  refine z_lconst (pc := 2) (zk2 kX5_holds_0) (v := 0) (by decide) ?_
  refine z_ldc2 (pc := 3) (zk3 kX5_holds_0) klX5_88 ?_
  refine z_rdS (pc := 6) (zk4 kX5_holds_0) (st := []) lkX5_81 isX5_in (c_inI (x := x) (a := 0) (b := 7) (by decide) (by decide)) rfl ⟨rfl, rfl⟩ rfl rfl ?_ rfl
  refine z_oif_eq (pc := 9) (zk5 kX5_holds_0) (tgt := 21) (by decide) (fun c_1 => ?_) (fun c_1 => ?_)
  · refine z_iconst (pc := 21) (zk11 kX5_holds_0) (v := (-1)) (by decide) ?_
    exact z_iret (pc := 22) (zk12 kX5_holds_0) rfl (Nat.zero_le _) (Nat.zero_le _) (by
            rw [show sp_holds σ τ ε x = ((-1), σ, τ, ε) from by simp [sp_holds, sBad, okS, okH, okL, okT, okB, sRd, up2_id, up2_id2, oI, sOther, sNone, sFull, heldF, c_1]]
            exact ⟨_, _, rfl, hM, hU, rfl⟩)
  · refine z_aload_n (pc := 12) (zk6 kX5_holds_0) rfl ?_
    refine z_getf (pc := 13) (zk7 kX5_holds_0) flX5_7 hM.1 gMo_0 ?_
    refine z_iload_n (pc := 16) (zk8 kX5_holds_0) rfl ?_
    obtain ⟨kx, hkx, rfl⟩ := okR_c (c := 7) (by decide) c_1
    refine z_ialdN (pc := 17) (zk9 kX5_holds_0) (f := τ 1) (j := kx) hM.2.1 (show kx < 8 by omega) rfl ?_
    refine z_if_ne (pc := 18) (zk10 kX5_holds_0) (tgt := 23) (by decide) (fun c_2 => ?_) (fun c_2 => ?_)
    · refine z_aload_n (pc := 23) (zk13 kX5_holds_0) rfl ?_
      refine z_getf (pc := 24) (zk14 kX5_holds_0) flX5_7 hM.1 gMo_0 ?_
      refine z_iload_n (pc := 27) (zk15 kX5_holds_0) rfl ?_
      refine z_ialdN (pc := 28) (zk0 kX5_holds_1) (f := τ 1) (j := kx) hM.2.1 (show kx < 8 by omega) rfl ?_
      refine z_iconst (pc := 29) (zk1 kX5_holds_1) (v := 1) (by decide) ?_
      refine z_icmp_ne (pc := 30) (zk2 kX5_holds_1) (tgt := 42) (by decide) (fun c_3 => ?_) (fun c_3 => ?_)
      · refine z_bipush (pc := 42) (zk8 kX5_holds_1) (v := 10) (by decide) ?_
        refine z_aload_n (pc := 44) (zk9 kX5_holds_1) rfl ?_
        refine z_getf (pc := 45) (zk10 kX5_holds_1) flX5_28 hM.1 gMo_5 ?_
        refine z_iload_n (pc := 48) (zk11 kX5_holds_1) rfl ?_
        refine z_ialdN (pc := 49) (zk12 kX5_holds_1) (f := τ 4) (j := kx) hM.2.2.2.2.2.2.2.1 (show kx < 8 by omega) rfl ?_
        refine z_iadd (pc := 50) (zk13 kX5_holds_1) ?_
        exact z_iret (pc := 51) (zk14 kX5_holds_1) rfl (Nat.zero_le _) (Nat.zero_le _) (by
                    rw [show sp_holds σ τ ε (nI kx) = (10 + (τ 4 kx), σ, τ, ε) from by simp [sp_holds, sBad, okS, okH, okL, okT, okB, sRd, up2_id, up2_id2, oI, sOther, sNone, sFull, heldF, c_1, c_2, c_3, ix_nI (show kx ≤ 1000 by omega)]]
                    exact ⟨_, _, rfl, hM, hU, rfl⟩)
      · refine z_aload_n (pc := 33) (zk3 kX5_holds_1) rfl ?_
        refine z_getf (pc := 34) (zk4 kX5_holds_1) flX5_13 hM.1 gMo_1 ?_
        refine z_iload_n (pc := 37) (zk5 kX5_holds_1) rfl ?_
        refine z_ialdN (pc := 38) (zk6 kX5_holds_1) (f := τ 2) (j := kx) hM.2.2.1 (show kx < 8 by omega) rfl ?_
        refine z_goto (pc := 39) (zk7 kX5_holds_1) (tgt := 51) (by decide) ?_
        exact z_iret (pc := 51) (zk14 kX5_holds_1) rfl (Nat.zero_le _) (Nat.zero_le _) (by
                    rw [show sp_holds σ τ ε (nI kx) = (τ 2 kx, σ, τ, ε) from by simp [sp_holds, sBad, okS, okH, okL, okT, okB, sRd, up2_id, up2_id2, oI, sOther, sNone, sFull, heldF, c_1, c_2, c_3, ix_nI (show kx ≤ 1000 by omega)]]
                    exact ⟨_, _, rfl, hM, hU, rfl⟩)
    · refine z_iconst (pc := 21) (zk11 kX5_holds_0) (v := (-1)) (by decide) ?_
      exact z_iret (pc := 22) (zk12 kX5_holds_0) rfl (Nat.zero_le _) (Nat.zero_le _) (by
                rw [show sp_holds σ τ ε (nI kx) = ((-1), σ, τ, ε) from by simp [sp_holds, sBad, okS, okH, okL, okT, okB, sRd, up2_id, up2_id2, oI, sOther, sNone, sFull, heldF, c_1, c_2, ix_nI (show kx ≤ 1000 by omega)]]
                exact ⟨_, _, rfl, hM, hU, rfl⟩)
set_option maxRecDepth 20000 in
theorem cP_show {D : zD} {B : Nat} {h : zH} {sz : Nat} {p : Nat} {σ τ ω : Ln} {ε : El} {mv : Nat → Int64} {kp tr : Option Nat} {x : Int32} {y : Int32} {n m : Nat} (hM : MoAt h p σ τ ω ε mv kp tr) (hB : B ≤ p) (hn : σ 0 0 = nI n) (h12 : n ≤ 12) (hm : σ 9 0 = nI m) (h8 : m ≤ 8) (hto : ∀ l, l < m → ToOk σ l) : zM D B xX5_show [.ref p, .int x, .int y] h sz (mQ h p sz kp tr (sp_show σ τ ε x y)) := by
  have hU : Upd h h p 29 := Upd.rf
  refine zM.of (by decide) rfl (n := 0) ?_
  show Z D B xX5_show 0 0 _ 0 [some (.ref p), some (.int x), some (.int y)] [] h sz
  refine z_iload_n (pc := 0) (zk0 kX5_show_0) rfl ?_
  refine z_i2l (pc := 1) (zk1 kX5_show_0) ?_
  refine z_lconst (pc := 2) (zk2 kX5_show_0) (v := 0) (by decide) ?_
  refine z_ldc2 (pc := 3) (zk3 kX5_show_0) klX5_88 ?_
  refine z_rdS (pc := 6) (zk4 kX5_show_0) (st := []) lkX5_81 isX5_in (c_inI (x := x) (a := 0) (b := 7) (by decide) (by decide)) rfl ⟨rfl, rfl⟩ rfl rfl ?_ rfl
  refine z_oif_eq (pc := 9) (zk5 kX5_show_0) (tgt := 26) (by decide) (fun c_1 => ?_) (fun c_1 => ?_)
  · refine z_aload_n (pc := 26) (zk14 kX5_show_0) rfl ?_
    refine z_bipush (pc := 27) (zk15 kX5_show_0) (v := (-2)) (by decide) ?_
    refine z_efV (pc := 29) (zk0 kX5_show_1) (st := []) lkX5_94 ivX5_refuse hM.1 rfl rfl (c_refuse hM (by omega) (j := 2) (by decide) (by decide)) rfl ⟨rfl, rfl⟩ rfl rfl (fun r_ h_3 z_ q_2 => ?_) rfl
    obtain ⟨er_, hR, hU_4, ez_⟩ := q_2
    rw [er_, ez_]
    clear er_ ez_
    replace hU := hU.tr hU_4 (by omega) (by omega)
    replace hM := hR; clear hR
    show Z D B xX5_show _ _ _ 32 _ [.int (-2)] _ _
    exact z_iret (pc := 32) (zk1 kX5_show_1) rfl (Nat.zero_le _) (Nat.zero_le _) (by
            rw [show sp_show σ τ ε x y = ((-2), σ, rfN τ 2, ε) from by simp [sp_show, sBad, okS, okH, okL, okT, okB, sRd, up2_id, up2_id2, oI, sOther, sNone, sFull, c_1]]
            exact ⟨_, _, rfl, hM, hU, rfl⟩)
  · refine z_iload_n (pc := 12) (zk6 kX5_show_0) rfl ?_
    refine z_iconst (pc := 13) (zk7 kX5_show_0) (v := (-1)) (by decide) ?_
    refine z_icmp_eq (pc := 14) (zk8 kX5_show_0) (tgt := 33) (by decide) (fun c_5 => ?_) (fun c_5 => ?_)
    · refine z_aload_n (pc := 33) (zk2 kX5_show_1) rfl ?_
      refine z_getf (pc := 34) (zk3 kX5_show_1) flX5_7 hM.1 gMo_0 ?_
      refine z_iload_n (pc := 37) (zk4 kX5_show_1) rfl ?_
      refine z_iload_n (pc := 38) (zk5 kX5_show_1) rfl ?_
      refine z_iconst (pc := 39) (zk6 kX5_show_1) (v := (-1)) (by decide) ?_
      refine z_icmp_ne (pc := 40) (zk7 kX5_show_1) (tgt := 47) (by decide) (fun q => absurd c_5 q) (fun _ => ?_)
      refine z_iconst (pc := 43) (zk8 kX5_show_1) (v := 0) (by decide) ?_
      refine z_goto (pc := 44) (zk9 kX5_show_1) (tgt := 48) (by decide) ?_
      obtain ⟨kx, hkx, rfl⟩ := okR_c (c := 7) (by decide) c_1
      refine z_Mo_s1 (pc := 48) (zk11 kX5_show_1) (j := kx) hM (by omega) (show kx < 8 by omega) (fun h_6 hR hU_7 => ?_)
      replace hU := hU.tr hU_7 (by omega) (by omega)
      replace hM := hR; clear hR
      refine z_aload_n (pc := 49) (zk12 kX5_show_1) rfl ?_
      refine z_getf (pc := 50) (zk13 kX5_show_1) flX5_28 hM.1 gMo_5 ?_
      refine z_iload_n (pc := 53) (zk14 kX5_show_1) rfl ?_
      refine z_iload_n (pc := 54) (zk15 kX5_show_1) rfl ?_
      refine z_Mo_s14 (pc := 55) (zk0 kX5_show_2) (j := kx) hM (by omega) (show kx < 8 by omega) (fun h_8 hR hU_9 => ?_)
      replace hU := hU.tr hU_9 (by omega) (by omega)
      replace hM := hR; clear hR
      refine z_iconst (pc := 56) (zk1 kX5_show_2) (v := 1) (by decide) ?_
      exact z_iret (pc := 57) (zk2 kX5_show_2) rfl (Nat.zero_le _) (Nat.zero_le _) (by
                rw [show sp_show σ τ ε (nI kx) y = (1, σ, (up2 (up2 τ 1 kx 0) 4 kx y), ε) from by subst c_5; simp [sp_show, sBad, okS, okH, okL, okT, okB, sRd, up2_id, up2_id2, oI, sOther, sNone, sFull, c_1, ix_nI (show kx ≤ 1000 by omega)]]
                exact ⟨_, _, rfl, hM, hU, rfl⟩)
    · refine z_aload_n (pc := 17) (zk9 kX5_show_0) rfl ?_
      refine z_iload_n (pc := 18) (zk10 kX5_show_0) rfl ?_
      refine z_i2l (pc := 19) (zk11 kX5_show_0) ?_
      refine z_rdV (pc := 20) (zk12 kX5_show_0) (st := []) lkX5_105 ivX5_isLetter hM.1 rfl rfl (c_isLetter hM) rfl ⟨rfl, rfl⟩ rfl rfl ?_ rfl
      refine z_oif_ne (pc := 23) (zk13 kX5_show_0) (tgt := 33) (by decide) (fun c_10 => ?_) (fun c_10 => ?_)
      · refine z_aload_n (pc := 33) (zk2 kX5_show_1) rfl ?_
        refine z_getf (pc := 34) (zk3 kX5_show_1) flX5_7 hM.1 gMo_0 ?_
        refine z_iload_n (pc := 37) (zk4 kX5_show_1) rfl ?_
        refine z_iload_n (pc := 38) (zk5 kX5_show_1) rfl ?_
        refine z_iconst (pc := 39) (zk6 kX5_show_1) (v := (-1)) (by decide) ?_
        refine z_icmp_ne (pc := 40) (zk7 kX5_show_1) (tgt := 47) (by decide) (fun _ => ?_) (fun q => absurd q c_5)
        refine z_iconst (pc := 47) (zk10 kX5_show_1) (v := 2) (by decide) ?_
        obtain ⟨kx, hkx, rfl⟩ := okR_c (c := 7) (by decide) c_1
        refine z_Mo_s1 (pc := 48) (zk11 kX5_show_1) (j := kx) hM (by omega) (show kx < 8 by omega) (fun h_11 hR hU_12 => ?_)
        replace hU := hU.tr hU_12 (by omega) (by omega)
        replace hM := hR; clear hR
        refine z_aload_n (pc := 49) (zk12 kX5_show_1) rfl ?_
        refine z_getf (pc := 50) (zk13 kX5_show_1) flX5_28 hM.1 gMo_5 ?_
        refine z_iload_n (pc := 53) (zk14 kX5_show_1) rfl ?_
        refine z_iload_n (pc := 54) (zk15 kX5_show_1) rfl ?_
        refine z_Mo_s14 (pc := 55) (zk0 kX5_show_2) (j := kx) hM (by omega) (show kx < 8 by omega) (fun h_13 hR hU_14 => ?_)
        replace hU := hU.tr hU_14 (by omega) (by omega)
        replace hM := hR; clear hR
        refine z_iconst (pc := 56) (zk1 kX5_show_2) (v := 1) (by decide) ?_
        exact z_iret (pc := 57) (zk2 kX5_show_2) rfl (Nat.zero_le _) (Nat.zero_le _) (by
                    rw [show sp_show σ τ ε (nI kx) y = (1, σ, (up2 (up2 τ 1 kx 2) 4 kx y), ε) from by simp [sp_show, sBad, okS, okH, okL, okT, okB, sRd, up2_id, up2_id2, oI, sOther, sNone, sFull, c_1, c_5, c_10, ix_nI (show kx ≤ 1000 by omega)]]
                    exact ⟨_, _, rfl, hM, hU, rfl⟩)
      · refine z_aload_n (pc := 26) (zk14 kX5_show_0) rfl ?_
        refine z_bipush (pc := 27) (zk15 kX5_show_0) (v := (-2)) (by decide) ?_
        refine z_efV (pc := 29) (zk0 kX5_show_1) (st := []) lkX5_94 ivX5_refuse hM.1 rfl rfl (c_refuse hM (by omega) (j := 2) (by decide) (by decide)) rfl ⟨rfl, rfl⟩ rfl rfl (fun r_ h_16 z_ q_15 => ?_) rfl
        obtain ⟨er_, hR, hU_17, ez_⟩ := q_15
        rw [er_, ez_]
        clear er_ ez_
        replace hU := hU.tr hU_17 (by omega) (by omega)
        replace hM := hR; clear hR
        show Z D B xX5_show _ _ _ 32 _ [.int (-2)] _ _
        exact z_iret (pc := 32) (zk1 kX5_show_1) rfl (Nat.zero_le _) (Nat.zero_le _) (by
                    rw [show sp_show σ τ ε x y = ((-2), σ, rfN τ 2, ε) from by simp [sp_show, sBad, okS, okH, okL, okT, okB, sRd, up2_id, up2_id2, oI, sOther, sNone, sFull, c_1, c_5, c_10]]
                    exact ⟨_, _, rfl, hM, hU, rfl⟩)
set_option maxRecDepth 20000 in
theorem cP_says {D : zD} {B : Nat} {h : zH} {sz : Nat} {p : Nat} {σ τ ω : Ln} {ε : El} {mv : Nat → Int64} {kp tr : Option Nat} {x : Int32} {y : Int32} {n m : Nat} (hM : MoAt h p σ τ ω ε mv kp tr) (hB : B ≤ p) (hn : σ 0 0 = nI n) (h12 : n ≤ 12) (hm : σ 9 0 = nI m) (h8 : m ≤ 8) (hto : ∀ l, l < m → ToOk σ l) (hS : SW τ m) (h2 : 2 ≤ n) : zM D B xX5_says [.ref p, .int x, .int y] h sz (mQ h p sz kp tr (sp_says σ τ ε x y)) := by
  have hU : Upd h h p 29 := Upd.rf
  refine zM.of (by decide) rfl (n := 0) ?_
  show Z D B xX5_says 0 0 _ 0 [some (.ref p), some (.int x), some (.int y)] [] h sz
  refine z_iload_n (pc := 0) (zk0 kX5_says_0) rfl ?_
  refine z_i2l (pc := 1) (zk1 kX5_says_0) ?_
  refine z_lconst (pc := 2) (zk2 kX5_says_0) (v := 0) (by decide) ?_
  refine z_ldc2 (pc := 3) (zk3 kX5_says_0) klX5_88 ?_
  refine z_rdS (pc := 6) (zk4 kX5_says_0) (st := []) lkX5_81 isX5_in (c_inI (x := x) (a := 0) (b := 7) (by decide) (by decide)) rfl ⟨rfl, rfl⟩ rfl rfl ?_ rfl
  refine z_oif_eq (pc := 9) (zk5 kX5_says_0) (tgt := 24) (by decide) (fun c_1 => ?_) (fun c_1 => ?_)
  · refine z_aload_n (pc := 24) (zk12 kX5_says_0) rfl ?_
    refine z_bipush (pc := 25) (zk13 kX5_says_0) (v := (-2)) (by decide) ?_
    refine z_efV (pc := 27) (zk14 kX5_says_0) (st := []) lkX5_94 ivX5_refuse hM.1 rfl rfl (c_refuse hM (by omega) (j := 2) (by decide) (by decide)) rfl ⟨rfl, rfl⟩ rfl rfl (fun r_ h_3 z_ q_2 => ?_) rfl
    obtain ⟨er_, hR, hU_4, ez_⟩ := q_2
    rw [er_, ez_]
    clear er_ ez_
    replace hU := hU.tr hU_4 (by omega) (by omega)
    replace hM := hR; clear hR
    show Z D B xX5_says _ _ _ 30 _ [.int (-2)] _ _
    exact z_iret (pc := 30) (zk15 kX5_says_0) rfl (Nat.zero_le _) (Nat.zero_le _) (by
            rw [show sp_says σ τ ε x y = ((-2), σ, rfN τ 2, ε) from by simp [sp_says, sBad, okS, okH, okL, okT, okB, sRd, up2_id, up2_id2, oI, sOther, sNone, sFull, c_1]]
            exact ⟨_, _, rfl, hM, hU, rfl⟩)
  · refine z_iload_n (pc := 12) (zk6 kX5_says_0) rfl ?_
    refine z_i2l (pc := 13) (zk7 kX5_says_0) ?_
    refine z_lconst (pc := 14) (zk8 kX5_says_0) (v := 0) (by decide) ?_
    refine z_ldc2 (pc := 15) (zk9 kX5_says_0) klX5_109 ?_
    refine z_rdS (pc := 18) (zk10 kX5_says_0) (st := []) lkX5_81 isX5_in (c_inI (x := y) (a := 0) (b := 5) (by decide) (by decide)) rfl ⟨rfl, rfl⟩ rfl rfl ?_ rfl
    refine z_oif_ne (pc := 21) (zk11 kX5_says_0) (tgt := 31) (by decide) (fun c_5 => ?_) (fun c_5 => ?_)
    · refine z_aload_n (pc := 31) (zk0 kX5_says_1) rfl ?_
      refine z_getf (pc := 32) (zk1 kX5_says_1) flX5_7 hM.1 gMo_0 ?_
      refine z_iload_n (pc := 35) (zk2 kX5_says_1) rfl ?_
      obtain ⟨kx, hkx, rfl⟩ := okR_c (c := 7) (by decide) c_1
      refine z_ialdN (pc := 36) (zk3 kX5_says_1) (f := τ 1) (j := kx) hM.2.1 (show kx < 8 by omega) rfl ?_
      refine z_iconst (pc := 37) (zk4 kX5_says_1) (v := 1) (by decide) ?_
      refine z_icmp_eq (pc := 38) (zk5 kX5_says_1) (tgt := 69) (by decide) (fun c_6 => ?_) (fun c_6 => ?_)
      · refine z_aload_n (pc := 69) (zk6 kX5_says_2) rfl ?_
        refine z_bipush (pc := 70) (zk7 kX5_says_2) (v := (-3)) (by decide) ?_
        refine z_efV (pc := 72) (zk8 kX5_says_2) (st := []) lkX5_94 ivX5_refuse hM.1 rfl rfl (c_refuse hM (by omega) (j := 3) (by decide) (by decide)) rfl ⟨rfl, rfl⟩ rfl rfl (fun r_ h_8 z_ q_7 => ?_) rfl
        obtain ⟨er_, hR, hU_9, ez_⟩ := q_7
        rw [er_, ez_]
        clear er_ ez_
        replace hU := hU.tr hU_9 (by omega) (by omega)
        replace hM := hR; clear hR
        show Z D B xX5_says _ _ _ 75 _ [.int (-3)] _ _
        exact z_iret (pc := 75) (zk9 kX5_says_2) rfl (Nat.zero_le _) (Nat.zero_le _) (by
                    rw [show sp_says σ τ ε (nI kx) y = ((-3), σ, rfN τ 3, ε) from by simp [sp_says, sBad, okS, okH, okL, okT, okB, sRd, up2_id, up2_id2, oI, sOther, sNone, sFull, c_1, c_5, c_6, ix_nI (show kx ≤ 1000 by omega)]]
                    exact ⟨_, _, rfl, hM, hU, rfl⟩)
      · refine z_aload_n (pc := 41) (zk6 kX5_says_1) rfl ?_
        refine z_getf (pc := 42) (zk7 kX5_says_1) flX5_7 hM.1 gMo_0 ?_
        refine z_iload_n (pc := 45) (zk8 kX5_says_1) rfl ?_
        refine z_ialdN (pc := 46) (zk9 kX5_says_1) (f := τ 1) (j := kx) hM.2.1 (show kx < 8 by omega) rfl ?_
        refine z_iconst (pc := 47) (zk10 kX5_says_1) (v := 2) (by decide) ?_
        refine z_icmp_ne (pc := 48) (zk11 kX5_says_1) (tgt := 76) (by decide) (fun c_10 => ?_) (fun c_10 => ?_)
        · refine z_aload_n (pc := 76) (zk10 kX5_says_2) rfl ?_
          refine z_getf (pc := 77) (zk11 kX5_says_2) flX5_7 hM.1 gMo_0 ?_
          refine z_iload_n (pc := 80) (zk12 kX5_says_2) rfl ?_
          refine z_ialdN (pc := 81) (zk13 kX5_says_2) (f := τ 1) (j := kx) hM.2.1 (show kx < 8 by omega) rfl ?_
          refine z_if_ne (pc := 82) (zk14 kX5_says_2) (tgt := 92) (by decide) (fun c_11 => ?_) (fun c_11 => ?_)
          · exact (SW_no hS (by omega) c_11 c_6 c_10).elim
          · refine z_aload_n (pc := 85) (zk15 kX5_says_2) rfl ?_
            refine z_bipush (pc := 86) (zk0 kX5_says_3) (v := (-4)) (by decide) ?_
            refine z_efV (pc := 88) (zk1 kX5_says_3) (st := []) lkX5_94 ivX5_refuse hM.1 rfl rfl (c_refuse hM (by omega) (j := 4) (by decide) (by decide)) rfl ⟨rfl, rfl⟩ rfl rfl (fun r_ h_13 z_ q_12 => ?_) rfl
            obtain ⟨er_, hR, hU_14, ez_⟩ := q_12
            rw [er_, ez_]
            clear er_ ez_
            replace hU := hU.tr hU_14 (by omega) (by omega)
            replace hM := hR; clear hR
            show Z D B xX5_says _ _ _ 91 _ [.int (-4)] _ _
            exact z_iret (pc := 91) (zk2 kX5_says_3) rfl (Nat.zero_le _) (Nat.zero_le _) (by
                            rw [show sp_says σ τ ε (nI kx) y = ((-4), σ, rfN τ 4, ε) from by simp [sp_says, sBad, okS, okH, okL, okT, okB, sRd, up2_id, up2_id2, oI, sOther, sNone, sFull, c_1, c_5, c_6, c_10, c_11, ix_nI (show kx ≤ 1000 by omega)]]
                            exact ⟨_, _, rfl, hM, hU, rfl⟩)
        · obtain ⟨l_, hl_, el_⟩ := SW_shown hS (by omega) c_10
          refine z_aload_n (pc := 51) (zk12 kX5_says_1) rfl ?_
          refine z_getf (pc := 52) (zk13 kX5_says_1) flX5_53 hM.1 gMo_18 ?_
          refine z_aload_n (pc := 55) (zk14 kX5_says_1) rfl ?_
          refine z_getf (pc := 56) (zk15 kX5_says_1) flX5_28 hM.1 gMo_5 ?_
          refine z_iload_n (pc := 59) (zk0 kX5_says_2) rfl ?_
          refine z_ialdN (pc := 60) (zk1 kX5_says_2) (f := τ 4) (j := kx) hM.2.2.2.2.2.2.2.1 (show kx < 8 by omega) rfl ?_
          refine z_top (congrArg Value.int el_) ?_
          refine z_ialdN (pc := 61) (zk2 kX5_says_2) (f := σ 10) (j := l_) hM.2.2.2.2.2.2.2.2.2.2.2.2.2.2.1 (show l_ < 8 by omega) rfl ?_
          refine z_iload_n (pc := 62) (zk3 kX5_says_2) rfl ?_
          refine z_rdS (pc := 63) (zk4 kX5_says_2) (st := []) lkX5_111 isX5_isUnder (c_isUnder) rfl ⟨rfl, rfl⟩ rfl rfl ?_ rfl
          refine z_oif_ne (pc := 66) (zk5 kX5_says_2) (tgt := 76) (by decide) (fun c_15 => ?_) (fun c_15 => ?_)
          · refine z_aload_n (pc := 76) (zk10 kX5_says_2) rfl ?_
            refine z_getf (pc := 77) (zk11 kX5_says_2) flX5_7 hM.1 gMo_0 ?_
            refine z_iload_n (pc := 80) (zk12 kX5_says_2) rfl ?_
            refine z_ialdN (pc := 81) (zk13 kX5_says_2) (f := τ 1) (j := kx) hM.2.1 (show kx < 8 by omega) rfl ?_
            refine z_if_ne (pc := 82) (zk14 kX5_says_2) (tgt := 92) (by decide) (fun _ => ?_) (fun q => absurd q (by rw [c_10]; decide))
            refine z_iload_n (pc := 92) (zk3 kX5_says_3) rfl ?_
            refine z_if_ne (pc := 93) (zk4 kX5_says_3) (tgt := 110) (by decide) (fun c_16 => ?_) (fun c_16 => ?_)
            · refine z_aload_n (pc := 110) (zk13 kX5_says_3) rfl ?_
              refine z_aload_n (pc := 111) (zk14 kX5_says_3) rfl ?_
              refine z_getf (pc := 112) (zk15 kX5_says_3) flX5_28 hM.1 gMo_5 ?_
              refine z_iload_n (pc := 115) (zk0 kX5_says_4) rfl ?_
              refine z_ialdN (pc := 116) (zk1 kX5_says_4) (f := τ 4) (j := kx) hM.2.2.2.2.2.2.2.1 (show kx < 8 by omega) rfl ?_
              refine z_top (congrArg Value.int el_) ?_
              refine z_iconst (pc := 117) (zk2 kX5_says_4) (v := 0) (by decide) ?_
              refine z_rdV (pc := 118) (zk3 kX5_says_4) (st := []) lkX5_115 ivX5_heardAt hM.1 rfl rfl (c_mheardAt hM hn h12 (show l_ < 8 by omega) (show 0 < n by omega) (hto _ (by omega))) rfl ⟨rfl, rfl⟩ rfl rfl ?_ rfl
              exact z_iret (pc := 121) (zk4 kX5_says_4) rfl (Nat.zero_le _) (Nat.zero_le _) (by
                                rw [show sp_says σ τ ε (nI kx) y = (heardF σ l_ 0, σ, τ, ε) from by simp [sp_says, sBad, okS, okH, okL, okT, okB, sRd, up2_id, up2_id2, oI, sOther, sNone, sFull, c_1, c_5, c_6, c_10, el_, c_15, c_16, ix_nI (show kx ≤ 1000 by omega), ix_nI (show l_ ≤ 1000 by omega)]]
                                exact ⟨_, _, rfl, hM, hU, rfl⟩)
            · refine z_aload_n (pc := 96) (zk5 kX5_says_3) rfl ?_
              refine z_getf (pc := 97) (zk6 kX5_says_3) flX5_56 hM.1 gMo_19 ?_
              refine z_aload_n (pc := 100) (zk7 kX5_says_3) rfl ?_
              refine z_getf (pc := 101) (zk8 kX5_says_3) flX5_28 hM.1 gMo_5 ?_
              refine z_iload_n (pc := 104) (zk9 kX5_says_3) rfl ?_
              refine z_ialdN (pc := 105) (zk10 kX5_says_3) (f := τ 4) (j := kx) hM.2.2.2.2.2.2.2.1 (show kx < 8 by omega) rfl ?_
              refine z_top (congrArg Value.int el_) ?_
              refine z_ialdN (pc := 106) (zk11 kX5_says_3) (f := σ 11) (j := l_) hM.2.2.2.2.2.2.2.2.2.2.2.2.2.2.2.1 (show l_ < 8 by omega) rfl ?_
              refine z_goto (pc := 107) (zk12 kX5_says_3) (tgt := 121) (by decide) ?_
              exact z_iret (pc := 121) (zk4 kX5_says_4) rfl (Nat.zero_le _) (Nat.zero_le _) (by
                                rw [show sp_says σ τ ε (nI kx) y = (σ 11 l_, σ, τ, ε) from by subst c_16; simp [sp_says, sBad, okS, okH, okL, okT, okB, sRd, up2_id, up2_id2, oI, sOther, sNone, sFull, c_1, c_5, c_6, c_10, el_, c_15, ix_nI (show kx ≤ 1000 by omega), ix_nI (show l_ ≤ 1000 by omega)]]
                                exact ⟨_, _, rfl, hM, hU, rfl⟩)
          · refine z_aload_n (pc := 69) (zk6 kX5_says_2) rfl ?_
            refine z_bipush (pc := 70) (zk7 kX5_says_2) (v := (-3)) (by decide) ?_
            refine z_efV (pc := 72) (zk8 kX5_says_2) (st := []) lkX5_94 ivX5_refuse hM.1 rfl rfl (c_refuse hM (by omega) (j := 3) (by decide) (by decide)) rfl ⟨rfl, rfl⟩ rfl rfl (fun r_ h_18 z_ q_17 => ?_) rfl
            obtain ⟨er_, hR, hU_19, ez_⟩ := q_17
            rw [er_, ez_]
            clear er_ ez_
            replace hU := hU.tr hU_19 (by omega) (by omega)
            replace hM := hR; clear hR
            show Z D B xX5_says _ _ _ 75 _ [.int (-3)] _ _
            exact z_iret (pc := 75) (zk9 kX5_says_2) rfl (Nat.zero_le _) (Nat.zero_le _) (by
                            rw [show sp_says σ τ ε (nI kx) y = ((-3), σ, rfN τ 3, ε) from by simp [sp_says, sBad, okS, okH, okL, okT, okB, sRd, up2_id, up2_id2, oI, sOther, sNone, sFull, c_1, c_5, c_6, c_10, el_, c_15, ix_nI (show kx ≤ 1000 by omega), ix_nI (show l_ ≤ 1000 by omega)]]
                            exact ⟨_, _, rfl, hM, hU, rfl⟩)
    · refine z_aload_n (pc := 24) (zk12 kX5_says_0) rfl ?_
      refine z_bipush (pc := 25) (zk13 kX5_says_0) (v := (-2)) (by decide) ?_
      refine z_efV (pc := 27) (zk14 kX5_says_0) (st := []) lkX5_94 ivX5_refuse hM.1 rfl rfl (c_refuse hM (by omega) (j := 2) (by decide) (by decide)) rfl ⟨rfl, rfl⟩ rfl rfl (fun r_ h_21 z_ q_20 => ?_) rfl
      obtain ⟨er_, hR, hU_22, ez_⟩ := q_20
      rw [er_, ez_]
      clear er_ ez_
      replace hU := hU.tr hU_22 (by omega) (by omega)
      replace hM := hR; clear hR
      show Z D B xX5_says _ _ _ 30 _ [.int (-2)] _ _
      exact z_iret (pc := 30) (zk15 kX5_says_0) rfl (Nat.zero_le _) (Nat.zero_le _) (by
                rw [show sp_says σ τ ε x y = ((-2), σ, rfN τ 2, ε) from by simp [sp_says, sBad, okS, okH, okL, okT, okB, sRd, up2_id, up2_id2, oI, sOther, sNone, sFull, c_1, c_5]]
                exact ⟨_, _, rfl, hM, hU, rfl⟩)
set_option maxRecDepth 20000 in
theorem cP_letter {D : zD} {B : Nat} {h : zH} {sz : Nat} {p : Nat} {σ τ ω : Ln} {ε : El} {mv : Nat → Int64} {kp tr : Option Nat} {x : Int32} {y : Int32} {z : Int32} {u : Int32} {n m : Nat} (hM : MoAt h p σ τ ω ε mv kp tr) (hB : B ≤ p) (hn : σ 0 0 = nI n) (h12 : n ≤ 12) (hm : σ 9 0 = nI m) (h8 : m ≤ 8) (hto : ∀ l, l < m → ToOk σ l) : zM D B xX5_letter [.ref p, .int x, .int y, .int z, .int u] h sz (mQ h p sz kp tr (sp_letter σ τ ε x y z u)) := by
  have hU : Upd h h p 29 := Upd.rf
  refine zM.of (by decide) rfl (n := 0) ?_
  show Z D B xX5_letter 0 0 _ 0 [some (.ref p), some (.int x), some (.int y), some (.int z), some (.int u)] [] h sz
  refine z_iload_n (pc := 0) (zk0 kX5_letter_0) rfl ?_
  refine z_i2l (pc := 1) (zk1 kX5_letter_0) ?_
  refine z_lconst (pc := 2) (zk2 kX5_letter_0) (v := 0) (by decide) ?_
  refine z_ldc2 (pc := 3) (zk3 kX5_letter_0) klX5_109 ?_
  refine z_rdS (pc := 6) (zk4 kX5_letter_0) (st := []) lkX5_81 isX5_in (c_inI (x := x) (a := 0) (b := 5) (by decide) (by decide)) rfl ⟨rfl, rfl⟩ rfl rfl ?_ rfl
  refine z_oif_eq (pc := 9) (zk5 kX5_letter_0) (tgt := 45) (by decide) (fun c_1 => ?_) (fun c_1 => ?_)
  · refine z_aload_n (pc := 45) (zk6 kX5_letter_1) rfl ?_
    refine z_bipush (pc := 46) (zk7 kX5_letter_1) (v := (-2)) (by decide) ?_
    refine z_efV (pc := 48) (zk8 kX5_letter_1) (st := []) lkX5_94 ivX5_refuse hM.1 rfl rfl (c_refuse hM (by omega) (j := 2) (by decide) (by decide)) rfl ⟨rfl, rfl⟩ rfl rfl (fun r_ h_3 z_ q_2 => ?_) rfl
    obtain ⟨er_, hR, hU_4, ez_⟩ := q_2
    rw [er_, ez_]
    clear er_ ez_
    replace hU := hU.tr hU_4 (by omega) (by omega)
    replace hM := hR; clear hR
    show Z D B xX5_letter _ _ _ 51 _ [.int (-2)] _ _
    exact z_iret (pc := 51) (zk9 kX5_letter_1) rfl (Nat.zero_le _) (Nat.zero_le _) (by
            rw [show sp_letter σ τ ε x y z u = ((-2), σ, rfN τ 2, ε) from by simp [sp_letter, sBad, okS, okH, okL, okT, okB, sRd, up2_id, up2_id2, oI, sOther, sNone, sFull, c_1, hm, ix_nI (show m ≤ 1000 by omega)]]
            exact ⟨_, _, rfl, hM, hU, rfl⟩)
  · refine z_iload_n (pc := 12) (zk6 kX5_letter_0) rfl ?_
    refine z_i2l (pc := 13) (zk7 kX5_letter_0) ?_
    refine z_lconst (pc := 14) (zk8 kX5_letter_0) (v := 0) (by decide) ?_
    refine z_ldc2 (pc := 15) (zk9 kX5_letter_0) klX5_121 ?_
    refine z_rdS (pc := 18) (zk10 kX5_letter_0) (st := []) lkX5_81 isX5_in (c_inI (x := y) (a := 0) (b := 9) (by decide) (by decide)) rfl ⟨rfl, rfl⟩ rfl rfl ?_ rfl
    refine z_oif_eq (pc := 21) (zk11 kX5_letter_0) (tgt := 45) (by decide) (fun c_5 => ?_) (fun c_5 => ?_)
    · refine z_aload_n (pc := 45) (zk6 kX5_letter_1) rfl ?_
      refine z_bipush (pc := 46) (zk7 kX5_letter_1) (v := (-2)) (by decide) ?_
      refine z_efV (pc := 48) (zk8 kX5_letter_1) (st := []) lkX5_94 ivX5_refuse hM.1 rfl rfl (c_refuse hM (by omega) (j := 2) (by decide) (by decide)) rfl ⟨rfl, rfl⟩ rfl rfl (fun r_ h_7 z_ q_6 => ?_) rfl
      obtain ⟨er_, hR, hU_8, ez_⟩ := q_6
      rw [er_, ez_]
      clear er_ ez_
      replace hU := hU.tr hU_8 (by omega) (by omega)
      replace hM := hR; clear hR
      show Z D B xX5_letter _ _ _ 51 _ [.int (-2)] _ _
      exact z_iret (pc := 51) (zk9 kX5_letter_1) rfl (Nat.zero_le _) (Nat.zero_le _) (by
                rw [show sp_letter σ τ ε x y z u = ((-2), σ, rfN τ 2, ε) from by simp [sp_letter, sBad, okS, okH, okL, okT, okB, sRd, up2_id, up2_id2, oI, sOther, sNone, sFull, c_1, c_5, hm, ix_nI (show m ≤ 1000 by omega)]]
                exact ⟨_, _, rfl, hM, hU, rfl⟩)
    · refine z_aload_n (pc := 24) (zk12 kX5_letter_0) rfl ?_
      refine z_iload_n (pc := 25) (zk13 kX5_letter_0) rfl ?_
      refine z_rdV (pc := 26) (zk14 kX5_letter_0) (st := []) lkX5_123 ivX5_isHouse hM.1 rfl rfl (c_isHouse hM) rfl ⟨rfl, rfl⟩ rfl rfl ?_ rfl
      refine z_oif_eq (pc := 29) (zk15 kX5_letter_0) (tgt := 45) (by decide) (fun c_9 => ?_) (fun c_9 => ?_)
      · refine z_aload_n (pc := 45) (zk6 kX5_letter_1) rfl ?_
        refine z_bipush (pc := 46) (zk7 kX5_letter_1) (v := (-2)) (by decide) ?_
        refine z_efV (pc := 48) (zk8 kX5_letter_1) (st := []) lkX5_94 ivX5_refuse hM.1 rfl rfl (c_refuse hM (by omega) (j := 2) (by decide) (by decide)) rfl ⟨rfl, rfl⟩ rfl rfl (fun r_ h_11 z_ q_10 => ?_) rfl
        obtain ⟨er_, hR, hU_12, ez_⟩ := q_10
        rw [er_, ez_]
        clear er_ ez_
        replace hU := hU.tr hU_12 (by omega) (by omega)
        replace hM := hR; clear hR
        show Z D B xX5_letter _ _ _ 51 _ [.int (-2)] _ _
        exact z_iret (pc := 51) (zk9 kX5_letter_1) rfl (Nat.zero_le _) (Nat.zero_le _) (by
                    rw [show sp_letter σ τ ε x y z u = ((-2), σ, rfN τ 2, ε) from by simp [sp_letter, sBad, okS, okH, okL, okT, okB, sRd, up2_id, up2_id2, oI, sOther, sNone, sFull, c_1, c_5, c_9, hm, ix_nI (show m ≤ 1000 by omega)]]
                    exact ⟨_, _, rfl, hM, hU, rfl⟩)
      · refine z_iload (pc := 32) (zk0 kX5_letter_1) rfl ?_
        refine z_i2l (pc := 34) (zk1 kX5_letter_1) ?_
        refine z_lconst (pc := 35) (zk2 kX5_letter_1) (v := 1) (by decide) ?_
        refine z_ldc2 (pc := 36) (zk3 kX5_letter_1) klX5_92 ?_
        refine z_rdS (pc := 39) (zk4 kX5_letter_1) (st := []) lkX5_81 isX5_in (c_inI (x := u) (a := 1) (b := 40) (by decide) (by decide)) rfl ⟨rfl, rfl⟩ rfl rfl ?_ rfl
        refine z_oif_ne (pc := 42) (zk5 kX5_letter_1) (tgt := 52) (by decide) (fun c_13 => ?_) (fun c_13 => ?_)
        · refine z_aload_n (pc := 52) (zk10 kX5_letter_1) rfl ?_
          refine z_getf (pc := 53) (zk11 kX5_letter_1) flX5_85 hM.1 (v := .int (nI m)) (by rw [← hm]; rfl) ?_
          refine z_bipush (pc := 56) (zk12 kX5_letter_1) (v := 8) (by decide) ?_
          refine z_icmp_ne (pc := 58) (zk13 kX5_letter_1) (tgt := 68) (by decide) (fun c_14 => ?_) (fun c_14 => ?_)
          · have hm8 : m < 8 := lt8 h8 c_14
            refine z_aload_n (pc := 68) (zk2 kX5_letter_2) rfl ?_
            refine z_iload_n (pc := 69) (zk3 kX5_letter_2) rfl ?_
            refine z_iload_n (pc := 70) (zk4 kX5_letter_2) rfl ?_
            refine z_iload_n (pc := 71) (zk5 kX5_letter_2) rfl ?_
            refine z_iload (pc := 72) (zk6 kX5_letter_2) rfl ?_
            refine z_efV (pc := 74) (zk7 kX5_letter_2) (st := []) lkX5_127 ivX5_addLetter hM.1 rfl rfl (c_maddLetter hM hB hm hm8) rfl ⟨rfl, rfl⟩ rfl rfl (fun r_ h_16 z_ q_15 => ?_) rfl
            obtain ⟨er_, hR, hU_17, ez_⟩ := q_15
            rw [er_, ez_]
            clear er_ ez_
            replace hU := hU.tr hU_17 (by omega) (by omega)
            replace hM := hR; clear hR
            show Z D B xX5_letter _ _ _ 77 _ [] _ _
            refine z_aload_n (pc := 77) (zk8 kX5_letter_2) rfl ?_
            refine z_getf (pc := 78) (zk9 kX5_letter_2) flX5_85 hM.1 (v := .int (nI (m + 1))) (by rw [← (addF_9 σ m x y z u)]; rfl) ?_
            refine z_iconst (pc := 81) (zk10 kX5_letter_2) (v := 1) (by decide) ?_
            refine z_isub (pc := 82) (zk11 kX5_letter_2) ?_
            refine z_top (congrArg Value.int (nI_dec (n := m + 1) (Nat.succ_pos _))) ?_
            exact z_iret (pc := 83) (zk12 kX5_letter_2) rfl (Nat.zero_le _) (Nat.zero_le _) (by
                            rw [show sp_letter σ τ ε x y z u = (nI (m + 1 - 1), (addF σ m x y z u), τ, ε) from by simp [sp_letter, sBad, okS, okH, okL, okT, okB, sRd, up2_id, up2_id2, oI, sOther, sNone, sFull, c_1, c_5, c_9, c_13, c_14, hm, ix_nI (show m ≤ 1000 by omega)]]
                            exact ⟨_, _, rfl, hM, hU, rfl⟩)
          · refine z_aload_n (pc := 61) (zk14 kX5_letter_1) rfl ?_
            refine z_bipush (pc := 62) (zk15 kX5_letter_1) (v := (-6)) (by decide) ?_
            refine z_efV (pc := 64) (zk0 kX5_letter_2) (st := []) lkX5_94 ivX5_refuse hM.1 rfl rfl (c_refuse hM (by omega) (j := 6) (by decide) (by decide)) rfl ⟨rfl, rfl⟩ rfl rfl (fun r_ h_19 z_ q_18 => ?_) rfl
            obtain ⟨er_, hR, hU_20, ez_⟩ := q_18
            rw [er_, ez_]
            clear er_ ez_
            replace hU := hU.tr hU_20 (by omega) (by omega)
            replace hM := hR; clear hR
            show Z D B xX5_letter _ _ _ 67 _ [.int (-6)] _ _
            exact z_iret (pc := 67) (zk1 kX5_letter_2) rfl (Nat.zero_le _) (Nat.zero_le _) (by
                            rw [show sp_letter σ τ ε x y z u = ((-6), σ, rfN τ 6, ε) from by simp [sp_letter, sBad, okS, okH, okL, okT, okB, sRd, up2_id, up2_id2, oI, sOther, sNone, sFull, c_1, c_5, c_9, c_13, c_14, hm, ix_nI (show m ≤ 1000 by omega)]]
                            exact ⟨_, _, rfl, hM, hU, rfl⟩)
        · refine z_aload_n (pc := 45) (zk6 kX5_letter_1) rfl ?_
          refine z_bipush (pc := 46) (zk7 kX5_letter_1) (v := (-2)) (by decide) ?_
          refine z_efV (pc := 48) (zk8 kX5_letter_1) (st := []) lkX5_94 ivX5_refuse hM.1 rfl rfl (c_refuse hM (by omega) (j := 2) (by decide) (by decide)) rfl ⟨rfl, rfl⟩ rfl rfl (fun r_ h_22 z_ q_21 => ?_) rfl
          obtain ⟨er_, hR, hU_23, ez_⟩ := q_21
          rw [er_, ez_]
          clear er_ ez_
          replace hU := hU.tr hU_23 (by omega) (by omega)
          replace hM := hR; clear hR
          show Z D B xX5_letter _ _ _ 51 _ [.int (-2)] _ _
          exact z_iret (pc := 51) (zk9 kX5_letter_1) rfl (Nat.zero_le _) (Nat.zero_le _) (by
                        rw [show sp_letter σ τ ε x y z u = ((-2), σ, rfN τ 2, ε) from by simp [sp_letter, sBad, okS, okH, okL, okT, okB, sRd, up2_id, up2_id2, oI, sOther, sNone, sFull, c_1, c_5, c_9, c_13, hm, ix_nI (show m ≤ 1000 by omega)]]
                        exact ⟨_, _, rfl, hM, hU, rfl⟩)
set_option maxRecDepth 20000 in
theorem cP_mend {D : zD} {B : Nat} {h : zH} {sz : Nat} {p : Nat} {σ τ ω : Ln} {ε : El} {mv : Nat → Int64} {kp tr : Option Nat} {x : Int32} {y : Int32} {z : Int32} {n m : Nat} (hM : MoAt h p σ τ ω ε mv kp tr) (hB : B ≤ p) (hn : σ 0 0 = nI n) (h12 : n ≤ 12) (hm : σ 9 0 = nI m) (h8 : m ≤ 8) (hto : ∀ l, l < m → ToOk σ l) : zM D B xX5_mend [.ref p, .int x, .int y, .int z] h sz (mQ h p sz kp tr (sp_mend σ τ ε x y z)) := by
  have hU : Upd h h p 29 := Upd.rf
  refine zM.of (by decide) rfl (n := 1) ?_
  show Z D B xX5_mend 0 0 _ 0 [some (.ref p), some (.int x), some (.int y), some (.int z), none] [] h sz
  refine z_aload_n (pc := 0) (zk0 kX5_mend_0) rfl ?_
  refine z_iload_n (pc := 1) (zk1 kX5_mend_0) rfl ?_
  refine z_i2l (pc := 2) (zk2 kX5_mend_0) ?_
  refine z_rdV (pc := 3) (zk3 kX5_mend_0) (st := []) lkX5_105 ivX5_isLetter hM.1 rfl rfl (c_isLetter hM) rfl ⟨rfl, rfl⟩ rfl rfl ?_ rfl
  refine z_oif_eq (pc := 6) (zk4 kX5_mend_0) (tgt := 46) (by decide) (fun c_1 => ?_) (fun c_1 => ?_)
  · refine z_aload_n (pc := 46) (zk8 kX5_mend_1) rfl ?_
    refine z_bipush (pc := 47) (zk9 kX5_mend_1) (v := (-2)) (by decide) ?_
    refine z_efV (pc := 49) (zk10 kX5_mend_1) (st := []) lkX5_94 ivX5_refuse hM.1 rfl rfl (c_refuse hM (by omega) (j := 2) (by decide) (by decide)) rfl ⟨rfl, rfl⟩ rfl rfl (fun r_ h_3 z_ q_2 => ?_) rfl
    obtain ⟨er_, hR, hU_4, ez_⟩ := q_2
    rw [er_, ez_]
    clear er_ ez_
    replace hU := hU.tr hU_4 (by omega) (by omega)
    replace hM := hR; clear hR
    show Z D B xX5_mend _ _ _ 52 _ [.int (-2)] _ _
    exact z_iret (pc := 52) (zk11 kX5_mend_1) rfl (Nat.zero_le _) (Nat.zero_le _) (by
            rw [show sp_mend σ τ ε x y z = ((-2), σ, rfN τ 2, ε) from by simp [sp_mend, sBad, okS, okH, okL, okT, okB, sRd, up2_id, up2_id2, oI, sOther, sNone, sFull, c_1]]
            exact ⟨_, _, rfl, hM, hU, rfl⟩)
  · refine z_iload_n (pc := 9) (zk5 kX5_mend_0) rfl ?_
    refine z_i2l (pc := 10) (zk6 kX5_mend_0) ?_
    refine z_lconst (pc := 11) (zk7 kX5_mend_0) (v := 0) (by decide) ?_
    refine z_lconst (pc := 12) (zk8 kX5_mend_0) (v := 1) (by decide) ?_
    refine z_rdS (pc := 13) (zk9 kX5_mend_0) (st := []) lkX5_81 isX5_in (c_inI (x := y) (a := 0) (b := 1) (by decide) (by decide)) rfl ⟨rfl, rfl⟩ rfl rfl ?_ rfl
    refine z_oif_eq (pc := 16) (zk10 kX5_mend_0) (tgt := 46) (by decide) (fun c_5 => ?_) (fun c_5 => ?_)
    · refine z_aload_n (pc := 46) (zk8 kX5_mend_1) rfl ?_
      refine z_bipush (pc := 47) (zk9 kX5_mend_1) (v := (-2)) (by decide) ?_
      refine z_efV (pc := 49) (zk10 kX5_mend_1) (st := []) lkX5_94 ivX5_refuse hM.1 rfl rfl (c_refuse hM (by omega) (j := 2) (by decide) (by decide)) rfl ⟨rfl, rfl⟩ rfl rfl (fun r_ h_7 z_ q_6 => ?_) rfl
      obtain ⟨er_, hR, hU_8, ez_⟩ := q_6
      rw [er_, ez_]
      clear er_ ez_
      replace hU := hU.tr hU_8 (by omega) (by omega)
      replace hM := hR; clear hR
      show Z D B xX5_mend _ _ _ 52 _ [.int (-2)] _ _
      exact z_iret (pc := 52) (zk11 kX5_mend_1) rfl (Nat.zero_le _) (Nat.zero_le _) (by
                rw [show sp_mend σ τ ε x y z = ((-2), σ, rfN τ 2, ε) from by simp [sp_mend, sBad, okS, okH, okL, okT, okB, sRd, up2_id, up2_id2, oI, sOther, sNone, sFull, c_1, c_5]]
                exact ⟨_, _, rfl, hM, hU, rfl⟩)
    · refine z_iload_n (pc := 19) (zk11 kX5_mend_0) rfl ?_
      rcases okR_01 c_5 with rfl | rfl
      · refine z_if_ne (pc := 20) (zk12 kX5_mend_0) (tgt := 34) (by decide) (fun q => absurd (by decide) q) (fun _ => ?_)
        refine z_aload_n (pc := 23) (zk13 kX5_mend_0) rfl ?_
        refine z_iload_n (pc := 24) (zk14 kX5_mend_0) rfl ?_
        refine z_rdV (pc := 25) (zk15 kX5_mend_0) (st := []) lkX5_123 ivX5_isHouse hM.1 rfl rfl (c_isHouse hM) rfl ⟨rfl, rfl⟩ rfl rfl ?_ rfl
        refine z_oif_ne (pc := 28) (zk0 kX5_mend_1) (tgt := 53) (by decide) (fun c_9 => ?_) (fun c_9 => ?_)
        · refine z_iload_n (pc := 53) (zk12 kX5_mend_1) rfl ?_
          refine z_if_ne (pc := 54) (zk13 kX5_mend_1) (tgt := 66) (by decide) (fun q => absurd (by decide) q) (fun _ => ?_)
          refine z_aload_n (pc := 57) (zk14 kX5_mend_1) rfl ?_
          refine z_getf (pc := 58) (zk15 kX5_mend_1) flX5_59 hM.1 gMo_20 ?_
          refine z_iload_n (pc := 61) (zk0 kX5_mend_2) rfl ?_
          obtain ⟨kx, hkx, rfl⟩ := okR_nI (n := m) (by omega) (by rw [← hm]; exact c_1)
          refine z_ialdN (pc := 62) (zk1 kX5_mend_2) (f := σ 12) (j := kx) hM.2.2.2.2.2.2.2.2.2.2.2.2.2.2.2.2.1 (show kx < 8 by omega) rfl ?_
          refine z_goto (pc := 63) (zk2 kX5_mend_2) (tgt := 72) (by decide) ?_
          refine z_istore (pc := 72) (zk7 kX5_mend_2) rfl rfl ?_
          show Z D B xX5_mend _ _ _ 74 [some (.ref p), some (.int (nI kx)), some (.int 0), some (.int z), some (.int (σ 12 kx))] _ _ _
          refine z_aload_n (pc := 74) (zk8 kX5_mend_2) rfl ?_
          refine z_getf (pc := 75) (zk9 kX5_mend_2) flX5_59 hM.1 gMo_20 ?_
          refine z_iload_n (pc := 78) (zk10 kX5_mend_2) rfl ?_
          refine z_iload_n (pc := 79) (zk11 kX5_mend_2) rfl ?_
          refine z_if_ne (pc := 80) (zk12 kX5_mend_2) (tgt := 87) (by decide) (fun q => absurd (by decide) q) (fun _ => ?_)
          refine z_iload_n (pc := 83) (zk13 kX5_mend_2) rfl ?_
          refine z_goto (pc := 84) (zk14 kX5_mend_2) (tgt := 93) (by decide) ?_
          refine z_Mo_s23 (pc := 93) (zk3 kX5_mend_3) (j := kx) hM (by omega) (show kx < 8 by omega) (fun h_10 hR hU_11 => ?_)
          replace hU := hU.tr hU_11 (by omega) (by omega)
          replace hM := hR; clear hR
          refine z_aload_n (pc := 94) (zk4 kX5_mend_3) rfl ?_
          refine z_getf (pc := 95) (zk5 kX5_mend_3) flX5_62 hM.1 gMo_21 ?_
          refine z_iload_n (pc := 98) (zk6 kX5_mend_3) rfl ?_
          refine z_iload_n (pc := 99) (zk7 kX5_mend_3) rfl ?_
          refine z_iconst (pc := 100) (zk8 kX5_mend_3) (v := 1) (by decide) ?_
          refine z_icmp_ne (pc := 101) (zk9 kX5_mend_3) (tgt := 108) (by decide) (fun _ => ?_) (fun q => absurd q (by decide))
          refine z_aload_n (pc := 108) (zk12 kX5_mend_3) rfl ?_
          refine z_getf (pc := 109) (zk13 kX5_mend_3) flX5_62 hM.1 gMo_21 ?_
          refine z_iload_n (pc := 112) (zk14 kX5_mend_3) rfl ?_
          refine z_ialdN (pc := 113) (zk15 kX5_mend_3) (f := σ 13) (j := kx) hM.2.2.2.2.2.2.2.2.2.2.2.2.2.2.2.2.2.1 (show kx < 8 by omega) rfl ?_
          refine z_Mo_s24 (pc := 114) (zk0 kX5_mend_4) (j := kx) hM (by omega) (show kx < 8 by omega) (fun h_12 hR hU_13 => ?_)
          replace hU := hU.tr hU_13 (by omega) (by omega)
          replace hM := hR; clear hR
          refine z_iload (pc := 115) (zk1 kX5_mend_4) rfl ?_
          exact z_iret (pc := 117) (zk2 kX5_mend_4) rfl (Nat.zero_le _) (Nat.zero_le _) (by
                        rw [show sp_mend σ τ ε (nI kx) 0 z = (σ 12 kx, (up2 (up2 σ 12 kx z) 13 kx (σ 13 kx)), τ, ε) from by simp [sp_mend, sBad, okS, okH, okL, okT, okB, sRd, up2_id, up2_id2, oI, sOther, sNone, sFull, c_1, c_5, c_9, ix_nI (show kx ≤ 1000 by omega)]]
                        exact ⟨_, _, rfl, hM, hU, rfl⟩)
        · refine z_goto (pc := 31) (zk1 kX5_mend_1) (tgt := 46) (by decide) ?_
          refine z_aload_n (pc := 46) (zk8 kX5_mend_1) rfl ?_
          refine z_bipush (pc := 47) (zk9 kX5_mend_1) (v := (-2)) (by decide) ?_
          refine z_efV (pc := 49) (zk10 kX5_mend_1) (st := []) lkX5_94 ivX5_refuse hM.1 rfl rfl (c_refuse hM (by omega) (j := 2) (by decide) (by decide)) rfl ⟨rfl, rfl⟩ rfl rfl (fun r_ h_15 z_ q_14 => ?_) rfl
          obtain ⟨er_, hR, hU_16, ez_⟩ := q_14
          rw [er_, ez_]
          clear er_ ez_
          replace hU := hU.tr hU_16 (by omega) (by omega)
          replace hM := hR; clear hR
          show Z D B xX5_mend _ _ _ 52 _ [.int (-2)] _ _
          exact z_iret (pc := 52) (zk11 kX5_mend_1) rfl (Nat.zero_le _) (Nat.zero_le _) (by
                        rw [show sp_mend σ τ ε x 0 z = ((-2), σ, rfN τ 2, ε) from by simp [sp_mend, sBad, okS, okH, okL, okT, okB, sRd, up2_id, up2_id2, oI, sOther, sNone, sFull, c_1, c_5, c_9]]
                        exact ⟨_, _, rfl, hM, hU, rfl⟩)
      · refine z_if_ne (pc := 20) (zk12 kX5_mend_0) (tgt := 34) (by decide) (fun _ => ?_) (fun q => absurd q (by decide))
        refine z_iload_n (pc := 34) (zk2 kX5_mend_1) rfl ?_
        refine z_i2l (pc := 35) (zk3 kX5_mend_1) ?_
        refine z_lconst (pc := 36) (zk4 kX5_mend_1) (v := 1) (by decide) ?_
        refine z_ldc2 (pc := 37) (zk5 kX5_mend_1) klX5_92 ?_
        refine z_rdS (pc := 40) (zk6 kX5_mend_1) (st := []) lkX5_81 isX5_in (c_inI (x := z) (a := 1) (b := 40) (by decide) (by decide)) rfl ⟨rfl, rfl⟩ rfl rfl ?_ rfl
        refine z_oif_ne (pc := 43) (zk7 kX5_mend_1) (tgt := 53) (by decide) (fun c_17 => ?_) (fun c_17 => ?_)
        · refine z_iload_n (pc := 53) (zk12 kX5_mend_1) rfl ?_
          refine z_if_ne (pc := 54) (zk13 kX5_mend_1) (tgt := 66) (by decide) (fun _ => ?_) (fun q => absurd q (by decide))
          refine z_aload_n (pc := 66) (zk3 kX5_mend_2) rfl ?_
          refine z_getf (pc := 67) (zk4 kX5_mend_2) flX5_62 hM.1 gMo_21 ?_
          refine z_iload_n (pc := 70) (zk5 kX5_mend_2) rfl ?_
          obtain ⟨kx, hkx, rfl⟩ := okR_nI (n := m) (by omega) (by rw [← hm]; exact c_1)
          refine z_ialdN (pc := 71) (zk6 kX5_mend_2) (f := σ 13) (j := kx) hM.2.2.2.2.2.2.2.2.2.2.2.2.2.2.2.2.2.1 (show kx < 8 by omega) rfl ?_
          refine z_istore (pc := 72) (zk7 kX5_mend_2) rfl rfl ?_
          show Z D B xX5_mend _ _ _ 74 [some (.ref p), some (.int (nI kx)), some (.int 1), some (.int z), some (.int (σ 13 kx))] _ _ _
          refine z_aload_n (pc := 74) (zk8 kX5_mend_2) rfl ?_
          refine z_getf (pc := 75) (zk9 kX5_mend_2) flX5_59 hM.1 gMo_20 ?_
          refine z_iload_n (pc := 78) (zk10 kX5_mend_2) rfl ?_
          refine z_iload_n (pc := 79) (zk11 kX5_mend_2) rfl ?_
          refine z_if_ne (pc := 80) (zk12 kX5_mend_2) (tgt := 87) (by decide) (fun _ => ?_) (fun q => absurd q (by decide))
          refine z_aload_n (pc := 87) (zk15 kX5_mend_2) rfl ?_
          refine z_getf (pc := 88) (zk0 kX5_mend_3) flX5_59 hM.1 gMo_20 ?_
          refine z_iload_n (pc := 91) (zk1 kX5_mend_3) rfl ?_
          refine z_ialdN (pc := 92) (zk2 kX5_mend_3) (f := σ 12) (j := kx) hM.2.2.2.2.2.2.2.2.2.2.2.2.2.2.2.2.1 (show kx < 8 by omega) rfl ?_
          refine z_Mo_s23 (pc := 93) (zk3 kX5_mend_3) (j := kx) hM (by omega) (show kx < 8 by omega) (fun h_18 hR hU_19 => ?_)
          replace hU := hU.tr hU_19 (by omega) (by omega)
          replace hM := hR; clear hR
          refine z_aload_n (pc := 94) (zk4 kX5_mend_3) rfl ?_
          refine z_getf (pc := 95) (zk5 kX5_mend_3) flX5_62 hM.1 gMo_21 ?_
          refine z_iload_n (pc := 98) (zk6 kX5_mend_3) rfl ?_
          refine z_iload_n (pc := 99) (zk7 kX5_mend_3) rfl ?_
          refine z_iconst (pc := 100) (zk8 kX5_mend_3) (v := 1) (by decide) ?_
          refine z_icmp_ne (pc := 101) (zk9 kX5_mend_3) (tgt := 108) (by decide) (fun q => absurd (by decide) q) (fun _ => ?_)
          refine z_iload_n (pc := 104) (zk10 kX5_mend_3) rfl ?_
          refine z_goto (pc := 105) (zk11 kX5_mend_3) (tgt := 114) (by decide) ?_
          refine z_Mo_s24 (pc := 114) (zk0 kX5_mend_4) (j := kx) hM (by omega) (show kx < 8 by omega) (fun h_20 hR hU_21 => ?_)
          replace hU := hU.tr hU_21 (by omega) (by omega)
          replace hM := hR; clear hR
          refine z_iload (pc := 115) (zk1 kX5_mend_4) rfl ?_
          exact z_iret (pc := 117) (zk2 kX5_mend_4) rfl (Nat.zero_le _) (Nat.zero_le _) (by
                        rw [show sp_mend σ τ ε (nI kx) 1 z = (σ 13 kx, (up2 (up2 σ 12 kx (σ 12 kx)) 13 kx z), τ, ε) from by simp [sp_mend, sBad, okS, okH, okL, okT, okB, sRd, up2_id, up2_id2, oI, sOther, sNone, sFull, c_1, c_5, c_17, ix_nI (show kx ≤ 1000 by omega)]]
                        exact ⟨_, _, rfl, hM, hU, rfl⟩)
        · refine z_aload_n (pc := 46) (zk8 kX5_mend_1) rfl ?_
          refine z_bipush (pc := 47) (zk9 kX5_mend_1) (v := (-2)) (by decide) ?_
          refine z_efV (pc := 49) (zk10 kX5_mend_1) (st := []) lkX5_94 ivX5_refuse hM.1 rfl rfl (c_refuse hM (by omega) (j := 2) (by decide) (by decide)) rfl ⟨rfl, rfl⟩ rfl rfl (fun r_ h_23 z_ q_22 => ?_) rfl
          obtain ⟨er_, hR, hU_24, ez_⟩ := q_22
          rw [er_, ez_]
          clear er_ ez_
          replace hU := hU.tr hU_24 (by omega) (by omega)
          replace hM := hR; clear hR
          show Z D B xX5_mend _ _ _ 52 _ [.int (-2)] _ _
          exact z_iret (pc := 52) (zk11 kX5_mend_1) rfl (Nat.zero_le _) (Nat.zero_le _) (by
                        rw [show sp_mend σ τ ε x 1 z = ((-2), σ, rfN τ 2, ε) from by simp [sp_mend, sBad, okS, okH, okL, okT, okB, sRd, up2_id, up2_id2, oI, sOther, sNone, sFull, c_1, c_5, c_17]]
                        exact ⟨_, _, rfl, hM, hU, rfl⟩)
set_option maxRecDepth 20000 in
theorem cP_code {D : zD} {B : Nat} {h : zH} {sz : Nat} {p : Nat} {σ τ ω : Ln} {ε : El} {mv : Nat → Int64} {kp tr : Option Nat} {x : Int32} {y : Int32} {b : Bool} {n m : Nat} (hM : MoAt h p σ τ ω ε mv kp tr) (hB : B ≤ p) (hn : σ 0 0 = nI n) (h12 : n ≤ 12) (hm : σ 9 0 = nI m) (h8 : m ≤ 8) (hto : ∀ l, l < m → ToOk σ l) : zM D B xX5_code [.ref p, .int x, .int y, .int (oI b)] h sz (mQ h p sz kp tr (sp_code σ τ ε x y b)) := by
  have hU : Upd h h p 29 := Upd.rf
  refine zM.of (by decide) rfl (n := 1) ?_
  show Z D B xX5_code 0 0 _ 0 [some (.ref p), some (.int x), some (.int y), some (.int (oI b)), none] [] h sz
  refine z_aload_n (pc := 0) (zk0 kX5_code_0) rfl ?_
  refine z_iload_n (pc := 1) (zk1 kX5_code_0) rfl ?_
  refine z_rdV (pc := 2) (zk2 kX5_code_0) (st := []) lkX5_123 ivX5_isHouse hM.1 rfl rfl (c_isHouse hM) rfl ⟨rfl, rfl⟩ rfl rfl ?_ rfl
  refine z_oif_eq (pc := 5) (zk3 kX5_code_0) (tgt := 20) (by decide) (fun c_1 => ?_) (fun c_1 => ?_)
  · refine z_aload_n (pc := 20) (zk10 kX5_code_0) rfl ?_
    refine z_bipush (pc := 21) (zk11 kX5_code_0) (v := (-2)) (by decide) ?_
    refine z_efV (pc := 23) (zk12 kX5_code_0) (st := []) lkX5_94 ivX5_refuse hM.1 rfl rfl (c_refuse hM (by omega) (j := 2) (by decide) (by decide)) rfl ⟨rfl, rfl⟩ rfl rfl (fun r_ h_3 z_ q_2 => ?_) rfl
    obtain ⟨er_, hR, hU_4, ez_⟩ := q_2
    rw [er_, ez_]
    clear er_ ez_
    replace hU := hU.tr hU_4 (by omega) (by omega)
    replace hM := hR; clear hR
    show Z D B xX5_code _ _ _ 26 _ [.int (-2)] _ _
    exact z_iret (pc := 26) (zk13 kX5_code_0) rfl (Nat.zero_le _) (Nat.zero_le _) (by
            rw [show sp_code σ τ ε x y b = ((-2), σ, rfN τ 2, ε) from by simp [sp_code, sBad, okS, okH, okL, okT, okB, sRd, up2_id, up2_id2, oI, sOther, sNone, c_1]]
            exact ⟨_, _, rfl, hM, hU, rfl⟩)
  · refine z_iload_n (pc := 8) (zk4 kX5_code_0) rfl ?_
    refine z_i2l (pc := 9) (zk5 kX5_code_0) ?_
    refine z_lconst (pc := 10) (zk6 kX5_code_0) (v := 0) (by decide) ?_
    refine z_ldc2 (pc := 11) (zk7 kX5_code_0) klX5_121 ?_
    refine z_rdS (pc := 14) (zk8 kX5_code_0) (st := []) lkX5_81 isX5_in (c_inI (x := y) (a := 0) (b := 9) (by decide) (by decide)) rfl ⟨rfl, rfl⟩ rfl rfl ?_ rfl
    refine z_oif_ne (pc := 17) (zk9 kX5_code_0) (tgt := 27) (by decide) (fun c_5 => ?_) (fun c_5 => ?_)
    · refine z_aload_n (pc := 27) (zk14 kX5_code_0) rfl ?_
      refine z_getf (pc := 28) (zk15 kX5_code_0) flX5_47 hM.1 gMo_12 ?_
      refine z_iload_n (pc := 31) (zk0 kX5_code_1) rfl ?_
      obtain ⟨kx, hkx, rfl⟩ := okR_nI (n := n) (by omega) (by rw [← hn]; exact c_1)
      refine z_ialdN (pc := 32) (zk1 kX5_code_1) (f := σ 3) (j := kx) hM.2.2.2.2.2.2.2.2.2.2.2.2.1 (show kx < 12 by omega) rfl ?_
      refine z_iload_n (pc := 33) (zk2 kX5_code_1) rfl ?_
      refine z_ishr (pc := 34) (zk3 kX5_code_1) ?_
      refine z_iconst (pc := 35) (zk4 kX5_code_1) (v := 1) (by decide) ?_
      refine z_iand (pc := 36) (zk5 kX5_code_1) ?_
      refine z_istore (pc := 37) (zk6 kX5_code_1) rfl rfl ?_
      show Z D B xX5_code _ _ _ 39 [some (.ref p), some (.int (nI kx)), some (.int y), some (.int (oI b)), some (.int (((σ 3 kx) >>> (y &&& 31)) &&& 1))] _ _ _
      refine z_aload_n (pc := 39) (zk7 kX5_code_1) rfl ?_
      refine z_iload_n (pc := 40) (zk8 kX5_code_1) rfl ?_
      refine z_iload_n (pc := 41) (zk9 kX5_code_1) rfl ?_
      refine z_iload_n (pc := 42) (zk10 kX5_code_1) rfl ?_
      refine z_efV (pc := 43) (zk11 kX5_code_1) (st := []) lkX5_131 ivX5_setCode hM.1 rfl rfl (c_setCode hM hB (show kx < 12 by omega)) rfl ⟨rfl, rfl⟩ rfl rfl (fun r_ h_7 z_ q_6 => ?_) rfl
      obtain ⟨er_, hR, hU_8, ez_⟩ := q_6
      rw [er_, ez_]
      clear er_ ez_
      replace hU := hU.tr hU_8 (by omega) (by omega)
      replace hM := hR; clear hR
      show Z D B xX5_code _ _ _ 46 _ [] _ _
      refine z_iload (pc := 46) (zk12 kX5_code_1) rfl ?_
      exact z_iret (pc := 48) (zk13 kX5_code_1) rfl (Nat.zero_le _) (Nat.zero_le _) (by
                rw [show sp_code σ τ ε (nI kx) y b = (((σ 3 kx) >>> (y &&& 31)) &&& 1, (setC σ kx y b), τ, ε) from by simp [sp_code, sBad, okS, okH, okL, okT, okB, sRd, up2_id, up2_id2, oI, sOther, sNone, c_1, c_5, ix_nI (show kx ≤ 1000 by omega)]]
                exact ⟨_, _, rfl, hM, hU, rfl⟩)
    · refine z_aload_n (pc := 20) (zk10 kX5_code_0) rfl ?_
      refine z_bipush (pc := 21) (zk11 kX5_code_0) (v := (-2)) (by decide) ?_
      refine z_efV (pc := 23) (zk12 kX5_code_0) (st := []) lkX5_94 ivX5_refuse hM.1 rfl rfl (c_refuse hM (by omega) (j := 2) (by decide) (by decide)) rfl ⟨rfl, rfl⟩ rfl rfl (fun r_ h_10 z_ q_9 => ?_) rfl
      obtain ⟨er_, hR, hU_11, ez_⟩ := q_9
      rw [er_, ez_]
      clear er_ ez_
      replace hU := hU.tr hU_11 (by omega) (by omega)
      replace hM := hR; clear hR
      show Z D B xX5_code _ _ _ 26 _ [.int (-2)] _ _
      exact z_iret (pc := 26) (zk13 kX5_code_0) rfl (Nat.zero_le _) (Nat.zero_le _) (by
                rw [show sp_code σ τ ε x y b = ((-2), σ, rfN τ 2, ε) from by simp [sp_code, sBad, okS, okH, okL, okT, okB, sRd, up2_id, up2_id2, oI, sOther, sNone, c_1, c_5]]
                exact ⟨_, _, rfl, hM, hU, rfl⟩)
set_option maxRecDepth 20000 in
theorem cP_way {D : zD} {B : Nat} {h : zH} {sz : Nat} {p : Nat} {σ τ ω : Ln} {ε : El} {mv : Nat → Int64} {kp tr : Option Nat} {b : Bool}  (hM : MoAt h p σ τ ω ε mv kp tr) (hB : B ≤ p) (hbk : σ 6 0 = 0 ∨ σ 6 0 = 1) : zM D B xX5_way [.ref p, .int (oI b)] h sz (mQ h p sz kp tr (sp_way σ τ ε b)) := by
  have hU : Upd h h p 29 := Upd.rf
  refine zM.of (by decide) rfl (n := 1) ?_
  show Z D B xX5_way 0 0 _ 0 [some (.ref p), some (.int (oI b)), none] [] h sz
  refine z_aload_n (pc := 0) (zk0 kX5_way_0) rfl ?_
  refine z_getf (pc := 1) (zk1 kX5_way_0) flX5_138 hM.1 (v := .int (σ 6 0)) rfl ?_
  refine z_if_eq (pc := 4) (zk2 kX5_way_0) (tgt := 11) (by decide) (fun c_1 => ?_) (fun c_1 => ?_)
  · refine z_iconst (pc := 11) (zk5 kX5_way_0) (v := 0) (by decide) ?_
    refine z_istore_n (pc := 12) (zk6 kX5_way_0) rfl rfl ?_
    show Z D B xX5_way _ _ _ 13 [some (.ref p), some (.int (oI b)), some (.int 0)] _ _ _
    refine z_aload_n (pc := 13) (zk7 kX5_way_0) rfl ?_
    refine z_iload_n (pc := 14) (zk8 kX5_way_0) rfl ?_
    refine z_Mo_w15 (pc := 15) (zk9 kX5_way_0) flX5_138 hM (by omega) (oI_01 _) (fun h_2 hR hU_3 => ?_)
    replace hU := hU.tr hU_3 (by omega) (by omega)
    replace hM := hR; clear hR
    refine z_iload_n (pc := 18) (zk10 kX5_way_0) rfl ?_
    exact z_iret (pc := 19) (zk11 kX5_way_0) rfl (Nat.zero_le _) (Nat.zero_le _) (by
            rw [show sp_way σ τ ε b = (0, (up2 σ 6 0 (oI b)), τ, ε) from by simp [sp_way, c_1]]
            exact ⟨_, _, rfl, hM, hU, rfl⟩)
  · refine z_iconst (pc := 7) (zk3 kX5_way_0) (v := 1) (by decide) ?_
    refine z_goto (pc := 8) (zk4 kX5_way_0) (tgt := 12) (by decide) ?_
    refine z_istore_n (pc := 12) (zk6 kX5_way_0) rfl rfl ?_
    show Z D B xX5_way _ _ _ 13 [some (.ref p), some (.int (oI b)), some (.int 1)] _ _ _
    refine z_aload_n (pc := 13) (zk7 kX5_way_0) rfl ?_
    refine z_iload_n (pc := 14) (zk8 kX5_way_0) rfl ?_
    refine z_Mo_w15 (pc := 15) (zk9 kX5_way_0) flX5_138 hM (by omega) (oI_01 _) (fun h_4 hR hU_5 => ?_)
    replace hU := hU.tr hU_5 (by omega) (by omega)
    replace hM := hR; clear hR
    refine z_iload_n (pc := 18) (zk10 kX5_way_0) rfl ?_
    exact z_iret (pc := 19) (zk11 kX5_way_0) rfl (Nat.zero_le _) (Nat.zero_le _) (by
            rw [show sp_way σ τ ε b = (1, (up2 σ 6 0 (oI b)), τ, ε) from by simp [sp_way, hbk.resolve_left c_1]]
            exact ⟨_, _, rfl, hM, hU, rfl⟩)
set_option maxRecDepth 20000 in
theorem cP_feed {D : zD} {B : Nat} {h : zH} {sz : Nat} {p : Nat} {σ τ ω : Ln} {ε : El} {mv : Nat → Int64} {kp tr : Option Nat} {x : Int32} {m : Nat} (hM : MoAt h p σ τ ω ε mv kp tr) (hB : B ≤ p) (hS : SW τ m) : zM D B xX5_feed [.ref p, .int x] h sz (mQ h p sz kp tr (sp_feed σ τ ε x)) := by
  have hU : Upd h h p 29 := Upd.rf
  obtain ⟨kt, hkt, ht⟩ := hS.2.1
  refine zM.of (by decide) rfl (n := 0) ?_
  show Z D B xX5_feed 0 0 _ 0 [some (.ref p), some (.int x)] [] h sz
  refine z_iload_n (pc := 0) (zk0 kX5_feed_0) rfl ?_
  refine z_i2l (pc := 1) (zk1 kX5_feed_0) ?_
  refine z_lconst (pc := 2) (zk2 kX5_feed_0) (v := 0) (by decide) ?_
  refine z_ldc2 (pc := 3) (zk3 kX5_feed_0) klX5_142 ?_
  refine z_rdS (pc := 6) (zk4 kX5_feed_0) (st := []) lkX5_81 isX5_in (c_inI (x := x) (a := 0) (b := 255) (by decide) (by decide)) rfl ⟨rfl, rfl⟩ rfl rfl ?_ rfl
  refine z_oif_ne (pc := 9) (zk5 kX5_feed_0) (tgt := 19) (by decide) (fun c_1 => ?_) (fun c_1 => ?_)
  · refine z_aload_n (pc := 19) (zk10 kX5_feed_0) rfl ?_
    refine z_getf (pc := 20) (zk11 kX5_feed_0) flX5_144 hM.1 (v := .int (nI kt)) (by rw [← ht]; rfl) ?_
    refine z_sipush (pc := 23) (zk12 kX5_feed_0) (v := 250) (by decide) ?_
    refine z_icmp_ne (pc := 26) (zk13 kX5_feed_0) (tgt := 36) (by decide) (fun c_2 => ?_) (fun c_2 => ?_)
    · have hl_ : kt < 250 := lt250 hkt c_2
      refine z_aload_n (pc := 36) (zk2 kX5_feed_1) rfl ?_
      refine z_getf (pc := 37) (zk3 kX5_feed_1) flX5_31 hM.1 gMo_6 ?_
      refine z_aload_n (pc := 40) (zk4 kX5_feed_1) rfl ?_
      refine z_dup (pc := 41) (zk5 kX5_feed_1) rfl ?_
      refine z_getf (pc := 42) (zk6 kX5_feed_1) flX5_144 hM.1 (v := .int (nI kt)) (by rw [← ht]; rfl) ?_
      refine z_dup_x1 (pc := 45) (zk7 kX5_feed_1) rfl rfl ?_
      refine z_iconst (pc := 46) (zk8 kX5_feed_1) (v := 1) (by decide) ?_
      refine z_iadd (pc := 47) (zk9 kX5_feed_1) ?_
      refine z_top (congrArg Value.int (nI_1 kt)) ?_
      refine z_Mo_w7 (pc := 48) (zk10 kX5_feed_1) flX5_144 hM (by omega) (fun h_3 hR hU_4 => ?_)
      replace hU := hU.tr hU_4 (by omega) (by omega)
      replace hM := hR; clear hR
      refine z_iload_n (pc := 51) (zk11 kX5_feed_1) rfl ?_
      refine z_Mo_s15 (pc := 52) (zk12 kX5_feed_1) (j := kt) hM (by omega) (show kt < 250 by omega) (fun h_5 hR hU_6 => ?_)
      replace hU := hU.tr hU_6 (by omega) (by omega)
      replace hM := hR; clear hR
      refine z_aload_n (pc := 53) (zk13 kX5_feed_1) rfl ?_
      refine z_getf (pc := 54) (zk14 kX5_feed_1) flX5_144 hM.1 (v := .int (nI (kt + 1))) rfl ?_
      exact z_iret (pc := 57) (zk15 kX5_feed_1) rfl (Nat.zero_le _) (Nat.zero_le _) (by
                rw [show sp_feed σ τ ε x = (nI (kt + 1), σ, (up2 (up2 τ 6 0 (nI (kt + 1))) 5 kt x), ε) from by simp [sp_feed, sBad, okS, okH, okL, okT, okB, sRd, up2_id, up2_id2, oI, sOther, sNone, sFull, c_1, c_2, ht, nI_1, ix_nI (show kt ≤ 1000 by omega)]]
                exact ⟨_, _, rfl, hM, hU, rfl⟩)
    · refine z_aload_n (pc := 29) (zk14 kX5_feed_0) rfl ?_
      refine z_bipush (pc := 30) (zk15 kX5_feed_0) (v := (-6)) (by decide) ?_
      refine z_efV (pc := 32) (zk0 kX5_feed_1) (st := []) lkX5_94 ivX5_refuse hM.1 rfl rfl (c_refuse hM (by omega) (j := 6) (by decide) (by decide)) rfl ⟨rfl, rfl⟩ rfl rfl (fun r_ h_8 z_ q_7 => ?_) rfl
      obtain ⟨er_, hR, hU_9, ez_⟩ := q_7
      rw [er_, ez_]
      clear er_ ez_
      replace hU := hU.tr hU_9 (by omega) (by omega)
      replace hM := hR; clear hR
      show Z D B xX5_feed _ _ _ 35 _ [.int (-6)] _ _
      exact z_iret (pc := 35) (zk1 kX5_feed_1) rfl (Nat.zero_le _) (Nat.zero_le _) (by
                rw [show sp_feed σ τ ε x = ((-6), σ, rfN τ 6, ε) from by simp [sp_feed, sBad, okS, okH, okL, okT, okB, sRd, up2_id, up2_id2, oI, sOther, sNone, sFull, c_1, c_2, ht, nI_1, ix_nI (show kt ≤ 1000 by omega)]]
                exact ⟨_, _, rfl, hM, hU, rfl⟩)
  · refine z_aload_n (pc := 12) (zk6 kX5_feed_0) rfl ?_
    refine z_bipush (pc := 13) (zk7 kX5_feed_0) (v := (-2)) (by decide) ?_
    refine z_efV (pc := 15) (zk8 kX5_feed_0) (st := []) lkX5_94 ivX5_refuse hM.1 rfl rfl (c_refuse hM (by omega) (j := 2) (by decide) (by decide)) rfl ⟨rfl, rfl⟩ rfl rfl (fun r_ h_11 z_ q_10 => ?_) rfl
    obtain ⟨er_, hR, hU_12, ez_⟩ := q_10
    rw [er_, ez_]
    clear er_ ez_
    replace hU := hU.tr hU_12 (by omega) (by omega)
    replace hM := hR; clear hR
    show Z D B xX5_feed _ _ _ 18 _ [.int (-2)] _ _
    exact z_iret (pc := 18) (zk9 kX5_feed_0) rfl (Nat.zero_le _) (Nat.zero_le _) (by
            rw [show sp_feed σ τ ε x = ((-2), σ, rfN τ 2, ε) from by simp [sp_feed, sBad, okS, okH, okL, okT, okB, sRd, up2_id, up2_id2, oI, sOther, sNone, sFull, c_1, ht, nI_1, ix_nI (show kt ≤ 1000 by omega)]]
            exact ⟨_, _, rfl, hM, hU, rfl⟩)
set_option maxRecDepth 20000 in
theorem cP_status {D : zD} {B : Nat} {h : zH} {sz : Nat} {p : Nat} {σ τ ω : Ln} {ε : El} {mv : Nat → Int64} {kp tr : Option Nat} {x : Int32} {n m : Nat} (hM : MoAt h p σ τ ω ε mv kp tr) (hB : B ≤ p) (hn : σ 0 0 = nI n) (h12 : n ≤ 12) (hm : σ 9 0 = nI m) (h8 : m ≤ 8) (hto : ∀ l, l < m → ToOk σ l) (hbk : σ 6 0 = 0 ∨ σ 6 0 = 1) : zM D B xX5_status [.ref p, .int x] h sz (mQ h p sz kp tr (sp_status σ τ ε x)) := by
  have hU : Upd h h p 29 := Upd.rf
  refine zM.of (by decide) rfl (n := 2) ?_
  show Z D B xX5_status 0 0 _ 0 [some (.ref p), some (.int x), none, none] [] h sz
  refine z_iconst (pc := 0) (zk0 kX5_status_0) (v := 0) (by decide) ?_
  refine z_istore_n (pc := 1) (zk1 kX5_status_0) rfl rfl ?_
  show Z D B xX5_status _ _ _ 2 [some (.ref p), some (.int x), some (.int 0), none] _ _ _
  refine z_iload_n (pc := 2) (zk2 kX5_status_0) rfl ?_
  by_cases c_1 : x = 0
  · refine z_tableIn (pc := 3) (zk3 kX5_status_0) (off := 53) (tgt := 56) (by rw [c_1]; decide) (by rw [c_1]; decide) (by rw [c_1]; rfl) (by decide) ?_
    subst c_1
    refine z_aload_n (pc := 56) (zk4 kX5_status_0) rfl ?_
    refine z_getf (pc := 57) (zk5 kX5_status_0) flX5_85 hM.1 (v := .int (nI m)) (by rw [← hm]; rfl) ?_
    exact z_iret (pc := 60) (zk6 kX5_status_0) rfl (Nat.zero_le _) (Nat.zero_le _) (by
            rw [show sp_status σ τ ε 0 = (nI m, σ, τ, ε) from by simp [sp_status, useC, sBad, okS, okH, okL, okT, okB, sRd, up2_id, up2_id2, sOther, sNone, sFull, hn, hm]]
            exact ⟨_, _, rfl, hM, hU, rfl⟩)
  by_cases c_2 : x = 1
  · refine z_tableIn (pc := 3) (zk3 kX5_status_0) (off := 58) (tgt := 61) (by rw [c_2]; decide) (by rw [c_2]; decide) (by rw [c_2]; rfl) (by decide) ?_
    subst c_2
    refine z_aload_n (pc := 61) (zk7 kX5_status_0) rfl ?_
    refine z_getf (pc := 62) (zk8 kX5_status_0) flX5_37 hM.1 (v := .int (nI n)) (by rw [← hn]; rfl) ?_
    exact z_iret (pc := 65) (zk9 kX5_status_0) rfl (Nat.zero_le _) (Nat.zero_le _) (by
            rw [show sp_status σ τ ε 1 = (nI n, σ, τ, ε) from by simp [sp_status, useC, sBad, okS, okH, okL, okT, okB, sRd, up2_id, up2_id2, sOther, sNone, sFull, c_1, hn, hm]]
            exact ⟨_, _, rfl, hM, hU, rfl⟩)
  by_cases c_3 : x = 2
  · refine z_tableIn (pc := 3) (zk3 kX5_status_0) (off := 63) (tgt := 66) (by rw [c_3]; decide) (by rw [c_3]; decide) (by rw [c_3]; rfl) (by decide) ?_
    subst c_3
    refine z_aload_n (pc := 66) (zk10 kX5_status_0) rfl ?_
    refine z_getf (pc := 67) (zk11 kX5_status_0) flX5_135 hM.1 (v := .int (σ 5 0)) rfl ?_
    exact z_iret (pc := 70) (zk12 kX5_status_0) rfl (Nat.zero_le _) (Nat.zero_le _) (by
            rw [show sp_status σ τ ε 2 = (σ 5 0, σ, τ, ε) from by simp [sp_status, useC, sBad, okS, okH, okL, okT, okB, sRd, up2_id, up2_id2, sOther, sNone, sFull, c_1, c_2, hn, hm]]
            exact ⟨_, _, rfl, hM, hU, rfl⟩)
  by_cases c_4 : x = 3
  · refine z_tableIn (pc := 3) (zk3 kX5_status_0) (off := 68) (tgt := 71) (by rw [c_4]; decide) (by rw [c_4]; decide) (by rw [c_4]; rfl) (by decide) ?_
    subst c_4
    refine z_aload_n (pc := 71) (zk13 kX5_status_0) rfl ?_
    refine z_getf (pc := 72) (zk14 kX5_status_0) flX5_138 hM.1 (v := .int (σ 6 0)) rfl ?_
    refine z_if_eq (pc := 75) (zk15 kX5_status_0) (tgt := 82) (by decide) (fun c_5 => ?_) (fun c_5 => ?_)
    · refine z_iconst (pc := 82) (zk2 kX5_status_1) (v := 0) (by decide) ?_
      exact z_iret (pc := 83) (zk3 kX5_status_1) rfl (Nat.zero_le _) (Nat.zero_le _) (by
                rw [show sp_status σ τ ε 3 = (0, σ, τ, ε) from by simp [sp_status, useC, sBad, okS, okH, okL, okT, okB, sRd, up2_id, up2_id2, sOther, sNone, sFull, c_1, c_2, c_3, c_5, hn, hm]]
                exact ⟨_, _, rfl, hM, hU, rfl⟩)
    · refine z_iconst (pc := 78) (zk0 kX5_status_1) (v := 1) (by decide) ?_
      refine z_goto (pc := 79) (zk1 kX5_status_1) (tgt := 83) (by decide) ?_
      exact z_iret (pc := 83) (zk3 kX5_status_1) rfl (Nat.zero_le _) (Nat.zero_le _) (by
                rw [show sp_status σ τ ε 3 = (1, σ, τ, ε) from by simp [sp_status, useC, sBad, okS, okH, okL, okT, okB, sRd, up2_id, up2_id2, sOther, sNone, sFull, c_1, c_2, c_3, c_5, hbk.resolve_left c_5, hn, hm]]
                exact ⟨_, _, rfl, hM, hU, rfl⟩)
  by_cases c_6 : x = 4
  · refine z_tableIn (pc := 3) (zk3 kX5_status_0) (off := 81) (tgt := 84) (by rw [c_6]; decide) (by rw [c_6]; decide) (by rw [c_6]; rfl) (by decide) ?_
    subst c_6
    refine z_iconst (pc := 84) (zk4 kX5_status_1) (v := 0) (by decide) ?_
    refine z_istore_n (pc := 85) (zk5 kX5_status_1) rfl rfl ?_
    show Z D B xX5_status _ _ _ 86 [some (.ref p), some (.int 4), some (.int 0), some (.int 0)] _ _ _
    have lp86 : ∀ (n_ : Nat) (t : Int32) (i : Nat), n - i < n_ → (i ≤ n) → (t = sum0 (σ 2) i) → Z D B xX5_status 0 0 (mQ h p sz kp tr (sp_status σ τ ε 4)) 86 [some (.ref p), some (.int 4), some (.int t), some (.int (nI i))] [] h sz := by
      intro n_
      induction n_ with
      | zero => intro t i hm_; exact absurd hm_ (Nat.not_lt_zero _)
      | succ n_ ih86 =>
        intro t i hm_ hi_i ht
        refine z_iload_n (pc := 86) (zk6 kX5_status_1) rfl ?_
        refine z_aload_n (pc := 87) (zk7 kX5_status_1) rfl ?_
        refine z_getf (pc := 88) (zk8 kX5_status_1) flX5_37 hM.1 (v := .int (nI n)) (by rw [← hn]; rfl) ?_
        refine z_icmp_ge (pc := 91) (zk9 kX5_status_1) (tgt := 109) (by decide) (fun c_7 => ?_) (fun c_7 => ?_)
        · have hie_i : i = n := nI_ge_yes (a := n) (by omega) (by omega) (by omega) c_7
          refine z_iload_n (pc := 109) (zk3 kX5_status_2) rfl ?_
          exact z_iret (pc := 110) (zk4 kX5_status_2) rfl (Nat.zero_le _) (Nat.zero_le _) (by
                        rw [show sp_status σ τ ε 4 = (t, σ, τ, ε) from by simp [sp_status, useC, sBad, okS, okH, okL, okT, okB, sRd, up2_id, up2_id2, sOther, sNone, sFull, c_1, c_2, c_3, c_4, c_7, Int32.not_lt.mpr c_7, ht, hie_i, hsN_eq hn h12, hn, hm]]
                        exact ⟨_, _, rfl, hM, hU, rfl⟩)
        · have hlt_i : i < n := nI_ge_not (a := n) (by omega) (by omega) c_7
          refine z_iload_n (pc := 94) (zk10 kX5_status_1) rfl ?_
          refine z_aload_n (pc := 95) (zk11 kX5_status_1) rfl ?_
          refine z_getf (pc := 96) (zk12 kX5_status_1) flX5_44 hM.1 gMo_11 ?_
          refine z_iload_n (pc := 99) (zk13 kX5_status_1) rfl ?_
          refine z_ialdN (pc := 100) (zk14 kX5_status_1) (f := σ 2) (j := i) hM.2.2.2.2.2.2.2.2.2.2.2.1 (show i < 12 by omega) rfl ?_
          refine z_iadd (pc := 101) (zk15 kX5_status_1) ?_
          refine z_istore_n (pc := 102) (zk0 kX5_status_2) rfl rfl ?_
          show Z D B xX5_status _ _ _ 103 [some (.ref p), some (.int 4), some (.int (t + (σ 2 i))), some (.int (nI i))] _ _ _
          refine z_iinc (pc := 103) (zk1 kX5_status_2) (v := nI (i + 1)) rfl zinc rfl rfl ?_
          show Z D B xX5_status _ _ _ 106 [some (.ref p), some (.int 4), some (.int (t + (σ 2 i))), some (.int (nI (i + 1)))] _ _ _
          refine z_goto (pc := 106) (zk2 kX5_status_2) (tgt := 86) (by decide) ?_
          exact ih86 (t + (σ 2 i)) (i + 1) (by omega) (by omega) (by rw [ht]; rfl)
    exact lp86 _ 0 0 (Nat.lt_succ_self _) (by omega) rfl
  by_cases c_8 : x = 5
  · refine z_tableIn (pc := 3) (zk3 kX5_status_0) (off := 108) (tgt := 111) (by rw [c_8]; decide) (by rw [c_8]; decide) (by rw [c_8]; rfl) (by decide) ?_
    subst c_8
    refine z_aload_n (pc := 111) (zk5 kX5_status_2) rfl ?_
    refine z_rdV (pc := 112) (zk6 kX5_status_2) (st := []) lkX5_331 ivX5_earsTogether hM.1 rfl rfl (c_mears hM hn h12) rfl ⟨rfl, rfl⟩ rfl rfl ?_ rfl
    exact z_iret (pc := 115) (zk7 kX5_status_2) rfl (Nat.zero_le _) (Nat.zero_le _) (by
            rw [show sp_status σ τ ε 5 = (earsF σ, σ, τ, ε) from by simp [sp_status, useC, sBad, okS, okH, okL, okT, okB, sRd, up2_id, up2_id2, sOther, sNone, sFull, c_1, c_2, c_3, c_4, c_6, hn, hm]]
            exact ⟨_, _, rfl, hM, hU, rfl⟩)
  by_cases c_9 : x = 6
  · refine z_tableIn (pc := 3) (zk3 kX5_status_0) (off := 113) (tgt := 116) (by rw [c_9]; decide) (by rw [c_9]; decide) (by rw [c_9]; rfl) (by decide) ?_
    subst c_9
    refine z_aload_n (pc := 116) (zk8 kX5_status_2) rfl ?_
    refine z_getf (pc := 117) (zk9 kX5_status_2) flX5_322 hM.1 (v := .int (σ 7 0)) rfl ?_
    exact z_iret (pc := 120) (zk10 kX5_status_2) rfl (Nat.zero_le _) (Nat.zero_le _) (by
            rw [show sp_status σ τ ε 6 = (σ 7 0, σ, τ, ε) from by simp [sp_status, useC, sBad, okS, okH, okL, okT, okB, sRd, up2_id, up2_id2, sOther, sNone, sFull, c_1, c_2, c_3, c_4, c_6, c_8, hn, hm]]
            exact ⟨_, _, rfl, hM, hU, rfl⟩)
  by_cases c_10 : x = 7
  · refine z_tableIn (pc := 3) (zk3 kX5_status_0) (off := 118) (tgt := 121) (by rw [c_10]; decide) (by rw [c_10]; decide) (by rw [c_10]; rfl) (by decide) ?_
    subst c_10
    refine z_aload_n (pc := 121) (zk11 kX5_status_2) rfl ?_
    refine z_getf (pc := 122) (zk12 kX5_status_2) flX5_144 hM.1 (v := .int (τ 6 0)) rfl ?_
    exact z_iret (pc := 125) (zk13 kX5_status_2) rfl (Nat.zero_le _) (Nat.zero_le _) (by
            rw [show sp_status σ τ ε 7 = (τ 6 0, σ, τ, ε) from by simp [sp_status, useC, sBad, okS, okH, okL, okT, okB, sRd, up2_id, up2_id2, sOther, sNone, sFull, c_1, c_2, c_3, c_4, c_6, c_8, c_9, hn, hm]]
            exact ⟨_, _, rfl, hM, hU, rfl⟩)
  by_cases c_11 : x = 8
  · refine z_tableIn (pc := 3) (zk3 kX5_status_0) (off := 123) (tgt := 126) (by rw [c_11]; decide) (by rw [c_11]; decide) (by rw [c_11]; rfl) (by decide) ?_
    subst c_11
    refine z_aload_n (pc := 126) (zk14 kX5_status_2) rfl ?_
    refine z_getf (pc := 127) (zk15 kX5_status_2) flX5_65 hM.1 (v := .int (σ 8 0)) rfl ?_
    exact z_iret (pc := 130) (zk0 kX5_status_3) rfl (Nat.zero_le _) (Nat.zero_le _) (by
            rw [show sp_status σ τ ε 8 = (σ 8 0, σ, τ, ε) from by simp [sp_status, useC, sBad, okS, okH, okL, okT, okB, sRd, up2_id, up2_id2, sOther, sNone, sFull, c_1, c_2, c_3, c_4, c_6, c_8, c_9, c_10, hn, hm]]
            exact ⟨_, _, rfl, hM, hU, rfl⟩)
  by_cases c_12 : x = 9
  · refine z_tableIn (pc := 3) (zk3 kX5_status_0) (off := 128) (tgt := 131) (by rw [c_12]; decide) (by rw [c_12]; decide) (by rw [c_12]; rfl) (by decide) ?_
    subst c_12
    refine z_iconst (pc := 131) (zk1 kX5_status_3) (v := 0) (by decide) ?_
    refine z_istore_n (pc := 132) (zk2 kX5_status_3) rfl rfl ?_
    show Z D B xX5_status _ _ _ 133 [some (.ref p), some (.int 9), some (.int 0), some (.int 0)] _ _ _
    have lp133 : ∀ (n_ : Nat) (t : Int32) (i : Nat), 8 - i < n_ → (i ≤ 8) → (t = sum0 (fun s => oI (!decide (τ 1 s = 0))) i) → Z D B xX5_status 0 0 (mQ h p sz kp tr (sp_status σ τ ε 9)) 133 [some (.ref p), some (.int 9), some (.int t), some (.int (nI i))] [] h sz := by
      intro n_
      induction n_ with
      | zero => intro t i hm_; exact absurd hm_ (Nat.not_lt_zero _)
      | succ n_ ih133 =>
        intro t i hm_ hi_i ht
        refine z_iload_n (pc := 133) (zk3 kX5_status_3) rfl ?_
        refine z_bipush (pc := 134) (zk4 kX5_status_3) (v := 8) (by decide) ?_
        refine z_icmp_ge (pc := 136) (zk5 kX5_status_3) (tgt := 162) (by decide) (fun c_13 => ?_) (fun c_13 => ?_)
        · have hie_i : i = 8 := nI_ge_yes (a := 8) (by omega) (by omega) (by omega) c_13
          refine z_iload_n (pc := 162) (zk3 kX5_status_4) rfl ?_
          exact z_iret (pc := 163) (zk4 kX5_status_4) rfl (Nat.zero_le _) (Nat.zero_le _) (by
                        rw [show sp_status σ τ ε 9 = (t, σ, τ, ε) from by simp [sp_status, useC, sBad, okS, okH, okL, okT, okB, sRd, up2_id, up2_id2, sOther, sNone, sFull, c_1, c_2, c_3, c_4, c_6, c_8, c_9, c_10, c_11, c_13, Int32.not_lt.mpr c_13, ht, hie_i, hsN_eq hn h12, hn, hm]]
                        exact ⟨_, _, rfl, hM, hU, rfl⟩)
        · have hlt_i : i < 8 := nI_ge_not (a := 8) (by omega) (by omega) c_13
          refine z_iload_n (pc := 139) (zk6 kX5_status_3) rfl ?_
          suffices hJ : Z D B xX5_status 0 0 (mQ h p sz kp tr (sp_status σ τ ε 9)) 154 [some (.ref p), some (.int 9), some (.int t), some (.int (nI i))] [.int (oI (!decide (τ 1 i = 0))), .int t] h sz from by
            refine z_aload_n (pc := 140) (zk7 kX5_status_3) rfl ?_
            refine z_getf (pc := 141) (zk8 kX5_status_3) flX5_7 hM.1 gMo_0 ?_
            refine z_iload_n (pc := 144) (zk9 kX5_status_3) rfl ?_
            refine z_ialdN (pc := 145) (zk10 kX5_status_3) (f := τ 1) (j := i) hM.2.1 (show i < 8 by omega) rfl ?_
            refine z_if_eq (pc := 146) (zk11 kX5_status_3) (tgt := 153) (by decide) (fun c_14 => ?_) (fun c_14 => ?_)
            · refine z_iconst (pc := 153) (zk14 kX5_status_3) (v := 0) (by decide) ?_
              exact z_top (congrArg Value.int (by simp [oI, c_1, c_2, c_3, c_4, c_6, c_8, c_9, c_10, c_11, c_13, Int32.not_le.mp c_13, c_14])) hJ
            · refine z_iconst (pc := 149) (zk12 kX5_status_3) (v := 1) (by decide) ?_
              refine z_goto (pc := 150) (zk13 kX5_status_3) (tgt := 154) (by decide) ?_
              exact z_top (congrArg Value.int (by simp [oI, c_1, c_2, c_3, c_4, c_6, c_8, c_9, c_10, c_11, c_13, Int32.not_le.mp c_13, c_14])) hJ
          refine z_iadd (pc := 154) (zk15 kX5_status_3) ?_
          refine z_istore_n (pc := 155) (zk0 kX5_status_4) rfl rfl ?_
          show Z D B xX5_status _ _ _ 156 [some (.ref p), some (.int 9), some (.int (t + (oI (!decide (τ 1 i = 0))))), some (.int (nI i))] _ _ _
          refine z_iinc (pc := 156) (zk1 kX5_status_4) (v := nI (i + 1)) rfl zinc rfl rfl ?_
          show Z D B xX5_status _ _ _ 159 [some (.ref p), some (.int 9), some (.int (t + (oI (!decide (τ 1 i = 0))))), some (.int (nI (i + 1)))] _ _ _
          refine z_goto (pc := 159) (zk2 kX5_status_4) (tgt := 133) (by decide) ?_
          exact ih133 (t + (oI (!decide (τ 1 i = 0)))) (i + 1) (by omega) (by omega) (by rw [ht]; rfl)
    exact lp133 _ 0 0 (Nat.lt_succ_self _) (by omega) rfl
  refine z_tableOut (pc := 3) (zk3 kX5_status_0) (tgt := 164) (zOut0_9 c_1 c_2 c_3 c_4 c_6 c_8 c_9 c_10 c_11 c_12) (by decide) ?_
  refine z_iload_n (pc := 164) (zk5 kX5_status_4) rfl ?_
  refine z_i2l (pc := 165) (zk6 kX5_status_4) ?_
  refine z_ldc2 (pc := 166) (zk7 kX5_status_4) klX5_119 ?_
  refine z_ldc2 (pc := 169) (zk8 kX5_status_4) klX5_347 ?_
  refine z_rdS (pc := 172) (zk9 kX5_status_4) (st := []) lkX5_81 isX5_in (c_inI (x := x) (a := 12) (b := 16) (by decide) (by decide)) rfl ⟨rfl, rfl⟩ rfl rfl ?_ rfl
  refine z_oif_eq (pc := 175) (zk10 kX5_status_4) (tgt := 190) (by decide) (fun c_15 => ?_) (fun c_15 => ?_)
  · refine z_iconst (pc := 190) (zk2 kX5_status_5) (v := (-1)) (by decide) ?_
    exact z_iret (pc := 191) (zk3 kX5_status_5) rfl (Nat.zero_le _) (Nat.zero_le _) (by
            rw [show sp_status σ τ ε x = ((-1), σ, τ, ε) from by simp [sp_status, useC, sBad, okS, okH, okL, okT, okB, sRd, up2_id, up2_id2, sOther, sNone, sFull, c_1, c_2, c_3, c_4, c_6, c_8, c_9, c_10, c_11, c_12, c_15, hn, hm]]
            exact ⟨_, _, rfl, hM, hU, rfl⟩)
  · refine z_aload_n (pc := 178) (zk11 kX5_status_4) rfl ?_
    refine z_getf (pc := 179) (zk12 kX5_status_4) flX5_34 hM.1 gMo_8 ?_
    refine z_iload_n (pc := 182) (zk13 kX5_status_4) rfl ?_
    refine z_bipush (pc := 183) (zk14 kX5_status_4) (v := 10) (by decide) ?_
    refine z_isub (pc := 185) (zk15 kX5_status_4) ?_
    obtain ⟨r_, hr_, er_⟩ := okR_ref c_15
    refine z_top (congrArg Value.int er_) ?_
    refine z_ialdN (pc := 186) (zk0 kX5_status_5) (f := τ 7) (j := r_) hM.2.2.2.2.2.2.2.2.2.1 (show r_ < 8 by omega) rfl ?_
    refine z_goto (pc := 187) (zk1 kX5_status_5) (tgt := 191) (by decide) ?_
    exact z_iret (pc := 191) (zk3 kX5_status_5) rfl (Nat.zero_le _) (Nat.zero_le _) (by
            rw [show sp_status σ τ ε x = (τ 7 r_, σ, τ, ε) from by simp [sp_status, useC, sBad, okS, okH, okL, okT, okB, sRd, up2_id, up2_id2, sOther, sNone, sFull, c_1, c_2, c_3, c_4, c_6, c_8, c_9, c_10, c_11, c_12, c_15, er_, ix_nI (show r_ ≤ 1000 by omega), hn, hm]]
            exact ⟨_, _, rfl, hM, hU, rfl⟩)
set_option maxRecDepth 20000 in
theorem cP_round {D : zD} {B : Nat} {h : zH} {sz : Nat} {p : Nat} {σ τ ω : Ln} {ε : El} {mv : Nat → Int64} {kp tr : Option Nat} {b : Bool} {n m : Nat} (hM : MoAt h p σ τ ω ε mv kp tr) (hB : B ≤ p) (hn : σ 0 0 = nI n) (h12 : n ≤ 12) (hm : σ 9 0 = nI m) (h8 : m ≤ 8) (hto : ∀ l, l < m → ToOk σ l) : zM D B xX5_round [.ref p, .int (oI b)] h sz (mQ h p sz kp tr (sp_round σ τ ε b)) := by
  have hU : Upd h h p 29 := Upd.rf
  refine zM.of (by decide) rfl (n := 0) ?_
  show Z D B xX5_round 0 0 _ 0 [some (.ref p), some (.int (oI b))] [] h sz
  refine z_aload_n (pc := 0) (zk0 kX5_round_0) rfl ?_
  refine z_efV (pc := 1) (zk1 kX5_round_0) (st := []) lkX5_325 ivX5_goesRound hM.1 rfl rfl (c_mround hM hn h12 hm h8 hto hB) rfl ⟨rfl, rfl⟩ rfl rfl (fun r_ h_2 z_ q_1 => ?_) rfl
  obtain ⟨er_, hR, hU_3, ez_⟩ := q_1
  rw [er_, ez_]
  clear er_ ez_
  replace hU := hU.tr hU_3 (by omega) (by omega)
  replace hM := hR; clear hR
  show Z D B xX5_round _ _ _ 4 _ [] _ _
  refine z_aload_n (pc := 4) (zk2 kX5_round_0) rfl ?_
  refine z_iload_n (pc := 5) (zk3 kX5_round_0) rfl ?_
  refine z_oif_eq (pc := 6) (zk4 kX5_round_0) (tgt := 13) (by decide) (fun c_4 => ?_) (fun c_4 => ?_)
  · refine z_aload_n (pc := 13) (zk7 kX5_round_0) rfl ?_
    refine z_getf (pc := 14) (zk8 kX5_round_0) flX5_85 hM.1 (v := .int ((roundF σ) 9 0)) rfl ?_
    refine z_Mo_w17 (pc := 17) (zk9 kX5_round_0) flX5_85 hM (by omega) (fun h_5 hR hU_6 => ?_)
    replace hU := hU.tr hU_6 (by omega) (by omega)
    replace hM := hR; clear hR
    refine z_aload_n (pc := 20) (zk10 kX5_round_0) rfl ?_
    refine z_efV (pc := 21) (zk11 kX5_round_0) (st := []) lkX5_328 ivX5_shelvesFollow hM.1 rfl rfl (c_follow hM hB) rfl ⟨rfl, rfl⟩ rfl rfl (fun r_ h_8 z_ q_7 => ?_) rfl
    obtain ⟨er_, hR, hU_9, ez_⟩ := q_7
    rw [er_, ez_]
    clear er_ ez_
    replace hU := hU.tr hU_9 (by omega) (by omega)
    replace hM := hR; clear hR
    show Z D B xX5_round _ _ _ 24 _ [] _ _
    refine z_aload_n (pc := 24) (zk12 kX5_round_0) rfl ?_
    refine z_rdV (pc := 25) (zk13 kX5_round_0) (st := []) lkX5_331 ivX5_earsTogether hM.1 rfl rfl (c_mears hM hn h12) rfl ⟨rfl, rfl⟩ rfl rfl ?_ rfl
    exact z_iret (pc := 28) (zk14 kX5_round_0) rfl (Nat.zero_le _) (Nat.zero_le _) (by
            rw [show sp_round σ τ ε b = (earsF (up2 (roundF σ) 9 0 ((roundF σ) 9 0)), (up2 (roundF σ) 9 0 ((roundF σ) 9 0)), (flwT τ ((roundF σ) 9 0) 8), ε) from by simp [sp_round, sBad, okS, okH, okL, okT, okB, sRd, up2_id, up2_id2, oI, sOther, sNone, sFull, goneF, up2_eq, c_4]]
            exact ⟨_, _, rfl, hM, hU, rfl⟩)
  · refine z_iconst (pc := 9) (zk5 kX5_round_0) (v := 0) (by decide) ?_
    refine z_goto (pc := 10) (zk6 kX5_round_0) (tgt := 17) (by decide) ?_
    refine z_Mo_w17 (pc := 17) (zk9 kX5_round_0) flX5_85 hM (by omega) (fun h_10 hR hU_11 => ?_)
    replace hU := hU.tr hU_11 (by omega) (by omega)
    replace hM := hR; clear hR
    refine z_aload_n (pc := 20) (zk10 kX5_round_0) rfl ?_
    refine z_efV (pc := 21) (zk11 kX5_round_0) (st := []) lkX5_328 ivX5_shelvesFollow hM.1 rfl rfl (c_follow hM hB) rfl ⟨rfl, rfl⟩ rfl rfl (fun r_ h_13 z_ q_12 => ?_) rfl
    obtain ⟨er_, hR, hU_14, ez_⟩ := q_12
    rw [er_, ez_]
    clear er_ ez_
    replace hU := hU.tr hU_14 (by omega) (by omega)
    replace hM := hR; clear hR
    show Z D B xX5_round _ _ _ 24 _ [] _ _
    refine z_aload_n (pc := 24) (zk12 kX5_round_0) rfl ?_
    refine z_rdV (pc := 25) (zk13 kX5_round_0) (st := []) lkX5_331 ivX5_earsTogether hM.1 rfl rfl (c_mears hM hn h12) rfl ⟨rfl, rfl⟩ rfl rfl ?_ rfl
    exact z_iret (pc := 28) (zk14 kX5_round_0) rfl (Nat.zero_le _) (Nat.zero_le _) (by
            rw [show sp_round σ τ ε b = (earsF (up2 (roundF σ) 9 0 0), (up2 (roundF σ) 9 0 0), (flwT τ (0) 8), ε) from by simp [sp_round, sBad, okS, okH, okL, okT, okB, sRd, up2_id, up2_id2, oI, sOther, sNone, sFull, goneF, up2_eq, c_4]]
            exact ⟨_, _, rfl, hM, hU, rfl⟩)
set_option maxRecDepth 20000 in
theorem cP_days {D : zD} {B : Nat} {h : zH} {sz : Nat} {p : Nat} {σ τ ω : Ln} {ε : El} {mv : Nat → Int64} {kp tr : Option Nat} {x : Int32} {n m : Nat} (hM : MoAt h p σ τ ω ε mv kp tr) (hB : B ≤ p) (hn : σ 0 0 = nI n) (h12 : n ≤ 12) (hm : σ 9 0 = nI m) (h8 : m ≤ 8) (hto : ∀ l, l < m → ToOk σ l) (h2 : 2 ≤ n) : zM D B xX5_days [.ref p, .int x] h sz (mQ h p sz kp tr (sp_days σ τ ε x)) := by
  have hU : Upd h h p 29 := Upd.rf
  refine zM.of (by decide) rfl (n := 3) ?_
  show Z D B xX5_days 0 0 _ 0 [some (.ref p), some (.int x), none, none, none] [] h sz
  refine z_iload_n (pc := 0) (zk0 kX5_days_0) rfl ?_
  refine z_i2l (pc := 1) (zk1 kX5_days_0) ?_
  refine z_lconst (pc := 2) (zk2 kX5_days_0) (v := 1) (by decide) ?_
  refine z_ldc2 (pc := 3) (zk3 kX5_days_0) klX5_335 ?_
  refine z_rdS (pc := 6) (zk4 kX5_days_0) (st := []) lkX5_81 isX5_in (c_inI (x := x) (a := 1) (b := 60) (by decide) (by decide)) rfl ⟨rfl, rfl⟩ rfl rfl ?_ rfl
  refine z_oif_ne (pc := 9) (zk5 kX5_days_0) (tgt := 19) (by decide) (fun c_1 => ?_) (fun c_1 => ?_)
  · obtain ⟨kx, hkx, rfl⟩ := okR_1 (c := 60) (by decide) c_1
    refine z_iconst (pc := 19) (zk10 kX5_days_0) (v := 0) (by decide) ?_
    refine z_istore_n (pc := 20) (zk11 kX5_days_0) rfl rfl ?_
    show Z D B xX5_days _ _ _ 21 [some (.ref p), some (.int (nI kx)), some (.int 0), none, none] _ _ _
    have lp21 : ∀ (n_ : Nat) (g : zH) (i : Nat), kx - i < n_ → (i ≤ kx) → (MoAt g p (daysF σ i) τ ω ε mv kp tr) → (Upd h g p 29) → Z D B xX5_days 0 0 (mQ h p sz kp tr (sp_days σ τ ε (nI kx))) 21 [some (.ref p), some (.int (nI kx)), some (.int (nI i)), none, none] [] g sz := by
      intro n_
      induction n_ with
      | zero => intro g i hm_; exact absurd hm_ (Nat.not_lt_zero _)
      | succ n_ ih21 =>
        intro g i hm_ hi_i hM hU
        have hn0 := hn
        have hn : daysF σ i 0 0 = nI n := (daysF_n σ i).1.trans hn
        have hm : daysF σ i 9 0 = nI m := (daysF_n σ i).2.1.trans hm
        have hto : ∀ l, l < m → ToOk (daysF σ i) l := fun l hl => by rw [ToOk, (daysF_n σ i).2.2]; exact hto l hl
        refine z_iload_n (pc := 21) (zk12 kX5_days_0) rfl ?_
        refine z_iload_n (pc := 22) (zk13 kX5_days_0) rfl ?_
        refine z_icmp_ge (pc := 23) (zk14 kX5_days_0) (tgt := 80) (by decide) (fun c_2 => ?_) (fun c_2 => ?_)
        · have hie_i : i = kx := nI_ge_yes (a := kx) (by omega) (by omega) (by omega) c_2
          refine z_aload_n (pc := 80) (zk11 kX5_days_2) rfl ?_
          refine z_rdV (pc := 81) (zk12 kX5_days_2) (st := []) lkX5_331 ivX5_earsTogether hM.1 rfl rfl (c_mears hM hn h12) rfl ⟨rfl, rfl⟩ rfl rfl ?_ rfl
          exact z_iret (pc := 84) (zk13 kX5_days_2) rfl (Nat.zero_le _) (Nat.zero_le _) (by
                        rw [show sp_days σ τ ε (nI kx) = (earsF (daysF σ i), (daysF σ i), τ, ε) from by simp [sp_days, sBad, okS, okH, okL, okT, okB, sRd, up2_id, up2_id2, oI, sOther, sNone, sFull, c_1, c_2, Int32.not_lt.mpr c_2, ix_nI (show kx ≤ 1000 by omega), hie_i]]
                        exact ⟨_, _, rfl, hM, hU, rfl⟩)
        · have hlt_i : i < kx := nI_ge_not (a := kx) (by omega) (by omega) c_2
          refine z_aload_n (pc := 26) (zk15 kX5_days_0) rfl ?_
          refine z_aload_n (pc := 27) (zk0 kX5_days_1) rfl ?_
          refine z_getf (pc := 28) (zk1 kX5_days_1) flX5_37 hM.1 (v := .int (nI n)) (by rw [← hn]; rfl) ?_
          refine z_efV (pc := 31) (zk2 kX5_days_1) (st := []) lkX5_337 ivX5_below hM.1 rfl rfl (c_below hM hB (by omega) (by omega)) rfl ⟨rfl, rfl⟩ rfl rfl (fun r_ h_4 z_ q_3 => ?_) rfl
          obtain ⟨er_, hR, hU_5, ez_⟩ := q_3
          rw [er_, ez_]
          clear er_ ez_
          replace hU := hU.tr hU_5 (by omega) (by omega)
          replace hM := hR; clear hR
          show Z D B xX5_days _ _ _ 34 _ [.int (nI (drwN (nextS ((daysF σ i) 8 0)) n))] _ _
          refine z_istore_n (pc := 34) (zk3 kX5_days_1) rfl rfl ?_
          show Z D B xX5_days _ _ _ 35 [some (.ref p), some (.int (nI kx)), some (.int (nI i)), some (.int (nI (drwN (nextS ((daysF σ i) 8 0)) n))), none] _ _ _
          refine z_aload_n (pc := 35) (zk4 kX5_days_1) rfl ?_
          refine z_getf (pc := 36) (zk5 kX5_days_1) flX5_41 hM.1 gMo_10 ?_
          refine z_iload_n (pc := 39) (zk6 kX5_days_1) rfl ?_
          refine z_aload_n (pc := 40) (zk7 kX5_days_1) rfl ?_
          refine z_bipush (pc := 41) (zk8 kX5_days_1) (v := 10) (by decide) ?_
          refine z_efV (pc := 43) (zk9 kX5_days_1) (st := [.int (nI (drwN (nextS ((daysF σ i) 8 0)) n)), .ref (p + 17)]) lkX5_337 ivX5_below hM.1 rfl rfl (c_below hM hB (by decide) (by decide)) rfl ⟨rfl, rfl⟩ rfl rfl (fun r_ h_7 z_ q_6 => ?_) rfl
          obtain ⟨er_, hR, hU_8, ez_⟩ := q_6
          rw [er_, ez_]
          clear er_ ez_
          replace hU := hU.tr hU_8 (by omega) (by omega)
          replace hM := hR; clear hR
          show Z D B xX5_days _ _ _ 46 _ [.int (nI (drwN (nextS (nextS ((daysF σ i) 8 0))) 10)), .int (nI (drwN (nextS ((daysF σ i) 8 0)) n)), .ref (p + 17)] _ _
          refine z_Mo_s17 (pc := 46) (zk10 kX5_days_1) (j := drwN (nextS ((daysF σ i) 8 0)) n) hM (by omega) (Nat.lt_of_lt_of_le (drwN_lt _ (by omega)) (by omega)) (fun h_9 hR hU_10 => ?_)
          replace hU := hU.tr hU_10 (by omega) (by omega)
          replace hM := hR; clear hR
          refine z_aload_n (pc := 47) (zk11 kX5_days_1) rfl ?_
          refine z_aload_n (pc := 48) (zk12 kX5_days_1) rfl ?_
          refine z_getf (pc := 49) (zk13 kX5_days_1) flX5_37 hM.1 (v := .int (nI n)) (by rw [← hn]; rfl) ?_
          refine z_efV (pc := 52) (zk14 kX5_days_1) (st := []) lkX5_337 ivX5_below hM.1 rfl rfl (c_below hM hB (by omega) (by omega)) rfl ⟨rfl, rfl⟩ rfl rfl (fun r_ h_12 z_ q_11 => ?_) rfl
          obtain ⟨er_, hR, hU_13, ez_⟩ := q_11
          rw [er_, ez_]
          clear er_ ez_
          replace hU := hU.tr hU_13 (by omega) (by omega)
          replace hM := hR; clear hR
          show Z D B xX5_days _ _ _ 55 _ [.int (nI (drwN (nextS (nextS (nextS ((daysF σ i) 8 0)))) n))] _ _
          refine z_istore (pc := 55) (zk15 kX5_days_1) rfl rfl ?_
          show Z D B xX5_days _ _ _ 57 [some (.ref p), some (.int (nI kx)), some (.int (nI i)), some (.int (nI (drwN (nextS ((daysF σ i) 8 0)) n))), some (.int (nI (drwN (nextS (nextS (nextS ((daysF σ i) 8 0)))) n)))] _ _ _
          refine z_aload_n (pc := 57) (zk0 kX5_days_2) rfl ?_
          refine z_getf (pc := 58) (zk1 kX5_days_2) flX5_44 hM.1 gMo_11 ?_
          refine z_iload (pc := 61) (zk2 kX5_days_2) rfl ?_
          refine z_aload_n (pc := 63) (zk3 kX5_days_2) rfl ?_
          refine z_bipush (pc := 64) (zk4 kX5_days_2) (v := 10) (by decide) ?_
          refine z_efV (pc := 66) (zk5 kX5_days_2) (st := [.int (nI (drwN (nextS (nextS (nextS ((daysF σ i) 8 0)))) n)), .ref (p + 18)]) lkX5_337 ivX5_below hM.1 rfl rfl (c_below hM hB (by decide) (by decide)) rfl ⟨rfl, rfl⟩ rfl rfl (fun r_ h_15 z_ q_14 => ?_) rfl
          obtain ⟨er_, hR, hU_16, ez_⟩ := q_14
          rw [er_, ez_]
          clear er_ ez_
          replace hU := hU.tr hU_16 (by omega) (by omega)
          replace hM := hR; clear hR
          show Z D B xX5_days _ _ _ 69 _ [.int (nI (drwN (nextS (nextS (nextS (nextS ((daysF σ i) 8 0))))) 10)), .int (nI (drwN (nextS (nextS (nextS ((daysF σ i) 8 0)))) n)), .ref (p + 18)] _ _
          refine z_Mo_s18 (pc := 69) (zk6 kX5_days_2) (j := drwN (nextS (nextS (nextS ((daysF σ i) 8 0)))) n) hM (by omega) (Nat.lt_of_lt_of_le (drwN_lt _ (by omega)) (by omega)) (fun h_17 hR hU_18 => ?_)
          replace hU := hU.tr hU_18 (by omega) (by omega)
          replace hM := hR; clear hR
          refine z_aload_n (pc := 70) (zk7 kX5_days_2) rfl ?_
          refine z_efV (pc := 71) (zk8 kX5_days_2) (st := []) lkX5_325 ivX5_goesRound hM.1 rfl rfl (c_mround hM hn h12 hm h8 hto hB) rfl ⟨rfl, rfl⟩ rfl rfl (fun r_ h_20 z_ q_19 => ?_) rfl
          obtain ⟨er_, hR, hU_21, ez_⟩ := q_19
          rw [er_, ez_]
          clear er_ ez_
          replace hU := hU.tr hU_21 (by omega) (by omega)
          replace hM := hR; clear hR
          show Z D B xX5_days _ _ _ 74 _ [] _ _
          refine z_iinc (pc := 74) (zk9 kX5_days_2) (v := nI (i + 1)) rfl zinc rfl rfl ?_
          show Z D B xX5_days _ _ _ 77 [some (.ref p), some (.int (nI kx)), some (.int (nI (i + 1))), some (.int (nI (drwN (nextS ((daysF σ i) 8 0)) n))), some (.int (nI (drwN (nextS (nextS (nextS ((daysF σ i) 8 0)))) n)))] _ _ _
          refine z_goto (pc := 77) (zk10 kX5_days_2) (tgt := 21) (by decide) ?_
          refine z_kill 3 ?_
          show Z D B xX5_days _ _ _ 21 [some (.ref p), some (.int (nI kx)), some (.int (nI (i + 1))), none, some (.int (nI (drwN (nextS (nextS (nextS ((daysF σ i) 8 0)))) n)))] _ _ _
          refine z_kill 4 ?_
          show Z D B xX5_days _ _ _ 21 [some (.ref p), some (.int (nI kx)), some (.int (nI (i + 1))), none, none] _ _ _
          exact ih21 h_20 (i + 1) (by omega) (by omega) (by rw [daysF, dayF, hsN_eq hn h12]; exact hM) hU
    exact lp21 _ h 0 (Nat.lt_succ_self _) (by omega) hM hU
  · refine z_aload_n (pc := 12) (zk6 kX5_days_0) rfl ?_
    refine z_bipush (pc := 13) (zk7 kX5_days_0) (v := (-2)) (by decide) ?_
    refine z_efV (pc := 15) (zk8 kX5_days_0) (st := []) lkX5_94 ivX5_refuse hM.1 rfl rfl (c_refuse hM (by omega) (j := 2) (by decide) (by decide)) rfl ⟨rfl, rfl⟩ rfl rfl (fun r_ h_23 z_ q_22 => ?_) rfl
    obtain ⟨er_, hR, hU_24, ez_⟩ := q_22
    rw [er_, ez_]
    clear er_ ez_
    replace hU := hU.tr hU_24 (by omega) (by omega)
    replace hM := hR; clear hR
    show Z D B xX5_days _ _ _ 18 _ [.int (-2)] _ _
    exact z_iret (pc := 18) (zk9 kX5_days_0) rfl (Nat.zero_le _) (Nat.zero_le _) (by
            rw [show sp_days σ τ ε x = ((-2), σ, rfN τ 2, ε) from by simp [sp_days, sBad, okS, okH, okL, okT, okB, sRd, up2_id, up2_id2, oI, sOther, sNone, sFull, c_1]]
            exact ⟨_, _, rfl, hM, hU, rfl⟩)
