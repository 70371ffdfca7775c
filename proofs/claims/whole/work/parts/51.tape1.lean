set_option maxRecDepth 20000 in
theorem c_sortAt {D : zD} {B : Nat} {h : zH} {sz : Nat} {pt : Nat} {τ ω : Ln} {N a : Nat} (hT : TaAt h pt τ ω) (hN : τ 6 0 = nI N) (hN2 : N ≤ 250) (ha : a ≤ N) : zRd D B xX3_sortAt [.ref pt, .int (nI a)] h sz (.int (nI (tkS (τ 5) N a))) := by
  refine zM.of (by decide) rfl (n := 1) ?_
  show Z D B xX3_sortAt 0 0 _ 0 [some (.ref pt), some (.int (nI a)), none] [] h sz
  refine z_iload_n (pc := 0) (zk0 kX3_sortAt_0) rfl ?_
  refine z_aload_n (pc := 1) (zk1 kX3_sortAt_0) rfl ?_
  refine z_getf (pc := 2) (zk2 kX3_sortAt_0) flX3_15 hT.1 (v := .int (nI N)) (by rw [← hN]; rfl) ?_
  refine z_icmp_lt (pc := 5) (zk3 kX3_sortAt_0) (tgt := 10) (by decide) (fun c_1 => ?_) (fun c_1 => ?_)
  · have hlt : a < N := (nI_ltI (by omega) (by omega)).mp c_1
    refine z_aload_n (pc := 10) (zk6 kX3_sortAt_0) rfl ?_
    refine z_getf (pc := 11) (zk7 kX3_sortAt_0) flX3_9 hT.1 gTa_0 ?_
    refine z_iload_n (pc := 14) (zk8 kX3_sortAt_0) rfl ?_
    refine z_ialdN (pc := 15) (zk9 kX3_sortAt_0) (f := τ 5) (j := a) hT.2 (show a < 250 by omega) rfl ?_
    refine z_istore_n (pc := 16) (zk10 kX3_sortAt_0) rfl rfl ?_
    show Z D B xX3_sortAt _ _ _ 17 [some (.ref pt), some (.int (nI a)), some (.int (τ 5 a))] _ _ _
    refine z_iload_n (pc := 17) (zk11 kX3_sortAt_0) rfl ?_
    refine z_bipush (pc := 18) (zk12 kX3_sortAt_0) (v := 97) (by decide) ?_
    refine z_icmp_lt (pc := 20) (zk13 kX3_sortAt_0) (tgt := 31) (by decide) (fun c_2 => ?_) (fun c_2 => ?_)
    · refine z_iload_n (pc := 31) (zk3 kX3_sortAt_1) rfl ?_
      refine z_bipush (pc := 32) (zk4 kX3_sortAt_1) (v := 48) (by decide) ?_
      refine z_icmp_lt (pc := 34) (zk5 kX3_sortAt_1) (tgt := 45) (by decide) (fun c_3 => ?_) (fun c_3 => ?_)
      · refine z_iload_n (pc := 45) (zk11 kX3_sortAt_1) rfl ?_
        refine z_bipush (pc := 46) (zk12 kX3_sortAt_1) (v := 59) (by decide) ?_
        refine z_icmp_ne (pc := 48) (zk13 kX3_sortAt_1) (tgt := 55) (by decide) (fun c_4 => ?_) (fun c_4 => ?_)
        · refine z_iconst (pc := 55) (zk0 kX3_sortAt_2) (v := 4) (by decide) ?_
          exact z_iret (pc := 56) (zk1 kX3_sortAt_2) rfl (Nat.zero_le _) (Nat.zero_le _) ⟨by simp [tkS, Nat.not_le.mpr hlt, c_2, Int32.not_le.mpr c_2, c_3, Int32.not_le.mpr c_3, c_4, show nI 0 = 0 from rfl, show nI 1 = 1 from rfl, show nI 2 = 2 from rfl, show nI 3 = 3 from rfl, show nI 4 = 4 from rfl], rfl, rfl⟩
        · refine z_iconst (pc := 51) (zk14 kX3_sortAt_1) (v := 3) (by decide) ?_
          refine z_goto (pc := 52) (zk15 kX3_sortAt_1) (tgt := 56) (by decide) ?_
          exact z_iret (pc := 56) (zk1 kX3_sortAt_2) rfl (Nat.zero_le _) (Nat.zero_le _) ⟨by simp [tkS, Nat.not_le.mpr hlt, c_2, Int32.not_le.mpr c_2, c_3, Int32.not_le.mpr c_3, c_4, show nI 0 = 0 from rfl, show nI 1 = 1 from rfl, show nI 2 = 2 from rfl, show nI 3 = 3 from rfl, show nI 4 = 4 from rfl], rfl, rfl⟩
      · refine z_iload_n (pc := 37) (zk6 kX3_sortAt_1) rfl ?_
        refine z_bipush (pc := 38) (zk7 kX3_sortAt_1) (v := 57) (by decide) ?_
        refine z_icmp_gt (pc := 40) (zk8 kX3_sortAt_1) (tgt := 45) (by decide) (fun c_5 => ?_) (fun c_5 => ?_)
        · refine z_iload_n (pc := 45) (zk11 kX3_sortAt_1) rfl ?_
          refine z_bipush (pc := 46) (zk12 kX3_sortAt_1) (v := 59) (by decide) ?_
          refine z_icmp_ne (pc := 48) (zk13 kX3_sortAt_1) (tgt := 55) (by decide) (fun c_6 => ?_) (fun c_6 => ?_)
          · refine z_iconst (pc := 55) (zk0 kX3_sortAt_2) (v := 4) (by decide) ?_
            exact z_iret (pc := 56) (zk1 kX3_sortAt_2) rfl (Nat.zero_le _) (Nat.zero_le _) ⟨by simp [tkS, Nat.not_le.mpr hlt, c_2, Int32.not_le.mpr c_2, c_3, Int32.not_lt.mp c_3, c_5, Int32.not_le.mpr c_5, c_6, show nI 0 = 0 from rfl, show nI 1 = 1 from rfl, show nI 2 = 2 from rfl, show nI 3 = 3 from rfl, show nI 4 = 4 from rfl], rfl, rfl⟩
          · refine z_iconst (pc := 51) (zk14 kX3_sortAt_1) (v := 3) (by decide) ?_
            refine z_goto (pc := 52) (zk15 kX3_sortAt_1) (tgt := 56) (by decide) ?_
            exact z_iret (pc := 56) (zk1 kX3_sortAt_2) rfl (Nat.zero_le _) (Nat.zero_le _) ⟨by simp [tkS, Nat.not_le.mpr hlt, c_2, Int32.not_le.mpr c_2, c_3, Int32.not_lt.mp c_3, c_5, Int32.not_le.mpr c_5, c_6, show nI 0 = 0 from rfl, show nI 1 = 1 from rfl, show nI 2 = 2 from rfl, show nI 3 = 3 from rfl, show nI 4 = 4 from rfl], rfl, rfl⟩
        · refine z_iconst (pc := 43) (zk9 kX3_sortAt_1) (v := 2) (by decide) ?_
          exact z_iret (pc := 44) (zk10 kX3_sortAt_1) rfl (Nat.zero_le _) (Nat.zero_le _) ⟨by simp [tkS, Nat.not_le.mpr hlt, c_2, Int32.not_le.mpr c_2, c_3, Int32.not_lt.mp c_3, c_5, Int32.not_lt.mp c_5, show nI 0 = 0 from rfl, show nI 1 = 1 from rfl, show nI 2 = 2 from rfl, show nI 3 = 3 from rfl, show nI 4 = 4 from rfl], rfl, rfl⟩
    · refine z_iload_n (pc := 23) (zk14 kX3_sortAt_0) rfl ?_
      refine z_bipush (pc := 24) (zk15 kX3_sortAt_0) (v := 122) (by decide) ?_
      refine z_icmp_gt (pc := 26) (zk0 kX3_sortAt_1) (tgt := 31) (by decide) (fun c_7 => ?_) (fun c_7 => ?_)
      · refine z_iload_n (pc := 31) (zk3 kX3_sortAt_1) rfl ?_
        refine z_bipush (pc := 32) (zk4 kX3_sortAt_1) (v := 48) (by decide) ?_
        refine z_icmp_lt (pc := 34) (zk5 kX3_sortAt_1) (tgt := 45) (by decide) (fun c_8 => ?_) (fun c_8 => ?_)
        · refine z_iload_n (pc := 45) (zk11 kX3_sortAt_1) rfl ?_
          refine z_bipush (pc := 46) (zk12 kX3_sortAt_1) (v := 59) (by decide) ?_
          refine z_icmp_ne (pc := 48) (zk13 kX3_sortAt_1) (tgt := 55) (by decide) (fun c_9 => ?_) (fun c_9 => ?_)
          · refine z_iconst (pc := 55) (zk0 kX3_sortAt_2) (v := 4) (by decide) ?_
            exact z_iret (pc := 56) (zk1 kX3_sortAt_2) rfl (Nat.zero_le _) (Nat.zero_le _) ⟨by simp [tkS, Nat.not_le.mpr hlt, c_2, Int32.not_lt.mp c_2, c_7, Int32.not_le.mpr c_7, c_8, Int32.not_le.mpr c_8, c_9, show nI 0 = 0 from rfl, show nI 1 = 1 from rfl, show nI 2 = 2 from rfl, show nI 3 = 3 from rfl, show nI 4 = 4 from rfl], rfl, rfl⟩
          · refine z_iconst (pc := 51) (zk14 kX3_sortAt_1) (v := 3) (by decide) ?_
            refine z_goto (pc := 52) (zk15 kX3_sortAt_1) (tgt := 56) (by decide) ?_
            exact z_iret (pc := 56) (zk1 kX3_sortAt_2) rfl (Nat.zero_le _) (Nat.zero_le _) ⟨by simp [tkS, Nat.not_le.mpr hlt, c_2, Int32.not_lt.mp c_2, c_7, Int32.not_le.mpr c_7, c_8, Int32.not_le.mpr c_8, c_9, show nI 0 = 0 from rfl, show nI 1 = 1 from rfl, show nI 2 = 2 from rfl, show nI 3 = 3 from rfl, show nI 4 = 4 from rfl], rfl, rfl⟩
        · refine z_iload_n (pc := 37) (zk6 kX3_sortAt_1) rfl ?_
          refine z_bipush (pc := 38) (zk7 kX3_sortAt_1) (v := 57) (by decide) ?_
          refine z_icmp_gt (pc := 40) (zk8 kX3_sortAt_1) (tgt := 45) (by decide) (fun c_10 => ?_) (fun c_10 => ?_)
          · refine z_iload_n (pc := 45) (zk11 kX3_sortAt_1) rfl ?_
            refine z_bipush (pc := 46) (zk12 kX3_sortAt_1) (v := 59) (by decide) ?_
            refine z_icmp_ne (pc := 48) (zk13 kX3_sortAt_1) (tgt := 55) (by decide) (fun c_11 => ?_) (fun c_11 => ?_)
            · refine z_iconst (pc := 55) (zk0 kX3_sortAt_2) (v := 4) (by decide) ?_
              exact z_iret (pc := 56) (zk1 kX3_sortAt_2) rfl (Nat.zero_le _) (Nat.zero_le _) ⟨by simp [tkS, Nat.not_le.mpr hlt, c_2, Int32.not_lt.mp c_2, c_7, Int32.not_le.mpr c_7, c_8, Int32.not_lt.mp c_8, c_10, Int32.not_le.mpr c_10, c_11, show nI 0 = 0 from rfl, show nI 1 = 1 from rfl, show nI 2 = 2 from rfl, show nI 3 = 3 from rfl, show nI 4 = 4 from rfl], rfl, rfl⟩
            · refine z_iconst (pc := 51) (zk14 kX3_sortAt_1) (v := 3) (by decide) ?_
              refine z_goto (pc := 52) (zk15 kX3_sortAt_1) (tgt := 56) (by decide) ?_
              exact z_iret (pc := 56) (zk1 kX3_sortAt_2) rfl (Nat.zero_le _) (Nat.zero_le _) ⟨by simp [tkS, Nat.not_le.mpr hlt, c_2, Int32.not_lt.mp c_2, c_7, Int32.not_le.mpr c_7, c_8, Int32.not_lt.mp c_8, c_10, Int32.not_le.mpr c_10, c_11, show nI 0 = 0 from rfl, show nI 1 = 1 from rfl, show nI 2 = 2 from rfl, show nI 3 = 3 from rfl, show nI 4 = 4 from rfl], rfl, rfl⟩
          · refine z_iconst (pc := 43) (zk9 kX3_sortAt_1) (v := 2) (by decide) ?_
            exact z_iret (pc := 44) (zk10 kX3_sortAt_1) rfl (Nat.zero_le _) (Nat.zero_le _) ⟨by simp [tkS, Nat.not_le.mpr hlt, c_2, Int32.not_lt.mp c_2, c_7, Int32.not_le.mpr c_7, c_8, Int32.not_lt.mp c_8, c_10, Int32.not_lt.mp c_10, show nI 0 = 0 from rfl, show nI 1 = 1 from rfl, show nI 2 = 2 from rfl, show nI 3 = 3 from rfl, show nI 4 = 4 from rfl], rfl, rfl⟩
      · refine z_iconst (pc := 29) (zk1 kX3_sortAt_1) (v := 1) (by decide) ?_
        exact z_iret (pc := 30) (zk2 kX3_sortAt_1) rfl (Nat.zero_le _) (Nat.zero_le _) ⟨by simp [tkS, Nat.not_le.mpr hlt, c_2, Int32.not_lt.mp c_2, c_7, Int32.not_lt.mp c_7, show nI 0 = 0 from rfl, show nI 1 = 1 from rfl, show nI 2 = 2 from rfl, show nI 3 = 3 from rfl, show nI 4 = 4 from rfl], rfl, rfl⟩
  · refine z_iconst (pc := 8) (zk4 kX3_sortAt_0) (v := 0) (by decide) ?_
    exact z_iret (pc := 9) (zk5 kX3_sortAt_0) rfl (Nat.zero_le _) (Nat.zero_le _) ⟨by rw [tkS_0 (show N ≤ a from Nat.not_lt.mp (fun q => c_1 ((nI_ltI (by omega) (by omega)).mpr q)))]; rfl, rfl, rfl⟩
set_option maxRecDepth 20000 in
theorem c_step {D : zD} {B : Nat} {h : zH} {sz : Nat} {pt : Nat} {τ ω : Ln} {N a : Nat} (hT : TaAt h pt τ ω) (hN : τ 6 0 = nI N) (hN2 : N ≤ 250) (ha : ω 10 0 = nI a) (ha2 : a ≤ N) (hB : B ≤ pt) : zM D B xX3_step [.ref pt] h sz (fun r h1 z1 => ∃ ω1 : Ln, r = none ∧ TaAt h1 pt τ ω1 ∧ ω1 8 0 = nI (tkS (τ 5) N (skp (τ 5) N a)) ∧ ω1 9 0 = nI (skp (τ 5) N a) ∧ ω1 10 0 = nI (tkE (τ 5) N (skp (τ 5) N a)) ∧ ω1 12 0 = ω 12 0 ∧ Upd h h1 pt 2 ∧ z1 = sz) := by
  have hU : Upd h h pt 2 := Upd.rf
  refine zM.of (by decide) rfl (n := 0) ?_
  show Z D B xX3_step 0 0 _ 0 [some (.ref pt)] [] h sz
  refine z_aload_n (pc := 0) (zk0 kX3_step_0) rfl ?_
  refine z_aload_n (pc := 1) (zk1 kX3_step_0) rfl ?_
  refine z_getf (pc := 2) (zk2 kX3_step_0) flX3_25 hT.1 (v := .int (nI a)) (by rw [← ha]; rfl) ?_
  refine z_Ta_w3 (pc := 5) (zk3 kX3_step_0) flX3_22 hT (by omega) (fun h_1 hR hU_2 => ?_)
  replace hU := hU.tr hU_2 (by omega) (by omega)
  replace hT := hR; clear hR
  have lp8 : ∀ (n_ : Nat) (g : zH) (w1 : Ln) (s : Nat), N - s < n_ → (TaAt g pt τ w1) → (w1 9 0 = nI s) → (w1 12 0 = ω 12 0) → (s ≤ N) → (skp (τ 5) N s = skp (τ 5) N a) → (Upd h g pt 2) → Z D B xX3_step 0 0 (fun r h1 z1 => ∃ ω1 : Ln, r = none ∧ TaAt h1 pt τ ω1 ∧ ω1 8 0 = nI (tkS (τ 5) N (skp (τ 5) N a)) ∧ ω1 9 0 = nI (skp (τ 5) N a) ∧ ω1 10 0 = nI (tkE (τ 5) N (skp (τ 5) N a)) ∧ ω1 12 0 = ω 12 0 ∧ Upd h h1 pt 2 ∧ z1 = sz) 8 [some (.ref pt)] [] g sz := by
    intro n_
    induction n_ with
    | zero => intro g w1 s hm_; exact absurd hm_ (Nat.not_lt_zero _)
    | succ n_ ih8 =>
      intro g w1 s hm_ hT h9 h12 hs hk hU
      refine z_aload_n (pc := 8) (zk4 kX3_step_0) rfl ?_
      refine z_getf (pc := 9) (zk5 kX3_step_0) flX3_22 hT.1 (v := .int (nI s)) (by rw [← h9]; rfl) ?_
      refine z_aload_n (pc := 12) (zk6 kX3_step_0) rfl ?_
      refine z_getf (pc := 13) (zk7 kX3_step_0) flX3_15 hT.1 (v := .int (nI N)) (by rw [← hN]; rfl) ?_
      refine z_icmp_ge (pc := 16) (zk8 kX3_step_0) (tgt := 46) (by decide) (fun c_3 => ?_) (fun c_3 => ?_)
      · have hsk : skp (τ 5) N a = s := by rw [← hk]; exact skp_e ((nI_le_iff (by omega) (by omega)).mp c_3)
        have htl := tkS_le (τ 5) N s
        refine z_aload_n (pc := 46) (zk7 kX3_step_1) rfl ?_
        refine z_aload_n (pc := 47) (zk8 kX3_step_1) rfl ?_
        refine z_getf (pc := 48) (zk9 kX3_step_1) flX3_22 hT.1 (v := .int (nI s)) (by rw [← h9]; rfl) ?_
        refine z_Ta_w4 (pc := 51) (zk10 kX3_step_1) flX3_25 hT (by omega) (fun h_4 hR hU_5 => ?_)
        replace hU := hU.tr hU_5 (by omega) (by omega)
        replace hT := hR; clear hR
        refine z_aload_n (pc := 54) (zk11 kX3_step_1) rfl ?_
        refine z_aload_n (pc := 55) (zk12 kX3_step_1) rfl ?_
        refine z_aload_n (pc := 56) (zk13 kX3_step_1) rfl ?_
        refine z_getf (pc := 57) (zk14 kX3_step_1) flX3_22 hT.1 (v := .int (nI s)) (by rw [← h9]; rfl) ?_
        refine z_rdV (pc := 60) (zk15 kX3_step_1) (st := [.ref pt]) lkX3_108 ivX3_sortAt hT.1 rfl rfl (c_sortAt hT hN hN2 (by omega)) rfl ⟨rfl, rfl⟩ rfl rfl ?_ rfl
        refine z_Ta_w2 (pc := 63) (zk0 kX3_step_2) flX3_19 hT (by omega) (fun h_6 hR hU_7 => ?_)
        replace hU := hU.tr hU_7 (by omega) (by omega)
        replace hT := hR; clear hR
        refine z_aload_n (pc := 66) (zk1 kX3_step_2) rfl ?_
        refine z_getf (pc := 67) (zk2 kX3_step_2) flX3_19 hT.1 (v := .int (nI (tkS (τ 5) N s))) rfl ?_
        refine z_iconst (pc := 70) (zk3 kX3_step_2) (v := 1) (by decide) ?_
        refine z_icmp_eq (pc := 71) (zk4 kX3_step_2) (tgt := 82) (by decide) (fun c_8 => ?_) (fun c_8 => ?_)
        · have lp82 : ∀ (n_ : Nat) (g2 : zH) (w2 : Ln) (e : Nat), N - e < n_ → (TaAt g2 pt τ w2) → (w2 8 0 = nI (tkS (τ 5) N s)) → (w2 9 0 = nI s) → (w2 10 0 = nI e) → (w2 12 0 = ω 12 0) → (s ≤ e ∧ e ≤ N) → (ruN (τ 5) N (tkS (τ 5) N s) (N - e) e = tkE (τ 5) N s) → (Upd h g2 pt 2) → Z D B xX3_step 0 0 (fun r h1 z1 => ∃ ω1 : Ln, r = none ∧ TaAt h1 pt τ ω1 ∧ ω1 8 0 = nI (tkS (τ 5) N (skp (τ 5) N a)) ∧ ω1 9 0 = nI (skp (τ 5) N a) ∧ ω1 10 0 = nI (tkE (τ 5) N (skp (τ 5) N a)) ∧ ω1 12 0 = ω 12 0 ∧ Upd h h1 pt 2 ∧ z1 = sz) 82 [some (.ref pt)] [] g2 sz := by
            intro n_
            induction n_ with
            | zero => intro g2 w2 e hm_; exact absurd hm_ (Nat.not_lt_zero _)
            | succ n_ ih82 =>
              intro g2 w2 e hm_ hT f8 f9 f10 f12 he hr hU
              refine z_aload_n (pc := 82) (zk9 kX3_step_2) rfl ?_
              refine z_getf (pc := 83) (zk10 kX3_step_2) flX3_25 hT.1 (v := .int (nI e)) (by rw [← f10]; rfl) ?_
              refine z_aload_n (pc := 86) (zk11 kX3_step_2) rfl ?_
              refine z_getf (pc := 87) (zk12 kX3_step_2) flX3_15 hT.1 (v := .int (nI N)) (by rw [← hN]; rfl) ?_
              refine z_icmp_ge (pc := 90) (zk13 kX3_step_2) (tgt := 138) (by decide) (fun c_9 => ?_) (fun c_9 => ?_)
              · exact z_vret (pc := 138) (zk5 kX3_step_4) rfl (Nat.zero_le _) (Nat.zero_le _) ⟨_, rfl, hT, by rw [hsk]; exact f8, by rw [hsk]; exact f9, by rw [hsk, ← hr]; exact f10.trans (congrArg nI (ruN_e ((nI_le_iff (by omega) (by omega)).mp c_9)).symm), f12, hU, rfl⟩
              · have hlt2 : e < N := nI_ge_not (a := N) (by omega) (by omega) c_9
                refine z_aload_n (pc := 93) (zk14 kX3_step_2) rfl ?_
                refine z_aload_n (pc := 94) (zk15 kX3_step_2) rfl ?_
                refine z_getf (pc := 95) (zk0 kX3_step_3) flX3_25 hT.1 (v := .int (nI e)) (by rw [← f10]; rfl) ?_
                refine z_rdV (pc := 98) (zk1 kX3_step_3) (st := []) lkX3_108 ivX3_sortAt hT.1 rfl rfl (c_sortAt hT hN hN2 (by omega)) rfl ⟨rfl, rfl⟩ rfl rfl ?_ rfl
                refine z_aload_n (pc := 101) (zk2 kX3_step_3) rfl ?_
                refine z_getf (pc := 102) (zk3 kX3_step_3) flX3_19 hT.1 (v := .int (nI (tkS (τ 5) N s))) (by rw [← f8]; rfl) ?_
                refine z_icmp_ne (pc := 105) (zk4 kX3_step_3) (tgt := 138) (by decide) (fun c_10 => ?_) (fun c_10 => ?_)
                · exact z_vret (pc := 138) (zk5 kX3_step_4) rfl (Nat.zero_le _) (Nat.zero_le _) ⟨_, rfl, hT, by rw [hsk]; exact f8, by rw [hsk]; exact f9, by rw [hsk, ← hr]; exact f10.trans (congrArg nI (ruN_h (fun q => c_10 (congrArg nI q))).symm), f12, hU, rfl⟩
                · refine z_aload_n (pc := 108) (zk5 kX3_step_3) rfl ?_
                  refine z_dup (pc := 109) (zk6 kX3_step_3) rfl ?_
                  refine z_getf (pc := 110) (zk7 kX3_step_3) flX3_25 hT.1 (v := .int (nI e)) (by rw [← f10]; rfl) ?_
                  refine z_iconst (pc := 113) (zk8 kX3_step_3) (v := 1) (by decide) ?_
                  refine z_iadd (pc := 114) (zk9 kX3_step_3) ?_
                  refine z_top (congrArg Value.int (nI_1 e)) ?_
                  refine z_Ta_w4 (pc := 115) (zk10 kX3_step_3) flX3_25 hT (by omega) (fun h_11 hR hU_12 => ?_)
                  replace hU := hU.tr hU_12 (by omega) (by omega)
                  replace hT := hR; clear hR
                  refine z_goto (pc := 118) (zk11 kX3_step_3) (tgt := 82) (by decide) ?_
                  exact ih82 h_11 (up2 w2 10 0 (nI (e + 1))) (e + 1) (by omega) hT f8 f9 rfl f12 (by omega) (by rw [← hr]; exact (ruN_s hlt2 ((nI_eqI (by have := tkS_le (τ 5) N e; omega) (by omega)).mp c_10)).symm) hU
          exact lp82 _ h_6 (up2 (up2 w1 10 0 (nI s)) 8 0 (nI (tkS (τ 5) N s))) s (Nat.lt_succ_self _) hT rfl h9 rfl h12 (by omega) (tkE_run (Or.inl ((nI_eqI (b := 1) (by omega) (by omega)).mp c_8))).symm hU
        · refine z_aload_n (pc := 74) (zk5 kX3_step_2) rfl ?_
          refine z_getf (pc := 75) (zk6 kX3_step_2) flX3_19 hT.1 (v := .int (nI (tkS (τ 5) N s))) rfl ?_
          refine z_iconst (pc := 78) (zk7 kX3_step_2) (v := 2) (by decide) ?_
          refine z_icmp_ne (pc := 79) (zk8 kX3_step_2) (tgt := 121) (by decide) (fun c_13 => ?_) (fun c_13 => ?_)
          · refine z_aload_n (pc := 121) (zk12 kX3_step_3) rfl ?_
            refine z_getf (pc := 122) (zk13 kX3_step_3) flX3_19 hT.1 (v := .int (nI (tkS (τ 5) N s))) rfl ?_
            refine z_if_eq (pc := 125) (zk14 kX3_step_3) (tgt := 138) (by decide) (fun c_14 => ?_) (fun c_14 => ?_)
            · exact z_vret (pc := 138) (zk5 kX3_step_4) rfl (Nat.zero_le _) (Nat.zero_le _) ⟨_, rfl, hT, by rw [hsk]; rfl, by rw [hsk]; exact h9, by rw [hsk, tkE_0 ((nI_eqI (b := 0) (by omega) (by omega)).mp c_14)]; rfl, h12, hU, rfl⟩
            · refine z_aload_n (pc := 128) (zk15 kX3_step_3) rfl ?_
              refine z_aload_n (pc := 129) (zk0 kX3_step_4) rfl ?_
              refine z_getf (pc := 130) (zk1 kX3_step_4) flX3_22 hT.1 (v := .int (nI s)) (by rw [← h9]; rfl) ?_
              refine z_iconst (pc := 133) (zk2 kX3_step_4) (v := 1) (by decide) ?_
              refine z_iadd (pc := 134) (zk3 kX3_step_4) ?_
              refine z_top (congrArg Value.int (nI_1 s)) ?_
              refine z_Ta_w4 (pc := 135) (zk4 kX3_step_4) flX3_25 hT (by omega) (fun h_15 hR hU_16 => ?_)
              replace hU := hU.tr hU_16 (by omega) (by omega)
              replace hT := hR; clear hR
              exact z_vret (pc := 138) (zk5 kX3_step_4) rfl (Nat.zero_le _) (Nat.zero_le _) ⟨_, rfl, hT, by rw [hsk]; rfl, by rw [hsk]; exact h9, by rw [hsk, tkE_1 (fun q => c_8 (congrArg nI q)) (fun q => c_13 (congrArg nI q)) (fun q => c_14 (congrArg nI q))]; rfl, h12, hU, rfl⟩
          · have lp82 : ∀ (n_ : Nat) (g2 : zH) (w2 : Ln) (e : Nat), N - e < n_ → (TaAt g2 pt τ w2) → (w2 8 0 = nI (tkS (τ 5) N s)) → (w2 9 0 = nI s) → (w2 10 0 = nI e) → (w2 12 0 = ω 12 0) → (s ≤ e ∧ e ≤ N) → (ruN (τ 5) N (tkS (τ 5) N s) (N - e) e = tkE (τ 5) N s) → (Upd h g2 pt 2) → Z D B xX3_step 0 0 (fun r h1 z1 => ∃ ω1 : Ln, r = none ∧ TaAt h1 pt τ ω1 ∧ ω1 8 0 = nI (tkS (τ 5) N (skp (τ 5) N a)) ∧ ω1 9 0 = nI (skp (τ 5) N a) ∧ ω1 10 0 = nI (tkE (τ 5) N (skp (τ 5) N a)) ∧ ω1 12 0 = ω 12 0 ∧ Upd h h1 pt 2 ∧ z1 = sz) 82 [some (.ref pt)] [] g2 sz := by
              intro n_
              induction n_ with
              | zero => intro g2 w2 e hm_; exact absurd hm_ (Nat.not_lt_zero _)
              | succ n_ ih82 =>
                intro g2 w2 e hm_ hT f8 f9 f10 f12 he hr hU
                refine z_aload_n (pc := 82) (zk9 kX3_step_2) rfl ?_
                refine z_getf (pc := 83) (zk10 kX3_step_2) flX3_25 hT.1 (v := .int (nI e)) (by rw [← f10]; rfl) ?_
                refine z_aload_n (pc := 86) (zk11 kX3_step_2) rfl ?_
                refine z_getf (pc := 87) (zk12 kX3_step_2) flX3_15 hT.1 (v := .int (nI N)) (by rw [← hN]; rfl) ?_
                refine z_icmp_ge (pc := 90) (zk13 kX3_step_2) (tgt := 138) (by decide) (fun c_17 => ?_) (fun c_17 => ?_)
                · exact z_vret (pc := 138) (zk5 kX3_step_4) rfl (Nat.zero_le _) (Nat.zero_le _) ⟨_, rfl, hT, by rw [hsk]; exact f8, by rw [hsk]; exact f9, by rw [hsk, ← hr]; exact f10.trans (congrArg nI (ruN_e ((nI_le_iff (by omega) (by omega)).mp c_17)).symm), f12, hU, rfl⟩
                · have hlt2 : e < N := nI_ge_not (a := N) (by omega) (by omega) c_17
                  refine z_aload_n (pc := 93) (zk14 kX3_step_2) rfl ?_
                  refine z_aload_n (pc := 94) (zk15 kX3_step_2) rfl ?_
                  refine z_getf (pc := 95) (zk0 kX3_step_3) flX3_25 hT.1 (v := .int (nI e)) (by rw [← f10]; rfl) ?_
                  refine z_rdV (pc := 98) (zk1 kX3_step_3) (st := []) lkX3_108 ivX3_sortAt hT.1 rfl rfl (c_sortAt hT hN hN2 (by omega)) rfl ⟨rfl, rfl⟩ rfl rfl ?_ rfl
                  refine z_aload_n (pc := 101) (zk2 kX3_step_3) rfl ?_
                  refine z_getf (pc := 102) (zk3 kX3_step_3) flX3_19 hT.1 (v := .int (nI (tkS (τ 5) N s))) (by rw [← f8]; rfl) ?_
                  refine z_icmp_ne (pc := 105) (zk4 kX3_step_3) (tgt := 138) (by decide) (fun c_18 => ?_) (fun c_18 => ?_)
                  · exact z_vret (pc := 138) (zk5 kX3_step_4) rfl (Nat.zero_le _) (Nat.zero_le _) ⟨_, rfl, hT, by rw [hsk]; exact f8, by rw [hsk]; exact f9, by rw [hsk, ← hr]; exact f10.trans (congrArg nI (ruN_h (fun q => c_18 (congrArg nI q))).symm), f12, hU, rfl⟩
                  · refine z_aload_n (pc := 108) (zk5 kX3_step_3) rfl ?_
                    refine z_dup (pc := 109) (zk6 kX3_step_3) rfl ?_
                    refine z_getf (pc := 110) (zk7 kX3_step_3) flX3_25 hT.1 (v := .int (nI e)) (by rw [← f10]; rfl) ?_
                    refine z_iconst (pc := 113) (zk8 kX3_step_3) (v := 1) (by decide) ?_
                    refine z_iadd (pc := 114) (zk9 kX3_step_3) ?_
                    refine z_top (congrArg Value.int (nI_1 e)) ?_
                    refine z_Ta_w4 (pc := 115) (zk10 kX3_step_3) flX3_25 hT (by omega) (fun h_19 hR hU_20 => ?_)
                    replace hU := hU.tr hU_20 (by omega) (by omega)
                    replace hT := hR; clear hR
                    refine z_goto (pc := 118) (zk11 kX3_step_3) (tgt := 82) (by decide) ?_
                    exact ih82 h_19 (up2 w2 10 0 (nI (e + 1))) (e + 1) (by omega) hT f8 f9 rfl f12 (by omega) (by rw [← hr]; exact (ruN_s hlt2 ((nI_eqI (by have := tkS_le (τ 5) N e; omega) (by omega)).mp c_18)).symm) hU
            exact lp82 _ h_6 (up2 (up2 w1 10 0 (nI s)) 8 0 (nI (tkS (τ 5) N s))) s (Nat.lt_succ_self _) hT rfl h9 rfl h12 (by omega) (tkE_run (Or.inr ((nI_eqI (b := 2) (by omega) (by omega)).mp c_13))).symm hU
      · have hlt : s < N := nI_ge_not (a := N) (by omega) (by omega) c_3
        refine z_aload_n (pc := 19) (zk9 kX3_step_0) rfl ?_
        refine z_getf (pc := 20) (zk10 kX3_step_0) flX3_9 hT.1 gTa_0 ?_
        refine z_aload_n (pc := 23) (zk11 kX3_step_0) rfl ?_
        refine z_getf (pc := 24) (zk12 kX3_step_0) flX3_22 hT.1 (v := .int (nI s)) (by rw [← h9]; rfl) ?_
        refine z_ialdN (pc := 27) (zk13 kX3_step_0) (f := τ 5) (j := s) hT.2 (show s < 250 by omega) rfl ?_
        refine z_bipush (pc := 28) (zk14 kX3_step_0) (v := 32) (by decide) ?_
        refine z_icmp_ne (pc := 30) (zk15 kX3_step_0) (tgt := 46) (by decide) (fun c_21 => ?_) (fun c_21 => ?_)
        · have hsk : skp (τ 5) N a = s := by rw [← hk]; exact skp_h c_21
          have htl := tkS_le (τ 5) N s
          refine z_aload_n (pc := 46) (zk7 kX3_step_1) rfl ?_
          refine z_aload_n (pc := 47) (zk8 kX3_step_1) rfl ?_
          refine z_getf (pc := 48) (zk9 kX3_step_1) flX3_22 hT.1 (v := .int (nI s)) (by rw [← h9]; rfl) ?_
          refine z_Ta_w4 (pc := 51) (zk10 kX3_step_1) flX3_25 hT (by omega) (fun h_22 hR hU_23 => ?_)
          replace hU := hU.tr hU_23 (by omega) (by omega)
          replace hT := hR; clear hR
          refine z_aload_n (pc := 54) (zk11 kX3_step_1) rfl ?_
          refine z_aload_n (pc := 55) (zk12 kX3_step_1) rfl ?_
          refine z_aload_n (pc := 56) (zk13 kX3_step_1) rfl ?_
          refine z_getf (pc := 57) (zk14 kX3_step_1) flX3_22 hT.1 (v := .int (nI s)) (by rw [← h9]; rfl) ?_
          refine z_rdV (pc := 60) (zk15 kX3_step_1) (st := [.ref pt]) lkX3_108 ivX3_sortAt hT.1 rfl rfl (c_sortAt hT hN hN2 (by omega)) rfl ⟨rfl, rfl⟩ rfl rfl ?_ rfl
          refine z_Ta_w2 (pc := 63) (zk0 kX3_step_2) flX3_19 hT (by omega) (fun h_24 hR hU_25 => ?_)
          replace hU := hU.tr hU_25 (by omega) (by omega)
          replace hT := hR; clear hR
          refine z_aload_n (pc := 66) (zk1 kX3_step_2) rfl ?_
          refine z_getf (pc := 67) (zk2 kX3_step_2) flX3_19 hT.1 (v := .int (nI (tkS (τ 5) N s))) rfl ?_
          refine z_iconst (pc := 70) (zk3 kX3_step_2) (v := 1) (by decide) ?_
          refine z_icmp_eq (pc := 71) (zk4 kX3_step_2) (tgt := 82) (by decide) (fun c_26 => ?_) (fun c_26 => ?_)
          · have lp82 : ∀ (n_ : Nat) (g2 : zH) (w2 : Ln) (e : Nat), N - e < n_ → (TaAt g2 pt τ w2) → (w2 8 0 = nI (tkS (τ 5) N s)) → (w2 9 0 = nI s) → (w2 10 0 = nI e) → (w2 12 0 = ω 12 0) → (s ≤ e ∧ e ≤ N) → (ruN (τ 5) N (tkS (τ 5) N s) (N - e) e = tkE (τ 5) N s) → (Upd h g2 pt 2) → Z D B xX3_step 0 0 (fun r h1 z1 => ∃ ω1 : Ln, r = none ∧ TaAt h1 pt τ ω1 ∧ ω1 8 0 = nI (tkS (τ 5) N (skp (τ 5) N a)) ∧ ω1 9 0 = nI (skp (τ 5) N a) ∧ ω1 10 0 = nI (tkE (τ 5) N (skp (τ 5) N a)) ∧ ω1 12 0 = ω 12 0 ∧ Upd h h1 pt 2 ∧ z1 = sz) 82 [some (.ref pt)] [] g2 sz := by
              intro n_
              induction n_ with
              | zero => intro g2 w2 e hm_; exact absurd hm_ (Nat.not_lt_zero _)
              | succ n_ ih82 =>
                intro g2 w2 e hm_ hT f8 f9 f10 f12 he hr hU
                refine z_aload_n (pc := 82) (zk9 kX3_step_2) rfl ?_
                refine z_getf (pc := 83) (zk10 kX3_step_2) flX3_25 hT.1 (v := .int (nI e)) (by rw [← f10]; rfl) ?_
                refine z_aload_n (pc := 86) (zk11 kX3_step_2) rfl ?_
                refine z_getf (pc := 87) (zk12 kX3_step_2) flX3_15 hT.1 (v := .int (nI N)) (by rw [← hN]; rfl) ?_
                refine z_icmp_ge (pc := 90) (zk13 kX3_step_2) (tgt := 138) (by decide) (fun c_27 => ?_) (fun c_27 => ?_)
                · exact z_vret (pc := 138) (zk5 kX3_step_4) rfl (Nat.zero_le _) (Nat.zero_le _) ⟨_, rfl, hT, by rw [hsk]; exact f8, by rw [hsk]; exact f9, by rw [hsk, ← hr]; exact f10.trans (congrArg nI (ruN_e ((nI_le_iff (by omega) (by omega)).mp c_27)).symm), f12, hU, rfl⟩
                · have hlt2 : e < N := nI_ge_not (a := N) (by omega) (by omega) c_27
                  refine z_aload_n (pc := 93) (zk14 kX3_step_2) rfl ?_
                  refine z_aload_n (pc := 94) (zk15 kX3_step_2) rfl ?_
                  refine z_getf (pc := 95) (zk0 kX3_step_3) flX3_25 hT.1 (v := .int (nI e)) (by rw [← f10]; rfl) ?_
                  refine z_rdV (pc := 98) (zk1 kX3_step_3) (st := []) lkX3_108 ivX3_sortAt hT.1 rfl rfl (c_sortAt hT hN hN2 (by omega)) rfl ⟨rfl, rfl⟩ rfl rfl ?_ rfl
                  refine z_aload_n (pc := 101) (zk2 kX3_step_3) rfl ?_
                  refine z_getf (pc := 102) (zk3 kX3_step_3) flX3_19 hT.1 (v := .int (nI (tkS (τ 5) N s))) (by rw [← f8]; rfl) ?_
                  refine z_icmp_ne (pc := 105) (zk4 kX3_step_3) (tgt := 138) (by decide) (fun c_28 => ?_) (fun c_28 => ?_)
                  · exact z_vret (pc := 138) (zk5 kX3_step_4) rfl (Nat.zero_le _) (Nat.zero_le _) ⟨_, rfl, hT, by rw [hsk]; exact f8, by rw [hsk]; exact f9, by rw [hsk, ← hr]; exact f10.trans (congrArg nI (ruN_h (fun q => c_28 (congrArg nI q))).symm), f12, hU, rfl⟩
                  · refine z_aload_n (pc := 108) (zk5 kX3_step_3) rfl ?_
                    refine z_dup (pc := 109) (zk6 kX3_step_3) rfl ?_
                    refine z_getf (pc := 110) (zk7 kX3_step_3) flX3_25 hT.1 (v := .int (nI e)) (by rw [← f10]; rfl) ?_
                    refine z_iconst (pc := 113) (zk8 kX3_step_3) (v := 1) (by decide) ?_
                    refine z_iadd (pc := 114) (zk9 kX3_step_3) ?_
                    refine z_top (congrArg Value.int (nI_1 e)) ?_
                    refine z_Ta_w4 (pc := 115) (zk10 kX3_step_3) flX3_25 hT (by omega) (fun h_29 hR hU_30 => ?_)
                    replace hU := hU.tr hU_30 (by omega) (by omega)
                    replace hT := hR; clear hR
                    refine z_goto (pc := 118) (zk11 kX3_step_3) (tgt := 82) (by decide) ?_
                    exact ih82 h_29 (up2 w2 10 0 (nI (e + 1))) (e + 1) (by omega) hT f8 f9 rfl f12 (by omega) (by rw [← hr]; exact (ruN_s hlt2 ((nI_eqI (by have := tkS_le (τ 5) N e; omega) (by omega)).mp c_28)).symm) hU
            exact lp82 _ h_24 (up2 (up2 w1 10 0 (nI s)) 8 0 (nI (tkS (τ 5) N s))) s (Nat.lt_succ_self _) hT rfl h9 rfl h12 (by omega) (tkE_run (Or.inl ((nI_eqI (b := 1) (by omega) (by omega)).mp c_26))).symm hU
          · refine z_aload_n (pc := 74) (zk5 kX3_step_2) rfl ?_
            refine z_getf (pc := 75) (zk6 kX3_step_2) flX3_19 hT.1 (v := .int (nI (tkS (τ 5) N s))) rfl ?_
            refine z_iconst (pc := 78) (zk7 kX3_step_2) (v := 2) (by decide) ?_
            refine z_icmp_ne (pc := 79) (zk8 kX3_step_2) (tgt := 121) (by decide) (fun c_31 => ?_) (fun c_31 => ?_)
            · refine z_aload_n (pc := 121) (zk12 kX3_step_3) rfl ?_
              refine z_getf (pc := 122) (zk13 kX3_step_3) flX3_19 hT.1 (v := .int (nI (tkS (τ 5) N s))) rfl ?_
              refine z_if_eq (pc := 125) (zk14 kX3_step_3) (tgt := 138) (by decide) (fun c_32 => ?_) (fun c_32 => ?_)
              · exact z_vret (pc := 138) (zk5 kX3_step_4) rfl (Nat.zero_le _) (Nat.zero_le _) ⟨_, rfl, hT, by rw [hsk]; rfl, by rw [hsk]; exact h9, by rw [hsk, tkE_0 ((nI_eqI (b := 0) (by omega) (by omega)).mp c_32)]; rfl, h12, hU, rfl⟩
              · refine z_aload_n (pc := 128) (zk15 kX3_step_3) rfl ?_
                refine z_aload_n (pc := 129) (zk0 kX3_step_4) rfl ?_
                refine z_getf (pc := 130) (zk1 kX3_step_4) flX3_22 hT.1 (v := .int (nI s)) (by rw [← h9]; rfl) ?_
                refine z_iconst (pc := 133) (zk2 kX3_step_4) (v := 1) (by decide) ?_
                refine z_iadd (pc := 134) (zk3 kX3_step_4) ?_
                refine z_top (congrArg Value.int (nI_1 s)) ?_
                refine z_Ta_w4 (pc := 135) (zk4 kX3_step_4) flX3_25 hT (by omega) (fun h_33 hR hU_34 => ?_)
                replace hU := hU.tr hU_34 (by omega) (by omega)
                replace hT := hR; clear hR
                exact z_vret (pc := 138) (zk5 kX3_step_4) rfl (Nat.zero_le _) (Nat.zero_le _) ⟨_, rfl, hT, by rw [hsk]; rfl, by rw [hsk]; exact h9, by rw [hsk, tkE_1 (fun q => c_26 (congrArg nI q)) (fun q => c_31 (congrArg nI q)) (fun q => c_32 (congrArg nI q))]; rfl, h12, hU, rfl⟩
            · have lp82 : ∀ (n_ : Nat) (g2 : zH) (w2 : Ln) (e : Nat), N - e < n_ → (TaAt g2 pt τ w2) → (w2 8 0 = nI (tkS (τ 5) N s)) → (w2 9 0 = nI s) → (w2 10 0 = nI e) → (w2 12 0 = ω 12 0) → (s ≤ e ∧ e ≤ N) → (ruN (τ 5) N (tkS (τ 5) N s) (N - e) e = tkE (τ 5) N s) → (Upd h g2 pt 2) → Z D B xX3_step 0 0 (fun r h1 z1 => ∃ ω1 : Ln, r = none ∧ TaAt h1 pt τ ω1 ∧ ω1 8 0 = nI (tkS (τ 5) N (skp (τ 5) N a)) ∧ ω1 9 0 = nI (skp (τ 5) N a) ∧ ω1 10 0 = nI (tkE (τ 5) N (skp (τ 5) N a)) ∧ ω1 12 0 = ω 12 0 ∧ Upd h h1 pt 2 ∧ z1 = sz) 82 [some (.ref pt)] [] g2 sz := by
                intro n_
                induction n_ with
                | zero => intro g2 w2 e hm_; exact absurd hm_ (Nat.not_lt_zero _)
                | succ n_ ih82 =>
                  intro g2 w2 e hm_ hT f8 f9 f10 f12 he hr hU
                  refine z_aload_n (pc := 82) (zk9 kX3_step_2) rfl ?_
                  refine z_getf (pc := 83) (zk10 kX3_step_2) flX3_25 hT.1 (v := .int (nI e)) (by rw [← f10]; rfl) ?_
                  refine z_aload_n (pc := 86) (zk11 kX3_step_2) rfl ?_
                  refine z_getf (pc := 87) (zk12 kX3_step_2) flX3_15 hT.1 (v := .int (nI N)) (by rw [← hN]; rfl) ?_
                  refine z_icmp_ge (pc := 90) (zk13 kX3_step_2) (tgt := 138) (by decide) (fun c_35 => ?_) (fun c_35 => ?_)
                  · exact z_vret (pc := 138) (zk5 kX3_step_4) rfl (Nat.zero_le _) (Nat.zero_le _) ⟨_, rfl, hT, by rw [hsk]; exact f8, by rw [hsk]; exact f9, by rw [hsk, ← hr]; exact f10.trans (congrArg nI (ruN_e ((nI_le_iff (by omega) (by omega)).mp c_35)).symm), f12, hU, rfl⟩
                  · have hlt2 : e < N := nI_ge_not (a := N) (by omega) (by omega) c_35
                    refine z_aload_n (pc := 93) (zk14 kX3_step_2) rfl ?_
                    refine z_aload_n (pc := 94) (zk15 kX3_step_2) rfl ?_
                    refine z_getf (pc := 95) (zk0 kX3_step_3) flX3_25 hT.1 (v := .int (nI e)) (by rw [← f10]; rfl) ?_
                    refine z_rdV (pc := 98) (zk1 kX3_step_3) (st := []) lkX3_108 ivX3_sortAt hT.1 rfl rfl (c_sortAt hT hN hN2 (by omega)) rfl ⟨rfl, rfl⟩ rfl rfl ?_ rfl
                    refine z_aload_n (pc := 101) (zk2 kX3_step_3) rfl ?_
                    refine z_getf (pc := 102) (zk3 kX3_step_3) flX3_19 hT.1 (v := .int (nI (tkS (τ 5) N s))) (by rw [← f8]; rfl) ?_
                    refine z_icmp_ne (pc := 105) (zk4 kX3_step_3) (tgt := 138) (by decide) (fun c_36 => ?_) (fun c_36 => ?_)
                    · exact z_vret (pc := 138) (zk5 kX3_step_4) rfl (Nat.zero_le _) (Nat.zero_le _) ⟨_, rfl, hT, by rw [hsk]; exact f8, by rw [hsk]; exact f9, by rw [hsk, ← hr]; exact f10.trans (congrArg nI (ruN_h (fun q => c_36 (congrArg nI q))).symm), f12, hU, rfl⟩
                    · refine z_aload_n (pc := 108) (zk5 kX3_step_3) rfl ?_
                      refine z_dup (pc := 109) (zk6 kX3_step_3) rfl ?_
                      refine z_getf (pc := 110) (zk7 kX3_step_3) flX3_25 hT.1 (v := .int (nI e)) (by rw [← f10]; rfl) ?_
                      refine z_iconst (pc := 113) (zk8 kX3_step_3) (v := 1) (by decide) ?_
                      refine z_iadd (pc := 114) (zk9 kX3_step_3) ?_
                      refine z_top (congrArg Value.int (nI_1 e)) ?_
                      refine z_Ta_w4 (pc := 115) (zk10 kX3_step_3) flX3_25 hT (by omega) (fun h_37 hR hU_38 => ?_)
                      replace hU := hU.tr hU_38 (by omega) (by omega)
                      replace hT := hR; clear hR
                      refine z_goto (pc := 118) (zk11 kX3_step_3) (tgt := 82) (by decide) ?_
                      exact ih82 h_37 (up2 w2 10 0 (nI (e + 1))) (e + 1) (by omega) hT f8 f9 rfl f12 (by omega) (by rw [← hr]; exact (ruN_s hlt2 ((nI_eqI (by have := tkS_le (τ 5) N e; omega) (by omega)).mp c_36)).symm) hU
              exact lp82 _ h_24 (up2 (up2 w1 10 0 (nI s)) 8 0 (nI (tkS (τ 5) N s))) s (Nat.lt_succ_self _) hT rfl h9 rfl h12 (by omega) (tkE_run (Or.inr ((nI_eqI (b := 2) (by omega) (by omega)).mp c_31))).symm hU
        · refine z_aload_n (pc := 33) (zk0 kX3_step_1) rfl ?_
          refine z_dup (pc := 34) (zk1 kX3_step_1) rfl ?_
          refine z_getf (pc := 35) (zk2 kX3_step_1) flX3_22 hT.1 (v := .int (nI s)) (by rw [← h9]; rfl) ?_
          refine z_iconst (pc := 38) (zk3 kX3_step_1) (v := 1) (by decide) ?_
          refine z_iadd (pc := 39) (zk4 kX3_step_1) ?_
          refine z_top (congrArg Value.int (nI_1 s)) ?_
          refine z_Ta_w3 (pc := 40) (zk5 kX3_step_1) flX3_22 hT (by omega) (fun h_39 hR hU_40 => ?_)
          replace hU := hU.tr hU_40 (by omega) (by omega)
          replace hT := hR; clear hR
          refine z_goto (pc := 43) (zk6 kX3_step_1) (tgt := 8) (by decide) ?_
          exact ih8 h_39 (up2 w1 9 0 (nI (s + 1))) (s + 1) (by omega) hT rfl h12 (by omega) (by rw [← hk]; exact (skp_s hlt c_21).symm) hU
  exact lp8 _ h_1 (up2 ω 9 0 (nI a)) a (Nat.lt_succ_self _) hT rfl rfl ha2 rfl hU
set_option maxRecDepth 20000 in
theorem c_blame {D : zD} {B : Nat} {h : zH} {sz : Nat} {pt : Nat} {τ ω : Ln} {x : Int32} (hT : TaAt h pt τ ω) (hB : B ≤ pt) (hf : ω 12 0 = -1) : zM D B xX3_blame [.ref pt, .int x] h sz (fun r h1 z1 => r = none ∧ TaAt h1 pt τ (up2 ω 12 0 x) ∧ Upd h h1 pt 2 ∧ z1 = sz) := by
  have hU : Upd h h pt 2 := Upd.rf
  refine zM.of (by decide) rfl (n := 0) ?_
  show Z D B xX3_blame 0 0 _ 0 [some (.ref pt), some (.int x)] [] h sz
  refine z_aload_n (pc := 0) (zk0 kX3_blame_0) rfl ?_
  refine z_getf (pc := 1) (zk1 kX3_blame_0) flX3_28 hT.1 (v := .int (-1)) (by rw [← hf]; rfl) ?_
  refine z_iconst (pc := 4) (zk2 kX3_blame_0) (v := (-1)) (by decide) ?_
  refine z_icmp_ne (pc := 5) (zk3 kX3_blame_0) (tgt := 13) (by decide) (fun q => absurd (by decide) q) (fun _ => ?_)
  refine z_aload_n (pc := 8) (zk4 kX3_blame_0) rfl ?_
  refine z_iload_n (pc := 9) (zk5 kX3_blame_0) rfl ?_
  refine z_Ta_w5 (pc := 10) (zk6 kX3_blame_0) flX3_28 hT (by omega) (fun h_1 hR hU_2 => ?_)
  replace hU := hU.tr hU_2 (by omega) (by omega)
  replace hT := hR; clear hR
  exact z_vret (pc := 13) (zk7 kX3_blame_0) rfl (Nat.zero_le _) (Nat.zero_le _) ⟨rfl, hT, hU, rfl⟩
set_option maxRecDepth 20000 in
theorem c_isWord {D : zD} {B : Nat} {h : zH} {sz : Nat} {pt : Nat} {τ ω : Ln} {s e i : Nat} (hT : TaAt h pt τ ω) (h9 : ω 9 0 = nI s) (h10 : ω 10 0 = nI e) (hse : s ≤ e ∧ e ≤ 250) (hi : i < 8) : zRd D B xX3_isWord [.ref pt, .ref (D.2.2.2.1 i)] h sz (.int (oI (wrd (τ 5) s e i))) := by
  refine zM.of (by decide) rfl (n := 1) ?_
  show Z D B xX3_isWord 0 0 _ 0 [some (.ref pt), some (.ref (D.2.2.2.1 i)), none] [] h sz
  refine z_aload_n (pc := 0) (zk0 kX3_isWord_0) rfl ?_
  refine z_getf (pc := 1) (zk1 kX3_isWord_0) flX3_25 hT.1 (v := .int (nI e)) (by rw [← h10]; rfl) ?_
  refine z_aload_n (pc := 4) (zk2 kX3_isWord_0) rfl ?_
  refine z_getf (pc := 5) (zk3 kX3_isWord_0) flX3_22 hT.1 (v := .int (nI s)) (by rw [← h9]; rfl) ?_
  refine z_isub (pc := 8) (zk4 kX3_isWord_0) ?_
  refine z_top (congrArg Value.int (nI_sub1 (show s ≤ e by omega))) ?_
  refine z_aload_n (pc := 9) (zk5 kX3_isWord_0) rfl ?_
  refine z_rdT (pc := 10) (zk6 kX3_isWord_0) (st := [.int (nI (e - s))]) lkX3_112 ivJ0_length_8abf5 rfl hi (c_txLen hi) rfl ⟨rfl, rfl⟩ rfl rfl ?_ rfl
  refine z_icmp_eq (pc := 13) (zk7 kX3_isWord_0) (tgt := 18) (by decide) (fun c_1 => ?_) (fun c_1 => ?_)
  · have hel : e - s = zLen.getD i 0 := (nI_eqI (by omega) (by have := tx_le i hi; omega)).mp c_1
    refine z_aload_n (pc := 18) (zk10 kX3_isWord_0) rfl ?_
    refine z_getf (pc := 19) (zk11 kX3_isWord_0) flX3_22 hT.1 (v := .int (nI s)) (by rw [← h9]; rfl) ?_
    refine z_istore_n (pc := 22) (zk12 kX3_isWord_0) rfl rfl ?_
    show Z D B xX3_isWord _ _ _ 23 [some (.ref pt), some (.ref (D.2.2.2.1 i)), some (.int (nI s))] _ _ _
    have lp23 : ∀ (n_ : Nat) (j : Nat), e - j < n_ → (s ≤ j) → (j ≤ e) → (wrB (τ 5) s i (j - s) = true) → Z D B xX3_isWord 0 0 (fun r h1 z1 => r = some (.int (oI (wrd (τ 5) s e i))) ∧ h1 = h ∧ z1 = sz) 23 [some (.ref pt), some (.ref (D.2.2.2.1 i)), some (.int (nI j))] [] h sz := by
      intro n_
      induction n_ with
      | zero => intro j hm_; exact absurd hm_ (Nat.not_lt_zero _)
      | succ n_ ih23 =>
        intro j hm_ h0_j hi_j hw_
        refine z_iload_n (pc := 23) (zk13 kX3_isWord_0) rfl ?_
        refine z_aload_n (pc := 24) (zk14 kX3_isWord_0) rfl ?_
        refine z_getf (pc := 25) (zk15 kX3_isWord_0) flX3_25 hT.1 (v := .int (nI e)) (by rw [← h10]; rfl) ?_
        refine z_icmp_ge (pc := 28) (zk0 kX3_isWord_1) (tgt := 58) (by decide) (fun c_2 => ?_) (fun c_2 => ?_)
        · have hie_j : j = e := nI_ge_yes (a := e) (by omega) (by omega) (by omega) c_2
          refine z_iconst (pc := 58) (zk0 kX3_isWord_2) (v := 1) (by decide) ?_
          exact z_zret (pc := 59) (zk1 kX3_isWord_2) rfl (Nat.zero_le _) (Nat.zero_le _) (by decide) ⟨by rw [wrd, ← hel, decide_eq_true rfl, ← hie_j, hw_]; rfl, rfl, rfl⟩
        · have hlt_j : j < e := nI_ge_not (a := e) (by omega) (by omega) c_2
          refine z_aload_n (pc := 31) (zk1 kX3_isWord_1) rfl ?_
          refine z_getf (pc := 32) (zk2 kX3_isWord_1) flX3_9 hT.1 gTa_0 ?_
          refine z_iload_n (pc := 35) (zk3 kX3_isWord_1) rfl ?_
          refine z_ialdN (pc := 36) (zk4 kX3_isWord_1) (f := τ 5) (j := j) hT.2 (show j < 250 by omega) rfl ?_
          refine z_aload_n (pc := 37) (zk5 kX3_isWord_1) rfl ?_
          refine z_iload_n (pc := 38) (zk6 kX3_isWord_1) rfl ?_
          refine z_aload_n (pc := 39) (zk7 kX3_isWord_1) rfl ?_
          refine z_getf (pc := 40) (zk8 kX3_isWord_1) flX3_22 hT.1 (v := .int (nI s)) (by rw [← h9]; rfl) ?_
          refine z_isub (pc := 43) (zk9 kX3_isWord_1) ?_
          refine z_top (congrArg Value.int (nI_sub1 (show s ≤ j by omega))) ?_
          refine z_rdT (pc := 44) (zk10 kX3_isWord_1) (st := [.int (τ 5 j)]) lkX3_118 ivJ0_charAt_5068e rfl hi (c_chr hi (show j - s < zLen.getD i 0 by omega) (by omega)) rfl ⟨rfl, rfl⟩ rfl rfl ?_ rfl
          refine z_icmp_eq (pc := 47) (zk11 kX3_isWord_1) (tgt := 52) (by decide) (fun c_3 => ?_) (fun c_3 => ?_)
          · refine z_iinc (pc := 52) (zk14 kX3_isWord_1) (v := nI (j + 1)) rfl zinc rfl rfl ?_
            show Z D B xX3_isWord _ _ _ 55 [some (.ref pt), some (.ref (D.2.2.2.1 i)), some (.int (nI (j + 1)))] _ _ _
            refine z_goto (pc := 55) (zk15 kX3_isWord_1) (tgt := 23) (by decide) ?_
            exact ih23 (j + 1) (by omega) (by omega) (by omega) (by rw [show j + 1 - s = (j - s) + 1 by omega, wrB, hw_, show s + (j - s) = j by omega, decide_eq_true c_3]; rfl)
          · refine z_iconst (pc := 50) (zk12 kX3_isWord_1) (v := 0) (by decide) ?_
            exact z_zret (pc := 51) (zk13 kX3_isWord_1) rfl (Nat.zero_le _) (Nat.zero_le _) (by decide) ⟨by rw [wrd, ← hel, decide_eq_true rfl, wrB_f (j := j - s) (show ¬ (τ 5) (s + (j - s)) = _ from by rw [show s + (j - s) = j by omega]; exact c_3) (show j - s < e - s by omega)]; rfl, rfl, rfl⟩
    exact lp23 _ s (Nat.lt_succ_self _) (by omega) (by omega) (by rw [Nat.sub_self]; rfl)
  · refine z_iconst (pc := 16) (zk8 kX3_isWord_0) (v := 0) (by decide) ?_
    exact z_zret (pc := 17) (zk9 kX3_isWord_0) rfl (Nat.zero_le _) (Nat.zero_le _) (by decide) ⟨by rw [wrd, decide_eq_false (fun q => c_1 (congrArg nI q))]; rfl, rfl, rfl⟩
set_option maxRecDepth 20000 in
theorem c_rnF {D : zD} {B : Nat} {h : zH} {sz : Nat} {pt : Nat} {τ ω : Ln} {a b x : Int32} (hT : TaAt h pt τ ω) (hf : ¬ ω 12 0 = -1) : zRd D B xX3_readNumber [.ref pt, .int a, .int b] h sz (.int a) := by
  refine zM.of (by decide) rfl (n := 2) ?_
  show Z D B xX3_readNumber 0 0 _ 0 [some (.ref pt), some (.int a), some (.int b), none, none] [] h sz
  refine z_aload_n (pc := 0) (zk0 kX3_readNumber_0) rfl ?_
  refine z_getf (pc := 1) (zk1 kX3_readNumber_0) flX3_28 hT.1 (v := .int (ω 12 0)) rfl ?_
  refine z_iconst (pc := 4) (zk2 kX3_readNumber_0) (v := (-1)) (by decide) ?_
  refine z_icmp_eq (pc := 5) (zk3 kX3_readNumber_0) (tgt := 10) (by decide) (fun q => absurd q hf) (fun _ => ?_)
  refine z_iload_n (pc := 8) (zk4 kX3_readNumber_0) rfl ?_
  exact z_iret (pc := 9) (zk5 kX3_readNumber_0) rfl (Nat.zero_le _) (Nat.zero_le _) ⟨rfl, rfl, rfl⟩
theorem num_3 {f : Nat → Int32} {N s : Nat} {lo hi : Int32} (hh : hi < 1000) (q : tkS f N s = 2 ∧ okR lo hi (fgF f N s) = true) (h : ¬ tkE f N s - s ≤ 2) : False := by
  obtain ⟨q1, q2⟩ := q
  rw [fgF, if_pos q1, if_neg h] at q2
  exact absurd (of_decide_eq_true (Bool.and_eq_true_iff.mp q2).2) (Int32.not_le.mpr hh)
set_option maxRecDepth 20000 in
theorem c_rn {D : zD} {B : Nat} {h : zH} {sz : Nat} {pt : Nat} {τ ω : Ln} {N a : Nat} {lo hi : Int32} (hT : TaAt h pt τ ω) (hN : τ 6 0 = nI N) (hN2 : N ≤ 250) (ha : ω 10 0 = nI a) (ha2 : a ≤ N) (hf : ω 12 0 = -1) (hh : hi < 1000) (hB : B ≤ pt) : zM D B xX3_readNumber [.ref pt, .int lo, .int hi] h sz (fun r h1 z1 => ((∃ (v : Int32) (e : Nat) (ω1 : Ln), numR (τ 5) N lo hi a = .ok (v, e) ∧ r = some (.int v) ∧ TaAt h1 pt τ ω1 ∧ ω1 12 0 = -1 ∧ ω1 10 0 = nI e) ∨ ∃ (x : Nat) (ω1 : Ln), numR (τ 5) N lo hi a = .error x ∧ r = some (.int lo) ∧ TaAt h1 pt τ ω1 ∧ ω1 12 0 = nI x) ∧ Upd h h1 pt 2 ∧ z1 = sz) := by
  have hU : Upd h h pt 2 := Upd.rf
  refine zM.of (by decide) rfl (n := 2) ?_
  show Z D B xX3_readNumber 0 0 _ 0 [some (.ref pt), some (.int lo), some (.int hi), none, none] [] h sz
  refine z_aload_n (pc := 0) (zk0 kX3_readNumber_0) rfl ?_
  refine z_getf (pc := 1) (zk1 kX3_readNumber_0) flX3_28 hT.1 (v := .int (-1)) (by rw [← hf]; rfl) ?_
  refine z_iconst (pc := 4) (zk2 kX3_readNumber_0) (v := (-1)) (by decide) ?_
  refine z_icmp_eq (pc := 5) (zk3 kX3_readNumber_0) (tgt := 10) (by decide) (fun _ => ?_) (fun q => absurd (by decide) q)
  refine z_aload_n (pc := 10) (zk6 kX3_readNumber_0) rfl ?_
  refine z_efV (pc := 11) (zk7 kX3_readNumber_0) (st := []) lkX3_35 ivX3_step hT.1 rfl rfl (c_step hT hN hN2 ha (by omega) (by omega)) rfl ⟨rfl, rfl⟩ rfl rfl (fun r_ h_2 z_ q_1 => ?_) rfl
  obtain ⟨w_k_4, er_, hR, e8_k_4, e9_k_4, e10_k_4, e12_k_4, hU_3, ez_⟩ := q_1
  rw [er_, ez_]
  clear er_ ez_
  replace hU := hU.tr hU_3 (by omega) (by omega)
  replace hT := hR; clear hR
  obtain ⟨s_k_4, es_k_4⟩ : ∃ s_, s_ = skp (τ 5) N a := ⟨_, rfl⟩
  rw [← es_k_4] at e8_k_4 e9_k_4 e10_k_4
  have hs_k_4 := skp_ge (f := τ 5) (N := N) (a := a) (by omega)
  rw [← es_k_4] at hs_k_4
  have ht_k_4 := tkE_le (f := τ 5) (N := N) (s := s_k_4) hs_k_4.2
  have hk_k_4 := tkS_le (τ 5) N s_k_4
  show Z D B xX3_readNumber _ _ _ 14 _ [] _ _
  refine z_aload_n (pc := 14) (zk8 kX3_readNumber_0) rfl ?_
  refine z_getf (pc := 15) (zk9 kX3_readNumber_0) flX3_19 hT.1 (v := .int (nI (tkS (τ 5) N s_k_4))) (by rw [← e8_k_4]; rfl) ?_
  refine z_iconst (pc := 18) (zk10 kX3_readNumber_0) (v := 2) (by decide) ?_
  refine z_icmp_ne (pc := 19) (zk11 kX3_readNumber_0) (tgt := 35) (by decide) (fun c_5 => ?_) (fun c_5 => ?_)
  · refine z_aload_n (pc := 35) (zk3 kX3_readNumber_1) rfl ?_
    refine z_aload_n (pc := 36) (zk4 kX3_readNumber_1) rfl ?_
    refine z_getf (pc := 37) (zk5 kX3_readNumber_1) flX3_22 hT.1 (v := .int (nI s_k_4)) (by rw [← e9_k_4]; rfl) ?_
    refine z_efV (pc := 40) (zk6 kX3_readNumber_1) (st := []) lkX3_42 ivX3_blame hT.1 rfl rfl (c_blame hT (by omega) (e12_k_4.trans hf)) rfl ⟨rfl, rfl⟩ rfl rfl (fun r_ h_7 z_ q_6 => ?_) rfl
    obtain ⟨er_, hR, hU_8, ez_⟩ := q_6
    rw [er_, ez_]
    clear er_ ez_
    replace hU := hU.tr hU_8 (by omega) (by omega)
    replace hT := hR; clear hR
    show Z D B xX3_readNumber _ _ _ 43 _ [] _ _
    refine z_iload_n (pc := 43) (zk7 kX3_readNumber_1) rfl ?_
    exact z_iret (pc := 44) (zk8 kX3_readNumber_1) rfl (Nat.zero_le _) (Nat.zero_le _) ⟨Or.inr ⟨_, _, numR_n (fun q => by rw [← es_k_4] at q; exact c_5 (congrArg nI q.1)), rfl, hT, by rw [← es_k_4]; rfl⟩, hU, rfl⟩
  · refine z_aload_n (pc := 22) (zk12 kX3_readNumber_0) rfl ?_
    refine z_getf (pc := 23) (zk13 kX3_readNumber_0) flX3_25 hT.1 (v := .int (nI (tkE (τ 5) N s_k_4))) (by rw [← e10_k_4]; rfl) ?_
    refine z_aload_n (pc := 26) (zk14 kX3_readNumber_0) rfl ?_
    refine z_getf (pc := 27) (zk15 kX3_readNumber_0) flX3_22 hT.1 (v := .int (nI s_k_4)) (by rw [← e9_k_4]; rfl) ?_
    refine z_isub (pc := 30) (zk0 kX3_readNumber_1) ?_
    refine z_top (congrArg Value.int (nI_sub1 ht_k_4.1)) ?_
    refine z_iconst (pc := 31) (zk1 kX3_readNumber_1) (v := 2) (by decide) ?_
    refine z_icmp_le (pc := 32) (zk2 kX3_readNumber_1) (tgt := 45) (by decide) (fun c_9 => ?_) (fun c_9 => ?_)
    · have hk2 : tkS (τ 5) N s_k_4 = 2 := (nI_eqI (b := 2) (by omega) (by omega)).mp c_5
      have hd2 : tkE (τ 5) N s_k_4 - s_k_4 ≤ 2 := (nI_le_iff (b := 2) (by omega) (by omega)).mp c_9
      refine z_iconst (pc := 45) (zk9 kX3_readNumber_1) (v := 0) (by decide) ?_
      refine z_istore_n (pc := 46) (zk10 kX3_readNumber_1) rfl rfl ?_
      show Z D B xX3_readNumber _ _ _ 47 [some (.ref pt), some (.int lo), some (.int hi), some (.int 0), none] _ _ _
      refine z_aload_n (pc := 47) (zk11 kX3_readNumber_1) rfl ?_
      refine z_getf (pc := 48) (zk12 kX3_readNumber_1) flX3_22 hT.1 (v := .int (nI s_k_4)) (by rw [← e9_k_4]; rfl) ?_
      refine z_istore (pc := 51) (zk13 kX3_readNumber_1) rfl rfl ?_
      show Z D B xX3_readNumber _ _ _ 53 [some (.ref pt), some (.int lo), some (.int hi), some (.int 0), some (.int (nI s_k_4))] _ _ _
      have lp53 : ∀ (n_ : Nat) (t : Int32) (i : Nat), (tkE (τ 5) N s_k_4) - i < n_ → (s_k_4 ≤ i) → (i ≤ (tkE (τ 5) N s_k_4)) → (t = nuV (τ 5) s_k_4 (i - s_k_4)) → Z D B xX3_readNumber 0 0 (fun r h1 z1 => ((∃ (v : Int32) (e : Nat) (ω1 : Ln), numR (τ 5) N lo hi a = .ok (v, e) ∧ r = some (.int v) ∧ TaAt h1 pt τ ω1 ∧ ω1 12 0 = -1 ∧ ω1 10 0 = nI e) ∨ ∃ (x : Nat) (ω1 : Ln), numR (τ 5) N lo hi a = .error x ∧ r = some (.int lo) ∧ TaAt h1 pt τ ω1 ∧ ω1 12 0 = nI x) ∧ Upd h h1 pt 2 ∧ z1 = sz) 53 [some (.ref pt), some (.int lo), some (.int hi), some (.int t), some (.int (nI i))] [] h_2 sz := by
        intro n_
        induction n_ with
        | zero => intro t i hm_; exact absurd hm_ (Nat.not_lt_zero _)
        | succ n_ ih53 =>
          intro t i hm_ h0_i hi_i ht
          refine z_iload (pc := 53) (zk14 kX3_readNumber_1) rfl ?_
          refine z_aload_n (pc := 55) (zk15 kX3_readNumber_1) rfl ?_
          refine z_getf (pc := 56) (zk0 kX3_readNumber_2) flX3_25 hT.1 (v := .int (nI (tkE (τ 5) N s_k_4))) (by rw [← e10_k_4]; rfl) ?_
          refine z_icmp_ge (pc := 59) (zk1 kX3_readNumber_2) (tgt := 84) (by decide) (fun c_10 => ?_) (fun c_10 => ?_)
          · have hie_i : i = (tkE (τ 5) N s_k_4) := nI_ge_yes (a := (tkE (τ 5) N s_k_4)) (by omega) (by omega) (by omega) c_10
            have hfg : t = fgF (τ 5) N s_k_4 := by rw [ht, hie_i, fgF, if_pos hk2, if_pos hd2]
            refine z_iload_n (pc := 84) (zk15 kX3_readNumber_2) rfl ?_
            refine z_iload_n (pc := 85) (zk0 kX3_readNumber_3) rfl ?_
            refine z_icmp_lt (pc := 86) (zk1 kX3_readNumber_3) (tgt := 94) (by decide) (fun c_11 => ?_) (fun c_11 => ?_)
            · refine z_aload_n (pc := 94) (zk5 kX3_readNumber_3) rfl ?_
              refine z_aload_n (pc := 95) (zk6 kX3_readNumber_3) rfl ?_
              refine z_getf (pc := 96) (zk7 kX3_readNumber_3) flX3_22 hT.1 (v := .int (nI s_k_4)) (by rw [← e9_k_4]; rfl) ?_
              refine z_efV (pc := 99) (zk8 kX3_readNumber_3) (st := []) lkX3_42 ivX3_blame hT.1 rfl rfl (c_blame hT (by omega) (e12_k_4.trans hf)) rfl ⟨rfl, rfl⟩ rfl rfl (fun r_ h_13 z_ q_12 => ?_) rfl
              obtain ⟨er_, hR, hU_14, ez_⟩ := q_12
              rw [er_, ez_]
              clear er_ ez_
              replace hU := hU.tr hU_14 (by omega) (by omega)
              replace hT := hR; clear hR
              show Z D B xX3_readNumber _ _ _ 102 _ [] _ _
              refine z_iload_n (pc := 102) (zk9 kX3_readNumber_3) rfl ?_
              exact z_iret (pc := 103) (zk10 kX3_readNumber_3) rfl (Nat.zero_le _) (Nat.zero_le _) ⟨Or.inr ⟨_, _, numR_n (fun q => by rw [← es_k_4, ← hfg] at q; exact absurd (of_decide_eq_true (Bool.and_eq_true_iff.mp q.2).1) (Int32.not_le.mpr c_11)), rfl, hT, by rw [← es_k_4]; rfl⟩, hU, rfl⟩
            · refine z_iload_n (pc := 89) (zk2 kX3_readNumber_3) rfl ?_
              refine z_iload_n (pc := 90) (zk3 kX3_readNumber_3) rfl ?_
              refine z_icmp_le (pc := 91) (zk4 kX3_readNumber_3) (tgt := 104) (by decide) (fun c_15 => ?_) (fun c_15 => ?_)
              · refine z_iload_n (pc := 104) (zk11 kX3_readNumber_3) rfl ?_
                exact z_iret (pc := 105) (zk12 kX3_readNumber_3) rfl (Nat.zero_le _) (Nat.zero_le _) ⟨Or.inl ⟨_, _, _, numR_y (by rw [← es_k_4]; exact hk2) (by rw [← es_k_4, ← hfg]; unfold okR; rw [decide_eq_true (Int32.not_lt.mp c_11), decide_eq_true c_15]; rfl), by rw [← es_k_4, ← hfg], hT, e12_k_4.trans hf, by rw [← es_k_4]; exact e10_k_4⟩, hU, rfl⟩
              · refine z_aload_n (pc := 94) (zk5 kX3_readNumber_3) rfl ?_
                refine z_aload_n (pc := 95) (zk6 kX3_readNumber_3) rfl ?_
                refine z_getf (pc := 96) (zk7 kX3_readNumber_3) flX3_22 hT.1 (v := .int (nI s_k_4)) (by rw [← e9_k_4]; rfl) ?_
                refine z_efV (pc := 99) (zk8 kX3_readNumber_3) (st := []) lkX3_42 ivX3_blame hT.1 rfl rfl (c_blame hT (by omega) (e12_k_4.trans hf)) rfl ⟨rfl, rfl⟩ rfl rfl (fun r_ h_17 z_ q_16 => ?_) rfl
                obtain ⟨er_, hR, hU_18, ez_⟩ := q_16
                rw [er_, ez_]
                clear er_ ez_
                replace hU := hU.tr hU_18 (by omega) (by omega)
                replace hT := hR; clear hR
                show Z D B xX3_readNumber _ _ _ 102 _ [] _ _
                refine z_iload_n (pc := 102) (zk9 kX3_readNumber_3) rfl ?_
                exact z_iret (pc := 103) (zk10 kX3_readNumber_3) rfl (Nat.zero_le _) (Nat.zero_le _) ⟨Or.inr ⟨_, _, numR_n (fun q => by rw [← es_k_4, ← hfg] at q; exact absurd (of_decide_eq_true (Bool.and_eq_true_iff.mp q.2).2) c_15), rfl, hT, by rw [← es_k_4]; rfl⟩, hU, rfl⟩
          · have hlt_i : i < (tkE (τ 5) N s_k_4) := nI_ge_not (a := (tkE (τ 5) N s_k_4)) (by omega) (by omega) c_10
            refine z_bipush (pc := 62) (zk2 kX3_readNumber_2) (v := 10) (by decide) ?_
            refine z_iload_n (pc := 64) (zk3 kX3_readNumber_2) rfl ?_
            refine z_imul (pc := 65) (zk4 kX3_readNumber_2) ?_
            refine z_aload_n (pc := 66) (zk5 kX3_readNumber_2) rfl ?_
            refine z_getf (pc := 67) (zk6 kX3_readNumber_2) flX3_9 hT.1 gTa_0 ?_
            refine z_iload (pc := 70) (zk7 kX3_readNumber_2) rfl ?_
            refine z_ialdN (pc := 72) (zk8 kX3_readNumber_2) (f := τ 5) (j := i) hT.2 (show i < 250 by omega) rfl ?_
            refine z_iadd (pc := 73) (zk9 kX3_readNumber_2) ?_
            refine z_bipush (pc := 74) (zk10 kX3_readNumber_2) (v := 48) (by decide) ?_
            refine z_isub (pc := 76) (zk11 kX3_readNumber_2) ?_
            refine z_istore_n (pc := 77) (zk12 kX3_readNumber_2) rfl rfl ?_
            show Z D B xX3_readNumber _ _ _ 78 [some (.ref pt), some (.int lo), some (.int hi), some (.int (((10 * t) + (τ 5 i)) - 48)), some (.int (nI i))] _ _ _
            refine z_iinc (pc := 78) (zk13 kX3_readNumber_2) (v := nI (i + 1)) rfl zinc rfl rfl ?_
            show Z D B xX3_readNumber _ _ _ 81 [some (.ref pt), some (.int lo), some (.int hi), some (.int (((10 * t) + (τ 5 i)) - 48)), some (.int (nI (i + 1)))] _ _ _
            refine z_goto (pc := 81) (zk14 kX3_readNumber_2) (tgt := 53) (by decide) ?_
            exact ih53 (((10 * t) + (τ 5 i)) - 48) (i + 1) (by omega) (by omega) (by omega) (by rw [ht, show i + 1 - s_k_4 = (i - s_k_4) + 1 by omega, nuV, show s_k_4 + (i - s_k_4) = i by omega, Int32.mul_comm])
      exact lp53 _ 0 s_k_4 (Nat.lt_succ_self _) (by omega) (by omega) (by rw [Nat.sub_self]; rfl)
    · refine z_aload_n (pc := 35) (zk3 kX3_readNumber_1) rfl ?_
      refine z_aload_n (pc := 36) (zk4 kX3_readNumber_1) rfl ?_
      refine z_getf (pc := 37) (zk5 kX3_readNumber_1) flX3_22 hT.1 (v := .int (nI s_k_4)) (by rw [← e9_k_4]; rfl) ?_
      refine z_efV (pc := 40) (zk6 kX3_readNumber_1) (st := []) lkX3_42 ivX3_blame hT.1 rfl rfl (c_blame hT (by omega) (e12_k_4.trans hf)) rfl ⟨rfl, rfl⟩ rfl rfl (fun r_ h_20 z_ q_19 => ?_) rfl
      obtain ⟨er_, hR, hU_21, ez_⟩ := q_19
      rw [er_, ez_]
      clear er_ ez_
      replace hU := hU.tr hU_21 (by omega) (by omega)
      replace hT := hR; clear hR
      show Z D B xX3_readNumber _ _ _ 43 _ [] _ _
      refine z_iload_n (pc := 43) (zk7 kX3_readNumber_1) rfl ?_
      exact z_iret (pc := 44) (zk8 kX3_readNumber_1) rfl (Nat.zero_le _) (Nat.zero_le _) ⟨Or.inr ⟨_, _, numR_n (fun q => num_3 hh (by rw [← es_k_4] at q; exact q) (fun z => c_9 ((nI_le_iff (b := 2) (by omega) (by omega)).mpr z))), rfl, hT, by rw [← es_k_4]; rfl⟩, hU, rfl⟩
