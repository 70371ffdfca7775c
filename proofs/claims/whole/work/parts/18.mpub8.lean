theorem dry_0 (σ : Ln) : dry σ 0 = σ := by
  funext f
  by_cases h : f = 2
  · subst h; funext j; simp [dry]
  · simp [dry, h]
theorem dry_s (σ : Ln) (i : Nat) : up2 (dry σ i) 2 i 0 = dry σ (i + 1) := by
  funext f
  by_cases h : f = 2
  · subst h; funext j
    by_cases e : j = i
    · subst e; simp [up2, upd, dry]
    · have : j < i + 1 ↔ j < i := by omega
      simp [up2, upd, dry, e, this]
  · simp [up2, dry, h]
theorem dry_i (σ : Ln) (i : Nat) : dry σ i 2 i = σ 2 i := by simp [dry]
theorem pour_s {σ w : Ln} {i : Nat} (hp : ∀ a, a < i → w 17 a = σ 2 a) : ∀ a, a < i + 1 → up2 w 17 i (dry σ i 2 i) 17 a = σ 2 a := by
  intro a ha
  by_cases e : a = i
  · subst e; rw [up2_eq, dry_i]
  · have : up2 w 17 i (dry σ i 2 i) 17 a = w 17 a := by simp [up2, upd, e]
    rw [this, hp a (by omega)]
def wet (σ : Ln) (i j : Nat) : Ln := fun f => if f = 2 then (fun a => if a < j then σ 2 a else dry σ i 2 a) else σ f
theorem wet_0 (σ : Ln) (i : Nat) : wet σ i 0 = dry σ i := by
  funext f
  by_cases h : f = 2
  · subst h; funext j; simp [wet]
  · simp [wet, dry, h]
theorem wet_s {σ : Ln} {i j : Nat} {v : Int32} (hv : v = σ 2 j) : up2 (wet σ i j) 2 j v = wet σ i (j + 1) := by
  subst hv
  funext f
  by_cases h : f = 2
  · subst h; funext a
    by_cases e : a = j
    · subst e; simp [up2, upd, wet]
    · have : a < j + 1 ↔ a < j := by omega
      simp [up2, upd, wet, e, this]
  · simp [up2, wet, h]
theorem wet_e {σ : Ln} {i j : Nat} (h : i ≤ j) : wet σ i j = σ := by
  funext f
  by_cases h2 : f = 2
  · subst h2; funext a
    by_cases e : a < j
    · simp [wet, e]
    · simp [wet, dry, e, show ¬ a < i by omega]
  · simp [wet, h2]
set_option maxRecDepth 20000 in
theorem cP_sober {D : zD} {B : Nat} {h : zH} {sz : Nat} {p : Nat} {σ τ ω : Ln} {ε : El} {mv : Nat → Int64} {kp tr : Option Nat} {x : Int32} {n m : Nat} (hM : MoAt h p σ τ ω ε mv kp tr) (hB : B ≤ p) (hn : σ 0 0 = nI n) (h12 : n ≤ 12) (hm : σ 9 0 = nI m) (h8 : m ≤ 8) (hto : ∀ l, l < m → ToOk σ l) : zM D B xX5_sober [.ref p, .int x] h sz (mQ h p sz kp tr (sp_sober σ τ ε x)) := by
  have hU : Upd h h p 29 := Upd.rf
  refine zM.of (by decide) rfl (n := 2) ?_
  show Z D B xX5_sober 0 0 _ 0 [some (.ref p), some (.int x), none, none] [] h sz
  refine z_aload_n (pc := 0) (zk0 kX5_sober_0) rfl ?_
  refine z_iload_n (pc := 1) (zk1 kX5_sober_0) rfl ?_
  refine z_i2l (pc := 2) (zk2 kX5_sober_0) ?_
  refine z_rdV (pc := 3) (zk3 kX5_sober_0) (st := []) lkX5_105 ivX5_isLetter hM.1 rfl rfl (c_isLetter hM) rfl ⟨rfl, rfl⟩ rfl rfl ?_ rfl
  refine z_oif_ne (pc := 6) (zk4 kX5_sober_0) (tgt := 16) (by decide) (fun c_1 => ?_) (fun c_1 => ?_)
  · obtain ⟨kx, hkx, rfl⟩ := okR_nI (n := m) (by omega) (by rw [← hm]; exact c_1)
    refine z_iconst (pc := 16) (zk9 kX5_sober_0) (v := 0) (by decide) ?_
    refine z_istore_n (pc := 17) (zk10 kX5_sober_0) rfl rfl ?_
    show Z D B xX5_sober _ _ _ 18 [some (.ref p), some (.int (nI kx)), some (.int 0), none] _ _ _
    have lp18 : ∀ (n_ : Nat) (g : zH) (w1 : Ln) (i : Nat), n - i < n_ → (i ≤ n) → (∀ a, a < i → w1 17 a = σ 2 a) → (MoAt g p (dry σ i) τ w1 ε mv kp tr) → (Upd h g p 29) → Z D B xX5_sober 0 0 (mQ h p sz kp tr (sp_sober σ τ ε (nI kx))) 18 [some (.ref p), some (.int (nI kx)), some (.int (nI i)), none] [] g sz := by
      intro n_
      induction n_ with
      | zero => intro g w1 i hm_; exact absurd hm_ (Nat.not_lt_zero _)
      | succ n_ ih18 =>
        intro g w1 i hm_ hi_i hp_ hM hU
        refine z_iload_n (pc := 18) (zk11 kX5_sober_0) rfl ?_
        refine z_aload_n (pc := 19) (zk12 kX5_sober_0) rfl ?_
        refine z_getf (pc := 20) (zk13 kX5_sober_0) flX5_37 hM.1 (v := .int (nI n)) (by rw [← hn]; rfl) ?_
        refine z_icmp_ge (pc := 23) (zk14 kX5_sober_0) (tgt := 51) (by decide) (fun c_2 => ?_) (fun c_2 => ?_)
        · have hie_i : i = n := nI_ge_yes (a := n) (by omega) (by omega) (by omega) c_2
          refine z_aload_n (pc := 51) (zk14 kX5_sober_1) rfl ?_
          refine z_iload_n (pc := 52) (zk15 kX5_sober_1) rfl ?_
          refine z_rdV (pc := 53) (zk0 kX5_sober_2) (st := []) lkX5_251 ivX5_knowers hM.1 rfl rfl (c_mknowers hM hn h12 (show kx < 8 by omega) (hto _ (by omega))) rfl ⟨rfl, rfl⟩ rfl rfl ?_ rfl
          refine z_rdS (pc := 56) (zk1 kX5_sober_2) (st := []) lkX5_262 isX5_bits (c_mbits (knowersF_eq (dry σ i) kx (hsN_le (σ := (dry σ i)) hn h12))) rfl ⟨rfl, rfl⟩ rfl rfl ?_ rfl
          refine z_istore_n (pc := 59) (zk2 kX5_sober_2) rfl rfl ?_
          show Z D B xX5_sober _ _ _ 60 [some (.ref p), some (.int (nI kx)), some (.int (popI (knowersF (dry σ i) kx))), none] _ _ _
          refine z_iconst (pc := 60) (zk3 kX5_sober_2) (v := 0) (by decide) ?_
          refine z_istore_n (pc := 61) (zk4 kX5_sober_2) rfl rfl ?_
          show Z D B xX5_sober _ _ _ 62 [some (.ref p), some (.int (nI kx)), some (.int (popI (knowersF (dry σ i) kx))), some (.int 0)] _ _ _
          have lp62 : ∀ (n_ : Nat) (g2 : zH) (j : Nat), n - j < n_ → (j ≤ n) → (MoAt g2 p (wet σ i j) τ w1 ε mv kp tr) → (Upd h g2 p 29) → Z D B xX5_sober 0 0 (mQ h p sz kp tr (sp_sober σ τ ε (nI kx))) 62 [some (.ref p), some (.int (nI kx)), some (.int (popI (knowersF (dry σ i) kx))), some (.int (nI j))] [] g2 sz := by
            intro n_
            induction n_ with
            | zero => intro g2 j hm_; exact absurd hm_ (Nat.not_lt_zero _)
            | succ n_ ih62 =>
              intro g2 j hm_ hi_j hM hU
              refine z_iload_n (pc := 62) (zk5 kX5_sober_2) rfl ?_
              refine z_aload_n (pc := 63) (zk6 kX5_sober_2) rfl ?_
              refine z_getf (pc := 64) (zk7 kX5_sober_2) flX5_37 hM.1 (v := .int (nI n)) (by rw [← hn]; rfl) ?_
              refine z_icmp_ge (pc := 67) (zk8 kX5_sober_2) (tgt := 88) (by decide) (fun c_3 => ?_) (fun c_3 => ?_)
              · have hie_j : j = n := nI_ge_yes (a := n) (by omega) (by omega) (by omega) c_3
                rw [wet_e (by omega)] at hM
                refine z_iload_n (pc := 88) (zk3 kX5_sober_3) rfl ?_
                exact z_iret (pc := 89) (zk4 kX5_sober_3) rfl (Nat.zero_le _) (Nat.zero_le _) (by
                                    rw [show sp_sober σ τ ε (nI kx) = (popI (knowersF (dry σ i) kx), σ, τ, ε) from by simp [sp_sober, sBad, okS, okH, okL, okT, okB, sRd, up2_id, up2_id2, oI, c_1, c_2, Int32.not_lt.mpr c_2, c_3, Int32.not_lt.mpr c_3, ix_nI (show kx ≤ 1000 by omega), hie_i, hsN_eq hn h12, lsN_eq hm h8]]
                                    exact ⟨_, _, rfl, hM, hU, rfl⟩)
              · have hlt_j : j < n := nI_ge_not (a := n) (by omega) (by omega) c_3
                refine z_aload_n (pc := 70) (zk9 kX5_sober_2) rfl ?_
                refine z_getf (pc := 71) (zk10 kX5_sober_2) flX5_44 hM.1 gMo_11 ?_
                refine z_iload_n (pc := 74) (zk11 kX5_sober_2) rfl ?_
                refine z_aload_n (pc := 75) (zk12 kX5_sober_2) rfl ?_
                refine z_getf (pc := 76) (zk13 kX5_sober_2) flX5_71 hM.1 gMo_34 ?_
                refine z_iload_n (pc := 79) (zk14 kX5_sober_2) rfl ?_
                refine z_ialdN (pc := 80) (zk15 kX5_sober_2) (f := w1 17) (j := j) hM.2.2.2.2.2.2.2.2.2.2.2.2.2.2.2.2.2.2.2.1 (show j < 12 by omega) rfl ?_
                refine z_Mo_s18 (pc := 81) (zk0 kX5_sober_3) (j := j) hM (by omega) (show j < 12 by omega) (fun h_4 hR hU_5 => ?_)
                replace hU := hU.tr hU_5 (by omega) (by omega)
                replace hM := hR; clear hR
                refine z_iinc (pc := 82) (zk1 kX5_sober_3) (v := nI (j + 1)) rfl zinc rfl rfl ?_
                show Z D B xX5_sober _ _ _ 85 [some (.ref p), some (.int (nI kx)), some (.int (popI (knowersF (dry σ i) kx))), some (.int (nI (j + 1)))] _ _ _
                refine z_goto (pc := 85) (zk2 kX5_sober_3) (tgt := 62) (by decide) ?_
                exact ih62 h_4 (j + 1) (by omega) (by omega) (by rw [← wet_s (hp_ j (by omega))]; exact hM) hU
          exact lp62 _ g 0 (Nat.lt_succ_self _) (by omega) (by rw [wet_0]; exact hM) hU
        · have hlt_i : i < n := nI_ge_not (a := n) (by omega) (by omega) c_2
          refine z_aload_n (pc := 26) (zk15 kX5_sober_0) rfl ?_
          refine z_getf (pc := 27) (zk0 kX5_sober_1) flX5_71 hM.1 gMo_34 ?_
          refine z_iload_n (pc := 30) (zk1 kX5_sober_1) rfl ?_
          refine z_aload_n (pc := 31) (zk2 kX5_sober_1) rfl ?_
          refine z_getf (pc := 32) (zk3 kX5_sober_1) flX5_44 hM.1 gMo_11 ?_
          refine z_iload_n (pc := 35) (zk4 kX5_sober_1) rfl ?_
          refine z_ialdN (pc := 36) (zk5 kX5_sober_1) (f := (dry σ i) 2) (j := i) hM.2.2.2.2.2.2.2.2.2.2.2.1 (show i < 12 by omega) rfl ?_
          refine z_Mo_s26 (pc := 37) (zk6 kX5_sober_1) (j := i) hM (by omega) (show i < 12 by omega) (fun h_6 hR hU_7 => ?_)
          replace hU := hU.tr hU_7 (by omega) (by omega)
          replace hM := hR; clear hR
          refine z_aload_n (pc := 38) (zk7 kX5_sober_1) rfl ?_
          refine z_getf (pc := 39) (zk8 kX5_sober_1) flX5_44 hM.1 gMo_11 ?_
          refine z_iload_n (pc := 42) (zk9 kX5_sober_1) rfl ?_
          refine z_iconst (pc := 43) (zk10 kX5_sober_1) (v := 0) (by decide) ?_
          refine z_Mo_s18 (pc := 44) (zk11 kX5_sober_1) (j := i) hM (by omega) (show i < 12 by omega) (fun h_8 hR hU_9 => ?_)
          replace hU := hU.tr hU_9 (by omega) (by omega)
          replace hM := hR; clear hR
          refine z_iinc (pc := 45) (zk12 kX5_sober_1) (v := nI (i + 1)) rfl zinc rfl rfl ?_
          show Z D B xX5_sober _ _ _ 48 [some (.ref p), some (.int (nI kx)), some (.int (nI (i + 1))), none] _ _ _
          refine z_goto (pc := 48) (zk13 kX5_sober_1) (tgt := 18) (by decide) ?_
          exact ih18 h_8 (up2 w1 17 i ((dry σ i) 2 i)) (i + 1) (by omega) (by omega) (pour_s hp_) (by rw [← dry_s]; exact hM) hU
    exact lp18 _ h ω 0 (Nat.lt_succ_self _) (by omega) (fun a q => absurd q (Nat.not_lt_zero _)) (by rw [dry_0]; exact hM) hU
  · refine z_aload_n (pc := 9) (zk5 kX5_sober_0) rfl ?_
    refine z_bipush (pc := 10) (zk6 kX5_sober_0) (v := (-2)) (by decide) ?_
    refine z_efV (pc := 12) (zk7 kX5_sober_0) (st := []) lkX5_94 ivX5_refuse hM.1 rfl rfl (c_refuse hM (by omega) (j := 2) (by decide) (by decide)) rfl ⟨rfl, rfl⟩ rfl rfl (fun r_ h_11 z_ q_10 => ?_) rfl
    obtain ⟨er_, hR, hU_12, ez_⟩ := q_10
    rw [er_, ez_]
    clear er_ ez_
    replace hU := hU.tr hU_12 (by omega) (by omega)
    replace hM := hR; clear hR
    show Z D B xX5_sober _ _ _ 15 _ [.int (-2)] _ _
    exact z_iret (pc := 15) (zk8 kX5_sober_0) rfl (Nat.zero_le _) (Nat.zero_le _) (by
            rw [show sp_sober σ τ ε x = ((-2), σ, rfN τ 2, ε) from by simp [sp_sober, sBad, okS, okH, okL, okT, okB, sRd, up2_id, up2_id2, oI, c_1]]
            exact ⟨_, _, rfl, hM, hU, rfl⟩)
set_option maxRecDepth 20000 in
theorem c_isHushed {D : zD} {B : Nat} {h : zH} {sz : Nat} {p : Nat} {σ τ ω : Ln} {ε : El} {mv : Nat → Int64} {kp tr : Option Nat} {n l : Nat} {t : Int32} (hM : MoAt h p σ τ ω ε mv kp tr) (hn : σ 0 0 = nI n) (h12 : n ≤ 12) (hl : l < 8) (hto : ToOk σ l) (htl : ∃ t, t < n ∧ σ 12 l = nI t) : zRd D B xX5_isHushed [.ref p, .int (nI l), .int t] h sz (.int (oI (hushB σ l t))) := by
  refine zM.of (by decide) rfl (n := 2) ?_
  show Z D B xX5_isHushed 0 0 _ 0 [some (.ref p), some (.int (nI l)), some (.int t), none, none] [] h sz
  obtain ⟨t_, ht_, et_⟩ := htl
  refine z_aload_n (pc := 0) (zk0 kX5_isHushed_0) rfl ?_
  refine z_iload_n (pc := 1) (zk1 kX5_isHushed_0) rfl ?_
  refine z_rdV (pc := 2) (zk2 kX5_isHushed_0) (st := []) lkX5_251 ivX5_knowers hM.1 rfl rfl (c_mknowers hM hn h12 (show l < 8 by omega) hto) rfl ⟨rfl, rfl⟩ rfl rfl ?_ rfl
  refine z_istore_n (pc := 5) (zk3 kX5_isHushed_0) rfl rfl ?_
  show Z D B xX5_isHushed _ _ _ 6 [some (.ref p), some (.int (nI l)), some (.int t), some (.int (knowersF σ l)), none] _ _ _
  refine z_iload_n (pc := 6) (zk4 kX5_isHushed_0) rfl ?_
  refine z_aload_n (pc := 7) (zk5 kX5_isHushed_0) rfl ?_
  refine z_getf (pc := 8) (zk6 kX5_isHushed_0) flX5_59 hM.1 gMo_20 ?_
  refine z_iload_n (pc := 11) (zk7 kX5_isHushed_0) rfl ?_
  refine z_ialdN (pc := 12) (zk8 kX5_isHushed_0) (f := σ 12) (j := l) hM.2.2.2.2.2.2.2.2.2.2.2.2.2.2.2.2.1 (show l < 8 by omega) rfl ?_
  refine z_top (congrArg Value.int et_) ?_
  refine z_ishr (pc := 13) (zk9 kX5_isHushed_0) ?_
  refine z_iconst (pc := 14) (zk10 kX5_isHushed_0) (v := 1) (by decide) ?_
  refine z_iand (pc := 15) (zk11 kX5_isHushed_0) ?_
  refine z_iconst (pc := 16) (zk12 kX5_isHushed_0) (v := 1) (by decide) ?_
  refine z_icmp_ne (pc := 17) (zk13 kX5_isHushed_0) (tgt := 24) (by decide) (fun c_1 => ?_) (fun c_1 => ?_)
  · refine z_iconst (pc := 24) (zk0 kX5_isHushed_1) (v := 0) (by decide) ?_
    refine z_istore (pc := 25) (zk1 kX5_isHushed_1) rfl rfl ?_
    show Z D B xX5_isHushed _ _ _ 27 [some (.ref p), some (.int (nI l)), some (.int t), some (.int (knowersF σ l)), some (.int 0)] _ _ _
    refine z_iload_n (pc := 27) (zk2 kX5_isHushed_1) rfl ?_
    refine z_iload_n (pc := 28) (zk3 kX5_isHushed_1) rfl ?_
    refine z_iand (pc := 29) (zk4 kX5_isHushed_1) ?_
    refine z_if_ne (pc := 30) (zk5 kX5_isHushed_1) (tgt := 56) (by decide) (fun c_2 => ?_) (fun c_2 => ?_)
    · refine z_iconst (pc := 56) (zk4 kX5_isHushed_2) (v := 0) (by decide) ?_
      exact z_zret (pc := 57) (zk5 kX5_isHushed_2) rfl (Nat.zero_le _) (Nat.zero_le _) (by decide) ⟨by simp [hushB, oI, et_, ix_nI (show t_ ≤ 1000 by omega), c_1, c_2], rfl, rfl⟩
    · refine z_iload (pc := 33) (zk6 kX5_isHushed_1) rfl ?_
      refine z_if_ne (pc := 35) (zk7 kX5_isHushed_1) (tgt := 52) (by decide) (fun q => absurd (by decide) q) (fun _ => ?_)
      refine z_iload_n (pc := 38) (zk8 kX5_isHushed_1) rfl ?_
      refine z_aload_n (pc := 39) (zk9 kX5_isHushed_1) rfl ?_
      refine z_getf (pc := 40) (zk10 kX5_isHushed_1) flX5_59 hM.1 gMo_20 ?_
      refine z_iload_n (pc := 43) (zk11 kX5_isHushed_1) rfl ?_
      refine z_ialdN (pc := 44) (zk12 kX5_isHushed_1) (f := σ 12) (j := l) hM.2.2.2.2.2.2.2.2.2.2.2.2.2.2.2.2.1 (show l < 8 by omega) rfl ?_
      refine z_top (congrArg Value.int et_) ?_
      refine z_ishr (pc := 45) (zk13 kX5_isHushed_1) ?_
      refine z_iconst (pc := 46) (zk14 kX5_isHushed_1) (v := 1) (by decide) ?_
      refine z_iand (pc := 47) (zk15 kX5_isHushed_1) ?_
      refine z_iconst (pc := 48) (zk0 kX5_isHushed_2) (v := 1) (by decide) ?_
      refine z_icmp_ne (pc := 49) (zk1 kX5_isHushed_2) (tgt := 56) (by decide) (fun c_3 => ?_) (fun c_3 => ?_)
      · refine z_iconst (pc := 56) (zk4 kX5_isHushed_2) (v := 0) (by decide) ?_
        exact z_zret (pc := 57) (zk5 kX5_isHushed_2) rfl (Nat.zero_le _) (Nat.zero_le _) (by decide) ⟨by simp [hushB, oI, et_, ix_nI (show t_ ≤ 1000 by omega), Bool.eq_false_iff.mpr (fun q => c_3 ((know_test (l := l) hn h12 ht_).mpr q)), c_1, c_2], rfl, rfl⟩
      · refine z_iconst (pc := 52) (zk2 kX5_isHushed_2) (v := 1) (by decide) ?_
        refine z_goto (pc := 53) (zk3 kX5_isHushed_2) (tgt := 57) (by decide) ?_
        exact z_zret (pc := 57) (zk5 kX5_isHushed_2) rfl (Nat.zero_le _) (Nat.zero_le _) (by decide) ⟨by simp [hushB, oI, et_, ix_nI (show t_ ≤ 1000 by omega), (know_test (l := l) hn h12 ht_).mp c_3, c_1, c_2], rfl, rfl⟩
  · refine z_iconst (pc := 20) (zk14 kX5_isHushed_0) (v := 1) (by decide) ?_
    refine z_goto (pc := 21) (zk15 kX5_isHushed_0) (tgt := 25) (by decide) ?_
    refine z_istore (pc := 25) (zk1 kX5_isHushed_1) rfl rfl ?_
    show Z D B xX5_isHushed _ _ _ 27 [some (.ref p), some (.int (nI l)), some (.int t), some (.int (knowersF σ l)), some (.int 1)] _ _ _
    refine z_iload_n (pc := 27) (zk2 kX5_isHushed_1) rfl ?_
    refine z_iload_n (pc := 28) (zk3 kX5_isHushed_1) rfl ?_
    refine z_iand (pc := 29) (zk4 kX5_isHushed_1) ?_
    refine z_if_ne (pc := 30) (zk5 kX5_isHushed_1) (tgt := 56) (by decide) (fun c_4 => ?_) (fun c_4 => ?_)
    · refine z_iconst (pc := 56) (zk4 kX5_isHushed_2) (v := 0) (by decide) ?_
      exact z_zret (pc := 57) (zk5 kX5_isHushed_2) rfl (Nat.zero_le _) (Nat.zero_le _) (by decide) ⟨by simp [hushB, oI, et_, ix_nI (show t_ ≤ 1000 by omega), c_1, c_4], rfl, rfl⟩
    · refine z_iload (pc := 33) (zk6 kX5_isHushed_1) rfl ?_
      refine z_if_ne (pc := 35) (zk7 kX5_isHushed_1) (tgt := 52) (by decide) (fun _ => ?_) (fun q => absurd q (by decide))
      refine z_iconst (pc := 52) (zk2 kX5_isHushed_2) (v := 1) (by decide) ?_
      refine z_goto (pc := 53) (zk3 kX5_isHushed_2) (tgt := 57) (by decide) ?_
      exact z_zret (pc := 57) (zk5 kX5_isHushed_2) rfl (Nat.zero_le _) (Nat.zero_le _) (by decide) ⟨by simp [hushB, oI, et_, ix_nI (show t_ ≤ 1000 by omega), c_1, c_4], rfl, rfl⟩
theorem lstD_up (p : Nat → Bool) : ∀ (k a : Nat), a + k ≤ 1000 → (if p (a + k) = true ∧ lstD p a k = -1 then nI (a + k) else lstD p a k) = lstD p a (k + 1)
  | 0, a, _ => by cases h : p a <;> simp [lstD, h]
  | k + 1, a, hb => by
    have ih := lstD_up p k (a + 1) (by omega)
    rw [show a + 1 + k = a + (k + 1) by omega] at ih
    rw [lstD, lstD]
    by_cases h : p a = true
    · simp [h, nI_ne_m1 (show a ≤ 1000 by omega)]
    · simp only [h, if_false]
      exact ih
theorem lstU_s (p : Nat → Bool) (k : Nat) : (if p (k + 1) = true then nI (k + 1) else lstU p k) = lstU p (k + 1) := by rw [lstU]
theorem upd_i (f : Nat → Int32) (i : Nat) (v : Int32) : upd f i v i = v := by simp [upd]
theorem fl_1 {σ : Ln} {e : Nat → Int64} {q l i : Nat} {a : Int32} (hi : 1 ≤ i) (h : a = sum0 (fun j => oI (lenB σ e q l (j + 1))) (i - 1)) : a + oI (sndB (up2 σ 13 l (nI i)) e l q) = sum0 (fun j => oI (lenB σ e q l (j + 1))) (i + 1 - 1) := by
  subst h
  rw [show i + 1 - 1 = (i - 1) + 1 by omega, sum0, show i - 1 + 1 = i by omega]; rfl
theorem fl_2 {σ : Ln} {e : Nat → Int64} {q l i : Nat} {a : Int32} (hi : 1 ≤ i) (hi2 : i ≤ 40) (h : a = lstD (lenB σ e q l) 1 (i - 1)) : (if sndB (up2 σ 13 l (nI i)) e l q = true ∧ a = -1 then nI i else a) = lstD (lenB σ e q l) 1 (i + 1 - 1) := by
  subst h
  have := lstD_up (lenB σ e q l) (i - 1) 1 (by omega)
  rw [show 1 + (i - 1) = i by omega] at this
  rw [show i + 1 - 1 = (i - 1) + 1 by omega, ← this]; rfl
theorem fl_3 {σ : Ln} {e : Nat → Int64} {q l i : Nat} {a : Int32} (hi : 1 ≤ i) (h : a = lstU (lenB σ e q l) (i - 1)) : (if sndB (up2 σ 13 l (nI i)) e l q = true then nI i else a) = lstU (lenB σ e q l) (i + 1 - 1) := by
  subst h
  rw [show i + 1 - 1 = (i - 1) + 1 by omega, ← lstU_s, show i - 1 + 1 = i by omega]; rfl
theorem fl_4 {σ w : Ln} {e : Nat → Int64} {q l i : Nat} {x y z : Int32} (h : ∀ a, 1 ≤ a → a < i → w 18 a = oI (lenB σ e q l a)) : ∀ a, 1 ≤ a → a < i + 1 → up2 (up2 (up2 (up2 w 18 i (oI (sndB (up2 σ 13 l (nI i)) e l q))) 19 0 x) 20 0 y) 21 0 z 18 a = oI (lenB σ e q l a) := by
  intro a h1 h2
  by_cases c : a = i
  · subst c; simp [up2, upd]; rfl
  · have : up2 (up2 (up2 (up2 w 18 i (oI (sndB (up2 σ 13 l (nI i)) e l q))) 19 0 x) 20 0 y) 21 0 z 18 a = w 18 a := by simp [up2, upd, c]
    rw [this, h a h1 (by omega)]
set_option maxRecDepth 20000 in
theorem c_findLengths {D : zD} {B : Nat} {h : zH} {sz : Nat} {p : Nat} {σ τ ω : Ln} {ε : El} {mv : Nat → Int64} {kp tr : Option Nat} {n s ct l : Nat} (hM : MoAt h p σ τ ω ε mv kp tr) (hn : σ 0 0 = nI n) (h12 : n ≤ 12) (hs : s < 8) (hq : ct ≤ n) (hl : l < 8) (hto : ToOk σ l) (hB : B ≤ p) : zM D B xX5_findLengths [.ref p, .int (nI s), .int (nI ct), .int (nI l)] h sz (fun r h1 z1 => ∃ ω1 : Ln, r = none ∧ MoAt h1 p σ τ ω1 ε mv kp tr ∧ ω1 19 0 = lenC σ (ε s) ct l ∧ ω1 20 0 = lstD (lenB σ (ε s) ct l) 1 40 ∧ ω1 21 0 = lstU (lenB σ (ε s) ct l) 40 ∧ (∀ a, 1 ≤ a → a ≤ 40 → ω1 18 a = oI (lenB σ (ε s) ct l a)) ∧ Upd h h1 p 29 ∧ z1 = sz) := by
  have hU : Upd h h p 29 := Upd.rf
  refine zM.of (by decide) rfl (n := 2) ?_
  show Z D B xX5_findLengths 0 0 _ 0 [some (.ref p), some (.int (nI s)), some (.int (nI ct)), some (.int (nI l)), none, none] [] h sz
  refine z_aload_n (pc := 0) (zk0 kX5_findLengths_0) rfl ?_
  refine z_getf (pc := 1) (zk1 kX5_findLengths_0) flX5_62 hM.1 gMo_21 ?_
  refine z_iload_n (pc := 4) (zk2 kX5_findLengths_0) rfl ?_
  refine z_ialdN (pc := 5) (zk3 kX5_findLengths_0) (f := σ 13) (j := l) hM.2.2.2.2.2.2.2.2.2.2.2.2.2.2.2.2.2.1 (show l < 8 by omega) rfl ?_
  refine z_istore (pc := 6) (zk4 kX5_findLengths_0) rfl rfl ?_
  show Z D B xX5_findLengths _ _ _ 8 [some (.ref p), some (.int (nI s)), some (.int (nI ct)), some (.int (nI l)), some (.int (σ 13 l)), none] _ _ _
  refine z_aload_n (pc := 8) (zk5 kX5_findLengths_0) rfl ?_
  refine z_iconst (pc := 9) (zk6 kX5_findLengths_0) (v := 0) (by decide) ?_
  refine z_Mo_w36 (pc := 10) (zk7 kX5_findLengths_0) flX5_284 hM (by omega) (fun h_1 hR hU_2 => ?_)
  replace hU := hU.tr hU_2 (by omega) (by omega)
  replace hM := hR; clear hR
  refine z_aload_n (pc := 13) (zk8 kX5_findLengths_0) rfl ?_
  refine z_iconst (pc := 14) (zk9 kX5_findLengths_0) (v := (-1)) (by decide) ?_
  refine z_Mo_w37 (pc := 15) (zk10 kX5_findLengths_0) flX5_287 hM (by omega) (fun h_3 hR hU_4 => ?_)
  replace hU := hU.tr hU_4 (by omega) (by omega)
  replace hM := hR; clear hR
  refine z_aload_n (pc := 18) (zk11 kX5_findLengths_0) rfl ?_
  refine z_iconst (pc := 19) (zk12 kX5_findLengths_0) (v := (-1)) (by decide) ?_
  refine z_Mo_w38 (pc := 20) (zk13 kX5_findLengths_0) flX5_290 hM (by omega) (fun h_5 hR hU_6 => ?_)
  replace hU := hU.tr hU_6 (by omega) (by omega)
  replace hM := hR; clear hR
  refine z_iconst (pc := 23) (zk14 kX5_findLengths_0) (v := 1) (by decide) ?_
  refine z_istore (pc := 24) (zk15 kX5_findLengths_0) rfl rfl ?_
  show Z D B xX5_findLengths _ _ _ 26 [some (.ref p), some (.int (nI s)), some (.int (nI ct)), some (.int (nI l)), some (.int (σ 13 l)), some (.int 1)] _ _ _
  have lp26 : ∀ (n_ : Nat) (w1 : Ln) (g : zH) (q : Int32) (i : Nat), 41 - i < n_ → (1 ≤ i) → (i ≤ 41) → (w1 19 0 = sum0 (fun j => oI ((lenB σ (ε s) ct l) (j + 1))) (i - 1)) → (w1 20 0 = lstD (lenB σ (ε s) ct l) 1 (i - 1)) → (w1 21 0 = lstU (lenB σ (ε s) ct l) (i - 1)) → (∀ a, 1 ≤ a → a < i → w1 18 a = oI ((lenB σ (ε s) ct l) a)) → (MoAt g p (up2 σ 13 l q) τ w1 ε mv kp tr) → (Upd h g p 29) → Z D B xX5_findLengths 0 0 (fun r h1 z1 => ∃ ω1 : Ln, r = none ∧ MoAt h1 p σ τ ω1 ε mv kp tr ∧ ω1 19 0 = lenC σ (ε s) ct l ∧ ω1 20 0 = lstD (lenB σ (ε s) ct l) 1 40 ∧ ω1 21 0 = lstU (lenB σ (ε s) ct l) 40 ∧ (∀ a, 1 ≤ a → a ≤ 40 → ω1 18 a = oI (lenB σ (ε s) ct l a)) ∧ Upd h h1 p 29 ∧ z1 = sz) 26 [some (.ref p), some (.int (nI s)), some (.int (nI ct)), some (.int (nI l)), some (.int (σ 13 l)), some (.int (nI i))] [] g sz := by
    intro n_
    induction n_ with
    | zero => intro w1 g q i hm_; exact absurd hm_ (Nat.not_lt_zero _)
    | succ n_ ih26 =>
      intro w1 g q i hm_ h0_i hi_i h1_ h2_ h3_ h4_ hM hU
      refine z_iload (pc := 26) (zk0 kX5_findLengths_1) rfl ?_
      refine z_bipush (pc := 28) (zk1 kX5_findLengths_1) (v := 40) (by decide) ?_
      refine z_icmp_gt (pc := 30) (zk2 kX5_findLengths_1) (tgt := 139) (by decide) (fun c_7 => ?_) (fun c_7 => ?_)
      · have hie_i : i = 41 := nI_gt_yes (a := 40) (by omega) (by omega) c_7
        refine z_aload_n (pc := 139) (zk10 kX5_findLengths_4) rfl ?_
        refine z_getf (pc := 140) (zk11 kX5_findLengths_4) flX5_62 hM.1 gMo_21 ?_
        refine z_iload_n (pc := 143) (zk12 kX5_findLengths_4) rfl ?_
        refine z_iload (pc := 144) (zk13 kX5_findLengths_4) rfl ?_
        refine z_Mo_s24 (pc := 146) (zk14 kX5_findLengths_4) (j := l) hM (by omega) (show l < 8 by omega) (fun h_8 hR hU_9 => ?_)
        replace hU := hU.tr hU_9 (by omega) (by omega)
        replace hM := hR; clear hR
        rw [up2_up2, up2_id] at hM
        exact z_vret (pc := 147) (zk15 kX5_findLengths_4) rfl (Nat.zero_le _) (Nat.zero_le _) ⟨_, rfl, hM, by rw [h1_, hie_i]; rfl, by rw [h2_, hie_i], by rw [h3_, hie_i], fun a q r => h4_ a q (by omega), hU, rfl⟩
      · have hlt_i : i < 41 := nI_gt_not (a := 40) (by omega) c_7
        refine z_aload_n (pc := 33) (zk3 kX5_findLengths_1) rfl ?_
        refine z_getf (pc := 34) (zk4 kX5_findLengths_1) flX5_62 hM.1 gMo_21 ?_
        refine z_iload_n (pc := 37) (zk5 kX5_findLengths_1) rfl ?_
        refine z_iload (pc := 38) (zk6 kX5_findLengths_1) rfl ?_
        refine z_Mo_s24 (pc := 40) (zk7 kX5_findLengths_1) (j := l) hM (by omega) (show l < 8 by omega) (fun h_10 hR hU_11 => ?_)
        replace hU := hU.tr hU_11 (by omega) (by omega)
        replace hM := hR; clear hR
        rw [up2_up2] at hM
        refine z_aload_n (pc := 41) (zk8 kX5_findLengths_1) rfl ?_
        refine z_getf (pc := 42) (zk9 kX5_findLengths_1) flX5_74 hM.1 gMo_35 ?_
        refine z_iload (pc := 45) (zk10 kX5_findLengths_1) rfl ?_
        refine z_aload_n (pc := 47) (zk11 kX5_findLengths_1) rfl ?_
        refine z_iload_n (pc := 48) (zk12 kX5_findLengths_1) rfl ?_
        refine z_iload_n (pc := 49) (zk13 kX5_findLengths_1) rfl ?_
        refine z_iload_n (pc := 50) (zk14 kX5_findLengths_1) rfl ?_
        refine z_rdV (pc := 51) (zk15 kX5_findLengths_1) (st := [.int (nI i), .ref (p + 27)]) lkX5_293 ivX5_sounds hM.1 rfl rfl (c_sounds hM hn h12 (show s < 8 by omega) (by omega) (show l < 8 by omega) hto) rfl ⟨rfl, rfl⟩ rfl rfl ?_ rfl
        refine z_Mo_s27 (pc := 54) (zk0 kX5_findLengths_2) (j := i) hM (by omega) (show i < 41 by omega) (oI_01 _) (fun h_12 hR hU_13 => ?_)
        replace hU := hU.tr hU_13 (by omega) (by omega)
        replace hM := hR; clear hR
        refine z_aload_n (pc := 55) (zk1 kX5_findLengths_2) rfl ?_
        refine z_dup (pc := 56) (zk2 kX5_findLengths_2) rfl ?_
        refine z_getf (pc := 57) (zk3 kX5_findLengths_2) flX5_284 hM.1 (v := .int (w1 19 0)) rfl ?_
        suffices hJ : Z D B xX5_findLengths 0 0 (fun r h1 z1 => ∃ ω1 : Ln, r = none ∧ MoAt h1 p σ τ ω1 ε mv kp tr ∧ ω1 19 0 = lenC σ (ε s) ct l ∧ ω1 20 0 = lstD (lenB σ (ε s) ct l) 1 40 ∧ ω1 21 0 = lstU (lenB σ (ε s) ct l) 40 ∧ (∀ a, 1 ≤ a → a ≤ 40 → ω1 18 a = oI (lenB σ (ε s) ct l a)) ∧ Upd h h1 p 29 ∧ z1 = sz) 75 [some (.ref p), some (.int (nI s)), some (.int (nI ct)), some (.int (nI l)), some (.int (σ 13 l)), some (.int (nI i))] [.int (oI (sndB (up2 σ 13 l (nI i)) (ε s) l ct)), .int (w1 19 0), .ref p] h_12 sz from by
          refine z_aload_n (pc := 60) (zk4 kX5_findLengths_2) rfl ?_
          refine z_getf (pc := 61) (zk5 kX5_findLengths_2) flX5_74 hM.1 gMo_35 ?_
          refine z_iload (pc := 64) (zk6 kX5_findLengths_2) rfl ?_
          refine z_zaldN (pc := 66) (zk7 kX5_findLengths_2) (f := upd (w1 18) i (oI (sndB (up2 σ 13 l (nI i)) (ε s) l ct))) (j := i) hM.2.2.2.2.2.2.2.2.2.2.2.2.2.2.2.2.2.2.2.2.1 (show i < 41 by omega) rfl ?_
          refine z_top (congrArg Value.int (upd_i _ _ _)) ?_
          refine z_oif_eq (pc := 67) (zk8 kX5_findLengths_2) (tgt := 74) (by decide) (fun c_14 => ?_) (fun c_14 => ?_)
          · refine z_iconst (pc := 74) (zk11 kX5_findLengths_2) (v := 0) (by decide) ?_
            exact z_top (congrArg Value.int (by simp [oI, c_7, Int32.not_lt.mp c_7, c_14])) hJ
          · refine z_iconst (pc := 70) (zk9 kX5_findLengths_2) (v := 1) (by decide) ?_
            refine z_goto (pc := 71) (zk10 kX5_findLengths_2) (tgt := 75) (by decide) ?_
            exact z_top (congrArg Value.int (by simp [oI, c_7, Int32.not_lt.mp c_7, c_14])) hJ
        refine z_iadd (pc := 75) (zk12 kX5_findLengths_2) ?_
        refine z_Mo_w36 (pc := 76) (zk13 kX5_findLengths_2) flX5_284 hM (by omega) (fun h_15 hR hU_16 => ?_)
        replace hU := hU.tr hU_16 (by omega) (by omega)
        replace hM := hR; clear hR
        refine z_aload_n (pc := 79) (zk14 kX5_findLengths_2) rfl ?_
        suffices hJ : Z D B xX5_findLengths 0 0 (fun r h1 z1 => ∃ ω1 : Ln, r = none ∧ MoAt h1 p σ τ ω1 ε mv kp tr ∧ ω1 19 0 = lenC σ (ε s) ct l ∧ ω1 20 0 = lstD (lenB σ (ε s) ct l) 1 40 ∧ ω1 21 0 = lstU (lenB σ (ε s) ct l) 40 ∧ (∀ a, 1 ≤ a → a ≤ 40 → ω1 18 a = oI (lenB σ (ε s) ct l a)) ∧ Upd h h1 p 29 ∧ z1 = sz) 107 [some (.ref p), some (.int (nI s)), some (.int (nI ct)), some (.int (nI l)), some (.int (σ 13 l)), some (.int (nI i))] [.int (if sndB (up2 σ 13 l (nI i)) (ε s) l ct = true ∧ w1 20 0 = -1 then nI i else w1 20 0), .ref p] h_15 sz from by
          refine z_aload_n (pc := 80) (zk15 kX5_findLengths_2) rfl ?_
          refine z_getf (pc := 81) (zk0 kX5_findLengths_3) flX5_74 hM.1 gMo_35 ?_
          refine z_iload (pc := 84) (zk1 kX5_findLengths_3) rfl ?_
          refine z_zaldN (pc := 86) (zk2 kX5_findLengths_3) (f := upd (w1 18) i (oI (sndB (up2 σ 13 l (nI i)) (ε s) l ct))) (j := i) hM.2.2.2.2.2.2.2.2.2.2.2.2.2.2.2.2.2.2.2.2.1 (show i < 41 by omega) rfl ?_
          refine z_top (congrArg Value.int (upd_i _ _ _)) ?_
          refine z_oif_eq (pc := 87) (zk3 kX5_findLengths_3) (tgt := 103) (by decide) (fun c_17 => ?_) (fun c_17 => ?_)
          · refine z_aload_n (pc := 103) (zk10 kX5_findLengths_3) rfl ?_
            refine z_getf (pc := 104) (zk11 kX5_findLengths_3) flX5_287 hM.1 (v := .int (w1 20 0)) rfl ?_
            exact z_top (congrArg Value.int (by simp [c_7, Int32.not_lt.mp c_7, c_17])) hJ
          · refine z_aload_n (pc := 90) (zk4 kX5_findLengths_3) rfl ?_
            refine z_getf (pc := 91) (zk5 kX5_findLengths_3) flX5_287 hM.1 (v := .int (w1 20 0)) rfl ?_
            refine z_iconst (pc := 94) (zk6 kX5_findLengths_3) (v := (-1)) (by decide) ?_
            refine z_icmp_ne (pc := 95) (zk7 kX5_findLengths_3) (tgt := 103) (by decide) (fun c_18 => ?_) (fun c_18 => ?_)
            · refine z_aload_n (pc := 103) (zk10 kX5_findLengths_3) rfl ?_
              refine z_getf (pc := 104) (zk11 kX5_findLengths_3) flX5_287 hM.1 (v := .int (w1 20 0)) rfl ?_
              exact z_top (congrArg Value.int (by simp [c_7, Int32.not_lt.mp c_7, c_17, c_18])) hJ
            · refine z_iload (pc := 98) (zk8 kX5_findLengths_3) rfl ?_
              refine z_goto (pc := 100) (zk9 kX5_findLengths_3) (tgt := 107) (by decide) ?_
              exact z_top (congrArg Value.int (by simp [c_7, Int32.not_lt.mp c_7, c_17, c_18])) hJ
        refine z_Mo_w37 (pc := 107) (zk12 kX5_findLengths_3) flX5_287 hM (by omega) (fun h_19 hR hU_20 => ?_)
        replace hU := hU.tr hU_20 (by omega) (by omega)
        replace hM := hR; clear hR
        refine z_aload_n (pc := 110) (zk13 kX5_findLengths_3) rfl ?_
        suffices hJ : Z D B xX5_findLengths 0 0 (fun r h1 z1 => ∃ ω1 : Ln, r = none ∧ MoAt h1 p σ τ ω1 ε mv kp tr ∧ ω1 19 0 = lenC σ (ε s) ct l ∧ ω1 20 0 = lstD (lenB σ (ε s) ct l) 1 40 ∧ ω1 21 0 = lstU (lenB σ (ε s) ct l) 40 ∧ (∀ a, 1 ≤ a → a ≤ 40 → ω1 18 a = oI (lenB σ (ε s) ct l a)) ∧ Upd h h1 p 29 ∧ z1 = sz) 130 [some (.ref p), some (.int (nI s)), some (.int (nI ct)), some (.int (nI l)), some (.int (σ 13 l)), some (.int (nI i))] [.int (if sndB (up2 σ 13 l (nI i)) (ε s) l ct = true then nI i else w1 21 0), .ref p] h_19 sz from by
          refine z_aload_n (pc := 111) (zk14 kX5_findLengths_3) rfl ?_
          refine z_getf (pc := 112) (zk15 kX5_findLengths_3) flX5_74 hM.1 gMo_35 ?_
          refine z_iload (pc := 115) (zk0 kX5_findLengths_4) rfl ?_
          refine z_zaldN (pc := 117) (zk1 kX5_findLengths_4) (f := upd (w1 18) i (oI (sndB (up2 σ 13 l (nI i)) (ε s) l ct))) (j := i) hM.2.2.2.2.2.2.2.2.2.2.2.2.2.2.2.2.2.2.2.2.1 (show i < 41 by omega) rfl ?_
          refine z_top (congrArg Value.int (upd_i _ _ _)) ?_
          refine z_oif_eq (pc := 118) (zk2 kX5_findLengths_4) (tgt := 126) (by decide) (fun c_21 => ?_) (fun c_21 => ?_)
          · refine z_aload_n (pc := 126) (zk5 kX5_findLengths_4) rfl ?_
            refine z_getf (pc := 127) (zk6 kX5_findLengths_4) flX5_290 hM.1 (v := .int (w1 21 0)) rfl ?_
            exact z_top (congrArg Value.int (by simp [c_7, Int32.not_lt.mp c_7, c_21])) hJ
          · refine z_iload (pc := 121) (zk3 kX5_findLengths_4) rfl ?_
            refine z_goto (pc := 123) (zk4 kX5_findLengths_4) (tgt := 130) (by decide) ?_
            exact z_top (congrArg Value.int (by simp [c_7, Int32.not_lt.mp c_7, c_21])) hJ
        refine z_Mo_w38 (pc := 130) (zk7 kX5_findLengths_4) flX5_290 hM (by omega) (fun h_22 hR hU_23 => ?_)
        replace hU := hU.tr hU_23 (by omega) (by omega)
        replace hM := hR; clear hR
        refine z_iinc (pc := 133) (zk8 kX5_findLengths_4) (v := nI (i + 1)) rfl zinc rfl rfl ?_
        show Z D B xX5_findLengths _ _ _ 136 [some (.ref p), some (.int (nI s)), some (.int (nI ct)), some (.int (nI l)), some (.int (σ 13 l)), some (.int (nI (i + 1)))] _ _ _
        refine z_goto (pc := 136) (zk9 kX5_findLengths_4) (tgt := 26) (by decide) ?_
        exact ih26 (up2 (up2 (up2 (up2 w1 18 i (oI (sndB (up2 σ 13 l (nI i)) (ε s) l ct))) 19 0 ((w1 19 0) + (oI (sndB (up2 σ 13 l (nI i)) (ε s) l ct)))) 20 0 (if sndB (up2 σ 13 l (nI i)) (ε s) l ct = true ∧ w1 20 0 = -1 then nI i else w1 20 0)) 21 0 (if sndB (up2 σ 13 l (nI i)) (ε s) l ct = true then nI i else w1 21 0)) h_22 (nI i) (i + 1) (by omega) (by omega) (by omega) (fl_1 (by omega) h1_) (fl_2 (by omega) (by omega) h2_) (fl_3 (by omega) h3_) (fl_4 h4_) hM hU
  exact lp26 _ (up2 (up2 (up2 ω 19 0 0) 20 0 (-1)) 21 0 (-1)) h_5 (σ 13 l) 1 (Nat.lt_succ_self _) (by omega) (by omega) rfl rfl rfl (fun a q r => by omega) (by rw [up2_id]; exact hM) hU
set_option maxRecDepth 20000 in
theorem cP_lengths {D : zD} {B : Nat} {h : zH} {sz : Nat} {p : Nat} {σ τ ω : Ln} {ε : El} {mv : Nat → Int64} {kp tr : Option Nat} {x : Int32} {y : Int32} {z : Int32} {u : Int32} {n m : Nat} (hM : MoAt h p σ τ ω ε mv kp tr) (hB : B ≤ p) (hn : σ 0 0 = nI n) (h12 : n ≤ 12) (hm : σ 9 0 = nI m) (h8 : m ≤ 8) (hto : ∀ l, l < m → ToOk σ l) (hS : SW τ m) : zM D B xX5_lengths [.ref p, .int x, .int y, .int z, .int u] h sz (mQ h p sz kp tr (sp_lengths σ τ ε x y z u)) := by
  have hU : Upd h h p 29 := Upd.rf
  refine zM.of (by decide) rfl (n := 1) ?_
  show Z D B xX5_lengths 0 0 _ 0 [some (.ref p), some (.int x), some (.int y), some (.int z), some (.int u), none] [] h sz
  refine z_aload_n (pc := 0) (zk0 kX5_lengths_0) rfl ?_
  refine z_iload_n (pc := 1) (zk1 kX5_lengths_0) rfl ?_
  refine z_iload_n (pc := 2) (zk2 kX5_lengths_0) rfl ?_
  refine z_aload_n (pc := 3) (zk3 kX5_lengths_0) rfl ?_
  refine z_getf (pc := 4) (zk4 kX5_lengths_0) flX5_37 hM.1 (v := .int (nI n)) (by rw [← hn]; rfl) ?_
  suffices hJ : Z D B xX5_lengths 0 0 (mQ h p sz kp tr (sp_lengths σ τ ε x y z u)) 34 [some (.ref p), some (.int x), some (.int y), some (.int z), some (.int u), none] [.int (oI (okR 0 (σ 9 0 - 1) z && okR 0 2 u)), .int (nI n), .int y, .int x, .ref p] h sz from by
    refine z_aload_n (pc := 7) (zk5 kX5_lengths_0) rfl ?_
    refine z_iload_n (pc := 8) (zk6 kX5_lengths_0) rfl ?_
    refine z_i2l (pc := 9) (zk7 kX5_lengths_0) ?_
    refine z_rdV (pc := 10) (zk8 kX5_lengths_0) (st := [.int (nI n), .int y, .int x, .ref p]) lkX5_105 ivX5_isLetter hM.1 rfl rfl (c_isLetter hM) rfl ⟨rfl, rfl⟩ rfl rfl ?_ rfl
    refine z_oif_eq (pc := 13) (zk9 kX5_lengths_0) (tgt := 33) (by decide) (fun c_1 => ?_) (fun c_1 => ?_)
    · refine z_iconst (pc := 33) (zk2 kX5_lengths_1) (v := 0) (by decide) ?_
      exact z_top (congrArg Value.int (by simp [oI, c_1])) hJ
    · refine z_iload (pc := 16) (zk10 kX5_lengths_0) rfl ?_
      refine z_i2l (pc := 18) (zk11 kX5_lengths_0) ?_
      refine z_lconst (pc := 19) (zk12 kX5_lengths_0) (v := 0) (by decide) ?_
      refine z_ldc2 (pc := 20) (zk13 kX5_lengths_0) klX5_260 ?_
      refine z_rdS (pc := 23) (zk14 kX5_lengths_0) (st := [.int (nI n), .int y, .int x, .ref p]) lkX5_81 isX5_in (c_inI (x := u) (a := 0) (b := 2) (by decide) (by decide)) rfl ⟨rfl, rfl⟩ rfl rfl ?_ rfl
      refine z_oif_eq (pc := 26) (zk15 kX5_lengths_0) (tgt := 33) (by decide) (fun c_2 => ?_) (fun c_2 => ?_)
      · refine z_iconst (pc := 33) (zk2 kX5_lengths_1) (v := 0) (by decide) ?_
        exact z_top (congrArg Value.int (by simp [oI, c_1, c_2])) hJ
      · refine z_iconst (pc := 29) (zk0 kX5_lengths_1) (v := 1) (by decide) ?_
        refine z_goto (pc := 30) (zk1 kX5_lengths_1) (tgt := 34) (by decide) ?_
        exact z_top (congrArg Value.int (by simp [oI, c_1, c_2])) hJ
  refine z_efV (pc := 34) (zk3 kX5_lengths_1) (st := []) lkX5_296 ivX5_noSounds hM.1 rfl rfl (c_noSounds hM hB) rfl ⟨rfl, rfl⟩ rfl rfl (fun r_ h_4 z_ q_3 => ?_) rfl
  rcases q_3 with ⟨f0_, er_, hR, hU_5, ez_⟩ | ⟨f0_, er_, hR, hU_5, ez_⟩ | ⟨f0_, er_, hR, hU_5, ez_⟩ | ⟨f0_, er_, hR, hU_5, ez_⟩
  · rw [er_, ez_]
    clear er_ ez_
    replace hU := hU.tr hU_5 (by omega) (by omega)
    replace hM := hR; clear hR
    show Z D B xX5_lengths _ _ _ 37 _ [.int (-2)] _ _
    refine z_istore (pc := 37) (zk4 kX5_lengths_1) rfl rfl ?_
    show Z D B xX5_lengths _ _ _ 39 [some (.ref p), some (.int x), some (.int y), some (.int z), some (.int u), some (.int (-2))] _ _ _
    refine z_iload (pc := 39) (zk5 kX5_lengths_1) rfl ?_
    refine z_if_eq (pc := 41) (zk6 kX5_lengths_1) (tgt := 47) (by decide) (fun q => absurd q (by decide)) (fun _ => ?_)
    refine z_iload (pc := 44) (zk7 kX5_lengths_1) rfl ?_
    exact z_iret (pc := 46) (zk8 kX5_lengths_1) rfl (Nat.zero_le _) (Nat.zero_le _) (by
            rw [show sp_lengths σ τ ε x y z u = ((-2), σ, (rfN τ 2), ε) from by rw [sp_lengths, okL, hn, f0_]; rfl]
            exact ⟨_, _, rfl, hM, hU, rfl⟩)
  · rw [er_, ez_]
    clear er_ ez_
    replace hU := hU.tr hU_5 (by omega) (by omega)
    replace hM := hR; clear hR
    show Z D B xX5_lengths _ _ _ 37 _ [.int (-3)] _ _
    refine z_istore (pc := 37) (zk4 kX5_lengths_1) rfl rfl ?_
    show Z D B xX5_lengths _ _ _ 39 [some (.ref p), some (.int x), some (.int y), some (.int z), some (.int u), some (.int (-3))] _ _ _
    refine z_iload (pc := 39) (zk5 kX5_lengths_1) rfl ?_
    refine z_if_eq (pc := 41) (zk6 kX5_lengths_1) (tgt := 47) (by decide) (fun q => absurd q (by decide)) (fun _ => ?_)
    refine z_iload (pc := 44) (zk7 kX5_lengths_1) rfl ?_
    exact z_iret (pc := 46) (zk8 kX5_lengths_1) rfl (Nat.zero_le _) (Nat.zero_le _) (by
            rw [show sp_lengths σ τ ε x y z u = ((-3), σ, (rfN τ 3), ε) from by rw [sp_lengths, okL, hn, f0_]; rfl]
            exact ⟨_, _, rfl, hM, hU, rfl⟩)
  · rw [er_, ez_]
    clear er_ ez_
    replace hU := hU.tr hU_5 (by omega) (by omega)
    replace hM := hR; clear hR
    show Z D B xX5_lengths _ _ _ 37 _ [.int (-4)] _ _
    refine z_istore (pc := 37) (zk4 kX5_lengths_1) rfl rfl ?_
    show Z D B xX5_lengths _ _ _ 39 [some (.ref p), some (.int x), some (.int y), some (.int z), some (.int u), some (.int (-4))] _ _ _
    refine z_iload (pc := 39) (zk5 kX5_lengths_1) rfl ?_
    refine z_if_eq (pc := 41) (zk6 kX5_lengths_1) (tgt := 47) (by decide) (fun q => absurd q (by decide)) (fun _ => ?_)
    refine z_iload (pc := 44) (zk7 kX5_lengths_1) rfl ?_
    exact z_iret (pc := 46) (zk8 kX5_lengths_1) rfl (Nat.zero_le _) (Nat.zero_le _) (by
            rw [show sp_lengths σ τ ε x y z u = ((-4), σ, (rfN τ 4), ε) from by rw [sp_lengths, okL, hn, f0_]; rfl]
            exact ⟨_, _, rfl, hM, hU, rfl⟩)
  · rw [er_, ez_]
    clear er_ ez_
    replace hU := hU.tr hU_5 (by omega) (by omega)
    replace hM := hR; clear hR
    show Z D B xX5_lengths _ _ _ 37 _ [.int 0] _ _
    obtain ⟨f1_, f2_, f3_, f4_, f5_, f6_⟩ := rowF_0 f0_
    obtain ⟨c_6, c_7⟩ := Bool.and_eq_true_iff.mp f3_
    refine z_istore (pc := 37) (zk4 kX5_lengths_1) rfl rfl ?_
    show Z D B xX5_lengths _ _ _ 39 [some (.ref p), some (.int x), some (.int y), some (.int z), some (.int u), some (.int 0)] _ _ _
    refine z_iload (pc := 39) (zk5 kX5_lengths_1) rfl ?_
    refine z_if_eq (pc := 41) (zk6 kX5_lengths_1) (tgt := 47) (by decide) (fun _ => ?_) (fun q => absurd (by decide) q)
    obtain ⟨kx, hkx, rfl⟩ := okR_c (c := 7) (by decide) f1_
    obtain ⟨ky, hky, rfl⟩ := okR_c (c := n) (by omega) f2_
    obtain ⟨kz, hkz, rfl⟩ := okR_nI (n := m) (by omega) (by rw [← hm]; exact c_6)
    refine z_aload_n (pc := 47) (zk9 kX5_lengths_1) rfl ?_
    refine z_iload_n (pc := 48) (zk10 kX5_lengths_1) rfl ?_
    refine z_iload_n (pc := 49) (zk11 kX5_lengths_1) rfl ?_
    refine z_iload_n (pc := 50) (zk12 kX5_lengths_1) rfl ?_
    refine z_efV (pc := 51) (zk13 kX5_lengths_1) (st := []) lkX5_300 ivX5_findLengths hM.1 rfl rfl (c_findLengths hM hn h12 (show kx < 8 by omega) (by omega) (show kz < 8 by omega) (hto _ (by omega)) hB) rfl ⟨rfl, rfl⟩ rfl rfl (fun r_ h_9 z_ q_8 => ?_) rfl
    obtain ⟨w_11, er_, hR, e1_, e2_, e3_, e4_, hU_10, ez_⟩ := q_8
    rw [er_, ez_]
    clear er_ ez_
    replace hU := hU.tr hU_10 (by omega) (by omega)
    replace hM := hR; clear hR
    show Z D B xX5_lengths _ _ _ 54 _ [] _ _
    refine z_iload (pc := 54) (zk14 kX5_lengths_1) rfl ?_
    rcases okR_02 c_7 with rfl | rfl | rfl
    · refine z_if_ne (pc := 56) (zk15 kX5_lengths_1) (tgt := 66) (by decide) (fun q => absurd (by decide) q) (fun _ => ?_)
      refine z_aload_n (pc := 59) (zk0 kX5_lengths_2) rfl ?_
      refine z_getf (pc := 60) (zk1 kX5_lengths_2) flX5_284 hM.1 (v := .int (lenC σ (ε kx) ky kz)) (by rw [← e1_]; rfl) ?_
      refine z_goto (pc := 63) (zk2 kX5_lengths_2) (tgt := 83) (by decide) ?_
      generalize he_ : lenC σ (ε kx) ky kz = a_
      exact z_iret (pc := 83) (zk11 kX5_lengths_2) rfl (Nat.zero_le _) (Nat.zero_le _) (by
                rw [show sp_lengths σ τ ε (nI kx) (nI ky) (nI kz) 0 = (a_, σ, τ, ε) from by rw [sp_lengths, okL, hn, f0_]; simp [sTold, he_, ix_nI (show kx ≤ 1000 by omega), ix_nI (show ky ≤ 1000 by omega), ix_nI (show kz ≤ 1000 by omega)]]
                exact ⟨_, _, rfl, hM, hU, rfl⟩)
    · refine z_if_ne (pc := 56) (zk15 kX5_lengths_1) (tgt := 66) (by decide) (fun _ => ?_) (fun q => absurd q (by decide))
      refine z_iload (pc := 66) (zk3 kX5_lengths_2) rfl ?_
      refine z_iconst (pc := 68) (zk4 kX5_lengths_2) (v := 1) (by decide) ?_
      refine z_icmp_ne (pc := 69) (zk5 kX5_lengths_2) (tgt := 79) (by decide) (fun q => absurd (by decide) q) (fun _ => ?_)
      refine z_aload_n (pc := 72) (zk6 kX5_lengths_2) rfl ?_
      refine z_getf (pc := 73) (zk7 kX5_lengths_2) flX5_287 hM.1 (v := .int (lstD (lenB σ (ε kx) ky kz) 1 40)) (by rw [← e2_]; rfl) ?_
      refine z_goto (pc := 76) (zk8 kX5_lengths_2) (tgt := 83) (by decide) ?_
      generalize he_ : lstD (lenB σ (ε kx) ky kz) 1 40 = a_
      exact z_iret (pc := 83) (zk11 kX5_lengths_2) rfl (Nat.zero_le _) (Nat.zero_le _) (by
                rw [show sp_lengths σ τ ε (nI kx) (nI ky) (nI kz) 1 = (a_, σ, τ, ε) from by rw [sp_lengths, okL, hn, f0_]; simp [sTold, he_, ix_nI (show kx ≤ 1000 by omega), ix_nI (show ky ≤ 1000 by omega), ix_nI (show kz ≤ 1000 by omega)]]
                exact ⟨_, _, rfl, hM, hU, rfl⟩)
    · refine z_if_ne (pc := 56) (zk15 kX5_lengths_1) (tgt := 66) (by decide) (fun _ => ?_) (fun q => absurd q (by decide))
      refine z_iload (pc := 66) (zk3 kX5_lengths_2) rfl ?_
      refine z_iconst (pc := 68) (zk4 kX5_lengths_2) (v := 1) (by decide) ?_
      refine z_icmp_ne (pc := 69) (zk5 kX5_lengths_2) (tgt := 79) (by decide) (fun _ => ?_) (fun q => absurd q (by decide))
      refine z_aload_n (pc := 79) (zk9 kX5_lengths_2) rfl ?_
      refine z_getf (pc := 80) (zk10 kX5_lengths_2) flX5_290 hM.1 (v := .int (lstU (lenB σ (ε kx) ky kz) 40)) (by rw [← e3_]; rfl) ?_
      generalize he_ : lstU (lenB σ (ε kx) ky kz) 40 = a_
      exact z_iret (pc := 83) (zk11 kX5_lengths_2) rfl (Nat.zero_le _) (Nat.zero_le _) (by
                rw [show sp_lengths σ τ ε (nI kx) (nI ky) (nI kz) 2 = (a_, σ, τ, ε) from by rw [sp_lengths, okL, hn, f0_]; simp [sTold, he_, ix_nI (show kx ≤ 1000 by omega), ix_nI (show ky ≤ 1000 by omega), ix_nI (show kz ≤ 1000 by omega)]]
                exact ⟨_, _, rfl, hM, hU, rfl⟩)
