set_option maxRecDepth 20000 in
theorem c_mayPour {D : zD} {B : Nat} {h : zH} {sz : Nat} {p : Nat} {σ τ ω : Ln} {ε : El} {mv : Nat → Int64} {kp tr : Option Nat} {x y z u : Int32} (hM : MoAt h p σ τ ω ε mv kp tr) : zRd D B xX5_mayPour [.ref p, .int x, .int y, .int z, .int u] h sz (.int (oI (okR 0 (σ 0 0 - 1) x && okR 0 (σ 0 0 - 1) y && !decide (x = y) && (okR 0 (σ 9 0 - 1) z && okR 0 (σ 0 0 - 1) u)))) := by
  refine zM.of (by decide) rfl (n := 0) ?_
  show Z D B xX5_mayPour 0 0 _ 0 [some (.ref p), some (.int x), some (.int y), some (.int z), some (.int u)] [] h sz
  refine z_aload_n (pc := 0) (zk0 kX5_mayPour_0) rfl ?_
  refine z_iload_n (pc := 1) (zk1 kX5_mayPour_0) rfl ?_
  refine z_rdV (pc := 2) (zk2 kX5_mayPour_0) (st := []) lkX5_123 ivX5_isHouse hM.1 rfl rfl (c_isHouse hM) rfl ⟨rfl, rfl⟩ rfl rfl ?_ rfl
  refine z_oif_eq (pc := 5) (zk3 kX5_mayPour_0) (tgt := 35) (by decide) (fun c_1 => ?_) (fun c_1 => ?_)
  · refine z_iconst (pc := 35) (zk2 kX5_mayPour_1) (v := 0) (by decide) ?_
    exact z_zret (pc := 36) (zk3 kX5_mayPour_1) rfl (Nat.zero_le _) (Nat.zero_le _) (by decide) ⟨by simp [oI, c_1], rfl, rfl⟩
  · refine z_aload_n (pc := 8) (zk4 kX5_mayPour_0) rfl ?_
    refine z_iload_n (pc := 9) (zk5 kX5_mayPour_0) rfl ?_
    refine z_rdV (pc := 10) (zk6 kX5_mayPour_0) (st := []) lkX5_123 ivX5_isHouse hM.1 rfl rfl (c_isHouse hM) rfl ⟨rfl, rfl⟩ rfl rfl ?_ rfl
    refine z_oif_eq (pc := 13) (zk7 kX5_mayPour_0) (tgt := 35) (by decide) (fun c_2 => ?_) (fun c_2 => ?_)
    · refine z_iconst (pc := 35) (zk2 kX5_mayPour_1) (v := 0) (by decide) ?_
      exact z_zret (pc := 36) (zk3 kX5_mayPour_1) rfl (Nat.zero_le _) (Nat.zero_le _) (by decide) ⟨by simp [oI, c_1, c_2], rfl, rfl⟩
    · refine z_iload_n (pc := 16) (zk8 kX5_mayPour_0) rfl ?_
      refine z_iload_n (pc := 17) (zk9 kX5_mayPour_0) rfl ?_
      refine z_icmp_eq (pc := 18) (zk10 kX5_mayPour_0) (tgt := 35) (by decide) (fun c_3 => ?_) (fun c_3 => ?_)
      · refine z_iconst (pc := 35) (zk2 kX5_mayPour_1) (v := 0) (by decide) ?_
        exact z_zret (pc := 36) (zk3 kX5_mayPour_1) rfl (Nat.zero_le _) (Nat.zero_le _) (by decide) ⟨by simp [oI, c_1, c_2, c_3], rfl, rfl⟩
      · refine z_aload_n (pc := 21) (zk11 kX5_mayPour_0) rfl ?_
        refine z_iload_n (pc := 22) (zk12 kX5_mayPour_0) rfl ?_
        refine z_iload (pc := 23) (zk13 kX5_mayPour_0) rfl ?_
        refine z_rdV (pc := 25) (zk14 kX5_mayPour_0) (st := []) lkX5_248 ivX5_areBoth hM.1 rfl rfl (c_areBoth hM) rfl ⟨rfl, rfl⟩ rfl rfl ?_ rfl
        refine z_oif_eq (pc := 28) (zk15 kX5_mayPour_0) (tgt := 35) (by decide) (fun c_4 => ?_) (fun c_4 => ?_)
        · refine z_iconst (pc := 35) (zk2 kX5_mayPour_1) (v := 0) (by decide) ?_
          exact z_zret (pc := 36) (zk3 kX5_mayPour_1) rfl (Nat.zero_le _) (Nat.zero_le _) (by decide) ⟨by simp [oI, c_1, c_2, c_3, c_4], rfl, rfl⟩
        · obtain ⟨c_5, c_6⟩ := Bool.and_eq_true_iff.mp c_4
          refine z_iconst (pc := 31) (zk0 kX5_mayPour_1) (v := 1) (by decide) ?_
          refine z_goto (pc := 32) (zk1 kX5_mayPour_1) (tgt := 36) (by decide) ?_
          exact z_zret (pc := 36) (zk3 kX5_mayPour_1) rfl (Nat.zero_le _) (Nat.zero_le _) (by decide) ⟨by simp [oI, c_1, c_2, c_3, c_4, c_5, c_6], rfl, rfl⟩
set_option maxRecDepth 20000 in
theorem c_knowsBy {D : zD} {B : Nat} {h : zH} {sz : Nat} {p : Nat} {σ τ ω : Ln} {ε : El} {mv : Nat → Int64} {kp tr : Option Nat} {n l k : Nat} (hM : MoAt h p σ τ ω ε mv kp tr) (hn : σ 0 0 = nI n) (h12 : n ≤ 12) (hl : l < 8) (hk : k < n) (hto : ToOk σ l) (hB : B ≤ p) : zM D B xX5_knowsBy [.ref p, .int (nI l), .int (nI k)] h sz (fun r h1 z1 => r = some (.int (byC σ l k)) ∧ MoAt h1 p σ τ ω ε mv kp tr ∧ Upd h h1 p 29 ∧ z1 = sz) := by
  have hU : Upd h h p 29 := Upd.rf
  refine zM.of (by decide) rfl (n := 3) ?_
  show Z D B xX5_knowsBy 0 0 _ 0 [some (.ref p), some (.int (nI l)), some (.int (nI k)), none, none, none] [] h sz
  refine z_aload_n (pc := 0) (zk0 kX5_knowsBy_0) rfl ?_
  refine z_getf (pc := 1) (zk1 kX5_knowsBy_0) flX5_41 hM.1 gMo_10 ?_
  refine z_iload_n (pc := 4) (zk2 kX5_knowsBy_0) rfl ?_
  refine z_ialdN (pc := 5) (zk3 kX5_knowsBy_0) (f := σ 1) (j := k) hM.2.2.2.2.2.2.2.2.2.2.1 (show k < 12 by omega) rfl ?_
  refine z_istore_n (pc := 6) (zk4 kX5_knowsBy_0) rfl rfl ?_
  show Z D B xX5_knowsBy _ _ _ 7 [some (.ref p), some (.int (nI l)), some (.int (nI k)), some (.int (σ 1 k)), none, none] _ _ _
  refine z_iconst (pc := 7) (zk5 kX5_knowsBy_0) (v := 0) (by decide) ?_
  refine z_istore (pc := 8) (zk6 kX5_knowsBy_0) rfl rfl ?_
  show Z D B xX5_knowsBy _ _ _ 10 [some (.ref p), some (.int (nI l)), some (.int (nI k)), some (.int (σ 1 k)), some (.int 0), none] _ _ _
  refine z_iconst (pc := 10) (zk7 kX5_knowsBy_0) (v := 0) (by decide) ?_
  refine z_istore (pc := 11) (zk8 kX5_knowsBy_0) rfl rfl ?_
  show Z D B xX5_knowsBy _ _ _ 13 [some (.ref p), some (.int (nI l)), some (.int (nI k)), some (.int (σ 1 k)), some (.int 0), some (.int 0)] _ _ _
  have lp13 : ∀ (n_ : Nat) (g : zH) (q : Int32) (t : Int32) (i : Nat), 10 - i < n_ → (i ≤ 10) → (t = sum0 (fun v => oI (knowB (up2 σ 1 k (nI v)) l k)) i) → (MoAt g p (up2 σ 1 k q) τ ω ε mv kp tr) → (Upd h g p 29) → Z D B xX5_knowsBy 0 0 (fun r h1 z1 => r = some (.int (byC σ l k)) ∧ MoAt h1 p σ τ ω ε mv kp tr ∧ Upd h h1 p 29 ∧ z1 = sz) 13 [some (.ref p), some (.int (nI l)), some (.int (nI k)), some (.int (σ 1 k)), some (.int t), some (.int (nI i))] [] g sz := by
    intro n_
    induction n_ with
    | zero => intro g q t i hm_; exact absurd hm_ (Nat.not_lt_zero _)
    | succ n_ ih13 =>
      intro g q t i hm_ hi_i ht hM hU
      refine z_iload (pc := 13) (zk9 kX5_knowsBy_0) rfl ?_
      refine z_bipush (pc := 15) (zk10 kX5_knowsBy_0) (v := 9) (by decide) ?_
      refine z_icmp_gt (pc := 17) (zk11 kX5_knowsBy_0) (tgt := 53) (by decide) (fun c_1 => ?_) (fun c_1 => ?_)
      · have hie_i : i = 10 := nI_gt_yes (a := 9) (by omega) (by omega) c_1
        refine z_aload_n (pc := 53) (zk14 kX5_knowsBy_1) rfl ?_
        refine z_getf (pc := 54) (zk15 kX5_knowsBy_1) flX5_41 hM.1 gMo_10 ?_
        refine z_iload_n (pc := 57) (zk0 kX5_knowsBy_2) rfl ?_
        refine z_iload_n (pc := 58) (zk1 kX5_knowsBy_2) rfl ?_
        refine z_Mo_s17 (pc := 59) (zk2 kX5_knowsBy_2) (j := k) hM (by omega) (show k < 12 by omega) (fun h_2 hR hU_3 => ?_)
        replace hU := hU.tr hU_3 (by omega) (by omega)
        replace hM := hR; clear hR
        rw [up2_up2, up2_id] at hM
        refine z_iload (pc := 60) (zk3 kX5_knowsBy_2) rfl ?_
        exact z_iret (pc := 62) (zk4 kX5_knowsBy_2) rfl (Nat.zero_le _) (Nat.zero_le _) ⟨by rw [ht, hie_i]; rfl, hM, hU, rfl⟩
      · have hlt_i : i < 10 := nI_gt_not (a := 9) (by omega) c_1
        refine z_aload_n (pc := 20) (zk12 kX5_knowsBy_0) rfl ?_
        refine z_getf (pc := 21) (zk13 kX5_knowsBy_0) flX5_41 hM.1 gMo_10 ?_
        refine z_iload_n (pc := 24) (zk14 kX5_knowsBy_0) rfl ?_
        refine z_iload (pc := 25) (zk15 kX5_knowsBy_0) rfl ?_
        refine z_Mo_s17 (pc := 27) (zk0 kX5_knowsBy_1) (j := k) hM (by omega) (show k < 12 by omega) (fun h_4 hR hU_5 => ?_)
        replace hU := hU.tr hU_5 (by omega) (by omega)
        replace hM := hR; clear hR
        rw [up2_up2] at hM
        refine z_iload (pc := 28) (zk1 kX5_knowsBy_1) rfl ?_
        suffices hJ : Z D B xX5_knowsBy 0 0 (fun r h1 z1 => r = some (.int (byC σ l k)) ∧ MoAt h1 p σ τ ω ε mv kp tr ∧ Upd h h1 p 29 ∧ z1 = sz) 44 [some (.ref p), some (.int (nI l)), some (.int (nI k)), some (.int (σ 1 k)), some (.int t), some (.int (nI i))] [.int (oI (knowB (up2 σ 1 k (nI i)) l k)), .int t] h_4 sz from by
          refine z_aload_n (pc := 30) (zk2 kX5_knowsBy_1) rfl ?_
          refine z_iload_n (pc := 31) (zk3 kX5_knowsBy_1) rfl ?_
          refine z_iload_n (pc := 32) (zk4 kX5_knowsBy_1) rfl ?_
          refine z_rdV (pc := 33) (zk5 kX5_knowsBy_1) (st := [.int t]) lkX5_245 ivX5_knowsOf hM.1 rfl rfl (c_knowsOf hM hn h12 (show l < 8 by omega) (show k < n by omega) hto) rfl ⟨rfl, rfl⟩ rfl rfl ?_ rfl
          refine z_oif_eq (pc := 36) (zk6 kX5_knowsBy_1) (tgt := 43) (by decide) (fun c_6 => ?_) (fun c_6 => ?_)
          · refine z_iconst (pc := 43) (zk9 kX5_knowsBy_1) (v := 0) (by decide) ?_
            exact z_top (congrArg Value.int (by simp [oI, c_1, Int32.not_lt.mp c_1, c_6])) hJ
          · refine z_iconst (pc := 39) (zk7 kX5_knowsBy_1) (v := 1) (by decide) ?_
            refine z_goto (pc := 40) (zk8 kX5_knowsBy_1) (tgt := 44) (by decide) ?_
            exact z_top (congrArg Value.int (by simp [oI, c_1, Int32.not_lt.mp c_1, c_6])) hJ
        refine z_iadd (pc := 44) (zk10 kX5_knowsBy_1) ?_
        refine z_istore (pc := 45) (zk11 kX5_knowsBy_1) rfl rfl ?_
        show Z D B xX5_knowsBy _ _ _ 47 [some (.ref p), some (.int (nI l)), some (.int (nI k)), some (.int (σ 1 k)), some (.int (t + (oI (knowB (up2 σ 1 k (nI i)) l k)))), some (.int (nI i))] _ _ _
        refine z_iinc (pc := 47) (zk12 kX5_knowsBy_1) (v := nI (i + 1)) rfl zinc rfl rfl ?_
        show Z D B xX5_knowsBy _ _ _ 50 [some (.ref p), some (.int (nI l)), some (.int (nI k)), some (.int (σ 1 k)), some (.int (t + (oI (knowB (up2 σ 1 k (nI i)) l k)))), some (.int (nI (i + 1)))] _ _ _
        refine z_goto (pc := 50) (zk13 kX5_knowsBy_1) (tgt := 13) (by decide) ?_
        exact ih13 h_4 (nI i) (t + (oI (knowB (up2 σ 1 k (nI i)) l k))) (i + 1) (by omega) (by omega) (by rw [ht]; rfl) hM hU
  exact lp13 _ h (σ 1 k) 0 0 (Nat.lt_succ_self _) (by omega) rfl (by rw [up2_id]; exact hM) hU
set_option maxRecDepth 20000 in
theorem cP_chance {D : zD} {B : Nat} {h : zH} {sz : Nat} {p : Nat} {σ τ ω : Ln} {ε : El} {mv : Nat → Int64} {kp tr : Option Nat} {x : Int32} {y : Int32} {n m : Nat} (hM : MoAt h p σ τ ω ε mv kp tr) (hB : B ≤ p) (hn : σ 0 0 = nI n) (h12 : n ≤ 12) (hm : σ 9 0 = nI m) (h8 : m ≤ 8) (hto : ∀ l, l < m → ToOk σ l) : zM D B xX5_chance [.ref p, .int x, .int y] h sz (mQ h p sz kp tr (sp_chance σ τ ε x y)) := by
  have hU : Upd h h p 29 := Upd.rf
  refine zM.of (by decide) rfl (n := 0) ?_
  show Z D B xX5_chance 0 0 _ 0 [some (.ref p), some (.int x), some (.int y)] [] h sz
  refine z_aload_n (pc := 0) (zk0 kX5_chance_0) rfl ?_
  refine z_iload_n (pc := 1) (zk1 kX5_chance_0) rfl ?_
  refine z_iload_n (pc := 2) (zk2 kX5_chance_0) rfl ?_
  refine z_rdV (pc := 3) (zk3 kX5_chance_0) (st := []) lkX5_248 ivX5_areBoth hM.1 rfl rfl (c_areBoth hM) rfl ⟨rfl, rfl⟩ rfl rfl ?_ rfl
  refine z_oif_eq (pc := 6) (zk4 kX5_chance_0) (tgt := 22) (by decide) (fun c_1 => ?_) (fun c_1 => ?_)
  · refine z_aload_n (pc := 22) (zk12 kX5_chance_0) rfl ?_
    refine z_bipush (pc := 23) (zk13 kX5_chance_0) (v := (-2)) (by decide) ?_
    refine z_efV (pc := 25) (zk14 kX5_chance_0) (st := []) lkX5_94 ivX5_refuse hM.1 rfl rfl (c_refuse hM (by omega) (j := 2) (by decide) (by decide)) rfl ⟨rfl, rfl⟩ rfl rfl (fun r_ h_3 z_ q_2 => ?_) rfl
    obtain ⟨er_, hR, hU_4, ez_⟩ := q_2
    rw [er_, ez_]
    clear er_ ez_
    replace hU := hU.tr hU_4 (by omega) (by omega)
    replace hM := hR; clear hR
    show Z D B xX5_chance _ _ _ 28 _ [.int (-2)] _ _
    exact z_iret (pc := 28) (zk15 kX5_chance_0) rfl (Nat.zero_le _) (Nat.zero_le _) (by
            rw [show sp_chance σ τ ε x y = ((-2), σ, rfN τ 2, ε) from by simp [sp_chance, sBad, okS, okH, okL, okT, okB, sRd, up2_id, up2_id2, oI, sOther, sNone, sFull, c_1]]
            exact ⟨_, _, rfl, hM, hU, rfl⟩)
  · obtain ⟨c_5, c_6⟩ := Bool.and_eq_true_iff.mp c_1
    refine z_ldcw (pc := 9) (zk5 kX5_chance_0) kcX5_318 ?_
    refine z_aload_n (pc := 12) (zk6 kX5_chance_0) rfl ?_
    refine z_iload_n (pc := 13) (zk7 kX5_chance_0) rfl ?_
    refine z_iload_n (pc := 14) (zk8 kX5_chance_0) rfl ?_
    obtain ⟨ky, hky, rfl⟩ := okR_nI (n := n) (by omega) (by rw [← hn]; exact c_6)
    obtain ⟨kx, hkx, rfl⟩ := okR_nI (n := m) (by omega) (by rw [← hm]; exact c_5)
    refine z_efV (pc := 15) (zk9 kX5_chance_0) (st := [.int 100000]) lkX5_319 ivX5_knowsBy hM.1 rfl rfl (c_knowsBy hM hn h12 (show kx < 8 by omega) (show ky < n by omega) (hto _ (by omega)) hB) rfl ⟨rfl, rfl⟩ rfl rfl (fun r_ h_8 z_ q_7 => ?_) rfl
    obtain ⟨er_, hR, hU_9, ez_⟩ := q_7
    rw [er_, ez_]
    clear er_ ez_
    replace hU := hU.tr hU_9 (by omega) (by omega)
    replace hM := hR; clear hR
    show Z D B xX5_chance _ _ _ 18 _ [.int (byC σ kx ky), .int 100000] _ _
    refine z_imul (pc := 18) (zk10 kX5_chance_0) ?_
    refine z_goto (pc := 19) (zk11 kX5_chance_0) (tgt := 28) (by decide) ?_
    exact z_iret (pc := 28) (zk15 kX5_chance_0) rfl (Nat.zero_le _) (Nat.zero_le _) (by
            rw [show sp_chance σ τ ε (nI kx) (nI ky) = (100000 * (byC σ kx ky), σ, τ, ε) from by simp [sp_chance, sBad, okS, okH, okL, okT, okB, sRd, up2_id, up2_id2, oI, sOther, sNone, sFull, c_1, c_5, c_6, ix_nI (show ky ≤ 1000 by omega), ix_nI (show kx ≤ 1000 by omega)]]
            exact ⟨_, _, rfl, hM, hU, rfl⟩)
set_option maxRecDepth 20000 in
theorem cP_sure {D : zD} {B : Nat} {h : zH} {sz : Nat} {p : Nat} {σ τ ω : Ln} {ε : El} {mv : Nat → Int64} {kp tr : Option Nat} {x : Int32} {n m : Nat} (hM : MoAt h p σ τ ω ε mv kp tr) (hB : B ≤ p) (hn : σ 0 0 = nI n) (h12 : n ≤ 12) (hm : σ 9 0 = nI m) (h8 : m ≤ 8) (hto : ∀ l, l < m → ToOk σ l) : zM D B xX5_sure [.ref p, .int x] h sz (mQ h p sz kp tr (sp_sure σ τ ε x)) := by
  have hU : Upd h h p 29 := Upd.rf
  refine zM.of (by decide) rfl (n := 2) ?_
  show Z D B xX5_sure 0 0 _ 0 [some (.ref p), some (.int x), none, none] [] h sz
  refine z_aload_n (pc := 0) (zk0 kX5_sure_0) rfl ?_
  refine z_iload_n (pc := 1) (zk1 kX5_sure_0) rfl ?_
  refine z_i2l (pc := 2) (zk2 kX5_sure_0) ?_
  refine z_rdV (pc := 3) (zk3 kX5_sure_0) (st := []) lkX5_105 ivX5_isLetter hM.1 rfl rfl (c_isLetter hM) rfl ⟨rfl, rfl⟩ rfl rfl ?_ rfl
  refine z_oif_ne (pc := 6) (zk4 kX5_sure_0) (tgt := 16) (by decide) (fun c_1 => ?_) (fun c_1 => ?_)
  · obtain ⟨kx, hkx, rfl⟩ := okR_nI (n := m) (by omega) (by rw [← hm]; exact c_1)
    refine z_iconst (pc := 16) (zk9 kX5_sure_0) (v := 0) (by decide) ?_
    refine z_istore_n (pc := 17) (zk10 kX5_sure_0) rfl rfl ?_
    show Z D B xX5_sure _ _ _ 18 [some (.ref p), some (.int (nI kx)), some (.int 0), none] _ _ _
    refine z_iconst (pc := 18) (zk11 kX5_sure_0) (v := 0) (by decide) ?_
    refine z_istore_n (pc := 19) (zk12 kX5_sure_0) rfl rfl ?_
    show Z D B xX5_sure _ _ _ 20 [some (.ref p), some (.int (nI kx)), some (.int 0), some (.int 0)] _ _ _
    have lp20 : ∀ (n_ : Nat) (g : zH) (t : Int32) (i : Nat), n - i < n_ → (i ≤ n) → (t = sum0 (fun k => oI (sureB σ kx k)) i) → (MoAt g p σ τ ω ε mv kp tr) → (Upd h g p 29) → Z D B xX5_sure 0 0 (mQ h p sz kp tr (sp_sure σ τ ε (nI kx))) 20 [some (.ref p), some (.int (nI kx)), some (.int t), some (.int (nI i))] [] g sz := by
      intro n_
      induction n_ with
      | zero => intro g t i hm_; exact absurd hm_ (Nat.not_lt_zero _)
      | succ n_ ih20 =>
        intro g t i hm_ hi_i ht hM hU
        refine z_iload_n (pc := 20) (zk13 kX5_sure_0) rfl ?_
        refine z_aload_n (pc := 21) (zk14 kX5_sure_0) rfl ?_
        refine z_getf (pc := 22) (zk15 kX5_sure_0) flX5_37 hM.1 (v := .int (nI n)) (by rw [← hn]; rfl) ?_
        refine z_icmp_ge (pc := 25) (zk0 kX5_sure_1) (tgt := 72) (by decide) (fun c_2 => ?_) (fun c_2 => ?_)
        · have hie_i : i = n := nI_ge_yes (a := n) (by omega) (by omega) (by omega) c_2
          refine z_iload_n (pc := 72) (zk10 kX5_sure_2) rfl ?_
          exact z_iret (pc := 73) (zk11 kX5_sure_2) rfl (Nat.zero_le _) (Nat.zero_le _) (by
                        rw [show sp_sure σ τ ε (nI kx) = (t, σ, τ, ε) from by simp [sp_sure, sBad, okS, okH, okL, okT, okB, sRd, up2_id, up2_id2, oI, c_1, c_2, Int32.not_lt.mpr c_2, ix_nI (show kx ≤ 1000 by omega), ht, hie_i, hsN_eq hn h12, lsN_eq hm h8]]
                        exact ⟨_, _, rfl, hM, hU, rfl⟩)
        · have hlt_i : i < n := nI_ge_not (a := n) (by omega) (by omega) c_2
          refine z_iload_n (pc := 28) (zk1 kX5_sure_1) rfl ?_
          refine z_iload_n (pc := 29) (zk2 kX5_sure_1) rfl ?_
          refine z_aload_n (pc := 30) (zk3 kX5_sure_1) rfl ?_
          refine z_getf (pc := 31) (zk4 kX5_sure_1) flX5_59 hM.1 gMo_20 ?_
          refine z_iload_n (pc := 34) (zk5 kX5_sure_1) rfl ?_
          refine z_ialdN (pc := 35) (zk6 kX5_sure_1) (f := σ 12) (j := kx) hM.2.2.2.2.2.2.2.2.2.2.2.2.2.2.2.2.1 (show kx < 8 by omega) rfl ?_
          refine z_icmp_eq (pc := 36) (zk7 kX5_sure_1) (tgt := 63) (by decide) (fun c_3 => ?_) (fun c_3 => ?_)
          · refine z_iconst (pc := 63) (zk5 kX5_sure_2) (v := 0) (by decide) ?_
            refine z_iadd (pc := 64) (zk6 kX5_sure_2) ?_
            refine z_istore_n (pc := 65) (zk7 kX5_sure_2) rfl rfl ?_
            show Z D B xX5_sure _ _ _ 66 [some (.ref p), some (.int (nI kx)), some (.int (t + 0)), some (.int (nI i))] _ _ _
            refine z_iinc (pc := 66) (zk8 kX5_sure_2) (v := nI (i + 1)) rfl zinc rfl rfl ?_
            show Z D B xX5_sure _ _ _ 69 [some (.ref p), some (.int (nI kx)), some (.int (t + 0)), some (.int (nI (i + 1)))] _ _ _
            refine z_goto (pc := 69) (zk9 kX5_sure_2) (tgt := 20) (by decide) ?_
            exact ih20 g (t + 0) (i + 1) (by omega) (by omega) (by rw [ht, sum0]; simp [sureB, oI, c_1, c_2, Int32.not_le.mp c_2, c_3]) hM hU
          · refine z_aload_n (pc := 39) (zk8 kX5_sure_1) rfl ?_
            refine z_iload_n (pc := 40) (zk9 kX5_sure_1) rfl ?_
            refine z_iload_n (pc := 41) (zk10 kX5_sure_1) rfl ?_
            refine z_rdV (pc := 42) (zk11 kX5_sure_1) (st := [.int t]) lkX5_236 ivX5_readAt hM.1 rfl rfl (c_mreadAt hM (show kx < 8 by omega)) rfl ⟨rfl, rfl⟩ rfl rfl ?_ rfl
            refine z_oif_eq (pc := 45) (zk12 kX5_sure_1) (tgt := 63) (by decide) (fun c_4 => ?_) (fun c_4 => ?_)
            · refine z_iconst (pc := 63) (zk5 kX5_sure_2) (v := 0) (by decide) ?_
              refine z_iadd (pc := 64) (zk6 kX5_sure_2) ?_
              refine z_istore_n (pc := 65) (zk7 kX5_sure_2) rfl rfl ?_
              show Z D B xX5_sure _ _ _ 66 [some (.ref p), some (.int (nI kx)), some (.int (t + 0)), some (.int (nI i))] _ _ _
              refine z_iinc (pc := 66) (zk8 kX5_sure_2) (v := nI (i + 1)) rfl zinc rfl rfl ?_
              show Z D B xX5_sure _ _ _ 69 [some (.ref p), some (.int (nI kx)), some (.int (t + 0)), some (.int (nI (i + 1)))] _ _ _
              refine z_goto (pc := 69) (zk9 kX5_sure_2) (tgt := 20) (by decide) ?_
              exact ih20 g (t + 0) (i + 1) (by omega) (by omega) (by rw [ht, sum0]; simp [sureB, oI, c_1, c_2, Int32.not_le.mp c_2, c_3, c_4]) hM hU
            · refine z_aload_n (pc := 48) (zk13 kX5_sure_1) rfl ?_
              refine z_iload_n (pc := 49) (zk14 kX5_sure_1) rfl ?_
              refine z_iload_n (pc := 50) (zk15 kX5_sure_1) rfl ?_
              refine z_efV (pc := 51) (zk0 kX5_sure_2) (st := [.int t]) lkX5_319 ivX5_knowsBy hM.1 rfl rfl (c_knowsBy hM hn h12 (show kx < 8 by omega) (show i < n by omega) (hto _ (by omega)) hB) rfl ⟨rfl, rfl⟩ rfl rfl (fun r_ h_6 z_ q_5 => ?_) rfl
              obtain ⟨er_, hR, hU_7, ez_⟩ := q_5
              rw [er_, ez_]
              clear er_ ez_
              replace hU := hU.tr hU_7 (by omega) (by omega)
              replace hM := hR; clear hR
              show Z D B xX5_sure _ _ _ 54 _ [.int (byC σ kx i), .int t] _ _
              refine z_bipush (pc := 54) (zk1 kX5_sure_2) (v := 10) (by decide) ?_
              refine z_icmp_ne (pc := 56) (zk2 kX5_sure_2) (tgt := 63) (by decide) (fun c_8 => ?_) (fun c_8 => ?_)
              · refine z_iconst (pc := 63) (zk5 kX5_sure_2) (v := 0) (by decide) ?_
                refine z_iadd (pc := 64) (zk6 kX5_sure_2) ?_
                refine z_istore_n (pc := 65) (zk7 kX5_sure_2) rfl rfl ?_
                show Z D B xX5_sure _ _ _ 66 [some (.ref p), some (.int (nI kx)), some (.int (t + 0)), some (.int (nI i))] _ _ _
                refine z_iinc (pc := 66) (zk8 kX5_sure_2) (v := nI (i + 1)) rfl zinc rfl rfl ?_
                show Z D B xX5_sure _ _ _ 69 [some (.ref p), some (.int (nI kx)), some (.int (t + 0)), some (.int (nI (i + 1)))] _ _ _
                refine z_goto (pc := 69) (zk9 kX5_sure_2) (tgt := 20) (by decide) ?_
                exact ih20 h_6 (t + 0) (i + 1) (by omega) (by omega) (by rw [ht, sum0]; simp [sureB, oI, c_1, c_2, Int32.not_le.mp c_2, c_3, c_4, c_8]) hM hU
              · refine z_iconst (pc := 59) (zk3 kX5_sure_2) (v := 1) (by decide) ?_
                refine z_goto (pc := 60) (zk4 kX5_sure_2) (tgt := 64) (by decide) ?_
                refine z_iadd (pc := 64) (zk6 kX5_sure_2) ?_
                refine z_istore_n (pc := 65) (zk7 kX5_sure_2) rfl rfl ?_
                show Z D B xX5_sure _ _ _ 66 [some (.ref p), some (.int (nI kx)), some (.int (t + 1)), some (.int (nI i))] _ _ _
                refine z_iinc (pc := 66) (zk8 kX5_sure_2) (v := nI (i + 1)) rfl zinc rfl rfl ?_
                show Z D B xX5_sure _ _ _ 69 [some (.ref p), some (.int (nI kx)), some (.int (t + 1)), some (.int (nI (i + 1)))] _ _ _
                refine z_goto (pc := 69) (zk9 kX5_sure_2) (tgt := 20) (by decide) ?_
                exact ih20 h_6 (t + 1) (i + 1) (by omega) (by omega) (by rw [ht, sum0]; simp [sureB, oI, c_1, c_2, Int32.not_le.mp c_2, c_3, c_4, c_8]) hM hU
    exact lp20 _ h 0 0 (Nat.lt_succ_self _) (by omega) rfl hM hU
  · refine z_aload_n (pc := 9) (zk5 kX5_sure_0) rfl ?_
    refine z_bipush (pc := 10) (zk6 kX5_sure_0) (v := (-2)) (by decide) ?_
    refine z_efV (pc := 12) (zk7 kX5_sure_0) (st := []) lkX5_94 ivX5_refuse hM.1 rfl rfl (c_refuse hM (by omega) (j := 2) (by decide) (by decide)) rfl ⟨rfl, rfl⟩ rfl rfl (fun r_ h_10 z_ q_9 => ?_) rfl
    obtain ⟨er_, hR, hU_11, ez_⟩ := q_9
    rw [er_, ez_]
    clear er_ ez_
    replace hU := hU.tr hU_11 (by omega) (by omega)
    replace hM := hR; clear hR
    show Z D B xX5_sure _ _ _ 15 _ [.int (-2)] _ _
    exact z_iret (pc := 15) (zk8 kX5_sure_0) rfl (Nat.zero_le _) (Nat.zero_le _) (by
            rw [show sp_sure σ τ ε x = ((-2), σ, rfN τ 2, ε) from by simp [sp_sure, sBad, okS, okH, okL, okT, okB, sRd, up2_id, up2_id2, oI, c_1]]
            exact ⟨_, _, rfl, hM, hU, rfl⟩)
theorem sndB_f {σ : Ln} {e : Nat → Int64} {l i : Nat} (c : ¬ (heardF σ l i).toInt64 = e i) : ∀ {q : Nat}, i < q → sndB σ e l q = false
  | 0, h => absurd h (Nat.not_lt_zero _)
  | q + 1, h => by
    rw [sndB]
    rcases Nat.lt_or_ge i q with r | r
    · rw [sndB_f c r]; rfl
    · rw [show q = i by omega, decide_eq_false c, Bool.and_false]
theorem rowF_0 {τ : Ln} {x y z : Int32} {b : Bool} (h : rowF τ x y z b = 0) : okR 0 7 x = true ∧ okR 0 z y = true ∧ b = true ∧ ¬ τ 1 (ix x) = 2 ∧ ¬ τ 1 (ix x) = 0 ∧ ¬ τ 3 (ix x) < y := by
  unfold rowF okS at h
  by_cases h1 : (okR 0 7 x && okR 0 z y && b) = true
  · rw [h1] at h
    obtain ⟨q, q3⟩ := Bool.and_eq_true_iff.mp h1
    obtain ⟨q1, q2⟩ := Bool.and_eq_true_iff.mp q
    refine ⟨q1, q2, q3, ?_, ?_, ?_⟩
    · intro c; simp [c] at h
    · intro c; simp [c] at h
    · intro c
      by_cases a : τ 1 (ix x) = 2
      · simp [a] at h
      · by_cases b : τ 1 (ix x) = 0
        · simp [b] at h
        · simp [a, b, c] at h
  · rw [Bool.not_eq_true] at h1
    rw [h1] at h
    simp at h
set_option maxRecDepth 20000 in
theorem c_sounds {D : zD} {B : Nat} {h : zH} {sz : Nat} {p : Nat} {σ τ ω : Ln} {ε : El} {mv : Nat → Int64} {kp tr : Option Nat} {n s q l : Nat} (hM : MoAt h p σ τ ω ε mv kp tr) (hn : σ 0 0 = nI n) (h12 : n ≤ 12) (hs : s < 8) (hq : q ≤ n) (hl : l < 8) (hto : ToOk σ l) : zRd D B xX5_sounds [.ref p, .int (nI s), .int (nI q), .int (nI l)] h sz (.int (oI (sndB σ (ε s) l q))) := by
  refine zM.of (by decide) rfl (n := 1) ?_
  show Z D B xX5_sounds 0 0 _ 0 [some (.ref p), some (.int (nI s)), some (.int (nI q)), some (.int (nI l)), none] [] h sz
  refine z_iconst (pc := 0) (zk0 kX5_sounds_0) (v := 0) (by decide) ?_
  refine z_istore (pc := 1) (zk1 kX5_sounds_0) rfl rfl ?_
  show Z D B xX5_sounds _ _ _ 3 [some (.ref p), some (.int (nI s)), some (.int (nI q)), some (.int (nI l)), some (.int 0)] _ _ _
  have lp3 : ∀ (n_ : Nat) (i : Nat), q - i < n_ → (i ≤ q) → (sndB σ (ε s) l i = true) → Z D B xX5_sounds 0 0 (fun r h1 z1 => r = some (.int (oI (sndB σ (ε s) l q))) ∧ h1 = h ∧ z1 = sz) 3 [some (.ref p), some (.int (nI s)), some (.int (nI q)), some (.int (nI l)), some (.int (nI i))] [] h sz := by
    intro n_
    induction n_ with
    | zero => intro i hm_; exact absurd hm_ (Nat.not_lt_zero _)
    | succ n_ ih3 =>
      intro i hm_ hi_i hs_
      refine z_iload (pc := 3) (zk2 kX5_sounds_0) rfl ?_
      refine z_iload_n (pc := 5) (zk3 kX5_sounds_0) rfl ?_
      refine z_icmp_ge (pc := 6) (zk4 kX5_sounds_0) (tgt := 38) (by decide) (fun c_1 => ?_) (fun c_1 => ?_)
      · have hie_i : i = q := nI_ge_yes (a := q) (by omega) (by omega) (by omega) c_1
        refine z_iconst (pc := 38) (zk6 kX5_sounds_1) (v := 1) (by decide) ?_
        exact z_zret (pc := 39) (zk7 kX5_sounds_1) rfl (Nat.zero_le _) (Nat.zero_le _) (by decide) ⟨by rw [← hie_i, hs_]; rfl, rfl, rfl⟩
      · have hlt_i : i < q := nI_ge_not (a := q) (by omega) (by omega) c_1
        refine z_aload_n (pc := 9) (zk5 kX5_sounds_0) rfl ?_
        refine z_iload_n (pc := 10) (zk6 kX5_sounds_0) rfl ?_
        refine z_iload (pc := 11) (zk7 kX5_sounds_0) rfl ?_
        refine z_rdV (pc := 13) (zk8 kX5_sounds_0) (st := []) lkX5_115 ivX5_heardAt hM.1 rfl rfl (c_mheardAt hM hn h12 (show l < 8 by omega) (show i < n by omega) hto) rfl ⟨rfl, rfl⟩ rfl rfl ?_ rfl
        refine z_i2l (pc := 16) (zk9 kX5_sounds_0) ?_
        refine z_aload_n (pc := 17) (zk10 kX5_sounds_0) rfl ?_
        refine z_getf (pc := 18) (zk11 kX5_sounds_0) flX5_21 hM.1 gMo_3 ?_
        refine z_iload_n (pc := 21) (zk12 kX5_sounds_0) rfl ?_
        refine z_aald4N (pc := 22) (zk13 kX5_sounds_0) (j := s) (b := p + 4 + 1 + s) hM.2.2.2.2.1 (show s < 8 by omega) rfl (if_pos (show s < 8 by omega)) ?_
        refine z_iload (pc := 23) (zk14 kX5_sounds_0) rfl ?_
        refine z_laldN (pc := 25) (zk15 kX5_sounds_0) (j := i) (hM.2.2.2.2.2.1 s (show s < 8 by omega)) (show i < 40 by omega) rfl ?_
        refine z_lcmp (pc := 26) (zk0 kX5_sounds_1) ?_
        refine z_lif_eq (pc := 27) (zk1 kX5_sounds_1) (tgt := 32) (by decide) (fun c_2 => ?_) (fun c_2 => ?_)
        · refine z_iinc (pc := 32) (zk4 kX5_sounds_1) (v := nI (i + 1)) rfl zinc rfl rfl ?_
          show Z D B xX5_sounds _ _ _ 35 [some (.ref p), some (.int (nI s)), some (.int (nI q)), some (.int (nI l)), some (.int (nI (i + 1)))] _ _ _
          refine z_goto (pc := 35) (zk5 kX5_sounds_1) (tgt := 3) (by decide) ?_
          exact ih3 (i + 1) (by omega) (by omega) (by rw [sndB, hs_, decide_eq_true c_2]; rfl)
        · refine z_iconst (pc := 30) (zk2 kX5_sounds_1) (v := 0) (by decide) ?_
          exact z_zret (pc := 31) (zk3 kX5_sounds_1) rfl (Nat.zero_le _) (Nat.zero_le _) (by decide) ⟨by rw [sndB_f c_2 hlt_i]; rfl, rfl, rfl⟩
  exact lp3 _ 0 (Nat.lt_succ_self _) (by omega) rfl
set_option maxRecDepth 20000 in
theorem c_noSounds {D : zD} {B : Nat} {h : zH} {sz : Nat} {p : Nat} {σ τ ω : Ln} {ε : El} {mv : Nat → Int64} {kp tr : Option Nat} {x y z : Int32} {b : Bool} (hM : MoAt h p σ τ ω ε mv kp tr) (hB : B ≤ p) : zM D B xX5_noSounds [.ref p, .int x, .int y, .int z, .int (oI b)] h sz (fun r h1 z1 => (rowF τ x y z b = 2 ∧ r = some (.int (-2)) ∧ MoAt h1 p σ (rfN τ 2) ω ε mv kp tr ∧ Upd h h1 p 29 ∧ z1 = sz) ∨ (rowF τ x y z b = 3 ∧ r = some (.int (-3)) ∧ MoAt h1 p σ (rfN τ 3) ω ε mv kp tr ∧ Upd h h1 p 29 ∧ z1 = sz) ∨ (rowF τ x y z b = 4 ∧ r = some (.int (-4)) ∧ MoAt h1 p σ (rfN τ 4) ω ε mv kp tr ∧ Upd h h1 p 29 ∧ z1 = sz) ∨ (rowF τ x y z b = 0 ∧ r = some (.int 0) ∧ MoAt h1 p σ τ ω ε mv kp tr ∧ Upd h h1 p 29 ∧ z1 = sz)) := by
  have hU : Upd h h p 29 := Upd.rf
  refine zM.of (by decide) rfl (n := 1) ?_
  show Z D B xX5_noSounds 0 0 _ 0 [some (.ref p), some (.int x), some (.int y), some (.int z), some (.int (oI b)), none] [] h sz
  refine z_iload_n (pc := 0) (zk0 kX5_noSounds_0) rfl ?_
  refine z_i2l (pc := 1) (zk1 kX5_noSounds_0) ?_
  refine z_lconst (pc := 2) (zk2 kX5_noSounds_0) (v := 0) (by decide) ?_
  refine z_ldc2 (pc := 3) (zk3 kX5_noSounds_0) klX5_88 ?_
  refine z_rdS (pc := 6) (zk4 kX5_noSounds_0) (st := []) lkX5_81 isX5_in (c_inI (x := x) (a := 0) (b := 7) (by decide) (by decide)) rfl ⟨rfl, rfl⟩ rfl rfl ?_ rfl
  refine z_oif_eq (pc := 9) (zk5 kX5_noSounds_0) (tgt := 28) (by decide) (fun c_1 => ?_) (fun c_1 => ?_)
  · refine z_aload_n (pc := 28) (zk15 kX5_noSounds_0) rfl ?_
    refine z_bipush (pc := 29) (zk0 kX5_noSounds_1) (v := (-2)) (by decide) ?_
    refine z_efV (pc := 31) (zk1 kX5_noSounds_1) (st := []) lkX5_94 ivX5_refuse hM.1 rfl rfl (c_refuse hM (by omega) (j := 2) (by decide) (by decide)) rfl ⟨rfl, rfl⟩ rfl rfl (fun r_ h_3 z_ q_2 => ?_) rfl
    obtain ⟨er_, hR, hU_4, ez_⟩ := q_2
    rw [er_, ez_]
    clear er_ ez_
    replace hU := hU.tr hU_4 (by omega) (by omega)
    replace hM := hR; clear hR
    show Z D B xX5_noSounds _ _ _ 34 _ [.int (-2)] _ _
    exact z_iret (pc := 34) (zk2 kX5_noSounds_1) rfl (Nat.zero_le _) (Nat.zero_le _) (Or.inl ⟨by simp [rowF, okS, c_1], rfl, hM, hU, rfl⟩)
  · refine z_iload_n (pc := 12) (zk6 kX5_noSounds_0) rfl ?_
    refine z_i2l (pc := 13) (zk7 kX5_noSounds_0) ?_
    refine z_lconst (pc := 14) (zk8 kX5_noSounds_0) (v := 0) (by decide) ?_
    refine z_iload_n (pc := 15) (zk9 kX5_noSounds_0) rfl ?_
    refine z_i2l (pc := 16) (zk10 kX5_noSounds_0) ?_
    refine z_rdS (pc := 17) (zk11 kX5_noSounds_0) (st := []) lkX5_81 isX5_in (c_inI (x := y) (a := 0) (b := z) (by decide) rfl) rfl ⟨rfl, rfl⟩ rfl rfl ?_ rfl
    refine z_oif_eq (pc := 20) (zk12 kX5_noSounds_0) (tgt := 28) (by decide) (fun c_5 => ?_) (fun c_5 => ?_)
    · refine z_aload_n (pc := 28) (zk15 kX5_noSounds_0) rfl ?_
      refine z_bipush (pc := 29) (zk0 kX5_noSounds_1) (v := (-2)) (by decide) ?_
      refine z_efV (pc := 31) (zk1 kX5_noSounds_1) (st := []) lkX5_94 ivX5_refuse hM.1 rfl rfl (c_refuse hM (by omega) (j := 2) (by decide) (by decide)) rfl ⟨rfl, rfl⟩ rfl rfl (fun r_ h_7 z_ q_6 => ?_) rfl
      obtain ⟨er_, hR, hU_8, ez_⟩ := q_6
      rw [er_, ez_]
      clear er_ ez_
      replace hU := hU.tr hU_8 (by omega) (by omega)
      replace hM := hR; clear hR
      show Z D B xX5_noSounds _ _ _ 34 _ [.int (-2)] _ _
      exact z_iret (pc := 34) (zk2 kX5_noSounds_1) rfl (Nat.zero_le _) (Nat.zero_le _) (Or.inl ⟨by simp [rowF, okS, c_1, c_5], rfl, hM, hU, rfl⟩)
    · refine z_iload (pc := 23) (zk13 kX5_noSounds_0) rfl ?_
      refine z_oif_ne (pc := 25) (zk14 kX5_noSounds_0) (tgt := 35) (by decide) (fun c_9 => ?_) (fun c_9 => ?_)
      · refine z_aload_n (pc := 35) (zk3 kX5_noSounds_1) rfl ?_
        refine z_iload_n (pc := 36) (zk4 kX5_noSounds_1) rfl ?_
        refine z_efV (pc := 37) (zk5 kX5_noSounds_1) (st := []) lkX5_98 ivX5_noRow hM.1 rfl rfl (c_noRow hM hB) rfl ⟨rfl, rfl⟩ rfl rfl (fun r_ h_11 z_ q_10 => ?_) rfl
        rcases q_10 with ⟨f1_, er_, hR, hU_12, ez_⟩ | ⟨⟨f1_, f2_⟩, er_, hR, hU_12, ez_⟩ | ⟨⟨f1_, f2_, f3_⟩, er_, hR, hU_12, ez_⟩ | ⟨⟨f1_, f2_, f3_⟩, er_, hR, hU_12, ez_⟩
        · rw [er_, ez_]
          clear er_ ez_
          replace hU := hU.tr hU_12 (by omega) (by omega)
          replace hM := hR; clear hR
          show Z D B xX5_noSounds _ _ _ 40 _ [.int (-2)] _ _
          refine z_istore (pc := 40) (zk6 kX5_noSounds_1) rfl rfl ?_
          show Z D B xX5_noSounds _ _ _ 42 [some (.ref p), some (.int x), some (.int y), some (.int z), some (.int (oI b)), some (.int (-2))] _ _ _
          refine z_iload (pc := 42) (zk7 kX5_noSounds_1) rfl ?_
          refine z_if_eq (pc := 44) (zk8 kX5_noSounds_1) (tgt := 50) (by decide) (fun q => absurd q (by decide)) (fun _ => ?_)
          refine z_iload (pc := 47) (zk9 kX5_noSounds_1) rfl ?_
          exact z_iret (pc := 49) (zk10 kX5_noSounds_1) rfl (Nat.zero_le _) (Nat.zero_le _) (Or.inl ⟨absurd c_1 (by rw [f1_]; decide), rfl, hM, hU, rfl⟩)
        · rw [er_, ez_]
          clear er_ ez_
          replace hU := hU.tr hU_12 (by omega) (by omega)
          replace hM := hR; clear hR
          show Z D B xX5_noSounds _ _ _ 40 _ [.int (-3)] _ _
          refine z_istore (pc := 40) (zk6 kX5_noSounds_1) rfl rfl ?_
          show Z D B xX5_noSounds _ _ _ 42 [some (.ref p), some (.int x), some (.int y), some (.int z), some (.int (oI b)), some (.int (-3))] _ _ _
          refine z_iload (pc := 42) (zk7 kX5_noSounds_1) rfl ?_
          refine z_if_eq (pc := 44) (zk8 kX5_noSounds_1) (tgt := 50) (by decide) (fun q => absurd q (by decide)) (fun _ => ?_)
          refine z_iload (pc := 47) (zk9 kX5_noSounds_1) rfl ?_
          exact z_iret (pc := 49) (zk10 kX5_noSounds_1) rfl (Nat.zero_le _) (Nat.zero_le _) (Or.inr (Or.inl ⟨by simp [rowF, okS, c_1, c_5, c_9, f1_, f2_], rfl, hM, hU, rfl⟩))
        · rw [er_, ez_]
          clear er_ ez_
          replace hU := hU.tr hU_12 (by omega) (by omega)
          replace hM := hR; clear hR
          show Z D B xX5_noSounds _ _ _ 40 _ [.int (-4)] _ _
          refine z_istore (pc := 40) (zk6 kX5_noSounds_1) rfl rfl ?_
          show Z D B xX5_noSounds _ _ _ 42 [some (.ref p), some (.int x), some (.int y), some (.int z), some (.int (oI b)), some (.int (-4))] _ _ _
          refine z_iload (pc := 42) (zk7 kX5_noSounds_1) rfl ?_
          refine z_if_eq (pc := 44) (zk8 kX5_noSounds_1) (tgt := 50) (by decide) (fun q => absurd q (by decide)) (fun _ => ?_)
          refine z_iload (pc := 47) (zk9 kX5_noSounds_1) rfl ?_
          exact z_iret (pc := 49) (zk10 kX5_noSounds_1) rfl (Nat.zero_le _) (Nat.zero_le _) (Or.inr (Or.inr (Or.inl ⟨by simp [rowF, okS, c_1, c_5, c_9, f1_, f2_, f3_], rfl, hM, hU, rfl⟩)))
        · rw [er_, ez_]
          clear er_ ez_
          replace hU := hU.tr hU_12 (by omega) (by omega)
          replace hM := hR; clear hR
          show Z D B xX5_noSounds _ _ _ 40 _ [.int 0] _ _
          refine z_istore (pc := 40) (zk6 kX5_noSounds_1) rfl rfl ?_
          show Z D B xX5_noSounds _ _ _ 42 [some (.ref p), some (.int x), some (.int y), some (.int z), some (.int (oI b)), some (.int 0)] _ _ _
          refine z_iload (pc := 42) (zk7 kX5_noSounds_1) rfl ?_
          refine z_if_eq (pc := 44) (zk8 kX5_noSounds_1) (tgt := 50) (by decide) (fun _ => ?_) (fun q => absurd (by decide) q)
          obtain ⟨kx, hkx, rfl⟩ := okR_c (c := 7) (by decide) c_1
          rw [ix_nI (show kx ≤ 1000 by omega)] at f2_ f3_
          refine z_aload_n (pc := 50) (zk11 kX5_noSounds_1) rfl ?_
          refine z_getf (pc := 51) (zk12 kX5_noSounds_1) flX5_16 hM.1 gMo_2 ?_
          refine z_iload_n (pc := 54) (zk13 kX5_noSounds_1) rfl ?_
          refine z_ialdN (pc := 55) (zk14 kX5_noSounds_1) (f := τ 3) (j := kx) hM.2.2.2.1 (show kx < 8 by omega) rfl ?_
          refine z_iload_n (pc := 56) (zk15 kX5_noSounds_1) rfl ?_
          refine z_icmp_ge (pc := 57) (zk0 kX5_noSounds_2) (tgt := 69) (by decide) (fun c_13 => ?_) (fun c_13 => ?_)
          · refine z_iconst (pc := 69) (zk5 kX5_noSounds_2) (v := 0) (by decide) ?_
            exact z_iret (pc := 70) (zk6 kX5_noSounds_2) rfl (Nat.zero_le _) (Nat.zero_le _) (Or.inr (Or.inr (Or.inr ⟨by simp [rowF, okS, c_1, c_5, c_9, f1_, f2_, f3_, c_13, Int32.not_lt.mpr c_13, ix_nI (show kx ≤ 1000 by omega)], rfl, hM, hU, rfl⟩)))
          · refine z_aload_n (pc := 60) (zk1 kX5_noSounds_2) rfl ?_
            refine z_bipush (pc := 61) (zk2 kX5_noSounds_2) (v := (-2)) (by decide) ?_
            refine z_efV (pc := 63) (zk3 kX5_noSounds_2) (st := []) lkX5_94 ivX5_refuse hM.1 rfl rfl (c_refuse hM (by omega) (j := 2) (by decide) (by decide)) rfl ⟨rfl, rfl⟩ rfl rfl (fun r_ h_15 z_ q_14 => ?_) rfl
            obtain ⟨er_, hR, hU_16, ez_⟩ := q_14
            rw [er_, ez_]
            clear er_ ez_
            replace hU := hU.tr hU_16 (by omega) (by omega)
            replace hM := hR; clear hR
            show Z D B xX5_noSounds _ _ _ 66 _ [.int (-2)] _ _
            refine z_goto (pc := 66) (zk4 kX5_noSounds_2) (tgt := 70) (by decide) ?_
            exact z_iret (pc := 70) (zk6 kX5_noSounds_2) rfl (Nat.zero_le _) (Nat.zero_le _) (Or.inl ⟨by simp [rowF, okS, c_1, c_5, c_9, f1_, f2_, f3_, c_13, Int32.not_le.mp c_13, ix_nI (show kx ≤ 1000 by omega)], rfl, hM, hU, rfl⟩)
      · refine z_aload_n (pc := 28) (zk15 kX5_noSounds_0) rfl ?_
        refine z_bipush (pc := 29) (zk0 kX5_noSounds_1) (v := (-2)) (by decide) ?_
        refine z_efV (pc := 31) (zk1 kX5_noSounds_1) (st := []) lkX5_94 ivX5_refuse hM.1 rfl rfl (c_refuse hM (by omega) (j := 2) (by decide) (by decide)) rfl ⟨rfl, rfl⟩ rfl rfl (fun r_ h_18 z_ q_17 => ?_) rfl
        obtain ⟨er_, hR, hU_19, ez_⟩ := q_17
        rw [er_, ez_]
        clear er_ ez_
        replace hU := hU.tr hU_19 (by omega) (by omega)
        replace hM := hR; clear hR
        show Z D B xX5_noSounds _ _ _ 34 _ [.int (-2)] _ _
        exact z_iret (pc := 34) (zk2 kX5_noSounds_1) rfl (Nat.zero_le _) (Nat.zero_le _) (Or.inl ⟨by simp [rowF, okS, c_1, c_5, c_9], rfl, hM, hU, rfl⟩)
theorem jdgF_s {σ : Ln} {e : Nat → Int64} {i q : Nat} (h : i < q) (h1 : ¬ i = hsN σ) (h2 : (knownF σ i).toInt64 = e i) : jdgF σ e i (q - i) = jdgF σ e (i + 1) (q - (i + 1)) := by
  rw [show q - i = (q - (i + 1)) + 1 by omega, jdgF, if_neg h1, if_pos h2]
theorem jdgF_h {σ : Ln} {e : Nat → Int64} {i q : Nat} (h : i < q) (h1 : i = hsN σ) : jdgF σ e i (q - i) = nI i := by
  rw [show q - i = (q - (i + 1)) + 1 by omega, jdgF, if_pos h1]
theorem jdgF_m {σ : Ln} {e : Nat → Int64} {i q : Nat} (h : i < q) (h1 : ¬ i = hsN σ) (h2 : ¬ (knownF σ i).toInt64 = e i) : jdgF σ e i (q - i) = nI i := by
  rw [show q - i = (q - (i + 1)) + 1 by omega, jdgF, if_neg h1, if_neg h2]
theorem nI_eqI {a b : Nat} (ha : a ≤ 1000) (hb : b ≤ 1000) : nI a = nI b ↔ a = b := by
  constructor
  · intro h
    have := congrArg Int32.toNatClampNeg h
    rwa [nI_clamp (by omega), nI_clamp (by omega)] at this
  · intro h; rw [h]
set_option maxRecDepth 20000 in
theorem cP_judge {D : zD} {B : Nat} {h : zH} {sz : Nat} {p : Nat} {σ τ ω : Ln} {ε : El} {mv : Nat → Int64} {kp tr : Option Nat} {x : Int32} {y : Int32} {n m : Nat} (hM : MoAt h p σ τ ω ε mv kp tr) (hB : B ≤ p) (hn : σ 0 0 = nI n) (h12 : n ≤ 12) (hm : σ 9 0 = nI m) (h8 : m ≤ 8) (hto : ∀ l, l < m → ToOk σ l) (hS : SW τ m) : zM D B xX5_judge [.ref p, .int x, .int y] h sz (mQ h p sz kp tr (sp_judge σ τ ε x y)) := by
  have hU : Upd h h p 29 := Upd.rf
  refine zM.of (by decide) rfl (n := 2) ?_
  show Z D B xX5_judge 0 0 _ 0 [some (.ref p), some (.int x), some (.int y), none, none] [] h sz
  refine z_aload_n (pc := 0) (zk0 kX5_judge_0) rfl ?_
  refine z_iload_n (pc := 1) (zk1 kX5_judge_0) rfl ?_
  refine z_iload_n (pc := 2) (zk2 kX5_judge_0) rfl ?_
  refine z_bipush (pc := 3) (zk3 kX5_judge_0) (v := 40) (by decide) ?_
  refine z_iconst (pc := 5) (zk4 kX5_judge_0) (v := 1) (by decide) ?_
  refine z_top (congrArg Value.int oI_t.symm) ?_
  refine z_efV (pc := 6) (zk5 kX5_judge_0) (st := []) lkX5_296 ivX5_noSounds hM.1 rfl rfl (c_noSounds hM hB) rfl ⟨rfl, rfl⟩ rfl rfl (fun r_ h_2 z_ q_1 => ?_) rfl
  rcases q_1 with ⟨f0_, er_, hR, hU_3, ez_⟩ | ⟨f0_, er_, hR, hU_3, ez_⟩ | ⟨f0_, er_, hR, hU_3, ez_⟩ | ⟨f0_, er_, hR, hU_3, ez_⟩
  · rw [er_, ez_]
    clear er_ ez_
    replace hU := hU.tr hU_3 (by omega) (by omega)
    replace hM := hR; clear hR
    show Z D B xX5_judge _ _ _ 9 _ [.int (-2)] _ _
    refine z_istore_n (pc := 9) (zk6 kX5_judge_0) rfl rfl ?_
    show Z D B xX5_judge _ _ _ 10 [some (.ref p), some (.int x), some (.int y), some (.int (-2)), none] _ _ _
    refine z_iload_n (pc := 10) (zk7 kX5_judge_0) rfl ?_
    refine z_if_eq (pc := 11) (zk8 kX5_judge_0) (tgt := 16) (by decide) (fun q => absurd q (by decide)) (fun _ => ?_)
    refine z_iload_n (pc := 14) (zk9 kX5_judge_0) rfl ?_
    exact z_iret (pc := 15) (zk10 kX5_judge_0) rfl (Nat.zero_le _) (Nat.zero_le _) (by
            rw [show sp_judge σ τ ε x y = ((-2), σ, (rfN τ 2), ε) from by rw [sp_judge, f0_]; rfl]
            exact ⟨_, _, rfl, hM, hU, rfl⟩)
  · rw [er_, ez_]
    clear er_ ez_
    replace hU := hU.tr hU_3 (by omega) (by omega)
    replace hM := hR; clear hR
    show Z D B xX5_judge _ _ _ 9 _ [.int (-3)] _ _
    refine z_istore_n (pc := 9) (zk6 kX5_judge_0) rfl rfl ?_
    show Z D B xX5_judge _ _ _ 10 [some (.ref p), some (.int x), some (.int y), some (.int (-3)), none] _ _ _
    refine z_iload_n (pc := 10) (zk7 kX5_judge_0) rfl ?_
    refine z_if_eq (pc := 11) (zk8 kX5_judge_0) (tgt := 16) (by decide) (fun q => absurd q (by decide)) (fun _ => ?_)
    refine z_iload_n (pc := 14) (zk9 kX5_judge_0) rfl ?_
    exact z_iret (pc := 15) (zk10 kX5_judge_0) rfl (Nat.zero_le _) (Nat.zero_le _) (by
            rw [show sp_judge σ τ ε x y = ((-3), σ, (rfN τ 3), ε) from by rw [sp_judge, f0_]; rfl]
            exact ⟨_, _, rfl, hM, hU, rfl⟩)
  · rw [er_, ez_]
    clear er_ ez_
    replace hU := hU.tr hU_3 (by omega) (by omega)
    replace hM := hR; clear hR
    show Z D B xX5_judge _ _ _ 9 _ [.int (-4)] _ _
    refine z_istore_n (pc := 9) (zk6 kX5_judge_0) rfl rfl ?_
    show Z D B xX5_judge _ _ _ 10 [some (.ref p), some (.int x), some (.int y), some (.int (-4)), none] _ _ _
    refine z_iload_n (pc := 10) (zk7 kX5_judge_0) rfl ?_
    refine z_if_eq (pc := 11) (zk8 kX5_judge_0) (tgt := 16) (by decide) (fun q => absurd q (by decide)) (fun _ => ?_)
    refine z_iload_n (pc := 14) (zk9 kX5_judge_0) rfl ?_
    exact z_iret (pc := 15) (zk10 kX5_judge_0) rfl (Nat.zero_le _) (Nat.zero_le _) (by
            rw [show sp_judge σ τ ε x y = ((-4), σ, (rfN τ 4), ε) from by rw [sp_judge, f0_]; rfl]
            exact ⟨_, _, rfl, hM, hU, rfl⟩)
  · rw [er_, ez_]
    clear er_ ez_
    replace hU := hU.tr hU_3 (by omega) (by omega)
    replace hM := hR; clear hR
    show Z D B xX5_judge _ _ _ 9 _ [.int 0] _ _
    obtain ⟨f1_, f2_, f3_, f4_, f5_, f6_⟩ := rowF_0 f0_
    refine z_istore_n (pc := 9) (zk6 kX5_judge_0) rfl rfl ?_
    show Z D B xX5_judge _ _ _ 10 [some (.ref p), some (.int x), some (.int y), some (.int 0), none] _ _ _
    refine z_iload_n (pc := 10) (zk7 kX5_judge_0) rfl ?_
    refine z_if_eq (pc := 11) (zk8 kX5_judge_0) (tgt := 16) (by decide) (fun _ => ?_) (fun q => absurd (by decide) q)
    obtain ⟨kx, hkx, rfl⟩ := okR_c (c := 7) (by decide) f1_
    obtain ⟨ky, hky, rfl⟩ := okR_c (c := 40) (by decide) f2_
    refine z_iconst (pc := 16) (zk11 kX5_judge_0) (v := 0) (by decide) ?_
    refine z_istore (pc := 17) (zk12 kX5_judge_0) rfl rfl ?_
    show Z D B xX5_judge _ _ _ 19 [some (.ref p), some (.int (nI kx)), some (.int (nI ky)), some (.int 0), some (.int 0)] _ _ _
    have lp19 : ∀ (n_ : Nat) (i : Nat), ky - i < n_ → (i ≤ ky) → (jdgF σ (ε kx) i (ky - i) = jdgF σ (ε kx) 0 ky) → (i ≤ n) → Z D B xX5_judge 0 0 (mQ h p sz kp tr (sp_judge σ τ ε (nI kx) (nI ky))) 19 [some (.ref p), some (.int (nI kx)), some (.int (nI ky)), some (.int 0), some (.int (nI i))] [] h_2 sz := by
      intro n_
      induction n_ with
      | zero => intro i hm_; exact absurd hm_ (Nat.not_lt_zero _)
      | succ n_ ih19 =>
        intro i hm_ hi_i hj_ hin
        refine z_iload (pc := 19) (zk13 kX5_judge_0) rfl ?_
        refine z_iload_n (pc := 21) (zk14 kX5_judge_0) rfl ?_
        refine z_icmp_ge (pc := 22) (zk15 kX5_judge_0) (tgt := 63) (by decide) (fun c_4 => ?_) (fun c_4 => ?_)
        · have hie_i : i = ky := nI_ge_yes (a := ky) (by omega) (by omega) (by omega) c_4
          refine z_iconst (pc := 63) (zk4 kX5_judge_2) (v := (-1)) (by decide) ?_
          exact z_iret (pc := 64) (zk5 kX5_judge_2) rfl (Nat.zero_le _) (Nat.zero_le _) (by
                        rw [show sp_judge σ τ ε (nI kx) (nI ky) = ((-1), σ, τ, ε) from by rw [sp_judge, f0_]; simp [sTold, ← hj_, hie_i, jdgF, ix_nI (show kx ≤ 1000 by omega), ix_nI (show ky ≤ 1000 by omega)]]
                        exact ⟨_, _, rfl, hM, hU, rfl⟩)
        · have hlt_i : i < ky := nI_ge_not (a := ky) (by omega) (by omega) c_4
          refine z_iload (pc := 25) (zk0 kX5_judge_1) rfl ?_
          refine z_aload_n (pc := 27) (zk1 kX5_judge_1) rfl ?_
          refine z_getf (pc := 28) (zk2 kX5_judge_1) flX5_37 hM.1 (v := .int (nI n)) (by rw [← hn]; rfl) ?_
          refine z_icmp_eq (pc := 31) (zk3 kX5_judge_1) (tgt := 54) (by decide) (fun c_5 => ?_) (fun c_5 => ?_)
          · refine z_iload (pc := 54) (zk0 kX5_judge_2) rfl ?_
            exact z_iret (pc := 56) (zk1 kX5_judge_2) rfl (Nat.zero_le _) (Nat.zero_le _) (by
                            rw [show sp_judge σ τ ε (nI kx) (nI ky) = (nI i, σ, τ, ε) from by rw [sp_judge, f0_]; simp [sTold, ← hj_, jdgF_h hlt_i (show i = hsN σ by rw [hsN_eq hn h12]; exact (nI_eqI (by omega) (by omega)).mp c_5), ix_nI (show kx ≤ 1000 by omega), ix_nI (show ky ≤ 1000 by omega)]]
                            exact ⟨_, _, rfl, hM, hU, rfl⟩)
          · have hni : ¬ i = hsN σ := by rw [hsN_eq hn h12]; exact fun q => c_5 ((nI_eqI (by omega) (by omega)).mpr q)
            have hin2 : i < n := by rw [hsN_eq hn h12] at hni; omega
            refine z_aload_n (pc := 34) (zk4 kX5_judge_1) rfl ?_
            refine z_iload (pc := 35) (zk5 kX5_judge_1) rfl ?_
            refine z_rdV (pc := 37) (zk6 kX5_judge_1) (st := []) lkX5_254 ivX5_knownAt hM.1 rfl rfl (c_mknownAt hM hn h12 hm h8 (show i < n by omega) hto) rfl ⟨rfl, rfl⟩ rfl rfl ?_ rfl
            refine z_i2l (pc := 40) (zk7 kX5_judge_1) ?_
            refine z_aload_n (pc := 41) (zk8 kX5_judge_1) rfl ?_
            refine z_getf (pc := 42) (zk9 kX5_judge_1) flX5_21 hM.1 gMo_3 ?_
            refine z_iload_n (pc := 45) (zk10 kX5_judge_1) rfl ?_
            refine z_aald4N (pc := 46) (zk11 kX5_judge_1) (j := kx) (b := p + 4 + 1 + kx) hM.2.2.2.2.1 (show kx < 8 by omega) rfl (if_pos (show kx < 8 by omega)) ?_
            refine z_iload (pc := 47) (zk12 kX5_judge_1) rfl ?_
            refine z_laldN (pc := 49) (zk13 kX5_judge_1) (j := i) (hM.2.2.2.2.2.1 kx (show kx < 8 by omega)) (show i < 40 by omega) rfl ?_
            refine z_lcmp (pc := 50) (zk14 kX5_judge_1) ?_
            refine z_lif_eq (pc := 51) (zk15 kX5_judge_1) (tgt := 57) (by decide) (fun c_6 => ?_) (fun c_6 => ?_)
            · refine z_iinc (pc := 57) (zk2 kX5_judge_2) (v := nI (i + 1)) rfl zinc rfl rfl ?_
              show Z D B xX5_judge _ _ _ 60 [some (.ref p), some (.int (nI kx)), some (.int (nI ky)), some (.int 0), some (.int (nI (i + 1)))] _ _ _
              refine z_goto (pc := 60) (zk3 kX5_judge_2) (tgt := 19) (by decide) ?_
              exact ih19 (i + 1) (by omega) (by omega) (by rw [← hj_, jdgF_s hlt_i hni c_6]) (by rw [hsN_eq hn h12] at hni; omega)
            · refine z_iload (pc := 54) (zk0 kX5_judge_2) rfl ?_
              exact z_iret (pc := 56) (zk1 kX5_judge_2) rfl (Nat.zero_le _) (Nat.zero_le _) (by
                                rw [show sp_judge σ τ ε (nI kx) (nI ky) = (nI i, σ, τ, ε) from by rw [sp_judge, f0_]; simp [sTold, ← hj_, jdgF_m hlt_i hni c_6, ix_nI (show kx ≤ 1000 by omega), ix_nI (show ky ≤ 1000 by omega)]]
                                exact ⟨_, _, rfl, hM, hU, rfl⟩)
    exact lp19 _ 0 (Nat.lt_succ_self _) (by omega) rfl (by omega)
