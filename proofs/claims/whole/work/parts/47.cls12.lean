set_option maxRecDepth 20000 in
theorem c_tRoom {D : zD} {B : Nat} {h : zH} {sz : Nat} {pt : Nat} {τ ω : Ln} (hT : TaAt h pt τ ω) : zRd D B xX3_hasRoom [.ref pt] h sz (.int (oI (decide (τ 6 0 < 250)))) := by
  refine zM.of (by decide) rfl (n := 0) ?_
  show Z D B xX3_hasRoom 0 0 _ 0 [some (.ref pt)] [] h sz
  refine z_aload_n (pc := 0) (zk0 kX3_hasRoom_0) rfl ?_
  refine z_getf (pc := 1) (zk1 kX3_hasRoom_0) flX3_15 hT.1 (v := .int (τ 6 0)) rfl ?_
  refine z_sipush (pc := 4) (zk2 kX3_hasRoom_0) (v := 250) (by decide) ?_
  refine z_icmp_ge (pc := 7) (zk3 kX3_hasRoom_0) (tgt := 14) (by decide) (fun c_1 => ?_) (fun c_1 => ?_)
  · refine z_iconst (pc := 14) (zk6 kX3_hasRoom_0) (v := 0) (by decide) ?_
    exact z_zret (pc := 15) (zk7 kX3_hasRoom_0) rfl (Nat.zero_le _) (Nat.zero_le _) (by decide) ⟨by simp [oI, c_1, Int32.not_lt.mpr c_1], rfl, rfl⟩
  · refine z_iconst (pc := 10) (zk4 kX3_hasRoom_0) (v := 1) (by decide) ?_
    refine z_goto (pc := 11) (zk5 kX3_hasRoom_0) (tgt := 15) (by decide) ?_
    exact z_zret (pc := 15) (zk7 kX3_hasRoom_0) rfl (Nat.zero_le _) (Nat.zero_le _) (by decide) ⟨by simp [oI, c_1, Int32.not_le.mp c_1], rfl, rfl⟩
set_option maxRecDepth 20000 in
theorem c_tSize {D : zD} {B : Nat} {h : zH} {sz : Nat} {pt : Nat} {τ ω : Ln} (hT : TaAt h pt τ ω) : zRd D B xX3_size [.ref pt] h sz (.int (τ 6 0)) := by
  refine zM.of (by decide) rfl (n := 0) ?_
  show Z D B xX3_size 0 0 _ 0 [some (.ref pt)] [] h sz
  refine z_aload_n (pc := 0) (zk0 kX3_size_0) rfl ?_
  refine z_getf (pc := 1) (zk1 kX3_size_0) flX3_15 hT.1 (v := .int (τ 6 0)) rfl ?_
  exact z_iret (pc := 4) (zk2 kX3_size_0) rfl (Nat.zero_le _) (Nat.zero_le _) ⟨rfl, rfl, rfl⟩
set_option maxRecDepth 20000 in
theorem c_tFault {D : zD} {B : Nat} {h : zH} {sz : Nat} {pt : Nat} {τ ω : Ln} (hT : TaAt h pt τ ω) : zRd D B xX3_fault [.ref pt] h sz (.int (ω 12 0)) := by
  refine zM.of (by decide) rfl (n := 0) ?_
  show Z D B xX3_fault 0 0 _ 0 [some (.ref pt)] [] h sz
  refine z_aload_n (pc := 0) (zk0 kX3_fault_0) rfl ?_
  refine z_getf (pc := 1) (zk1 kX3_fault_0) flX3_28 hT.1 (v := .int (ω 12 0)) rfl ?_
  exact z_iret (pc := 4) (zk2 kX3_fault_0) rfl (Nat.zero_le _) (Nat.zero_le _) ⟨rfl, rfl, rfl⟩
set_option maxRecDepth 20000 in
theorem c_tEmpty {D : zD} {B : Nat} {h : zH} {sz : Nat} {pt : Nat} {τ ω : Ln} (hT : TaAt h pt τ ω) (hB : B ≤ pt) : zM D B xX3_empty [.ref pt] h sz (fun r h1 z1 => r = some (.int (τ 6 0)) ∧ TaAt h1 pt (up2 τ 6 0 0) ω ∧ Upd h h1 pt 2 ∧ z1 = sz) := by
  have hU : Upd h h pt 2 := Upd.rf
  refine zM.of (by decide) rfl (n := 1) ?_
  show Z D B xX3_empty 0 0 _ 0 [some (.ref pt), none] [] h sz
  refine z_aload_n (pc := 0) (zk0 kX3_empty_0) rfl ?_
  refine z_getf (pc := 1) (zk1 kX3_empty_0) flX3_15 hT.1 (v := .int (τ 6 0)) rfl ?_
  refine z_istore_n (pc := 4) (zk2 kX3_empty_0) rfl rfl ?_
  show Z D B xX3_empty _ _ _ 5 [some (.ref pt), some (.int (τ 6 0))] _ _ _
  refine z_aload_n (pc := 5) (zk3 kX3_empty_0) rfl ?_
  refine z_iconst (pc := 6) (zk4 kX3_empty_0) (v := 0) (by decide) ?_
  refine z_Ta_w1 (pc := 7) (zk5 kX3_empty_0) flX3_15 hT (by omega) (fun h_1 hR hU_2 => ?_)
  replace hU := hU.tr hU_2 (by omega) (by omega)
  replace hT := hR; clear hR
  refine z_iload_n (pc := 10) (zk6 kX3_empty_0) rfl ?_
  exact z_iret (pc := 11) (zk7 kX3_empty_0) rfl (Nat.zero_le _) (Nat.zero_le _) ⟨rfl, hT, hU, rfl⟩
set_option maxRecDepth 20000 in
theorem c_append {D : zD} {B : Nat} {h : zH} {sz : Nat} {pt : Nat} {τ ω : Ln} {k : Nat} {x : Int32} (hT : TaAt h pt τ ω) (hB : B ≤ pt) (hk : τ 6 0 = nI k) (hk2 : k < 250) : zM D B xX3_append [.ref pt, .int x] h sz (fun r h1 z1 => r = some (.int (nI (k + 1))) ∧ TaAt h1 pt (up2 (up2 τ 5 k x) 6 0 (nI (k + 1))) ω ∧ Upd h h1 pt 2 ∧ z1 = sz) := by
  have hU : Upd h h pt 2 := Upd.rf
  refine zM.of (by decide) rfl (n := 0) ?_
  show Z D B xX3_append 0 0 _ 0 [some (.ref pt), some (.int x)] [] h sz
  refine z_aload_n (pc := 0) (zk0 kX3_append_0) rfl ?_
  refine z_rdV (pc := 1) (zk1 kX3_append_0) (st := []) lkX3_31 ivX3_hasRoom hT.1 rfl rfl (c_tRoom hT) rfl ⟨rfl, rfl⟩ rfl rfl ?_ rfl
  refine z_oif_eq (pc := 4) (zk2 kX3_append_0) (tgt := 27) (by decide) (fun q => by rw [(decide_eq_true (by rw [hk]; exact (nI_ltI (b := 250) (by omega) (by omega)).mpr hk2))] at q; cases q) (fun _ => ?_)
  refine z_aload_n (pc := 7) (zk3 kX3_append_0) rfl ?_
  refine z_getf (pc := 8) (zk4 kX3_append_0) flX3_9 hT.1 gTa_0 ?_
  refine z_aload_n (pc := 11) (zk5 kX3_append_0) rfl ?_
  refine z_getf (pc := 12) (zk6 kX3_append_0) flX3_15 hT.1 (v := .int (nI k)) (by rw [← hk]; rfl) ?_
  refine z_iload_n (pc := 15) (zk7 kX3_append_0) rfl ?_
  refine z_Ta_s1 (pc := 16) (zk8 kX3_append_0) (j := k) hT (by omega) (show k < 250 by omega) (fun h_1 hR hU_2 => ?_)
  replace hU := hU.tr hU_2 (by omega) (by omega)
  replace hT := hR; clear hR
  refine z_aload_n (pc := 17) (zk9 kX3_append_0) rfl ?_
  refine z_dup (pc := 18) (zk10 kX3_append_0) rfl ?_
  refine z_getf (pc := 19) (zk11 kX3_append_0) flX3_15 hT.1 (v := .int (nI k)) (by rw [← hk]; rfl) ?_
  refine z_iconst (pc := 22) (zk12 kX3_append_0) (v := 1) (by decide) ?_
  refine z_iadd (pc := 23) (zk13 kX3_append_0) ?_
  refine z_top (congrArg Value.int (nI_1 k)) ?_
  refine z_Ta_w1 (pc := 24) (zk14 kX3_append_0) flX3_15 hT (by omega) (fun h_3 hR hU_4 => ?_)
  replace hU := hU.tr hU_4 (by omega) (by omega)
  replace hT := hR; clear hR
  refine z_aload_n (pc := 27) (zk15 kX3_append_0) rfl ?_
  refine z_getf (pc := 28) (zk0 kX3_append_1) flX3_15 hT.1 (v := .int (nI (k + 1))) rfl ?_
  exact z_iret (pc := 31) (zk1 kX3_append_1) rfl (Nat.zero_le _) (Nat.zero_le _) ⟨rfl, hT, hU, rfl⟩
set_option maxRecDepth 20000 in
theorem cX_wipe {D : zD} {B : Nat} {h : zH} {sz : Nat} {p : Nat} {σ κ τ : Ln} {ε : El} {ik : Int32} {n m : Nat} (hX : XoAt h p ik (rfo τ)) (hL : LnAt h (p + 1) σ) (hK : XR h p κ τ ε) (hB : B ≤ p) (hn : σ 0 0 = nI n) (h12 : n ≤ 12) (hm : σ 9 0 = nI m) (h8 : m ≤ 8) (hbk : σ 6 0 = 0 ∨ σ 6 0 = 1) (htn : ∀ l, l < m → ∃ t, t < n ∧ σ 12 l = nI t) (hlen : ∀ l, l < m → ∃ g, 1 ≤ g ∧ g ≤ 40 ∧ σ 13 l = nI g) (h2 : 2 ≤ n) (hS : SW τ m) : zM D B xX4_wipe [.ref p] h sz (xQ h p sz ik κ (sp_wipe σ τ ε)) := by
  have hU : Upd h h p 51 := Upd.rf
  obtain ⟨ω, hT⟩ := hK.2.2.2
  refine zM.of (by decide) rfl (n := 0) ?_
  show Z D B xX4_wipe 0 0 _ 0 [some (.ref p)] [] h sz
  refine z_aload_n (pc := 0) (zk0 kX4_wipe_0) rfl ?_
  refine z_getf (pc := 1) (zk1 kX4_wipe_0) flX4_36 hX.1 gXo_4 ?_
  refine z_efV (pc := 4) (zk2 kX4_wipe_0) (st := []) lkX4_174 ivX3_empty hT.1 rfl rfl (c_tEmpty hT (by omega) ) rfl ⟨rfl, rfl⟩ rfl rfl (fun r_ h_2 z_ q_1 => ?_) rfl
  obtain ⟨er_, hR, hU_3, ez_⟩ := q_1
  rw [er_, ez_]
  clear er_ ez_
  replace hX := XoAt.fr hX hU_3 (by omega)
  replace hL := LnAt.fr hL hU_3 (by omega)
  replace hU := hU.tr hU_3 (by omega) (by omega)
  replace hT := hR; clear hR
  replace hK : XR h_2 p κ (up2 τ 6 0 0) ε := XR.ta hK hU_3 ⟨_, hT⟩ (fun f hf => by simp [up2, show ¬ f = 6 by omega, show ¬ f = 5 by omega])
  replace hX : XoAt h_2 p ik (rfo (up2 τ 6 0 0)) := hX
  show Z D B xX4_wipe _ _ _ 7 _ [.int (τ 6 0)] _ _
  exact z_iret (pc := 7) (zk3 kX4_wipe_0) rfl (Nat.zero_le _) (Nat.zero_le _) (by
        rw [show sp_wipe σ τ ε = (τ 6 0, σ, (up2 τ 6 0 0), ε) from by simp [sp_wipe, sBad, okS, okH, okL, okT, okB, sRd, up2_id, up2_id2, oI, sOther, sNone, sFull]]
        exact ⟨rfl, hX, hL, hK, hU, rfl⟩)
set_option maxRecDepth 20000 in
theorem cX_feed {D : zD} {B : Nat} {h : zH} {sz : Nat} {p : Nat} {σ κ τ : Ln} {ε : El} {ik : Int32} {x : Int32} {n m : Nat} (hX : XoAt h p ik (rfo τ)) (hL : LnAt h (p + 1) σ) (hK : XR h p κ τ ε) (hB : B ≤ p) (hn : σ 0 0 = nI n) (h12 : n ≤ 12) (hm : σ 9 0 = nI m) (h8 : m ≤ 8) (hbk : σ 6 0 = 0 ∨ σ 6 0 = 1) (htn : ∀ l, l < m → ∃ t, t < n ∧ σ 12 l = nI t) (hlen : ∀ l, l < m → ∃ g, 1 ≤ g ∧ g ≤ 40 ∧ σ 13 l = nI g) (h2 : 2 ≤ n) (hS : SW τ m) : zM D B xX4_feed [.ref p, .int x] h sz (xQ h p sz ik κ (sp_feed σ τ ε x)) := by
  have hU : Upd h h p 51 := Upd.rf
  obtain ⟨ω, hT⟩ := hK.2.2.2
  obtain ⟨kt, hkt, ht⟩ := hS.2.1
  refine zM.of (by decide) rfl (n := 0) ?_
  show Z D B xX4_feed 0 0 _ 0 [some (.ref p), some (.int x)] [] h sz
  refine z_iload_n (pc := 0) (zk0 kX4_feed_0) rfl ?_
  refine z_iconst (pc := 1) (zk1 kX4_feed_0) (v := 0) (by decide) ?_
  refine z_sipush (pc := 2) (zk2 kX4_feed_0) (v := 255) (by decide) ?_
  refine z_rdS (pc := 5) (zk3 kX4_feed_0) (st := []) lkX4_52 isX4_outside (c_outside) rfl ⟨rfl, rfl⟩ rfl rfl ?_ rfl
  refine z_oif_eq (pc := 8) (zk4 kX4_feed_0) (tgt := 18) (by decide) (fun c_1 => ?_) (fun c_1 => ?_)
  · have c_2 : okR 0 255 x = true := by simpa using c_1
    refine z_aload_n (pc := 18) (zk9 kX4_feed_0) rfl ?_
    refine z_getf (pc := 19) (zk10 kX4_feed_0) flX4_36 hX.1 gXo_4 ?_
    refine z_rdV (pc := 22) (zk11 kX4_feed_0) (st := []) lkX4_170 ivX3_hasRoom hT.1 rfl rfl (c_tRoom hT) rfl ⟨rfl, rfl⟩ rfl rfl ?_ rfl
    refine z_oif_ne (pc := 25) (zk12 kX4_feed_0) (tgt := 35) (by decide) (fun c_3 => ?_) (fun c_3 => ?_)
    · have hl_ : kt < 250 := by
        have q := of_decide_eq_true c_3
        rw [ht] at q
        exact (nI_ltI (b := 250) (by omega) (by omega)).mp q
      refine z_aload_n (pc := 35) (zk1 kX4_feed_1) rfl ?_
      refine z_getf (pc := 36) (zk2 kX4_feed_1) flX4_36 hX.1 gXo_4 ?_
      refine z_iload_n (pc := 39) (zk3 kX4_feed_1) rfl ?_
      refine z_efV (pc := 40) (zk4 kX4_feed_1) (st := []) lkX4_171 ivX3_append hT.1 rfl rfl (c_append hT (by omega) ht hl_) rfl ⟨rfl, rfl⟩ rfl rfl (fun r_ h_5 z_ q_4 => ?_) rfl
      obtain ⟨er_, hR, hU_6, ez_⟩ := q_4
      rw [er_, ez_]
      clear er_ ez_
      replace hX := XoAt.fr hX hU_6 (by omega)
      replace hL := LnAt.fr hL hU_6 (by omega)
      replace hU := hU.tr hU_6 (by omega) (by omega)
      replace hT := hR; clear hR
      replace hK : XR h_5 p κ (up2 (up2 τ 5 kt x) 6 0 (nI (kt + 1))) ε := XR.ta hK hU_6 ⟨_, hT⟩ (fun f hf => by simp [up2, show ¬ f = 6 by omega, show ¬ f = 5 by omega])
      replace hX : XoAt h_5 p ik (rfo (up2 (up2 τ 5 kt x) 6 0 (nI (kt + 1)))) := hX
      show Z D B xX4_feed _ _ _ 43 _ [.int (nI (kt + 1))] _ _
      exact z_iret (pc := 43) (zk5 kX4_feed_1) rfl (Nat.zero_le _) (Nat.zero_le _) (by
                rw [show sp_feed σ τ ε x = (nI (kt + 1), σ, (up2 (up2 τ 5 kt x) 6 0 (nI (kt + 1))), ε) from by (have n_ : ¬ nI kt = 250 := (fun q => absurd ((nI_eqI (a := kt) (b := 250) (by omega) (by omega)).mp q) (by omega)); simp [sp_feed, sBad, okS, okH, okL, okT, okB, sRd, up2_id, up2_id2, oI, sOther, sNone, sFull, c_1, c_2, ht, n_, nI_1, ix_nI (show kt ≤ 1000 by omega)]; rw [up2_sw _ _ _ _ _ (by decide)])]
                exact ⟨rfl, hX, hL, hK, hU, rfl⟩)
    · refine z_aload_n (pc := 28) (zk13 kX4_feed_0) rfl ?_
      refine z_bipush (pc := 29) (zk14 kX4_feed_0) (v := (-6)) (by decide) ?_
      refine z_efV (pc := 31) (zk15 kX4_feed_0) (st := []) lkX4_56 ivX4_refuse hX.1 rfl rfl (c_xrefuse (i := 4) hX hB (by decide) (by decide) (by decide)) rfl ⟨rfl, rfl⟩ rfl rfl (fun r_ h_8 z_ q_7 => ?_) rfl
      obtain ⟨er_, hR, hU_9, ez_⟩ := q_7
      rw [er_, ez_]
      clear er_ ez_
      replace hL := LnAt.fr hL hU_9 (by omega)
      replace hT := TaAt.fr hT hU_9 (by omega)
      replace hU := hU.tr hU_9 (by omega) (by omega)
      replace hK := XR.fr hK hU_9 (by omega)
      replace hX := hR; clear hR
      show Z D B xX4_feed _ _ _ 34 _ [.int (-6)] _ _
      exact z_iret (pc := 34) (zk0 kX4_feed_1) rfl (Nat.zero_le _) (Nat.zero_le _) (by
                rw [show sp_feed σ τ ε x = ((-6), σ, (rfN τ 6), ε) from by (have e_ : kt = 250 := (by have q := of_decide_eq_false c_3; rw [ht, show (250 : Int32) = nI 250 from rfl, nI_ltI (by omega) (by omega)] at q; omega); simp [sp_feed, sFull, sBad, okS, okH, okL, okT, okB, sRd, up2_id, up2_id2, oI, sOther, sNone, sFull, c_1, c_2, ht, e_, show nI 250 = 250 from rfl])]
                exact ⟨rfl, hX, hL, hK, hU, rfl⟩)
  · have c_10 : okR 0 255 x = false := by simpa using c_1
    refine z_aload_n (pc := 11) (zk5 kX4_feed_0) rfl ?_
    refine z_bipush (pc := 12) (zk6 kX4_feed_0) (v := (-2)) (by decide) ?_
    refine z_efV (pc := 14) (zk7 kX4_feed_0) (st := []) lkX4_56 ivX4_refuse hX.1 rfl rfl (c_xrefuse (i := 0) hX hB (by decide) (by decide) (by decide)) rfl ⟨rfl, rfl⟩ rfl rfl (fun r_ h_12 z_ q_11 => ?_) rfl
    obtain ⟨er_, hR, hU_13, ez_⟩ := q_11
    rw [er_, ez_]
    clear er_ ez_
    replace hL := LnAt.fr hL hU_13 (by omega)
    replace hT := TaAt.fr hT hU_13 (by omega)
    replace hU := hU.tr hU_13 (by omega) (by omega)
    replace hK := XR.fr hK hU_13 (by omega)
    replace hX := hR; clear hR
    show Z D B xX4_feed _ _ _ 17 _ [.int (-2)] _ _
    exact z_iret (pc := 17) (zk8 kX4_feed_0) rfl (Nat.zero_le _) (Nat.zero_le _) (by
            rw [show sp_feed σ τ ε x = ((-2), σ, (rfN τ 2), ε) from by simp [sp_feed, sBad, okS, okH, okL, okT, okB, sRd, up2_id, up2_id2, oI, sOther, sNone, sFull, c_1, c_10]]
            exact ⟨rfl, hX, hL, hK, hU, rfl⟩)
set_option maxRecDepth 20000 in
theorem c_use {D : zD} {B : Nat} {h : zH} {sz : Nat} {p m : Nat} {σ κ τ : Ln} {ε : El} {ik : Int32} (hX : XoAt h p ik (rfo τ)) (hL : LnAt h (p + 1) σ) (hK : XR h p κ τ ε) (h8 : m ≤ 8) (hS : SW τ m) : zRd D B xX4_shelvesInUse [.ref p] h sz (.int (useC τ)) := by
  refine zM.of (by decide) rfl (n := 2) ?_
  show Z D B xX4_shelvesInUse 0 0 _ 0 [some (.ref p), none, none] [] h sz
  refine z_iconst (pc := 0) (zk0 kX4_shelvesInUse_0) (v := 0) (by decide) ?_
  refine z_istore_n (pc := 1) (zk1 kX4_shelvesInUse_0) rfl rfl ?_
  show Z D B xX4_shelvesInUse _ _ _ 2 [some (.ref p), some (.int 0), none] _ _ _
  refine z_iconst (pc := 2) (zk2 kX4_shelvesInUse_0) (v := 0) (by decide) ?_
  refine z_istore_n (pc := 3) (zk3 kX4_shelvesInUse_0) rfl rfl ?_
  show Z D B xX4_shelvesInUse _ _ _ 4 [some (.ref p), some (.int 0), some (.int 0)] _ _ _
  have lp4 : ∀ (n_ : Nat) (t : Int32) (i : Nat), 8 - i < n_ → (i ≤ 8) → (t = sum0 (fun s => oI (!decide (τ 1 s = 0))) i) → Z D B xX4_shelvesInUse 0 0 (fun r h1 z1 => r = some (.int (useC τ)) ∧ h1 = h ∧ z1 = sz) 4 [some (.ref p), some (.int t), some (.int (nI i))] [] h sz := by
    intro n_
    induction n_ with
    | zero => intro t i hm_; exact absurd hm_ (Nat.not_lt_zero _)
    | succ n_ ih4 =>
      intro t i hm_ hi_i ht
      refine z_iload_n (pc := 4) (zk4 kX4_shelvesInUse_0) rfl ?_
      refine z_bipush (pc := 5) (zk5 kX4_shelvesInUse_0) (v := 8) (by decide) ?_
      refine z_icmp_ge (pc := 7) (zk6 kX4_shelvesInUse_0) (tgt := 39) (by decide) (fun c_1 => ?_) (fun c_1 => ?_)
      · have hie_i : i = 8 := nI_ge_yes (a := 8) (by omega) (by omega) (by omega) c_1
        refine z_iload_n (pc := 39) (zk6 kX4_shelvesInUse_1) rfl ?_
        exact z_iret (pc := 40) (zk7 kX4_shelvesInUse_1) rfl (Nat.zero_le _) (Nat.zero_le _) ⟨by rw [ht, hie_i]; rfl, rfl, rfl⟩
      · have hlt_i : i < 8 := nI_ge_not (a := 8) (by omega) (by omega) c_1
        refine z_iload_n (pc := 10) (zk7 kX4_shelvesInUse_0) rfl ?_
        refine z_aload_n (pc := 11) (zk8 kX4_shelvesInUse_0) rfl ?_
        refine z_getf (pc := 12) (zk9 kX4_shelvesInUse_0) flX4_28 hX.1 gXo_3 ?_
        refine z_iload_n (pc := 15) (zk10 kX4_shelvesInUse_0) rfl ?_
        refine z_aald3N (pc := 16) (zk11 kX4_shelvesInUse_0) (j := i) (b := p + 32 + 2 * i) hX.2.1 (show i < 8 by omega) rfl (if_pos (show i < 8 by omega)) ?_
        refine z_rdV (pc := 17) (zk12 kX4_shelvesInUse_0) (st := [.int t]) lkX4_78 ivX2_holdsNothing (hK.2.2.1 i (show i < 8 by omega)).1 rfl rfl (c_xNothing (hK.2.2.1 i (show i < 8 by omega)) hS h8 (show i < 8 by omega)) rfl ⟨rfl, rfl⟩ rfl rfl ?_ rfl
        refine z_oif_ne (pc := 20) (zk13 kX4_shelvesInUse_0) (tgt := 27) (by decide) (fun c_2 => ?_) (fun c_2 => ?_)
        · refine z_iconst (pc := 27) (zk0 kX4_shelvesInUse_1) (v := 0) (by decide) ?_
          refine z_rdS (pc := 28) (zk1 kX4_shelvesInUse_1) (st := [.int t]) lkX4_166 isX4_asNumber (c_asNumber (b := false)) rfl ⟨rfl, rfl⟩ rfl rfl ?_ rfl
          refine z_iadd (pc := 31) (zk2 kX4_shelvesInUse_1) ?_
          refine z_istore_n (pc := 32) (zk3 kX4_shelvesInUse_1) rfl rfl ?_
          show Z D B xX4_shelvesInUse _ _ _ 33 [some (.ref p), some (.int (t + 0)), some (.int (nI i))] _ _ _
          refine z_iinc (pc := 33) (zk4 kX4_shelvesInUse_1) (v := nI (i + 1)) rfl zinc rfl rfl ?_
          show Z D B xX4_shelvesInUse _ _ _ 36 [some (.ref p), some (.int (t + 0)), some (.int (nI (i + 1)))] _ _ _
          refine z_goto (pc := 36) (zk5 kX4_shelvesInUse_1) (tgt := 4) (by decide) ?_
          exact ih4 (t + 0) (i + 1) (by omega) (by omega) (by rw [ht, sum0]; simp [oI, of_decide_eq_true c_2])
        · refine z_iconst (pc := 23) (zk14 kX4_shelvesInUse_0) (v := 1) (by decide) ?_
          refine z_goto (pc := 24) (zk15 kX4_shelvesInUse_0) (tgt := 28) (by decide) ?_
          refine z_rdS (pc := 28) (zk1 kX4_shelvesInUse_1) (st := [.int t]) lkX4_166 isX4_asNumber (c_asNumber (b := true)) rfl ⟨rfl, rfl⟩ rfl rfl ?_ rfl
          refine z_iadd (pc := 31) (zk2 kX4_shelvesInUse_1) ?_
          refine z_istore_n (pc := 32) (zk3 kX4_shelvesInUse_1) rfl rfl ?_
          show Z D B xX4_shelvesInUse _ _ _ 33 [some (.ref p), some (.int (t + 1)), some (.int (nI i))] _ _ _
          refine z_iinc (pc := 33) (zk4 kX4_shelvesInUse_1) (v := nI (i + 1)) rfl zinc rfl rfl ?_
          show Z D B xX4_shelvesInUse _ _ _ 36 [some (.ref p), some (.int (t + 1)), some (.int (nI (i + 1)))] _ _ _
          refine z_goto (pc := 36) (zk5 kX4_shelvesInUse_1) (tgt := 4) (by decide) ?_
          exact ih4 (t + 1) (i + 1) (by omega) (by omega) (by rw [ht, sum0]; simp [oI, of_decide_eq_false c_2])
  exact lp4 _ 0 0 (Nat.lt_succ_self _) (by omega) rfl
theorem okR_rf {x : Int32} (h : okR 12 16 x = true) : ∃ k, k < 5 ∧ x - 12 = nI k ∧ x - 10 = nI (k + 2) := by
  have q1 : (12 : Int32) ≤ x := of_decide_eq_true (Bool.and_eq_true_iff.mp h).1
  have q2 : x ≤ 16 := of_decide_eq_true (Bool.and_eq_true_iff.mp h).2
  have q0 : okR 0 (nI 16) x = true := by
    unfold okR
    rw [decide_eq_true (show x ≤ nI 16 from q2), decide_eq_true (show (0 : Int32) ≤ x from Int32.le_trans (by decide) q1)]; rfl
  obtain ⟨k, hk, rfl⟩ := okR_c (by decide) q0
  have : 12 ≤ k := (nI_le_iff (a := 12) (by omega) (by omega)).mp q1
  refine ⟨k - 12, by omega, nI_sub1 (a := k) (b := 12) (by omega), ?_⟩
  rw [show k - 12 + 2 = k - 10 by omega]
  exact nI_sub1 (a := k) (b := 10) (by omega)
theorem okR_n9 {x : Int32} (h : okR 12 16 x = true) : ∀ j, j < 10 → ¬ x = nI j := by
  intro j hj q
  have q1 : (12 : Int32) ≤ x := of_decide_eq_true (Bool.and_eq_true_iff.mp h).1
  rw [q] at q1
  exact absurd ((nI_le_iff (a := 12) (by omega) (by omega)).mp q1) (by omega)
set_option maxRecDepth 20000 in
theorem cX_status {D : zD} {B : Nat} {h : zH} {sz : Nat} {p : Nat} {σ κ τ : Ln} {ε : El} {ik : Int32} {x : Int32} {n m : Nat} (hX : XoAt h p ik (rfo τ)) (hL : LnAt h (p + 1) σ) (hK : XR h p κ τ ε) (hB : B ≤ p) (hn : σ 0 0 = nI n) (h12 : n ≤ 12) (hm : σ 9 0 = nI m) (h8 : m ≤ 8) (hbk : σ 6 0 = 0 ∨ σ 6 0 = 1) (htn : ∀ l, l < m → ∃ t, t < n ∧ σ 12 l = nI t) (hlen : ∀ l, l < m → ∃ g, 1 ≤ g ∧ g ≤ 40 ∧ σ 13 l = nI g) (h2 : 2 ≤ n) (hS : SW τ m) : zM D B xX4_status [.ref p, .int x] h sz (xQ h p sz ik κ (sp_status σ τ ε x)) := by
  have hU : Upd h h p 51 := Upd.rf
  obtain ⟨ω, hT⟩ := hK.2.2.2
  refine zM.of (by decide) rfl (n := 0) ?_
  show Z D B xX4_status 0 0 _ 0 [some (.ref p), some (.int x)] [] h sz
  refine z_iload_n (pc := 0) (zk0 kX4_status_0) rfl ?_
  by_cases c_1 : x = 0
  · refine z_tableIn (pc := 1) (zk1 kX4_status_0) (off := 55) (tgt := 56) (by rw [c_1]; decide) (by rw [c_1]; decide) (by rw [c_1]; rfl) (by decide) ?_
    subst c_1
    refine z_aload_n (pc := 56) (zk2 kX4_status_0) rfl ?_
    refine z_getf (pc := 57) (zk3 kX4_status_0) flX4_10 hX.1 gXo_0 ?_
    refine z_getf (pc := 60) (zk4 kX4_status_0) flX4_272 hL.1 (v := .int (nI m)) (by rw [← hm]; rfl) ?_
    exact z_iret (pc := 63) (zk5 kX4_status_0) rfl (Nat.zero_le _) (Nat.zero_le _) (by
            rw [show sp_status σ τ ε 0 = (nI m, σ, τ, ε) from by (simp [sp_status, sBad, okS, okH, okL, okT, okB, sRd, up2_id, up2_id2, sOther, sNone, sFull, earsF, rfo, hn, hm])]
            exact ⟨rfl, hX, hL, hK, hU, rfl⟩)
  by_cases c_2 : x = 1
  · refine z_tableIn (pc := 1) (zk1 kX4_status_0) (off := 63) (tgt := 64) (by rw [c_2]; decide) (by rw [c_2]; decide) (by rw [c_2]; rfl) (by decide) ?_
    subst c_2
    refine z_aload_n (pc := 64) (zk6 kX4_status_0) rfl ?_
    refine z_getf (pc := 65) (zk7 kX4_status_0) flX4_10 hX.1 gXo_0 ?_
    refine z_getf (pc := 68) (zk8 kX4_status_0) flX4_129 hL.1 (v := .int (nI n)) (by rw [← hn]; rfl) ?_
    exact z_iret (pc := 71) (zk9 kX4_status_0) rfl (Nat.zero_le _) (Nat.zero_le _) (by
            rw [show sp_status σ τ ε 1 = (nI n, σ, τ, ε) from by (simp [sp_status, sBad, okS, okH, okL, okT, okB, sRd, up2_id, up2_id2, sOther, sNone, sFull, earsF, rfo, c_1, hn, hm])]
            exact ⟨rfl, hX, hL, hK, hU, rfl⟩)
  by_cases c_3 : x = 2
  · refine z_tableIn (pc := 1) (zk1 kX4_status_0) (off := 71) (tgt := 72) (by rw [c_3]; decide) (by rw [c_3]; decide) (by rw [c_3]; rfl) (by decide) ?_
    subst c_3
    refine z_aload_n (pc := 72) (zk10 kX4_status_0) rfl ?_
    refine z_getf (pc := 73) (zk11 kX4_status_0) flX4_10 hX.1 gXo_0 ?_
    refine z_getf (pc := 76) (zk12 kX4_status_0) flX4_160 hL.1 (v := .int (σ 5 0)) rfl ?_
    exact z_iret (pc := 79) (zk13 kX4_status_0) rfl (Nat.zero_le _) (Nat.zero_le _) (by
            rw [show sp_status σ τ ε 2 = (σ 5 0, σ, τ, ε) from by (simp [sp_status, sBad, okS, okH, okL, okT, okB, sRd, up2_id, up2_id2, sOther, sNone, sFull, earsF, rfo, c_1, c_2, hn, hm])]
            exact ⟨rfl, hX, hL, hK, hU, rfl⟩)
  by_cases c_4 : x = 3
  · refine z_tableIn (pc := 1) (zk1 kX4_status_0) (off := 79) (tgt := 80) (by rw [c_4]; decide) (by rw [c_4]; decide) (by rw [c_4]; rfl) (by decide) ?_
    subst c_4
    refine z_aload_n (pc := 80) (zk14 kX4_status_0) rfl ?_
    refine z_getf (pc := 81) (zk15 kX4_status_0) flX4_10 hX.1 gXo_0 ?_
    refine z_getf (pc := 84) (zk0 kX4_status_1) flX4_163 hL.1 (v := .int (σ 6 0)) rfl ?_
    have eb_ : σ 6 0 = oI (decide (σ 6 0 = 1)) := by rcases hbk with e | e <;> rw [e] <;> rfl
    refine z_top (congrArg Value.int eb_) ?_
    refine z_rdS (pc := 87) (zk1 kX4_status_1) (st := []) lkX4_166 isX4_asNumber (c_asNumber) rfl ⟨rfl, rfl⟩ rfl rfl ?_ rfl
    refine z_top (congrArg Value.int eb_.symm) ?_
    exact z_iret (pc := 90) (zk2 kX4_status_1) rfl (Nat.zero_le _) (Nat.zero_le _) (by
            rw [show sp_status σ τ ε 3 = (σ 6 0, σ, τ, ε) from by (simp [sp_status, sBad, okS, okH, okL, okT, okB, sRd, up2_id, up2_id2, sOther, sNone, sFull, earsF, rfo, c_1, c_2, c_3, hn, hm])]
            exact ⟨rfl, hX, hL, hK, hU, rfl⟩)
  by_cases c_5 : x = 4
  · refine z_tableIn (pc := 1) (zk1 kX4_status_0) (off := 90) (tgt := 91) (by rw [c_5]; decide) (by rw [c_5]; decide) (by rw [c_5]; rfl) (by decide) ?_
    subst c_5
    refine z_aload_n (pc := 91) (zk3 kX4_status_1) rfl ?_
    refine z_getf (pc := 92) (zk4 kX4_status_1) flX4_10 hX.1 gXo_0 ?_
    refine z_rdV (pc := 95) (zk5 kX4_status_1) (st := []) lkX4_363 ivX1_allDrink hL.1 rfl rfl (c_allDrink hL hn h12) rfl ⟨rfl, rfl⟩ rfl rfl ?_ rfl
    exact z_iret (pc := 98) (zk6 kX4_status_1) rfl (Nat.zero_le _) (Nat.zero_le _) (by
            rw [show sp_status σ τ ε 4 = (sum0 (σ 2) (hsN σ), σ, τ, ε) from by (simp [sp_status, sBad, okS, okH, okL, okT, okB, sRd, up2_id, up2_id2, sOther, sNone, sFull, earsF, rfo, c_1, c_2, c_3, c_4, hn, hm])]
            exact ⟨rfl, hX, hL, hK, hU, rfl⟩)
  by_cases c_6 : x = 5
  · refine z_tableIn (pc := 1) (zk1 kX4_status_0) (off := 98) (tgt := 99) (by rw [c_6]; decide) (by rw [c_6]; decide) (by rw [c_6]; rfl) (by decide) ?_
    subst c_6
    refine z_aload_n (pc := 99) (zk7 kX4_status_1) rfl ?_
    refine z_getf (pc := 100) (zk8 kX4_status_1) flX4_10 hX.1 gXo_0 ?_
    refine z_rdV (pc := 103) (zk9 kX4_status_1) (st := []) lkX4_354 ivX1_allEars hL.1 rfl rfl (c_allEars hL hn h12) rfl ⟨rfl, rfl⟩ rfl rfl ?_ rfl
    exact z_iret (pc := 106) (zk10 kX4_status_1) rfl (Nat.zero_le _) (Nat.zero_le _) (by
            rw [show sp_status σ τ ε 5 = (sum0 (σ 4) (hsN σ), σ, τ, ε) from by (simp [sp_status, sBad, okS, okH, okL, okT, okB, sRd, up2_id, up2_id2, sOther, sNone, sFull, earsF, rfo, c_1, c_2, c_3, c_4, c_5, hn, hm])]
            exact ⟨rfl, hX, hL, hK, hU, rfl⟩)
  by_cases c_7 : x = 6
  · refine z_tableIn (pc := 1) (zk1 kX4_status_0) (off := 106) (tgt := 107) (by rw [c_7]; decide) (by rw [c_7]; decide) (by rw [c_7]; rfl) (by decide) ?_
    subst c_7
    refine z_aload_n (pc := 107) (zk11 kX4_status_1) rfl ?_
    refine z_getf (pc := 108) (zk12 kX4_status_1) flX4_10 hX.1 gXo_0 ?_
    refine z_getf (pc := 111) (zk13 kX4_status_1) flX4_366 hL.1 (v := .int (σ 7 0)) rfl ?_
    exact z_iret (pc := 114) (zk14 kX4_status_1) rfl (Nat.zero_le _) (Nat.zero_le _) (by
            rw [show sp_status σ τ ε 6 = (σ 7 0, σ, τ, ε) from by (simp [sp_status, sBad, okS, okH, okL, okT, okB, sRd, up2_id, up2_id2, sOther, sNone, sFull, earsF, rfo, c_1, c_2, c_3, c_4, c_5, c_6, hn, hm])]
            exact ⟨rfl, hX, hL, hK, hU, rfl⟩)
  by_cases c_8 : x = 7
  · refine z_tableIn (pc := 1) (zk1 kX4_status_0) (off := 114) (tgt := 115) (by rw [c_8]; decide) (by rw [c_8]; decide) (by rw [c_8]; rfl) (by decide) ?_
    subst c_8
    refine z_aload_n (pc := 115) (zk15 kX4_status_1) rfl ?_
    refine z_getf (pc := 116) (zk0 kX4_status_2) flX4_36 hX.1 gXo_4 ?_
    refine z_rdV (pc := 119) (zk1 kX4_status_2) (st := []) lkX4_369 ivX3_size hT.1 rfl rfl (c_tSize hT) rfl ⟨rfl, rfl⟩ rfl rfl ?_ rfl
    exact z_iret (pc := 122) (zk2 kX4_status_2) rfl (Nat.zero_le _) (Nat.zero_le _) (by
            rw [show sp_status σ τ ε 7 = (τ 6 0, σ, τ, ε) from by (simp [sp_status, sBad, okS, okH, okL, okT, okB, sRd, up2_id, up2_id2, sOther, sNone, sFull, earsF, rfo, c_1, c_2, c_3, c_4, c_5, c_6, c_7, hn, hm])]
            exact ⟨rfl, hX, hL, hK, hU, rfl⟩)
  by_cases c_9 : x = 8
  · refine z_tableIn (pc := 1) (zk1 kX4_status_0) (off := 122) (tgt := 123) (by rw [c_9]; decide) (by rw [c_9]; decide) (by rw [c_9]; rfl) (by decide) ?_
    subst c_9
    refine z_aload_n (pc := 123) (zk3 kX4_status_2) rfl ?_
    refine z_getf (pc := 124) (zk4 kX4_status_2) flX4_10 hX.1 gXo_0 ?_
    refine z_getf (pc := 127) (zk5 kX4_status_2) flX4_360 hL.1 (v := .int (σ 8 0)) rfl ?_
    exact z_iret (pc := 130) (zk6 kX4_status_2) rfl (Nat.zero_le _) (Nat.zero_le _) (by
            rw [show sp_status σ τ ε 8 = (σ 8 0, σ, τ, ε) from by (simp [sp_status, sBad, okS, okH, okL, okT, okB, sRd, up2_id, up2_id2, sOther, sNone, sFull, earsF, rfo, c_1, c_2, c_3, c_4, c_5, c_6, c_7, c_8, hn, hm])]
            exact ⟨rfl, hX, hL, hK, hU, rfl⟩)
  by_cases c_10 : x = 9
  · refine z_tableIn (pc := 1) (zk1 kX4_status_0) (off := 130) (tgt := 131) (by rw [c_10]; decide) (by rw [c_10]; decide) (by rw [c_10]; rfl) (by decide) ?_
    subst c_10
    refine z_aload_n (pc := 131) (zk7 kX4_status_2) rfl ?_
    refine z_rdV (pc := 132) (zk8 kX4_status_2) (st := []) lkX4_372 ivX4_shelvesInUse hX.1 rfl rfl (c_use hX hL hK h8 hS) rfl ⟨rfl, rfl⟩ rfl rfl ?_ rfl
    exact z_iret (pc := 135) (zk9 kX4_status_2) rfl (Nat.zero_le _) (Nat.zero_le _) (by
            rw [show sp_status σ τ ε 9 = (useC τ, σ, τ, ε) from by (simp [sp_status, sBad, okS, okH, okL, okT, okB, sRd, up2_id, up2_id2, sOther, sNone, sFull, earsF, rfo, c_1, c_2, c_3, c_4, c_5, c_6, c_7, c_8, c_9, hn, hm])]
            exact ⟨rfl, hX, hL, hK, hU, rfl⟩)
  refine z_tableOut (pc := 1) (zk1 kX4_status_0) (tgt := 136) (zOut0_9 c_1 c_2 c_3 c_4 c_5 c_6 c_7 c_8 c_9 c_10) (by decide) ?_
  refine z_iload_n (pc := 136) (zk10 kX4_status_2) rfl ?_
  refine z_bipush (pc := 137) (zk11 kX4_status_2) (v := 12) (by decide) ?_
  refine z_bipush (pc := 139) (zk12 kX4_status_2) (v := 16) (by decide) ?_
  refine z_rdS (pc := 141) (zk13 kX4_status_2) (st := []) lkX4_52 isX4_outside (c_outside) rfl ⟨rfl, rfl⟩ rfl rfl ?_ rfl
  refine z_oif_eq (pc := 144) (zk14 kX4_status_2) (tgt := 151) (by decide) (fun c_11 => ?_) (fun c_11 => ?_)
  · have c_12 : okR 12 16 x = true := by simpa using c_11
    refine z_aload_n (pc := 151) (zk1 kX4_status_3) rfl ?_
    refine z_getf (pc := 152) (zk2 kX4_status_3) flX4_40 hX.1 gXo_5 ?_
    refine z_iload_n (pc := 155) (zk3 kX4_status_3) rfl ?_
    refine z_bipush (pc := 156) (zk4 kX4_status_3) (v := 12) (by decide) ?_
    refine z_isub (pc := 158) (zk5 kX4_status_3) ?_
    obtain ⟨r_, hr_, er_, er2_⟩ := okR_rf c_12
    refine z_top (congrArg Value.int er_) ?_
    refine z_ialdN (pc := 159) (zk6 kX4_status_3) (f := (rfo τ)) (j := r_) hX.2.2 (show r_ < 5 by omega) rfl ?_
    exact z_iret (pc := 160) (zk7 kX4_status_3) rfl (Nat.zero_le _) (Nat.zero_le _) (by
            rw [show sp_status σ τ ε x = ((rfo τ) r_, σ, τ, ε) from by (simp [sp_status, sBad, okS, okH, okL, okT, okB, sRd, up2_id, up2_id2, sOther, sNone, sFull, earsF, rfo, c_1, c_2, c_3, c_4, c_5, c_6, c_7, c_8, c_9, c_10, c_11, c_12, hn, hm, er2_, ix_nI (show r_ + 2 ≤ 1000 by omega), rfo])]
            exact ⟨rfl, hX, hL, hK, hU, rfl⟩)
  · have c_13 : okR 12 16 x = false := by simpa using c_11
    refine z_iconst (pc := 147) (zk15 kX4_status_2) (v := (-1)) (by decide) ?_
    refine z_goto (pc := 148) (zk0 kX4_status_3) (tgt := 160) (by decide) ?_
    exact z_iret (pc := 160) (zk7 kX4_status_3) rfl (Nat.zero_le _) (Nat.zero_le _) (by
            rw [show sp_status σ τ ε x = ((-1), σ, τ, ε) from by (simp [sp_status, sBad, okS, okH, okL, okT, okB, sRd, up2_id, up2_id2, sOther, sNone, sFull, earsF, rfo, c_1, c_2, c_3, c_4, c_5, c_6, c_7, c_8, c_9, c_10, c_11, c_13, hn, hm])]
            exact ⟨rfl, hX, hL, hK, hU, rfl⟩)
