theorem hsN_le {σ : Ln} {n : Nat} (hn : σ 0 0 = nI n) (h12 : n ≤ 12) : hsN σ ≤ 12 := by rw [hsN_eq hn h12]; exact h12
theorem zdc {x : Int32} : x + Int32.ofInt (-1) = x - 1 := by rw [Int32.sub_eq_add_neg]; rfl
theorem zdp {i : Nat} : nI (i + 1) + Int32.ofInt (-1) = nI i := by rw [zdc]; exact nI_pred i
theorem dn_pos {d : Nat} (h : ¬ nI d - 1 < 0) : 0 < d := by
  rcases Nat.eq_zero_or_pos d with e | e
  · subst e; exact absurd (by decide) h
  · exact e
theorem dn_0 {d : Nat} (hd : d ≤ 1000) (h : nI d - 1 < 0) : d = 0 := by
  rcases Nat.eq_zero_or_pos d with e | e
  · exact e
  · rw [nI_dec e] at h
    exact absurd h (nI_pos (n := d - 1) (by omega))
theorem dn_pos1 {d : Nat} (h : ¬ nI d < 1) : 0 < d := by
  rcases Nat.eq_zero_or_pos d with e | e
  · subst e; exact absurd (by decide) h
  · exact e
theorem dn_01 {d : Nat} (hd : d ≤ 1000) (h : nI d < 1) : d = 0 := by
  rcases Nat.eq_zero_or_pos d with e | e
  · exact e
  · exact absurd ((nI_ltI (a := d) (b := 1) (by omega) (by omega)).mp h) (by omega)
theorem lstD_s (p : Nat → Bool) {n i : Nat} (h : i + 1 ≤ n) : (if p i = true then nI i else lstD p (i + 1) (n - (i + 1))) = lstD p i (n - i) := by
  rw [show n - i = (n - (i + 1)) + 1 by omega, lstD]
theorem lstD_s1 (p : Nat → Bool) {n i : Nat} (h : i + 1 ≤ n) : (if p (i + 1) = true then nI (i + 1) else lstD p (i + 1 + 1) (n - (i + 1))) = lstD p (i + 1) (n - i) := by
  rw [show n - i = (n - (i + 1)) + 1 by omega, lstD]
theorem up2_self {σ : Ln} {f j : Nat} {v : Int32} (h : σ f j = v) : up2 σ f j v = σ := by rw [← h, up2_id]
set_option maxRecDepth 20000 in
theorem cP_address {D : zD} {B : Nat} {h : zH} {sz : Nat} {p : Nat} {σ τ ω : Ln} {ε : El} {mv : Nat → Int64} {kp tr : Option Nat} {x : Int32} {y : Int32} {n m : Nat} (hM : MoAt h p σ τ ω ε mv kp tr) (hB : B ≤ p) (hn : σ 0 0 = nI n) (h12 : n ≤ 12) (hm : σ 9 0 = nI m) (h8 : m ≤ 8) (hto : ∀ l, l < m → ToOk σ l) : zM D B xX5_address [.ref p, .int x, .int y] h sz (mQ h p sz kp tr (sp_address σ τ ε x y)) := by
  have hU : Upd h h p 29 := Upd.rf
  refine zM.of (by decide) rfl (n := 3) ?_
  show Z D B xX5_address 0 0 _ 0 [some (.ref p), some (.int x), some (.int y), none, none, none] [] h sz
  refine z_aload_n (pc := 0) (zk0 kX5_address_0) rfl ?_
  refine z_iload_n (pc := 1) (zk1 kX5_address_0) rfl ?_
  refine z_i2l (pc := 2) (zk2 kX5_address_0) ?_
  refine z_rdV (pc := 3) (zk3 kX5_address_0) (st := []) lkX5_105 ivX5_isLetter hM.1 rfl rfl (c_isLetter hM) rfl ⟨rfl, rfl⟩ rfl rfl ?_ rfl
  refine z_oif_eq (pc := 6) (zk4 kX5_address_0) (tgt := 17) (by decide) (fun c_1 => ?_) (fun c_1 => ?_)
  · refine z_aload_n (pc := 17) (zk9 kX5_address_0) rfl ?_
    refine z_bipush (pc := 18) (zk10 kX5_address_0) (v := (-2)) (by decide) ?_
    refine z_efV (pc := 20) (zk11 kX5_address_0) (st := []) lkX5_94 ivX5_refuse hM.1 rfl rfl (c_refuse hM (by omega) (j := 2) (by decide) (by decide)) rfl ⟨rfl, rfl⟩ rfl rfl (fun r_ h_3 z_ q_2 => ?_) rfl
    obtain ⟨er_, hR, hU_4, ez_⟩ := q_2
    rw [er_, ez_]
    clear er_ ez_
    replace hU := hU.tr hU_4 (by omega) (by omega)
    replace hM := hR; clear hR
    show Z D B xX5_address _ _ _ 23 _ [.int (-2)] _ _
    exact z_iret (pc := 23) (zk12 kX5_address_0) rfl (Nat.zero_le _) (Nat.zero_le _) (by
            rw [show sp_address σ τ ε x y = ((-2), σ, rfN τ 2, ε) from by simp [sp_address, sBad, okS, okH, okL, okT, okB, sRd, up2_id, up2_id2, oI, c_1]]
            exact ⟨_, _, rfl, hM, hU, rfl⟩)
  · refine z_aload_n (pc := 9) (zk5 kX5_address_0) rfl ?_
    refine z_iload_n (pc := 10) (zk6 kX5_address_0) rfl ?_
    refine z_rdV (pc := 11) (zk7 kX5_address_0) (st := []) lkX5_265 ivX5_isSet hM.1 rfl rfl (c_isSet hM) rfl ⟨rfl, rfl⟩ rfl rfl ?_ rfl
    refine z_oif_ne (pc := 14) (zk8 kX5_address_0) (tgt := 24) (by decide) (fun c_5 => ?_) (fun c_5 => ?_)
    · obtain ⟨kx, hkx, rfl⟩ := okR_nI (n := m) (by omega) (by rw [← hm]; exact c_1)
      refine z_aload_n (pc := 24) (zk13 kX5_address_0) rfl ?_
      refine z_getf (pc := 25) (zk14 kX5_address_0) flX5_59 hM.1 gMo_20 ?_
      refine z_iload_n (pc := 28) (zk15 kX5_address_0) rfl ?_
      refine z_ialdN (pc := 29) (zk0 kX5_address_1) (f := σ 12) (j := kx) hM.2.2.2.2.2.2.2.2.2.2.2.2.2.2.2.2.1 (show kx < 8 by omega) rfl ?_
      refine z_istore_n (pc := 30) (zk1 kX5_address_1) rfl rfl ?_
      show Z D B xX5_address _ _ _ 31 [some (.ref p), some (.int (nI kx)), some (.int y), some (.int (σ 12 kx)), none, none] _ _ _
      refine z_iconst (pc := 31) (zk2 kX5_address_1) (v := (-1)) (by decide) ?_
      refine z_istore (pc := 32) (zk3 kX5_address_1) rfl rfl ?_
      show Z D B xX5_address _ _ _ 34 [some (.ref p), some (.int (nI kx)), some (.int y), some (.int (σ 12 kx)), some (.int (-1)), none] _ _ _
      refine z_aload_n (pc := 34) (zk4 kX5_address_1) rfl ?_
      refine z_getf (pc := 35) (zk5 kX5_address_1) flX5_37 hM.1 (v := .int (nI n)) (by rw [← hn]; rfl) ?_
      refine z_iconst (pc := 38) (zk6 kX5_address_1) (v := 1) (by decide) ?_
      refine z_isub (pc := 39) (zk7 kX5_address_1) ?_
      refine z_istore (pc := 40) (zk8 kX5_address_1) rfl rfl ?_
      show Z D B xX5_address _ _ _ 42 [some (.ref p), some (.int (nI kx)), some (.int y), some (.int (σ 12 kx)), some (.int (-1)), some (.int ((nI n) - 1))] _ _ _
      have lp42 : ∀ (n_ : Nat) (g : zH) (q : Int32) (a : Int32) (d : Nat), d < n_ → (d ≤ n) → (a = lstD (fun k => decide (knowersF (up2 σ 12 kx (nI k)) kx = y)) d (n - d)) → (MoAt g p (up2 σ 12 kx q) τ ω ε mv kp tr) → (Upd h g p 29) → Z D B xX5_address 0 0 (mQ h p sz kp tr (sp_address σ τ ε (nI kx) y)) 42 [some (.ref p), some (.int (nI kx)), some (.int y), some (.int (σ 12 kx)), some (.int a), some (.int (nI d - 1))] [] g sz := by
        intro n_
        induction n_ with
        | zero => intro g q a d hm_; exact absurd hm_ (Nat.not_lt_zero _)
        | succ n_ ih42 =>
          intro g q a d hm_ hd_ ha_ hM hU
          refine z_iload (pc := 42) (zk9 kX5_address_1) rfl ?_
          refine z_if_lt (pc := 44) (zk10 kX5_address_1) (tgt := 79) (by decide) (fun c_6 => ?_) (fun c_6 => ?_)
          · have hd0 : d = 0 := dn_0 (by omega) c_6
            refine z_aload_n (pc := 79) (zk11 kX5_address_2) rfl ?_
            refine z_getf (pc := 80) (zk12 kX5_address_2) flX5_59 hM.1 gMo_20 ?_
            refine z_iload_n (pc := 83) (zk13 kX5_address_2) rfl ?_
            refine z_iload_n (pc := 84) (zk14 kX5_address_2) rfl ?_
            refine z_Mo_s23 (pc := 85) (zk15 kX5_address_2) (j := kx) hM (by omega) (show kx < 8 by omega) (fun h_7 hR hU_8 => ?_)
            replace hU := hU.tr hU_8 (by omega) (by omega)
            replace hM := hR; clear hR
            rw [up2_up2, up2_id] at hM
            refine z_iload (pc := 86) (zk0 kX5_address_3) rfl ?_
            exact z_iret (pc := 88) (zk1 kX5_address_3) rfl (Nat.zero_le _) (Nat.zero_le _) (by
                            rw [show sp_address σ τ ε (nI kx) y = (a, σ, τ, ε) from by simp [sp_address, sBad, okS, okH, okL, okT, okB, sRd, up2_id, up2_id2, oI, c_1, c_5, c_6, Int32.not_le.mpr c_6, ix_nI (show kx ≤ 1000 by omega), ha_, hd0, hsN_eq hn h12, lsN_eq hm h8]]
                            exact ⟨_, _, rfl, hM, hU, rfl⟩)
          · obtain ⟨i, rfl⟩ : ∃ i, d = i + 1 := ⟨d - 1, by have := dn_pos c_6; omega⟩
            rw [nI_pred i]
            refine z_aload_n (pc := 47) (zk11 kX5_address_1) rfl ?_
            refine z_getf (pc := 48) (zk12 kX5_address_1) flX5_59 hM.1 gMo_20 ?_
            refine z_iload_n (pc := 51) (zk13 kX5_address_1) rfl ?_
            refine z_iload (pc := 52) (zk14 kX5_address_1) rfl ?_
            refine z_Mo_s23 (pc := 54) (zk15 kX5_address_1) (j := kx) hM (by omega) (show kx < 8 by omega) (fun h_9 hR hU_10 => ?_)
            replace hU := hU.tr hU_10 (by omega) (by omega)
            replace hM := hR; clear hR
            rw [up2_up2] at hM
            suffices hJ : Z D B xX5_address 0 0 (mQ h p sz kp tr (sp_address σ τ ε (nI kx) y)) 71 [some (.ref p), some (.int (nI kx)), some (.int y), some (.int (σ 12 kx)), some (.int a), some (.int (nI i))] [.int (if (decide (knowersF (up2 σ 12 kx (nI i)) kx = y)) = true then nI i else a)] h_9 sz from by
              refine z_aload_n (pc := 55) (zk0 kX5_address_2) rfl ?_
              refine z_iload_n (pc := 56) (zk1 kX5_address_2) rfl ?_
              refine z_rdV (pc := 57) (zk2 kX5_address_2) (st := []) lkX5_251 ivX5_knowers hM.1 rfl rfl (c_mknowers hM hn h12 (show kx < 8 by omega) ⟨i, by omega, up2_eq _ _ _ _⟩) rfl ⟨rfl, rfl⟩ rfl rfl ?_ rfl
              refine z_iload_n (pc := 60) (zk3 kX5_address_2) rfl ?_
              refine z_icmp_ne (pc := 61) (zk4 kX5_address_2) (tgt := 69) (by decide) (fun c_11 => ?_) (fun c_11 => ?_)
              · refine z_iload (pc := 69) (zk7 kX5_address_2) rfl ?_
                exact z_top (congrArg Value.int (by simp [c_1, c_5, c_6, Int32.not_lt.mp c_6, c_11])) hJ
              · refine z_iload (pc := 64) (zk5 kX5_address_2) rfl ?_
                refine z_goto (pc := 66) (zk6 kX5_address_2) (tgt := 71) (by decide) ?_
                exact z_top (congrArg Value.int (by simp [c_1, c_5, c_6, Int32.not_lt.mp c_6, c_11])) hJ
            refine z_istore (pc := 71) (zk8 kX5_address_2) rfl rfl ?_
            show Z D B xX5_address _ _ _ 73 [some (.ref p), some (.int (nI kx)), some (.int y), some (.int (σ 12 kx)), some (.int (if (decide (knowersF (up2 σ 12 kx (nI i)) kx = y)) = true then nI i else a)), some (.int (nI i))] _ _ _
            refine z_iinc (pc := 73) (zk9 kX5_address_2) (v := nI i - 1) rfl zdc rfl rfl ?_
            show Z D B xX5_address _ _ _ 76 [some (.ref p), some (.int (nI kx)), some (.int y), some (.int (σ 12 kx)), some (.int (if (decide (knowersF (up2 σ 12 kx (nI i)) kx = y)) = true then nI i else a)), some (.int (nI i - 1))] _ _ _
            refine z_goto (pc := 76) (zk10 kX5_address_2) (tgt := 42) (by decide) ?_
            exact ih42 h_9 (nI i) (if (decide (knowersF (up2 σ 12 kx (nI i)) kx = y)) = true then nI i else a) i (by omega) (by omega) (by rw [ha_]; exact lstD_s (fun k => decide (knowersF (up2 σ 12 kx (nI k)) kx = y)) hd_) hM hU
      exact lp42 _ h (σ 12 kx) (-1) n (Nat.lt_succ_self _) (by omega) (by rw [Nat.sub_self]; rfl) (by rw [up2_id]; exact hM) hU
    · refine z_aload_n (pc := 17) (zk9 kX5_address_0) rfl ?_
      refine z_bipush (pc := 18) (zk10 kX5_address_0) (v := (-2)) (by decide) ?_
      refine z_efV (pc := 20) (zk11 kX5_address_0) (st := []) lkX5_94 ivX5_refuse hM.1 rfl rfl (c_refuse hM (by omega) (j := 2) (by decide) (by decide)) rfl ⟨rfl, rfl⟩ rfl rfl (fun r_ h_13 z_ q_12 => ?_) rfl
      obtain ⟨er_, hR, hU_14, ez_⟩ := q_12
      rw [er_, ez_]
      clear er_ ez_
      replace hU := hU.tr hU_14 (by omega) (by omega)
      replace hM := hR; clear hR
      show Z D B xX5_address _ _ _ 23 _ [.int (-2)] _ _
      exact z_iret (pc := 23) (zk12 kX5_address_0) rfl (Nat.zero_le _) (Nat.zero_le _) (by
                rw [show sp_address σ τ ε x y = ((-2), σ, rfN τ 2, ε) from by simp [sp_address, sBad, okS, okH, okL, okT, okB, sRd, up2_id, up2_id2, oI, c_1, c_5]]
                exact ⟨_, _, rfl, hM, hU, rfl⟩)
set_option maxRecDepth 20000 in
theorem cP_seal {D : zD} {B : Nat} {h : zH} {sz : Nat} {p : Nat} {σ τ ω : Ln} {ε : El} {mv : Nat → Int64} {kp tr : Option Nat} {x : Int32} {y : Int32} {n m : Nat} (hM : MoAt h p σ τ ω ε mv kp tr) (hB : B ≤ p) (hn : σ 0 0 = nI n) (h12 : n ≤ 12) (hm : σ 9 0 = nI m) (h8 : m ≤ 8) (hto : ∀ l, l < m → ToOk σ l) : zM D B xX5_seal [.ref p, .int x, .int y] h sz (mQ h p sz kp tr (sp_seal σ τ ε x y)) := by
  have hU : Upd h h p 29 := Upd.rf
  refine zM.of (by decide) rfl (n := 3) ?_
  show Z D B xX5_seal 0 0 _ 0 [some (.ref p), some (.int x), some (.int y), none, none, none] [] h sz
  refine z_aload_n (pc := 0) (zk0 kX5_seal_0) rfl ?_
  refine z_iload_n (pc := 1) (zk1 kX5_seal_0) rfl ?_
  refine z_i2l (pc := 2) (zk2 kX5_seal_0) ?_
  refine z_rdV (pc := 3) (zk3 kX5_seal_0) (st := []) lkX5_105 ivX5_isLetter hM.1 rfl rfl (c_isLetter hM) rfl ⟨rfl, rfl⟩ rfl rfl ?_ rfl
  refine z_oif_eq (pc := 6) (zk4 kX5_seal_0) (tgt := 17) (by decide) (fun c_1 => ?_) (fun c_1 => ?_)
  · refine z_aload_n (pc := 17) (zk9 kX5_seal_0) rfl ?_
    refine z_bipush (pc := 18) (zk10 kX5_seal_0) (v := (-2)) (by decide) ?_
    refine z_efV (pc := 20) (zk11 kX5_seal_0) (st := []) lkX5_94 ivX5_refuse hM.1 rfl rfl (c_refuse hM (by omega) (j := 2) (by decide) (by decide)) rfl ⟨rfl, rfl⟩ rfl rfl (fun r_ h_3 z_ q_2 => ?_) rfl
    obtain ⟨er_, hR, hU_4, ez_⟩ := q_2
    rw [er_, ez_]
    clear er_ ez_
    replace hU := hU.tr hU_4 (by omega) (by omega)
    replace hM := hR; clear hR
    show Z D B xX5_seal _ _ _ 23 _ [.int (-2)] _ _
    exact z_iret (pc := 23) (zk12 kX5_seal_0) rfl (Nat.zero_le _) (Nat.zero_le _) (by
            rw [show sp_seal σ τ ε x y = ((-2), σ, rfN τ 2, ε) from by simp [sp_seal, sBad, okS, okH, okL, okT, okB, sRd, up2_id, up2_id2, oI, c_1]]
            exact ⟨_, _, rfl, hM, hU, rfl⟩)
  · refine z_aload_n (pc := 9) (zk5 kX5_seal_0) rfl ?_
    refine z_iload_n (pc := 10) (zk6 kX5_seal_0) rfl ?_
    refine z_rdV (pc := 11) (zk7 kX5_seal_0) (st := []) lkX5_265 ivX5_isSet hM.1 rfl rfl (c_isSet hM) rfl ⟨rfl, rfl⟩ rfl rfl ?_ rfl
    refine z_oif_ne (pc := 14) (zk8 kX5_seal_0) (tgt := 24) (by decide) (fun c_5 => ?_) (fun c_5 => ?_)
    · obtain ⟨kx, hkx, rfl⟩ := okR_nI (n := m) (by omega) (by rw [← hm]; exact c_1)
      refine z_aload_n (pc := 24) (zk13 kX5_seal_0) rfl ?_
      refine z_getf (pc := 25) (zk14 kX5_seal_0) flX5_53 hM.1 gMo_18 ?_
      refine z_iload_n (pc := 28) (zk15 kX5_seal_0) rfl ?_
      refine z_ialdN (pc := 29) (zk0 kX5_seal_1) (f := σ 10) (j := kx) hM.2.2.2.2.2.2.2.2.2.2.2.2.2.2.1 (show kx < 8 by omega) rfl ?_
      refine z_istore_n (pc := 30) (zk1 kX5_seal_1) rfl rfl ?_
      show Z D B xX5_seal _ _ _ 31 [some (.ref p), some (.int (nI kx)), some (.int y), some (.int (σ 10 kx)), none, none] _ _ _
      refine z_iconst (pc := 31) (zk2 kX5_seal_1) (v := (-1)) (by decide) ?_
      refine z_istore (pc := 32) (zk3 kX5_seal_1) rfl rfl ?_
      show Z D B xX5_seal _ _ _ 34 [some (.ref p), some (.int (nI kx)), some (.int y), some (.int (σ 10 kx)), some (.int (-1)), none] _ _ _
      refine z_iconst (pc := 34) (zk4 kX5_seal_1) (v := 5) (by decide) ?_
      refine z_istore (pc := 35) (zk5 kX5_seal_1) rfl rfl ?_
      show Z D B xX5_seal _ _ _ 37 [some (.ref p), some (.int (nI kx)), some (.int y), some (.int (σ 10 kx)), some (.int (-1)), some (.int 5)] _ _ _
      have lp37 : ∀ (n_ : Nat) (g : zH) (q : Int32) (a : Int32) (d : Nat), d < n_ → (d ≤ 6) → (a = lstD (fun k => decide (knowersF (up2 σ 10 kx (nI k)) kx = y)) d (6 - d)) → (MoAt g p (up2 σ 10 kx q) τ ω ε mv kp tr) → (Upd h g p 29) → Z D B xX5_seal 0 0 (mQ h p sz kp tr (sp_seal σ τ ε (nI kx) y)) 37 [some (.ref p), some (.int (nI kx)), some (.int y), some (.int (σ 10 kx)), some (.int a), some (.int (nI d - 1))] [] g sz := by
        intro n_
        induction n_ with
        | zero => intro g q a d hm_; exact absurd hm_ (Nat.not_lt_zero _)
        | succ n_ ih37 =>
          intro g q a d hm_ hd_ ha_ hM hU
          refine z_iload (pc := 37) (zk6 kX5_seal_1) rfl ?_
          refine z_if_lt (pc := 39) (zk7 kX5_seal_1) (tgt := 74) (by decide) (fun c_6 => ?_) (fun c_6 => ?_)
          · have hd0 : d = 0 := dn_0 (by omega) c_6
            refine z_aload_n (pc := 74) (zk8 kX5_seal_2) rfl ?_
            refine z_getf (pc := 75) (zk9 kX5_seal_2) flX5_53 hM.1 gMo_18 ?_
            refine z_iload_n (pc := 78) (zk10 kX5_seal_2) rfl ?_
            refine z_iload_n (pc := 79) (zk11 kX5_seal_2) rfl ?_
            refine z_Mo_s21 (pc := 80) (zk12 kX5_seal_2) (j := kx) hM (by omega) (show kx < 8 by omega) (fun h_7 hR hU_8 => ?_)
            replace hU := hU.tr hU_8 (by omega) (by omega)
            replace hM := hR; clear hR
            rw [up2_up2, up2_id] at hM
            refine z_iload (pc := 81) (zk13 kX5_seal_2) rfl ?_
            exact z_iret (pc := 83) (zk14 kX5_seal_2) rfl (Nat.zero_le _) (Nat.zero_le _) (by
                            rw [show sp_seal σ τ ε (nI kx) y = (a, σ, τ, ε) from by simp [sp_seal, sBad, okS, okH, okL, okT, okB, sRd, up2_id, up2_id2, oI, c_1, c_5, c_6, Int32.not_le.mpr c_6, ix_nI (show kx ≤ 1000 by omega), ha_, hd0, hsN_eq hn h12, lsN_eq hm h8]]
                            exact ⟨_, _, rfl, hM, hU, rfl⟩)
          · obtain ⟨i, rfl⟩ : ∃ i, d = i + 1 := ⟨d - 1, by have := dn_pos c_6; omega⟩
            rw [nI_pred i]
            refine z_aload_n (pc := 42) (zk8 kX5_seal_1) rfl ?_
            refine z_getf (pc := 43) (zk9 kX5_seal_1) flX5_53 hM.1 gMo_18 ?_
            refine z_iload_n (pc := 46) (zk10 kX5_seal_1) rfl ?_
            refine z_iload (pc := 47) (zk11 kX5_seal_1) rfl ?_
            refine z_Mo_s21 (pc := 49) (zk12 kX5_seal_1) (j := kx) hM (by omega) (show kx < 8 by omega) (fun h_9 hR hU_10 => ?_)
            replace hU := hU.tr hU_10 (by omega) (by omega)
            replace hM := hR; clear hR
            rw [up2_up2] at hM
            suffices hJ : Z D B xX5_seal 0 0 (mQ h p sz kp tr (sp_seal σ τ ε (nI kx) y)) 66 [some (.ref p), some (.int (nI kx)), some (.int y), some (.int (σ 10 kx)), some (.int a), some (.int (nI i))] [.int (if (decide (knowersF (up2 σ 10 kx (nI i)) kx = y)) = true then nI i else a)] h_9 sz from by
              refine z_aload_n (pc := 50) (zk13 kX5_seal_1) rfl ?_
              refine z_iload_n (pc := 51) (zk14 kX5_seal_1) rfl ?_
              refine z_rdV (pc := 52) (zk15 kX5_seal_1) (st := []) lkX5_251 ivX5_knowers hM.1 rfl rfl (c_mknowers hM hn h12 (show kx < 8 by omega) (hto _ (by omega))) rfl ⟨rfl, rfl⟩ rfl rfl ?_ rfl
              refine z_iload_n (pc := 55) (zk0 kX5_seal_2) rfl ?_
              refine z_icmp_ne (pc := 56) (zk1 kX5_seal_2) (tgt := 64) (by decide) (fun c_11 => ?_) (fun c_11 => ?_)
              · refine z_iload (pc := 64) (zk4 kX5_seal_2) rfl ?_
                exact z_top (congrArg Value.int (by simp [c_1, c_5, c_6, Int32.not_lt.mp c_6, c_11])) hJ
              · refine z_iload (pc := 59) (zk2 kX5_seal_2) rfl ?_
                refine z_goto (pc := 61) (zk3 kX5_seal_2) (tgt := 66) (by decide) ?_
                exact z_top (congrArg Value.int (by simp [c_1, c_5, c_6, Int32.not_lt.mp c_6, c_11])) hJ
            refine z_istore (pc := 66) (zk5 kX5_seal_2) rfl rfl ?_
            show Z D B xX5_seal _ _ _ 68 [some (.ref p), some (.int (nI kx)), some (.int y), some (.int (σ 10 kx)), some (.int (if (decide (knowersF (up2 σ 10 kx (nI i)) kx = y)) = true then nI i else a)), some (.int (nI i))] _ _ _
            refine z_iinc (pc := 68) (zk6 kX5_seal_2) (v := nI i - 1) rfl zdc rfl rfl ?_
            show Z D B xX5_seal _ _ _ 71 [some (.ref p), some (.int (nI kx)), some (.int y), some (.int (σ 10 kx)), some (.int (if (decide (knowersF (up2 σ 10 kx (nI i)) kx = y)) = true then nI i else a)), some (.int (nI i - 1))] _ _ _
            refine z_goto (pc := 71) (zk7 kX5_seal_2) (tgt := 37) (by decide) ?_
            exact ih37 h_9 (nI i) (if (decide (knowersF (up2 σ 10 kx (nI i)) kx = y)) = true then nI i else a) i (by omega) (by omega) (by rw [ha_]; exact lstD_s (fun k => decide (knowersF (up2 σ 10 kx (nI k)) kx = y)) hd_) hM hU
      exact lp37 _ h (σ 10 kx) (-1) 6 (Nat.lt_succ_self _) (by omega) (by rw [Nat.sub_self]; rfl) (by rw [up2_id]; exact hM) hU
    · refine z_aload_n (pc := 17) (zk9 kX5_seal_0) rfl ?_
      refine z_bipush (pc := 18) (zk10 kX5_seal_0) (v := (-2)) (by decide) ?_
      refine z_efV (pc := 20) (zk11 kX5_seal_0) (st := []) lkX5_94 ivX5_refuse hM.1 rfl rfl (c_refuse hM (by omega) (j := 2) (by decide) (by decide)) rfl ⟨rfl, rfl⟩ rfl rfl (fun r_ h_13 z_ q_12 => ?_) rfl
      obtain ⟨er_, hR, hU_14, ez_⟩ := q_12
      rw [er_, ez_]
      clear er_ ez_
      replace hU := hU.tr hU_14 (by omega) (by omega)
      replace hM := hR; clear hR
      show Z D B xX5_seal _ _ _ 23 _ [.int (-2)] _ _
      exact z_iret (pc := 23) (zk12 kX5_seal_0) rfl (Nat.zero_le _) (Nat.zero_le _) (by
                rw [show sp_seal σ τ ε x y = ((-2), σ, rfN τ 2, ε) from by simp [sp_seal, sBad, okS, okH, okL, okT, okB, sRd, up2_id, up2_id2, oI, c_1, c_5]]
                exact ⟨_, _, rfl, hM, hU, rfl⟩)
set_option maxRecDepth 20000 in
theorem cP_shout {D : zD} {B : Nat} {h : zH} {sz : Nat} {p : Nat} {σ τ ω : Ln} {ε : El} {mv : Nat → Int64} {kp tr : Option Nat} {x : Int32} {y : Int32} {n m : Nat} (hM : MoAt h p σ τ ω ε mv kp tr) (hB : B ≤ p) (hn : σ 0 0 = nI n) (h12 : n ≤ 12) (hm : σ 9 0 = nI m) (h8 : m ≤ 8) (hto : ∀ l, l < m → ToOk σ l) : zM D B xX5_shout [.ref p, .int x, .int y] h sz (mQ h p sz kp tr (sp_shout σ τ ε x y)) := by
  have hU : Upd h h p 29 := Upd.rf
  refine zM.of (by decide) rfl (n := 3) ?_
  show Z D B xX5_shout 0 0 _ 0 [some (.ref p), some (.int x), some (.int y), none, none, none] [] h sz
  refine z_aload_n (pc := 0) (zk0 kX5_shout_0) rfl ?_
  refine z_iload_n (pc := 1) (zk1 kX5_shout_0) rfl ?_
  refine z_iload_n (pc := 2) (zk2 kX5_shout_0) rfl ?_
  refine z_rdV (pc := 3) (zk3 kX5_shout_0) (st := []) lkX5_248 ivX5_areBoth hM.1 rfl rfl (c_areBoth hM) rfl ⟨rfl, rfl⟩ rfl rfl ?_ rfl
  refine z_oif_ne (pc := 6) (zk4 kX5_shout_0) (tgt := 16) (by decide) (fun c_1 => ?_) (fun c_1 => ?_)
  · obtain ⟨c_2, c_3⟩ := Bool.and_eq_true_iff.mp c_1
    obtain ⟨kx, hkx, rfl⟩ := okR_nI (n := m) (by omega) (by rw [← hm]; exact c_2)
    obtain ⟨ky, hky, rfl⟩ := okR_nI (n := n) (by omega) (by rw [← hn]; exact c_3)
    refine z_aload_n (pc := 16) (zk9 kX5_shout_0) rfl ?_
    refine z_getf (pc := 17) (zk10 kX5_shout_0) flX5_62 hM.1 gMo_21 ?_
    refine z_iload_n (pc := 20) (zk11 kX5_shout_0) rfl ?_
    refine z_ialdN (pc := 21) (zk12 kX5_shout_0) (f := σ 13) (j := kx) hM.2.2.2.2.2.2.2.2.2.2.2.2.2.2.2.2.2.1 (show kx < 8 by omega) rfl ?_
    refine z_istore_n (pc := 22) (zk13 kX5_shout_0) rfl rfl ?_
    show Z D B xX5_shout _ _ _ 23 [some (.ref p), some (.int (nI kx)), some (.int (nI ky)), some (.int (σ 13 kx)), none, none] _ _ _
    refine z_iconst (pc := 23) (zk14 kX5_shout_0) (v := (-1)) (by decide) ?_
    refine z_istore (pc := 24) (zk15 kX5_shout_0) rfl rfl ?_
    show Z D B xX5_shout _ _ _ 26 [some (.ref p), some (.int (nI kx)), some (.int (nI ky)), some (.int (σ 13 kx)), some (.int (-1)), none] _ _ _
    refine z_bipush (pc := 26) (zk0 kX5_shout_1) (v := 40) (by decide) ?_
    refine z_istore (pc := 28) (zk1 kX5_shout_1) rfl rfl ?_
    show Z D B xX5_shout _ _ _ 30 [some (.ref p), some (.int (nI kx)), some (.int (nI ky)), some (.int (σ 13 kx)), some (.int (-1)), some (.int 40)] _ _ _
    have lp30 : ∀ (n_ : Nat) (g : zH) (q : Int32) (a : Int32) (d : Nat), d < n_ → (d ≤ 40) → (a = lstD (fun k => knowB (up2 σ 13 kx (nI k)) kx ky) (d + 1) (40 - d)) → (MoAt g p (up2 σ 13 kx q) τ ω ε mv kp tr) → (Upd h g p 29) → Z D B xX5_shout 0 0 (mQ h p sz kp tr (sp_shout σ τ ε (nI kx) (nI ky))) 30 [some (.ref p), some (.int (nI kx)), some (.int (nI ky)), some (.int (σ 13 kx)), some (.int a), some (.int (nI d))] [] g sz := by
      intro n_
      induction n_ with
      | zero => intro g q a d hm_; exact absurd hm_ (Nat.not_lt_zero _)
      | succ n_ ih30 =>
        intro g q a d hm_ hd_ ha_ hM hU
        refine z_iload (pc := 30) (zk2 kX5_shout_1) rfl ?_
        refine z_iconst (pc := 32) (zk3 kX5_shout_1) (v := 1) (by decide) ?_
        refine z_icmp_lt (pc := 33) (zk4 kX5_shout_1) (tgt := 68) (by decide) (fun c_4 => ?_) (fun c_4 => ?_)
        · have hd0 : d = 0 := dn_01 (by omega) c_4
          refine z_aload_n (pc := 68) (zk5 kX5_shout_2) rfl ?_
          refine z_getf (pc := 69) (zk6 kX5_shout_2) flX5_62 hM.1 gMo_21 ?_
          refine z_iload_n (pc := 72) (zk7 kX5_shout_2) rfl ?_
          refine z_iload_n (pc := 73) (zk8 kX5_shout_2) rfl ?_
          refine z_Mo_s24 (pc := 74) (zk9 kX5_shout_2) (j := kx) hM (by omega) (show kx < 8 by omega) (fun h_5 hR hU_6 => ?_)
          replace hU := hU.tr hU_6 (by omega) (by omega)
          replace hM := hR; clear hR
          rw [up2_up2, up2_id] at hM
          refine z_iload (pc := 75) (zk10 kX5_shout_2) rfl ?_
          exact z_iret (pc := 77) (zk11 kX5_shout_2) rfl (Nat.zero_le _) (Nat.zero_le _) (by
                        rw [show sp_shout σ τ ε (nI kx) (nI ky) = (a, σ, τ, ε) from by simp [sp_shout, sBad, okS, okH, okL, okT, okB, sRd, up2_id, up2_id2, oI, c_1, c_2, c_3, c_4, Int32.not_le.mpr c_4, ix_nI (show kx ≤ 1000 by omega), ix_nI (show ky ≤ 1000 by omega), ha_, hd0, hsN_eq hn h12, lsN_eq hm h8]]
                        exact ⟨_, _, rfl, hM, hU, rfl⟩)
        · obtain ⟨i, rfl⟩ : ∃ i, d = i + 1 := ⟨d - 1, by have := dn_pos1 c_4; omega⟩
          refine z_aload_n (pc := 36) (zk5 kX5_shout_1) rfl ?_
          refine z_getf (pc := 37) (zk6 kX5_shout_1) flX5_62 hM.1 gMo_21 ?_
          refine z_iload_n (pc := 40) (zk7 kX5_shout_1) rfl ?_
          refine z_iload (pc := 41) (zk8 kX5_shout_1) rfl ?_
          refine z_Mo_s24 (pc := 43) (zk9 kX5_shout_1) (j := kx) hM (by omega) (show kx < 8 by omega) (fun h_7 hR hU_8 => ?_)
          replace hU := hU.tr hU_8 (by omega) (by omega)
          replace hM := hR; clear hR
          rw [up2_up2] at hM
          suffices hJ : Z D B xX5_shout 0 0 (mQ h p sz kp tr (sp_shout σ τ ε (nI kx) (nI ky))) 60 [some (.ref p), some (.int (nI kx)), some (.int (nI ky)), some (.int (σ 13 kx)), some (.int a), some (.int (nI (i + 1)))] [.int (if (knowB (up2 σ 13 kx (nI (i + 1))) kx ky) = true then nI (i + 1) else a)] h_7 sz from by
            refine z_aload_n (pc := 44) (zk10 kX5_shout_1) rfl ?_
            refine z_iload_n (pc := 45) (zk11 kX5_shout_1) rfl ?_
            refine z_iload_n (pc := 46) (zk12 kX5_shout_1) rfl ?_
            refine z_rdV (pc := 47) (zk13 kX5_shout_1) (st := []) lkX5_245 ivX5_knowsOf hM.1 rfl rfl (c_knowsOf hM hn h12 (show kx < 8 by omega) (show ky < n by omega) (hto _ (by omega))) rfl ⟨rfl, rfl⟩ rfl rfl ?_ rfl
            refine z_oif_eq (pc := 50) (zk14 kX5_shout_1) (tgt := 58) (by decide) (fun c_9 => ?_) (fun c_9 => ?_)
            · refine z_iload (pc := 58) (zk1 kX5_shout_2) rfl ?_
              exact z_top (congrArg Value.int (by simp [c_1, c_2, c_3, c_4, Int32.not_lt.mp c_4, c_9])) hJ
            · refine z_iload (pc := 53) (zk15 kX5_shout_1) rfl ?_
              refine z_goto (pc := 55) (zk0 kX5_shout_2) (tgt := 60) (by decide) ?_
              exact z_top (congrArg Value.int (by simp [c_1, c_2, c_3, c_4, Int32.not_lt.mp c_4, c_9])) hJ
          refine z_istore (pc := 60) (zk2 kX5_shout_2) rfl rfl ?_
          show Z D B xX5_shout _ _ _ 62 [some (.ref p), some (.int (nI kx)), some (.int (nI ky)), some (.int (σ 13 kx)), some (.int (if (knowB (up2 σ 13 kx (nI (i + 1))) kx ky) = true then nI (i + 1) else a)), some (.int (nI (i + 1)))] _ _ _
          refine z_iinc (pc := 62) (zk3 kX5_shout_2) (v := nI i) rfl zdp rfl rfl ?_
          show Z D B xX5_shout _ _ _ 65 [some (.ref p), some (.int (nI kx)), some (.int (nI ky)), some (.int (σ 13 kx)), some (.int (if (knowB (up2 σ 13 kx (nI (i + 1))) kx ky) = true then nI (i + 1) else a)), some (.int (nI i))] _ _ _
          refine z_goto (pc := 65) (zk4 kX5_shout_2) (tgt := 30) (by decide) ?_
          exact ih30 h_7 (nI (i + 1)) (if (knowB (up2 σ 13 kx (nI (i + 1))) kx ky) = true then nI (i + 1) else a) i (by omega) (by omega) (by rw [ha_]; exact lstD_s1 (fun k => knowB (up2 σ 13 kx (nI k)) kx ky) hd_) hM hU
    exact lp30 _ h (σ 13 kx) (-1) 40 (Nat.lt_succ_self _) (by omega) (by rw [Nat.sub_self]; rfl) (by rw [up2_id]; exact hM) hU
  · refine z_aload_n (pc := 9) (zk5 kX5_shout_0) rfl ?_
    refine z_bipush (pc := 10) (zk6 kX5_shout_0) (v := (-2)) (by decide) ?_
    refine z_efV (pc := 12) (zk7 kX5_shout_0) (st := []) lkX5_94 ivX5_refuse hM.1 rfl rfl (c_refuse hM (by omega) (j := 2) (by decide) (by decide)) rfl ⟨rfl, rfl⟩ rfl rfl (fun r_ h_11 z_ q_10 => ?_) rfl
    obtain ⟨er_, hR, hU_12, ez_⟩ := q_10
    rw [er_, ez_]
    clear er_ ez_
    replace hU := hU.tr hU_12 (by omega) (by omega)
    replace hM := hR; clear hR
    show Z D B xX5_shout _ _ _ 15 _ [.int (-2)] _ _
    exact z_iret (pc := 15) (zk8 kX5_shout_0) rfl (Nat.zero_le _) (Nat.zero_le _) (by
            rw [show sp_shout σ τ ε x y = ((-2), σ, rfN τ 2, ε) from by simp [sp_shout, sBad, okS, okH, okL, okT, okB, sRd, up2_id, up2_id2, oI, c_1]]
            exact ⟨_, _, rfl, hM, hU, rfl⟩)
set_option maxRecDepth 20000 in
theorem cP_colds {D : zD} {B : Nat} {h : zH} {sz : Nat} {p : Nat} {σ τ ω : Ln} {ε : El} {mv : Nat → Int64} {kp tr : Option Nat} {x : Int32} {y : Int32} {n m : Nat} (hM : MoAt h p σ τ ω ε mv kp tr) (hB : B ≤ p) (hn : σ 0 0 = nI n) (h12 : n ≤ 12) (hm : σ 9 0 = nI m) (h8 : m ≤ 8) (hto : ∀ l, l < m → ToOk σ l) : zM D B xX5_colds [.ref p, .int x, .int y] h sz (mQ h p sz kp tr (sp_colds σ τ ε x y)) := by
  have hU : Upd h h p 29 := Upd.rf
  refine zM.of (by decide) rfl (n := 3) ?_
  show Z D B xX5_colds 0 0 _ 0 [some (.ref p), some (.int x), some (.int y), none, none, none] [] h sz
  refine z_aload_n (pc := 0) (zk0 kX5_colds_0) rfl ?_
  refine z_iload_n (pc := 1) (zk1 kX5_colds_0) rfl ?_
  refine z_iload_n (pc := 2) (zk2 kX5_colds_0) rfl ?_
  refine z_rdV (pc := 3) (zk3 kX5_colds_0) (st := []) lkX5_248 ivX5_areBoth hM.1 rfl rfl (c_areBoth hM) rfl ⟨rfl, rfl⟩ rfl rfl ?_ rfl
  refine z_oif_ne (pc := 6) (zk4 kX5_colds_0) (tgt := 16) (by decide) (fun c_1 => ?_) (fun c_1 => ?_)
  · obtain ⟨c_2, c_3⟩ := Bool.and_eq_true_iff.mp c_1
    obtain ⟨kx, hkx, rfl⟩ := okR_nI (n := m) (by omega) (by rw [← hm]; exact c_2)
    obtain ⟨ky, hky, rfl⟩ := okR_nI (n := n) (by omega) (by rw [← hn]; exact c_3)
    refine z_aload_n (pc := 16) (zk9 kX5_colds_0) rfl ?_
    refine z_getf (pc := 17) (zk10 kX5_colds_0) flX5_135 hM.1 (v := .int (σ 5 0)) rfl ?_
    refine z_istore_n (pc := 20) (zk11 kX5_colds_0) rfl rfl ?_
    show Z D B xX5_colds _ _ _ 21 [some (.ref p), some (.int (nI kx)), some (.int (nI ky)), some (.int (σ 5 0)), none, none] _ _ _
    refine z_iconst (pc := 21) (zk12 kX5_colds_0) (v := (-1)) (by decide) ?_
    refine z_istore (pc := 22) (zk13 kX5_colds_0) rfl rfl ?_
    show Z D B xX5_colds _ _ _ 24 [some (.ref p), some (.int (nI kx)), some (.int (nI ky)), some (.int (σ 5 0)), some (.int (-1)), none] _ _ _
    refine z_bipush (pc := 24) (zk14 kX5_colds_0) (v := 9) (by decide) ?_
    refine z_istore (pc := 26) (zk15 kX5_colds_0) rfl rfl ?_
    show Z D B xX5_colds _ _ _ 28 [some (.ref p), some (.int (nI kx)), some (.int (nI ky)), some (.int (σ 5 0)), some (.int (-1)), some (.int 9)] _ _ _
    have lp28 : ∀ (n_ : Nat) (g : zH) (q : Int32) (a : Int32) (d : Nat), d < n_ → (d ≤ 10) → (a = lstD (fun k => !knowB (up2 σ 5 0 (nI k)) kx ky) d (10 - d)) → (MoAt g p (up2 σ 5 0 q) τ ω ε mv kp tr) → (Upd h g p 29) → Z D B xX5_colds 0 0 (mQ h p sz kp tr (sp_colds σ τ ε (nI kx) (nI ky))) 28 [some (.ref p), some (.int (nI kx)), some (.int (nI ky)), some (.int (σ 5 0)), some (.int a), some (.int (nI d - 1))] [] g sz := by
      intro n_
      induction n_ with
      | zero => intro g q a d hm_; exact absurd hm_ (Nat.not_lt_zero _)
      | succ n_ ih28 =>
        intro g q a d hm_ hd_ ha_ hM hU
        refine z_iload (pc := 28) (zk0 kX5_colds_1) rfl ?_
        refine z_if_lt (pc := 30) (zk1 kX5_colds_1) (tgt := 63) (by decide) (fun c_4 => ?_) (fun c_4 => ?_)
        · have hd0 : d = 0 := dn_0 (by omega) c_4
          refine z_aload_n (pc := 63) (zk0 kX5_colds_2) rfl ?_
          refine z_iload_n (pc := 64) (zk1 kX5_colds_2) rfl ?_
          refine z_Mo_w14 (pc := 65) (zk2 kX5_colds_2) flX5_135 hM (by omega) (fun h_5 hR hU_6 => ?_)
          replace hU := hU.tr hU_6 (by omega) (by omega)
          replace hM := hR; clear hR
          rw [up2_up2, up2_id] at hM
          refine z_iload (pc := 68) (zk3 kX5_colds_2) rfl ?_
          exact z_iret (pc := 70) (zk4 kX5_colds_2) rfl (Nat.zero_le _) (Nat.zero_le _) (by
                        rw [show sp_colds σ τ ε (nI kx) (nI ky) = (a, σ, τ, ε) from by simp [sp_colds, sBad, okS, okH, okL, okT, okB, sRd, up2_id, up2_id2, oI, c_1, c_2, c_3, c_4, Int32.not_le.mpr c_4, ix_nI (show kx ≤ 1000 by omega), ix_nI (show ky ≤ 1000 by omega), ha_, hd0, hsN_eq hn h12, lsN_eq hm h8]]
                        exact ⟨_, _, rfl, hM, hU, rfl⟩)
        · obtain ⟨i, rfl⟩ : ∃ i, d = i + 1 := ⟨d - 1, by have := dn_pos c_4; omega⟩
          rw [nI_pred i]
          refine z_aload_n (pc := 33) (zk2 kX5_colds_1) rfl ?_
          refine z_iload (pc := 34) (zk3 kX5_colds_1) rfl ?_
          refine z_Mo_w14 (pc := 36) (zk4 kX5_colds_1) flX5_135 hM (by omega) (fun h_7 hR hU_8 => ?_)
          replace hU := hU.tr hU_8 (by omega) (by omega)
          replace hM := hR; clear hR
          rw [up2_up2] at hM
          suffices hJ : Z D B xX5_colds 0 0 (mQ h p sz kp tr (sp_colds σ τ ε (nI kx) (nI ky))) 55 [some (.ref p), some (.int (nI kx)), some (.int (nI ky)), some (.int (σ 5 0)), some (.int a), some (.int (nI i))] [.int (if (!knowB (up2 σ 5 0 (nI i)) kx ky) = true then nI i else a)] h_7 sz from by
            refine z_aload_n (pc := 39) (zk5 kX5_colds_1) rfl ?_
            refine z_iload_n (pc := 40) (zk6 kX5_colds_1) rfl ?_
            refine z_iload_n (pc := 41) (zk7 kX5_colds_1) rfl ?_
            refine z_rdV (pc := 42) (zk8 kX5_colds_1) (st := []) lkX5_245 ivX5_knowsOf hM.1 rfl rfl (c_knowsOf hM hn h12 (show kx < 8 by omega) (show ky < n by omega) (hto _ (by omega))) rfl ⟨rfl, rfl⟩ rfl rfl ?_ rfl
            refine z_oif_eq (pc := 45) (zk9 kX5_colds_1) (tgt := 53) (by decide) (fun c_9 => ?_) (fun c_9 => ?_)
            · refine z_iload (pc := 53) (zk12 kX5_colds_1) rfl ?_
              exact z_top (congrArg Value.int (by simp [c_1, c_2, c_3, c_4, Int32.not_lt.mp c_4, c_9])) hJ
            · refine z_iload (pc := 48) (zk10 kX5_colds_1) rfl ?_
              refine z_goto (pc := 50) (zk11 kX5_colds_1) (tgt := 55) (by decide) ?_
              exact z_top (congrArg Value.int (by simp [c_1, c_2, c_3, c_4, Int32.not_lt.mp c_4, c_9])) hJ
          refine z_istore (pc := 55) (zk13 kX5_colds_1) rfl rfl ?_
          show Z D B xX5_colds _ _ _ 57 [some (.ref p), some (.int (nI kx)), some (.int (nI ky)), some (.int (σ 5 0)), some (.int (if (!knowB (up2 σ 5 0 (nI i)) kx ky) = true then nI i else a)), some (.int (nI i))] _ _ _
          refine z_iinc (pc := 57) (zk14 kX5_colds_1) (v := nI i - 1) rfl zdc rfl rfl ?_
          show Z D B xX5_colds _ _ _ 60 [some (.ref p), some (.int (nI kx)), some (.int (nI ky)), some (.int (σ 5 0)), some (.int (if (!knowB (up2 σ 5 0 (nI i)) kx ky) = true then nI i else a)), some (.int (nI i - 1))] _ _ _
          refine z_goto (pc := 60) (zk15 kX5_colds_1) (tgt := 28) (by decide) ?_
          exact ih28 h_7 (nI i) (if (!knowB (up2 σ 5 0 (nI i)) kx ky) = true then nI i else a) i (by omega) (by omega) (by rw [ha_]; exact lstD_s (fun k => !knowB (up2 σ 5 0 (nI k)) kx ky) hd_) hM hU
    exact lp28 _ h (σ 5 0) (-1) 10 (Nat.lt_succ_self _) (by omega) (by rw [Nat.sub_self]; rfl) (by rw [up2_id]; exact hM) hU
  · refine z_aload_n (pc := 9) (zk5 kX5_colds_0) rfl ?_
    refine z_bipush (pc := 10) (zk6 kX5_colds_0) (v := (-2)) (by decide) ?_
    refine z_efV (pc := 12) (zk7 kX5_colds_0) (st := []) lkX5_94 ivX5_refuse hM.1 rfl rfl (c_refuse hM (by omega) (j := 2) (by decide) (by decide)) rfl ⟨rfl, rfl⟩ rfl rfl (fun r_ h_11 z_ q_10 => ?_) rfl
    obtain ⟨er_, hR, hU_12, ez_⟩ := q_10
    rw [er_, ez_]
    clear er_ ez_
    replace hU := hU.tr hU_12 (by omega) (by omega)
    replace hM := hR; clear hR
    show Z D B xX5_colds _ _ _ 15 _ [.int (-2)] _ _
    exact z_iret (pc := 15) (zk8 kX5_colds_0) rfl (Nat.zero_le _) (Nat.zero_le _) (by
            rw [show sp_colds σ τ ε x y = ((-2), σ, rfN τ 2, ε) from by simp [sp_colds, sBad, okS, okH, okL, okT, okB, sRd, up2_id, up2_id2, oI, c_1]]
            exact ⟨_, _, rfl, hM, hU, rfl⟩)
set_option maxRecDepth 20000 in
theorem cP_quiet {D : zD} {B : Nat} {h : zH} {sz : Nat} {p : Nat} {σ τ ω : Ln} {ε : El} {mv : Nat → Int64} {kp tr : Option Nat} {x : Int32} {n m : Nat} (hM : MoAt h p σ τ ω ε mv kp tr) (hB : B ≤ p) (hn : σ 0 0 = nI n) (h12 : n ≤ 12) (hm : σ 9 0 = nI m) (h8 : m ≤ 8) (hto : ∀ l, l < m → ToOk σ l) : zM D B xX5_quiet [.ref p, .int x] h sz (mQ h p sz kp tr (sp_quiet σ τ ε x)) := by
  have hU : Upd h h p 29 := Upd.rf
  refine zM.of (by decide) rfl (n := 3) ?_
  show Z D B xX5_quiet 0 0 _ 0 [some (.ref p), some (.int x), none, none, none] [] h sz
  refine z_aload_n (pc := 0) (zk0 kX5_quiet_0) rfl ?_
  refine z_iload_n (pc := 1) (zk1 kX5_quiet_0) rfl ?_
  refine z_rdV (pc := 2) (zk2 kX5_quiet_0) (st := []) lkX5_123 ivX5_isHouse hM.1 rfl rfl (c_isHouse hM) rfl ⟨rfl, rfl⟩ rfl rfl ?_ rfl
  refine z_oif_ne (pc := 5) (zk3 kX5_quiet_0) (tgt := 15) (by decide) (fun c_1 => ?_) (fun c_1 => ?_)
  · obtain ⟨kx, hkx, rfl⟩ := okR_nI (n := n) (by omega) (by rw [← hn]; exact c_1)
    refine z_aload_n (pc := 15) (zk8 kX5_quiet_0) rfl ?_
    refine z_getf (pc := 16) (zk9 kX5_quiet_0) flX5_41 hM.1 gMo_10 ?_
    refine z_iload_n (pc := 19) (zk10 kX5_quiet_0) rfl ?_
    refine z_ialdN (pc := 20) (zk11 kX5_quiet_0) (f := σ 1) (j := kx) hM.2.2.2.2.2.2.2.2.2.2.1 (show kx < 12 by omega) rfl ?_
    refine z_istore_n (pc := 21) (zk12 kX5_quiet_0) rfl rfl ?_
    show Z D B xX5_quiet _ _ _ 22 [some (.ref p), some (.int (nI kx)), some (.int (σ 1 kx)), none, none] _ _ _
    refine z_iconst (pc := 22) (zk13 kX5_quiet_0) (v := (-1)) (by decide) ?_
    refine z_istore_n (pc := 23) (zk14 kX5_quiet_0) rfl rfl ?_
    show Z D B xX5_quiet _ _ _ 24 [some (.ref p), some (.int (nI kx)), some (.int (σ 1 kx)), some (.int (-1)), none] _ _ _
    refine z_bipush (pc := 24) (zk15 kX5_quiet_0) (v := 9) (by decide) ?_
    refine z_istore (pc := 26) (zk0 kX5_quiet_1) rfl rfl ?_
    show Z D B xX5_quiet _ _ _ 28 [some (.ref p), some (.int (nI kx)), some (.int (σ 1 kx)), some (.int (-1)), some (.int 9)] _ _ _
    have lp28 : ∀ (n_ : Nat) (g : zH) (q : Int32) (a : Int32) (d : Nat), d < n_ → (d ≤ 10) → (a = lstD (fun k => decide (knownF (up2 σ 1 kx (nI k)) kx = 0)) d (10 - d)) → (MoAt g p (up2 σ 1 kx q) τ ω ε mv kp tr) → (Upd h g p 29) → Z D B xX5_quiet 0 0 (mQ h p sz kp tr (sp_quiet σ τ ε (nI kx))) 28 [some (.ref p), some (.int (nI kx)), some (.int (σ 1 kx)), some (.int a), some (.int (nI d - 1))] [] g sz := by
      intro n_
      induction n_ with
      | zero => intro g q a d hm_; exact absurd hm_ (Nat.not_lt_zero _)
      | succ n_ ih28 =>
        intro g q a d hm_ hd_ ha_ hM hU
        refine z_iload (pc := 28) (zk1 kX5_quiet_1) rfl ?_
        refine z_if_lt (pc := 30) (zk2 kX5_quiet_1) (tgt := 62) (by decide) (fun c_2 => ?_) (fun c_2 => ?_)
        · have hd0 : d = 0 := dn_0 (by omega) c_2
          refine z_aload_n (pc := 62) (zk2 kX5_quiet_2) rfl ?_
          refine z_getf (pc := 63) (zk3 kX5_quiet_2) flX5_41 hM.1 gMo_10 ?_
          refine z_iload_n (pc := 66) (zk4 kX5_quiet_2) rfl ?_
          refine z_iload_n (pc := 67) (zk5 kX5_quiet_2) rfl ?_
          refine z_Mo_s17 (pc := 68) (zk6 kX5_quiet_2) (j := kx) hM (by omega) (show kx < 12 by omega) (fun h_3 hR hU_4 => ?_)
          replace hU := hU.tr hU_4 (by omega) (by omega)
          replace hM := hR; clear hR
          rw [up2_up2, up2_id] at hM
          refine z_iload_n (pc := 69) (zk7 kX5_quiet_2) rfl ?_
          exact z_iret (pc := 70) (zk8 kX5_quiet_2) rfl (Nat.zero_le _) (Nat.zero_le _) (by
                        rw [show sp_quiet σ τ ε (nI kx) = (a, σ, τ, ε) from by simp [sp_quiet, sBad, okS, okH, okL, okT, okB, sRd, up2_id, up2_id2, oI, c_1, c_2, Int32.not_le.mpr c_2, ix_nI (show kx ≤ 1000 by omega), ha_, hd0, hsN_eq hn h12, lsN_eq hm h8]]
                        exact ⟨_, _, rfl, hM, hU, rfl⟩)
        · obtain ⟨i, rfl⟩ : ∃ i, d = i + 1 := ⟨d - 1, by have := dn_pos c_2; omega⟩
          rw [nI_pred i]
          refine z_aload_n (pc := 33) (zk3 kX5_quiet_1) rfl ?_
          refine z_getf (pc := 34) (zk4 kX5_quiet_1) flX5_41 hM.1 gMo_10 ?_
          refine z_iload_n (pc := 37) (zk5 kX5_quiet_1) rfl ?_
          refine z_iload (pc := 38) (zk6 kX5_quiet_1) rfl ?_
          refine z_Mo_s17 (pc := 40) (zk7 kX5_quiet_1) (j := kx) hM (by omega) (show kx < 12 by omega) (fun h_5 hR hU_6 => ?_)
          replace hU := hU.tr hU_6 (by omega) (by omega)
          replace hM := hR; clear hR
          rw [up2_up2] at hM
          suffices hJ : Z D B xX5_quiet 0 0 (mQ h p sz kp tr (sp_quiet σ τ ε (nI kx))) 55 [some (.ref p), some (.int (nI kx)), some (.int (σ 1 kx)), some (.int a), some (.int (nI i))] [.int (if (decide (knownF (up2 σ 1 kx (nI i)) kx = 0)) = true then nI i else a)] h_5 sz from by
            refine z_aload_n (pc := 41) (zk8 kX5_quiet_1) rfl ?_
            refine z_iload_n (pc := 42) (zk9 kX5_quiet_1) rfl ?_
            refine z_rdV (pc := 43) (zk10 kX5_quiet_1) (st := []) lkX5_254 ivX5_knownAt hM.1 rfl rfl (c_mknownAt hM hn h12 hm h8 (show kx < n by omega) hto) rfl ⟨rfl, rfl⟩ rfl rfl ?_ rfl
            refine z_if_ne (pc := 46) (zk11 kX5_quiet_1) (tgt := 54) (by decide) (fun c_7 => ?_) (fun c_7 => ?_)
            · refine z_iload_n (pc := 54) (zk14 kX5_quiet_1) rfl ?_
              exact z_top (congrArg Value.int (by simp [c_1, c_2, Int32.not_lt.mp c_2, c_7])) hJ
            · refine z_iload (pc := 49) (zk12 kX5_quiet_1) rfl ?_
              refine z_goto (pc := 51) (zk13 kX5_quiet_1) (tgt := 55) (by decide) ?_
              exact z_top (congrArg Value.int (by simp [c_1, c_2, Int32.not_lt.mp c_2, c_7])) hJ
          refine z_istore_n (pc := 55) (zk15 kX5_quiet_1) rfl rfl ?_
          show Z D B xX5_quiet _ _ _ 56 [some (.ref p), some (.int (nI kx)), some (.int (σ 1 kx)), some (.int (if (decide (knownF (up2 σ 1 kx (nI i)) kx = 0)) = true then nI i else a)), some (.int (nI i))] _ _ _
          refine z_iinc (pc := 56) (zk0 kX5_quiet_2) (v := nI i - 1) rfl zdc rfl rfl ?_
          show Z D B xX5_quiet _ _ _ 59 [some (.ref p), some (.int (nI kx)), some (.int (σ 1 kx)), some (.int (if (decide (knownF (up2 σ 1 kx (nI i)) kx = 0)) = true then nI i else a)), some (.int (nI i - 1))] _ _ _
          refine z_goto (pc := 59) (zk1 kX5_quiet_2) (tgt := 28) (by decide) ?_
          exact ih28 h_5 (nI i) (if (decide (knownF (up2 σ 1 kx (nI i)) kx = 0)) = true then nI i else a) i (by omega) (by omega) (by rw [ha_]; exact lstD_s (fun k => decide (knownF (up2 σ 1 kx (nI k)) kx = 0)) hd_) hM hU
    exact lp28 _ h (σ 1 kx) (-1) 10 (Nat.lt_succ_self _) (by omega) (by rw [Nat.sub_self]; rfl) (by rw [up2_id]; exact hM) hU
  · refine z_aload_n (pc := 8) (zk4 kX5_quiet_0) rfl ?_
    refine z_bipush (pc := 9) (zk5 kX5_quiet_0) (v := (-2)) (by decide) ?_
    refine z_efV (pc := 11) (zk6 kX5_quiet_0) (st := []) lkX5_94 ivX5_refuse hM.1 rfl rfl (c_refuse hM (by omega) (j := 2) (by decide) (by decide)) rfl ⟨rfl, rfl⟩ rfl rfl (fun r_ h_9 z_ q_8 => ?_) rfl
    obtain ⟨er_, hR, hU_10, ez_⟩ := q_8
    rw [er_, ez_]
    clear er_ ez_
    replace hU := hU.tr hU_10 (by omega) (by omega)
    replace hM := hR; clear hR
    show Z D B xX5_quiet _ _ _ 14 _ [.int (-2)] _ _
    exact z_iret (pc := 14) (zk7 kX5_quiet_0) rfl (Nat.zero_le _) (Nat.zero_le _) (by
            rw [show sp_quiet σ τ ε x = ((-2), σ, rfN τ 2, ε) from by simp [sp_quiet, sBad, okS, okH, okL, okT, okB, sRd, up2_id, up2_id2, oI, c_1]]
            exact ⟨_, _, rfl, hM, hU, rfl⟩)
set_option maxRecDepth 20000 in
theorem cP_widest {D : zD} {B : Nat} {h : zH} {sz : Nat} {p : Nat} {σ τ ω : Ln} {ε : El} {mv : Nat → Int64} {kp tr : Option Nat} {x : Int32} {y : Int32} {n m : Nat} (hM : MoAt h p σ τ ω ε mv kp tr) (hB : B ≤ p) (hn : σ 0 0 = nI n) (h12 : n ≤ 12) (hm : σ 9 0 = nI m) (h8 : m ≤ 8) (hto : ∀ l, l < m → ToOk σ l) : zM D B xX5_widest [.ref p, .int x, .int y] h sz (mQ h p sz kp tr (sp_widest σ τ ε x y)) := by
  have hU : Upd h h p 29 := Upd.rf
  refine zM.of (by decide) rfl (n := 5) ?_
  show Z D B xX5_widest 0 0 _ 0 [some (.ref p), some (.int x), some (.int y), none, none, none, none, none] [] h sz
  refine z_aload_n (pc := 0) (zk0 kX5_widest_0) rfl ?_
  refine z_iload_n (pc := 1) (zk1 kX5_widest_0) rfl ?_
  refine z_i2l (pc := 2) (zk2 kX5_widest_0) ?_
  refine z_rdV (pc := 3) (zk3 kX5_widest_0) (st := []) lkX5_105 ivX5_isLetter hM.1 rfl rfl (c_isLetter hM) rfl ⟨rfl, rfl⟩ rfl rfl ?_ rfl
  refine z_oif_eq (pc := 6) (zk4 kX5_widest_0) (tgt := 19) (by decide) (fun c_1 => ?_) (fun c_1 => ?_)
  · refine z_aload_n (pc := 19) (zk11 kX5_widest_0) rfl ?_
    refine z_bipush (pc := 20) (zk12 kX5_widest_0) (v := (-2)) (by decide) ?_
    refine z_efV (pc := 22) (zk13 kX5_widest_0) (st := []) lkX5_94 ivX5_refuse hM.1 rfl rfl (c_refuse hM (by omega) (j := 2) (by decide) (by decide)) rfl ⟨rfl, rfl⟩ rfl rfl (fun r_ h_3 z_ q_2 => ?_) rfl
    obtain ⟨er_, hR, hU_4, ez_⟩ := q_2
    rw [er_, ez_]
    clear er_ ez_
    replace hU := hU.tr hU_4 (by omega) (by omega)
    replace hM := hR; clear hR
    show Z D B xX5_widest _ _ _ 25 _ [.int (-2)] _ _
    exact z_iret (pc := 25) (zk14 kX5_widest_0) rfl (Nat.zero_le _) (Nat.zero_le _) (by
            rw [show sp_widest σ τ ε x y = ((-2), σ, rfN τ 2, ε) from by simp [sp_widest, sBad, okS, okH, okL, okT, okB, sRd, up2_id, up2_id2, oI, c_1]]
            exact ⟨_, _, rfl, hM, hU, rfl⟩)
  · refine z_iload_n (pc := 9) (zk5 kX5_widest_0) rfl ?_
    refine z_i2l (pc := 10) (zk6 kX5_widest_0) ?_
    refine z_lconst (pc := 11) (zk7 kX5_widest_0) (v := 0) (by decide) ?_
    refine z_lconst (pc := 12) (zk8 kX5_widest_0) (v := 1) (by decide) ?_
    refine z_rdS (pc := 13) (zk9 kX5_widest_0) (st := []) lkX5_81 isX5_in (c_inI (x := y) (a := 0) (b := 1) (by decide) (by decide)) rfl ⟨rfl, rfl⟩ rfl rfl ?_ rfl
    refine z_oif_ne (pc := 16) (zk10 kX5_widest_0) (tgt := 26) (by decide) (fun c_5 => ?_) (fun c_5 => ?_)
    · obtain ⟨kx, hkx, rfl⟩ := okR_nI (n := m) (by omega) (by rw [← hm]; exact c_1)
      refine z_aload_n (pc := 26) (zk15 kX5_widest_0) rfl ?_
      refine z_getf (pc := 27) (zk0 kX5_widest_1) flX5_59 hM.1 gMo_20 ?_
      refine z_iload_n (pc := 30) (zk1 kX5_widest_1) rfl ?_
      refine z_ialdN (pc := 31) (zk2 kX5_widest_1) (f := σ 12) (j := kx) hM.2.2.2.2.2.2.2.2.2.2.2.2.2.2.2.2.1 (show kx < 8 by omega) rfl ?_
      refine z_istore_n (pc := 32) (zk3 kX5_widest_1) rfl rfl ?_
      show Z D B xX5_widest _ _ _ 33 [some (.ref p), some (.int (nI kx)), some (.int y), some (.int (σ 12 kx)), none, none, none, none] _ _ _
      refine z_iconst (pc := 33) (zk4 kX5_widest_1) (v := 0) (by decide) ?_
      refine z_istore (pc := 34) (zk5 kX5_widest_1) rfl rfl ?_
      show Z D B xX5_widest _ _ _ 36 [some (.ref p), some (.int (nI kx)), some (.int y), some (.int (σ 12 kx)), some (.int 0), none, none, none] _ _ _
      refine z_iconst (pc := 36) (zk6 kX5_widest_1) (v := (-1)) (by decide) ?_
      refine z_istore (pc := 37) (zk7 kX5_widest_1) rfl rfl ?_
      show Z D B xX5_widest _ _ _ 39 [some (.ref p), some (.int (nI kx)), some (.int y), some (.int (σ 12 kx)), some (.int 0), some (.int (-1)), none, none] _ _ _
      refine z_iconst (pc := 39) (zk8 kX5_widest_1) (v := 0) (by decide) ?_
      refine z_istore (pc := 40) (zk9 kX5_widest_1) rfl rfl ?_
      show Z D B xX5_widest _ _ _ 42 [some (.ref p), some (.int (nI kx)), some (.int y), some (.int (σ 12 kx)), some (.int 0), some (.int (-1)), some (.int 0), none] _ _ _
      have lp42 : ∀ (n_ : Nat) (g : zH) (q : Int32) (a : Int32) (b : Int32) (i : Nat), n - i < n_ → (i ≤ n) → (a = (amx (fun k => popI (knowersF (up2 σ 12 kx (nI k)) kx)) (-1) 0 i).2) → (b = (amx (fun k => popI (knowersF (up2 σ 12 kx (nI k)) kx)) (-1) 0 i).1) → (MoAt g p (up2 σ 12 kx q) τ ω ε mv kp tr) → (Upd h g p 29) → Z D B xX5_widest 0 0 (mQ h p sz kp tr (sp_widest σ τ ε (nI kx) y)) 42 [some (.ref p), some (.int (nI kx)), some (.int y), some (.int (σ 12 kx)), some (.int a), some (.int b), some (.int (nI i)), none] [] g sz := by
        intro n_
        induction n_ with
        | zero => intro g q a b i hm_; exact absurd hm_ (Nat.not_lt_zero _)
        | succ n_ ih42 =>
          intro g q a b i hm_ hi_i ha_ hb_ hM hU
          refine z_iload (pc := 42) (zk10 kX5_widest_1) rfl ?_
          refine z_aload_n (pc := 44) (zk11 kX5_widest_1) rfl ?_
          refine z_getf (pc := 45) (zk12 kX5_widest_1) flX5_37 hM.1 (v := .int (nI n)) (by rw [← hn]; rfl) ?_
          refine z_icmp_ge (pc := 48) (zk13 kX5_widest_1) (tgt := 107) (by decide) (fun c_6 => ?_) (fun c_6 => ?_)
          · have hie_i : i = n := nI_ge_yes (a := n) (by omega) (by omega) (by omega) c_6
            refine z_aload_n (pc := 107) (zk8 kX5_widest_3) rfl ?_
            refine z_getf (pc := 108) (zk9 kX5_widest_3) flX5_59 hM.1 gMo_20 ?_
            refine z_iload_n (pc := 111) (zk10 kX5_widest_3) rfl ?_
            refine z_iload_n (pc := 112) (zk11 kX5_widest_3) rfl ?_
            refine z_Mo_s23 (pc := 113) (zk12 kX5_widest_3) (j := kx) hM (by omega) (show kx < 8 by omega) (fun h_7 hR hU_8 => ?_)
            replace hU := hU.tr hU_8 (by omega) (by omega)
            replace hM := hR; clear hR
            rw [up2_up2, up2_id] at hM
            refine z_iload_n (pc := 114) (zk13 kX5_widest_3) rfl ?_
            rcases okR_01 c_5 with rfl | rfl
            · refine z_if_ne (pc := 115) (zk14 kX5_widest_3) (tgt := 123) (by decide) (fun q => absurd (by decide) q) (fun _ => ?_)
              refine z_iload (pc := 118) (zk15 kX5_widest_3) rfl ?_
              refine z_goto (pc := 120) (zk0 kX5_widest_4) (tgt := 125) (by decide) ?_
              exact z_iret (pc := 125) (zk2 kX5_widest_4) rfl (Nat.zero_le _) (Nat.zero_le _) (by
                                rw [show sp_widest σ τ ε (nI kx) 0 = (a, σ, τ, ε) from by simp [sp_widest, sBad, okS, okH, okL, okT, okB, sRd, up2_id, up2_id2, oI, c_1, c_5, c_6, Int32.not_lt.mpr c_6, ix_nI (show kx ≤ 1000 by omega), ha_, hb_, wdF, hie_i, hsN_eq hn h12, lsN_eq hm h8]]
                                exact ⟨_, _, rfl, hM, hU, rfl⟩)
            · refine z_if_ne (pc := 115) (zk14 kX5_widest_3) (tgt := 123) (by decide) (fun _ => ?_) (fun q => absurd q (by decide))
              refine z_iload (pc := 123) (zk1 kX5_widest_4) rfl ?_
              exact z_iret (pc := 125) (zk2 kX5_widest_4) rfl (Nat.zero_le _) (Nat.zero_le _) (by
                                rw [show sp_widest σ τ ε (nI kx) 1 = (b, σ, τ, ε) from by simp [sp_widest, sBad, okS, okH, okL, okT, okB, sRd, up2_id, up2_id2, oI, c_1, c_5, c_6, Int32.not_lt.mpr c_6, ix_nI (show kx ≤ 1000 by omega), ha_, hb_, wdF, hie_i, hsN_eq hn h12, lsN_eq hm h8]]
                                exact ⟨_, _, rfl, hM, hU, rfl⟩)
          · have hlt_i : i < n := nI_ge_not (a := n) (by omega) (by omega) c_6
            refine z_aload_n (pc := 51) (zk14 kX5_widest_1) rfl ?_
            refine z_getf (pc := 52) (zk15 kX5_widest_1) flX5_59 hM.1 gMo_20 ?_
            refine z_iload_n (pc := 55) (zk0 kX5_widest_2) rfl ?_
            refine z_iload (pc := 56) (zk1 kX5_widest_2) rfl ?_
            refine z_Mo_s23 (pc := 58) (zk2 kX5_widest_2) (j := kx) hM (by omega) (show kx < 8 by omega) (fun h_9 hR hU_10 => ?_)
            replace hU := hU.tr hU_10 (by omega) (by omega)
            replace hM := hR; clear hR
            rw [up2_up2] at hM
            refine z_aload_n (pc := 59) (zk3 kX5_widest_2) rfl ?_
            refine z_iload_n (pc := 60) (zk4 kX5_widest_2) rfl ?_
            refine z_rdV (pc := 61) (zk5 kX5_widest_2) (st := []) lkX5_251 ivX5_knowers hM.1 rfl rfl (c_mknowers hM hn h12 (show kx < 8 by omega) ⟨i, by omega, up2_eq _ _ _ _⟩) rfl ⟨rfl, rfl⟩ rfl rfl ?_ rfl
            refine z_rdS (pc := 64) (zk6 kX5_widest_2) (st := []) lkX5_262 isX5_bits (c_mbits (knowersF_eq (up2 σ 12 kx (nI i)) kx (hsN_le (σ := (up2 σ 12 kx (nI i))) hn h12))) rfl ⟨rfl, rfl⟩ rfl rfl ?_ rfl
            refine z_istore (pc := 67) (zk7 kX5_widest_2) rfl rfl ?_
            show Z D B xX5_widest _ _ _ 69 [some (.ref p), some (.int (nI kx)), some (.int y), some (.int (σ 12 kx)), some (.int a), some (.int b), some (.int (nI i)), some (.int (popI (knowersF (up2 σ 12 kx (nI i)) kx)))] _ _ _
            suffices hJ : Z D B xX5_widest 0 0 (mQ h p sz kp tr (sp_widest σ τ ε (nI kx) y)) 83 [some (.ref p), some (.int (nI kx)), some (.int y), some (.int (σ 12 kx)), some (.int a), some (.int b), some (.int (nI i)), some (.int (popI (knowersF (up2 σ 12 kx (nI i)) kx)))] [.int (if b < popI (knowersF (up2 σ 12 kx (nI i)) kx) then nI i else a)] h_9 sz from by
              refine z_iload (pc := 69) (zk8 kX5_widest_2) rfl ?_
              refine z_iload (pc := 71) (zk9 kX5_widest_2) rfl ?_
              refine z_icmp_le (pc := 73) (zk10 kX5_widest_2) (tgt := 81) (by decide) (fun c_11 => ?_) (fun c_11 => ?_)
              · refine z_iload (pc := 81) (zk13 kX5_widest_2) rfl ?_
                exact z_top (congrArg Value.int (by simp [c_1, c_5, c_6, Int32.not_le.mp c_6, c_11, Int32.not_lt.mpr c_11])) hJ
              · refine z_iload (pc := 76) (zk11 kX5_widest_2) rfl ?_
                refine z_goto (pc := 78) (zk12 kX5_widest_2) (tgt := 83) (by decide) ?_
                exact z_top (congrArg Value.int (by simp [c_1, c_5, c_6, Int32.not_le.mp c_6, c_11, Int32.not_le.mp c_11])) hJ
            refine z_istore (pc := 83) (zk14 kX5_widest_2) rfl rfl ?_
            show Z D B xX5_widest _ _ _ 85 [some (.ref p), some (.int (nI kx)), some (.int y), some (.int (σ 12 kx)), some (.int (if b < popI (knowersF (up2 σ 12 kx (nI i)) kx) then nI i else a)), some (.int b), some (.int (nI i)), some (.int (popI (knowersF (up2 σ 12 kx (nI i)) kx)))] _ _ _
            suffices hJ : Z D B xX5_widest 0 0 (mQ h p sz kp tr (sp_widest σ τ ε (nI kx) y)) 99 [some (.ref p), some (.int (nI kx)), some (.int y), some (.int (σ 12 kx)), some (.int (if b < popI (knowersF (up2 σ 12 kx (nI i)) kx) then nI i else a)), some (.int b), some (.int (nI i)), some (.int (popI (knowersF (up2 σ 12 kx (nI i)) kx)))] [.int (if b < popI (knowersF (up2 σ 12 kx (nI i)) kx) then popI (knowersF (up2 σ 12 kx (nI i)) kx) else b)] h_9 sz from by
              refine z_iload (pc := 85) (zk15 kX5_widest_2) rfl ?_
              refine z_iload (pc := 87) (zk0 kX5_widest_3) rfl ?_
              refine z_icmp_le (pc := 89) (zk1 kX5_widest_3) (tgt := 97) (by decide) (fun c_12 => ?_) (fun c_12 => ?_)
              · refine z_iload (pc := 97) (zk4 kX5_widest_3) rfl ?_
                exact z_top (congrArg Value.int (by simp [c_1, c_5, c_6, Int32.not_le.mp c_6, c_12, Int32.not_lt.mpr c_12])) hJ
              · refine z_iload (pc := 92) (zk2 kX5_widest_3) rfl ?_
                refine z_goto (pc := 94) (zk3 kX5_widest_3) (tgt := 99) (by decide) ?_
                exact z_top (congrArg Value.int (by simp [c_1, c_5, c_6, Int32.not_le.mp c_6, c_12, Int32.not_le.mp c_12])) hJ
            refine z_istore (pc := 99) (zk5 kX5_widest_3) rfl rfl ?_
            show Z D B xX5_widest _ _ _ 101 [some (.ref p), some (.int (nI kx)), some (.int y), some (.int (σ 12 kx)), some (.int (if b < popI (knowersF (up2 σ 12 kx (nI i)) kx) then nI i else a)), some (.int (if b < popI (knowersF (up2 σ 12 kx (nI i)) kx) then popI (knowersF (up2 σ 12 kx (nI i)) kx) else b)), some (.int (nI i)), some (.int (popI (knowersF (up2 σ 12 kx (nI i)) kx)))] _ _ _
            refine z_iinc (pc := 101) (zk6 kX5_widest_3) (v := nI (i + 1)) rfl zinc rfl rfl ?_
            show Z D B xX5_widest _ _ _ 104 [some (.ref p), some (.int (nI kx)), some (.int y), some (.int (σ 12 kx)), some (.int (if b < popI (knowersF (up2 σ 12 kx (nI i)) kx) then nI i else a)), some (.int (if b < popI (knowersF (up2 σ 12 kx (nI i)) kx) then popI (knowersF (up2 σ 12 kx (nI i)) kx) else b)), some (.int (nI (i + 1))), some (.int (popI (knowersF (up2 σ 12 kx (nI i)) kx)))] _ _ _
            refine z_goto (pc := 104) (zk7 kX5_widest_3) (tgt := 42) (by decide) ?_
            refine z_kill 7 ?_
            show Z D B xX5_widest _ _ _ 42 [some (.ref p), some (.int (nI kx)), some (.int y), some (.int (σ 12 kx)), some (.int (if b < popI (knowersF (up2 σ 12 kx (nI i)) kx) then nI i else a)), some (.int (if b < popI (knowersF (up2 σ 12 kx (nI i)) kx) then popI (knowersF (up2 σ 12 kx (nI i)) kx) else b)), some (.int (nI (i + 1))), none] _ _ _
            exact ih42 h_9 (nI i) (if b < popI (knowersF (up2 σ 12 kx (nI i)) kx) then nI i else a) (if b < popI (knowersF (up2 σ 12 kx (nI i)) kx) then popI (knowersF (up2 σ 12 kx (nI i)) kx) else b) (i + 1) (by omega) (by omega) (by rw [ha_, hb_]; exact amx_s2 (fun k => popI (knowersF (up2 σ 12 kx (nI k)) kx)) _ _ _) (by rw [hb_]; exact amx_s1 (fun k => popI (knowersF (up2 σ 12 kx (nI k)) kx)) _ _ _) hM hU
      exact lp42 _ h (σ 12 kx) 0 (-1) 0 (Nat.lt_succ_self _) (by omega) rfl rfl (by rw [up2_id]; exact hM) hU
    · refine z_aload_n (pc := 19) (zk11 kX5_widest_0) rfl ?_
      refine z_bipush (pc := 20) (zk12 kX5_widest_0) (v := (-2)) (by decide) ?_
      refine z_efV (pc := 22) (zk13 kX5_widest_0) (st := []) lkX5_94 ivX5_refuse hM.1 rfl rfl (c_refuse hM (by omega) (j := 2) (by decide) (by decide)) rfl ⟨rfl, rfl⟩ rfl rfl (fun r_ h_14 z_ q_13 => ?_) rfl
      obtain ⟨er_, hR, hU_15, ez_⟩ := q_13
      rw [er_, ez_]
      clear er_ ez_
      replace hU := hU.tr hU_15 (by omega) (by omega)
      replace hM := hR; clear hR
      show Z D B xX5_widest _ _ _ 25 _ [.int (-2)] _ _
      exact z_iret (pc := 25) (zk14 kX5_widest_0) rfl (Nat.zero_le _) (Nat.zero_le _) (by
                rw [show sp_widest σ τ ε x y = ((-2), σ, rfN τ 2, ε) from by simp [sp_widest, sBad, okS, okH, okL, okT, okB, sRd, up2_id, up2_id2, oI, c_1, c_5]]
                exact ⟨_, _, rfl, hM, hU, rfl⟩)
set_option maxRecDepth 20000 in
theorem cP_merry {D : zD} {B : Nat} {h : zH} {sz : Nat} {p : Nat} {σ τ ω : Ln} {ε : El} {mv : Nat → Int64} {kp tr : Option Nat} {x : Int32} {n m : Nat} (hM : MoAt h p σ τ ω ε mv kp tr) (hB : B ≤ p) (hn : σ 0 0 = nI n) (h12 : n ≤ 12) (hm : σ 9 0 = nI m) (h8 : m ≤ 8) (hto : ∀ l, l < m → ToOk σ l) : zM D B xX5_merry [.ref p, .int x] h sz (mQ h p sz kp tr (sp_merry σ τ ε x)) := by
  have hU : Upd h h p 29 := Upd.rf
  refine zM.of (by decide) rfl (n := 5) ?_
  show Z D B xX5_merry 0 0 _ 0 [some (.ref p), some (.int x), none, none, none, none, none] [] h sz
  refine z_aload_n (pc := 0) (zk0 kX5_merry_0) rfl ?_
  refine z_iload_n (pc := 1) (zk1 kX5_merry_0) rfl ?_
  refine z_i2l (pc := 2) (zk2 kX5_merry_0) ?_
  refine z_rdV (pc := 3) (zk3 kX5_merry_0) (st := []) lkX5_105 ivX5_isLetter hM.1 rfl rfl (c_isLetter hM) rfl ⟨rfl, rfl⟩ rfl rfl ?_ rfl
  refine z_oif_ne (pc := 6) (zk4 kX5_merry_0) (tgt := 16) (by decide) (fun c_1 => ?_) (fun c_1 => ?_)
  · obtain ⟨kx, hkx, rfl⟩ := okR_nI (n := m) (by omega) (by rw [← hm]; exact c_1)
    refine z_iconst (pc := 16) (zk9 kX5_merry_0) (v := 0) (by decide) ?_
    refine z_istore_n (pc := 17) (zk10 kX5_merry_0) rfl rfl ?_
    show Z D B xX5_merry _ _ _ 18 [some (.ref p), some (.int (nI kx)), some (.int 0), none, none, none, none] _ _ _
    refine z_iconst (pc := 18) (zk11 kX5_merry_0) (v := (-1)) (by decide) ?_
    refine z_istore_n (pc := 19) (zk12 kX5_merry_0) rfl rfl ?_
    show Z D B xX5_merry _ _ _ 20 [some (.ref p), some (.int (nI kx)), some (.int 0), some (.int (-1)), none, none, none] _ _ _
    refine z_iconst (pc := 20) (zk13 kX5_merry_0) (v := 0) (by decide) ?_
    refine z_istore (pc := 21) (zk14 kX5_merry_0) rfl rfl ?_
    show Z D B xX5_merry _ _ _ 23 [some (.ref p), some (.int (nI kx)), some (.int 0), some (.int (-1)), some (.int 0), none, none] _ _ _
    have lp23 : ∀ (n_ : Nat) (g : zH) (a : Int32) (b : Int32) (i : Nat), n - i < n_ → (i ≤ n) → (a = (amx (fun k => popI (knowersF (up2 σ 2 k 0) kx)) (-1) 0 i).2) → (b = (amx (fun k => popI (knowersF (up2 σ 2 k 0) kx)) (-1) 0 i).1) → (MoAt g p σ τ ω ε mv kp tr) → (Upd h g p 29) → Z D B xX5_merry 0 0 (mQ h p sz kp tr (sp_merry σ τ ε (nI kx))) 23 [some (.ref p), some (.int (nI kx)), some (.int a), some (.int b), some (.int (nI i)), none, none] [] g sz := by
      intro n_
      induction n_ with
      | zero => intro g a b i hm_; exact absurd hm_ (Nat.not_lt_zero _)
      | succ n_ ih23 =>
        intro g a b i hm_ hi_i ha_ hb_ hM hU
        refine z_iload (pc := 23) (zk15 kX5_merry_0) rfl ?_
        refine z_aload_n (pc := 25) (zk0 kX5_merry_1) rfl ?_
        refine z_getf (pc := 26) (zk1 kX5_merry_1) flX5_37 hM.1 (v := .int (nI n)) (by rw [← hn]; rfl) ?_
        refine z_icmp_ge (pc := 29) (zk2 kX5_merry_1) (tgt := 100) (by decide) (fun c_2 => ?_) (fun c_2 => ?_)
        · have hie_i : i = n := nI_ge_yes (a := n) (by omega) (by omega) (by omega) c_2
          refine z_iload_n (pc := 100) (zk7 kX5_merry_3) rfl ?_
          exact z_iret (pc := 101) (zk8 kX5_merry_3) rfl (Nat.zero_le _) (Nat.zero_le _) (by
                        rw [show sp_merry σ τ ε (nI kx) = (a, σ, τ, ε) from by simp [sp_merry, sBad, okS, okH, okL, okT, okB, sRd, up2_id, up2_id2, oI, c_1, c_2, Int32.not_lt.mpr c_2, ix_nI (show kx ≤ 1000 by omega), ha_, hie_i, hsN_eq hn h12, lsN_eq hm h8]]
                        exact ⟨_, _, rfl, hM, hU, rfl⟩)
        · have hlt_i : i < n := nI_ge_not (a := n) (by omega) (by omega) c_2
          refine z_aload_n (pc := 32) (zk3 kX5_merry_1) rfl ?_
          refine z_getf (pc := 33) (zk4 kX5_merry_1) flX5_44 hM.1 gMo_11 ?_
          refine z_iload (pc := 36) (zk5 kX5_merry_1) rfl ?_
          refine z_ialdN (pc := 38) (zk6 kX5_merry_1) (f := σ 2) (j := i) hM.2.2.2.2.2.2.2.2.2.2.2.1 (show i < 12 by omega) rfl ?_
          refine z_istore (pc := 39) (zk7 kX5_merry_1) rfl rfl ?_
          show Z D B xX5_merry _ _ _ 41 [some (.ref p), some (.int (nI kx)), some (.int a), some (.int b), some (.int (nI i)), some (.int (σ 2 i)), none] _ _ _
          refine z_aload_n (pc := 41) (zk8 kX5_merry_1) rfl ?_
          refine z_getf (pc := 42) (zk9 kX5_merry_1) flX5_44 hM.1 gMo_11 ?_
          refine z_iload (pc := 45) (zk10 kX5_merry_1) rfl ?_
          refine z_iconst (pc := 47) (zk11 kX5_merry_1) (v := 0) (by decide) ?_
          refine z_Mo_s18 (pc := 48) (zk12 kX5_merry_1) (j := i) hM (by omega) (show i < 12 by omega) (fun h_3 hR hU_4 => ?_)
          replace hU := hU.tr hU_4 (by omega) (by omega)
          replace hM := hR; clear hR
          refine z_aload_n (pc := 49) (zk13 kX5_merry_1) rfl ?_
          refine z_iload_n (pc := 50) (zk14 kX5_merry_1) rfl ?_
          refine z_rdV (pc := 51) (zk15 kX5_merry_1) (st := []) lkX5_251 ivX5_knowers hM.1 rfl rfl (c_mknowers hM hn h12 (show kx < 8 by omega) (hto _ (by omega))) rfl ⟨rfl, rfl⟩ rfl rfl ?_ rfl
          refine z_rdS (pc := 54) (zk0 kX5_merry_2) (st := []) lkX5_262 isX5_bits (c_mbits (knowersF_eq (up2 σ 2 i 0) kx (hsN_le (σ := (up2 σ 2 i 0)) hn h12))) rfl ⟨rfl, rfl⟩ rfl rfl ?_ rfl
          refine z_istore (pc := 57) (zk1 kX5_merry_2) rfl rfl ?_
          show Z D B xX5_merry _ _ _ 59 [some (.ref p), some (.int (nI kx)), some (.int a), some (.int b), some (.int (nI i)), some (.int (σ 2 i)), some (.int (popI (knowersF (up2 σ 2 i 0) kx)))] _ _ _
          refine z_aload_n (pc := 59) (zk2 kX5_merry_2) rfl ?_
          refine z_getf (pc := 60) (zk3 kX5_merry_2) flX5_44 hM.1 gMo_11 ?_
          refine z_iload (pc := 63) (zk4 kX5_merry_2) rfl ?_
          refine z_iload (pc := 65) (zk5 kX5_merry_2) rfl ?_
          refine z_Mo_s18 (pc := 67) (zk6 kX5_merry_2) (j := i) hM (by omega) (show i < 12 by omega) (fun h_5 hR hU_6 => ?_)
          replace hU := hU.tr hU_6 (by omega) (by omega)
          replace hM := hR; clear hR
          rw [up2_up2, up2_id] at hM
          suffices hJ : Z D B xX5_merry 0 0 (mQ h p sz kp tr (sp_merry σ τ ε (nI kx))) 80 [some (.ref p), some (.int (nI kx)), some (.int a), some (.int b), some (.int (nI i)), some (.int (σ 2 i)), some (.int (popI (knowersF (up2 σ 2 i 0) kx)))] [.int (if b < popI (knowersF (up2 σ 2 i 0) kx) then nI i else a)] h_5 sz from by
            refine z_iload (pc := 68) (zk7 kX5_merry_2) rfl ?_
            refine z_iload_n (pc := 70) (zk8 kX5_merry_2) rfl ?_
            refine z_icmp_le (pc := 71) (zk9 kX5_merry_2) (tgt := 79) (by decide) (fun c_7 => ?_) (fun c_7 => ?_)
            · refine z_iload_n (pc := 79) (zk12 kX5_merry_2) rfl ?_
              exact z_top (congrArg Value.int (by simp [c_1, c_2, Int32.not_le.mp c_2, c_7, Int32.not_lt.mpr c_7])) hJ
            · refine z_iload (pc := 74) (zk10 kX5_merry_2) rfl ?_
              refine z_goto (pc := 76) (zk11 kX5_merry_2) (tgt := 80) (by decide) ?_
              exact z_top (congrArg Value.int (by simp [c_1, c_2, Int32.not_le.mp c_2, c_7, Int32.not_le.mp c_7])) hJ
          refine z_istore_n (pc := 80) (zk13 kX5_merry_2) rfl rfl ?_
          show Z D B xX5_merry _ _ _ 81 [some (.ref p), some (.int (nI kx)), some (.int (if b < popI (knowersF (up2 σ 2 i 0) kx) then nI i else a)), some (.int b), some (.int (nI i)), some (.int (σ 2 i)), some (.int (popI (knowersF (up2 σ 2 i 0) kx)))] _ _ _
          suffices hJ : Z D B xX5_merry 0 0 (mQ h p sz kp tr (sp_merry σ τ ε (nI kx))) 93 [some (.ref p), some (.int (nI kx)), some (.int (if b < popI (knowersF (up2 σ 2 i 0) kx) then nI i else a)), some (.int b), some (.int (nI i)), some (.int (σ 2 i)), some (.int (popI (knowersF (up2 σ 2 i 0) kx)))] [.int (if b < popI (knowersF (up2 σ 2 i 0) kx) then popI (knowersF (up2 σ 2 i 0) kx) else b)] h_5 sz from by
            refine z_iload (pc := 81) (zk14 kX5_merry_2) rfl ?_
            refine z_iload_n (pc := 83) (zk15 kX5_merry_2) rfl ?_
            refine z_icmp_le (pc := 84) (zk0 kX5_merry_3) (tgt := 92) (by decide) (fun c_8 => ?_) (fun c_8 => ?_)
            · refine z_iload_n (pc := 92) (zk3 kX5_merry_3) rfl ?_
              exact z_top (congrArg Value.int (by simp [c_1, c_2, Int32.not_le.mp c_2, c_8, Int32.not_lt.mpr c_8])) hJ
            · refine z_iload (pc := 87) (zk1 kX5_merry_3) rfl ?_
              refine z_goto (pc := 89) (zk2 kX5_merry_3) (tgt := 93) (by decide) ?_
              exact z_top (congrArg Value.int (by simp [c_1, c_2, Int32.not_le.mp c_2, c_8, Int32.not_le.mp c_8])) hJ
          refine z_istore_n (pc := 93) (zk4 kX5_merry_3) rfl rfl ?_
          show Z D B xX5_merry _ _ _ 94 [some (.ref p), some (.int (nI kx)), some (.int (if b < popI (knowersF (up2 σ 2 i 0) kx) then nI i else a)), some (.int (if b < popI (knowersF (up2 σ 2 i 0) kx) then popI (knowersF (up2 σ 2 i 0) kx) else b)), some (.int (nI i)), some (.int (σ 2 i)), some (.int (popI (knowersF (up2 σ 2 i 0) kx)))] _ _ _
          refine z_iinc (pc := 94) (zk5 kX5_merry_3) (v := nI (i + 1)) rfl zinc rfl rfl ?_
          show Z D B xX5_merry _ _ _ 97 [some (.ref p), some (.int (nI kx)), some (.int (if b < popI (knowersF (up2 σ 2 i 0) kx) then nI i else a)), some (.int (if b < popI (knowersF (up2 σ 2 i 0) kx) then popI (knowersF (up2 σ 2 i 0) kx) else b)), some (.int (nI (i + 1))), some (.int (σ 2 i)), some (.int (popI (knowersF (up2 σ 2 i 0) kx)))] _ _ _
          refine z_goto (pc := 97) (zk6 kX5_merry_3) (tgt := 23) (by decide) ?_
          refine z_kill 5 ?_
          show Z D B xX5_merry _ _ _ 23 [some (.ref p), some (.int (nI kx)), some (.int (if b < popI (knowersF (up2 σ 2 i 0) kx) then nI i else a)), some (.int (if b < popI (knowersF (up2 σ 2 i 0) kx) then popI (knowersF (up2 σ 2 i 0) kx) else b)), some (.int (nI (i + 1))), none, some (.int (popI (knowersF (up2 σ 2 i 0) kx)))] _ _ _
          refine z_kill 6 ?_
          show Z D B xX5_merry _ _ _ 23 [some (.ref p), some (.int (nI kx)), some (.int (if b < popI (knowersF (up2 σ 2 i 0) kx) then nI i else a)), some (.int (if b < popI (knowersF (up2 σ 2 i 0) kx) then popI (knowersF (up2 σ 2 i 0) kx) else b)), some (.int (nI (i + 1))), none, none] _ _ _
          exact ih23 h_5 (if b < popI (knowersF (up2 σ 2 i 0) kx) then nI i else a) (if b < popI (knowersF (up2 σ 2 i 0) kx) then popI (knowersF (up2 σ 2 i 0) kx) else b) (i + 1) (by omega) (by omega) (by rw [ha_, hb_]; exact amx_s2 (fun k => popI (knowersF (up2 σ 2 k 0) kx)) _ _ _) (by rw [hb_]; exact amx_s1 (fun k => popI (knowersF (up2 σ 2 k 0) kx)) _ _ _) hM hU
    exact lp23 _ h 0 (-1) 0 (Nat.lt_succ_self _) (by omega) rfl rfl hM hU
  · refine z_aload_n (pc := 9) (zk5 kX5_merry_0) rfl ?_
    refine z_bipush (pc := 10) (zk6 kX5_merry_0) (v := (-2)) (by decide) ?_
    refine z_efV (pc := 12) (zk7 kX5_merry_0) (st := []) lkX5_94 ivX5_refuse hM.1 rfl rfl (c_refuse hM (by omega) (j := 2) (by decide) (by decide)) rfl ⟨rfl, rfl⟩ rfl rfl (fun r_ h_10 z_ q_9 => ?_) rfl
    obtain ⟨er_, hR, hU_11, ez_⟩ := q_9
    rw [er_, ez_]
    clear er_ ez_
    replace hU := hU.tr hU_11 (by omega) (by omega)
    replace hM := hR; clear hR
    show Z D B xX5_merry _ _ _ 15 _ [.int (-2)] _ _
    exact z_iret (pc := 15) (zk8 kX5_merry_0) rfl (Nat.zero_le _) (Nat.zero_le _) (by
            rw [show sp_merry σ τ ε x = ((-2), σ, rfN τ 2, ε) from by simp [sp_merry, sBad, okS, okH, okL, okT, okB, sRd, up2_id, up2_id2, oI, c_1]]
            exact ⟨_, _, rfl, hM, hU, rfl⟩)
set_option maxRecDepth 20000 in
theorem cP_turned {D : zD} {B : Nat} {h : zH} {sz : Nat} {p : Nat} {σ τ ω : Ln} {ε : El} {mv : Nat → Int64} {kp tr : Option Nat} {x : Int32} {n m : Nat} (hM : MoAt h p σ τ ω ε mv kp tr) (hB : B ≤ p) (hn : σ 0 0 = nI n) (h12 : n ≤ 12) (hm : σ 9 0 = nI m) (h8 : m ≤ 8) (hto : ∀ l, l < m → ToOk σ l) (hbk : σ 6 0 = 0 ∨ σ 6 0 = 1) : zM D B xX5_turned [.ref p, .int x] h sz (mQ h p sz kp tr (sp_turned σ τ ε x)) := by
  have hU : Upd h h p 29 := Upd.rf
  refine zM.of (by decide) rfl (n := 1) ?_
  show Z D B xX5_turned 0 0 _ 0 [some (.ref p), some (.int x), none] [] h sz
  refine z_aload_n (pc := 0) (zk0 kX5_turned_0) rfl ?_
  refine z_iload_n (pc := 1) (zk1 kX5_turned_0) rfl ?_
  refine z_i2l (pc := 2) (zk2 kX5_turned_0) ?_
  refine z_rdV (pc := 3) (zk3 kX5_turned_0) (st := []) lkX5_105 ivX5_isLetter hM.1 rfl rfl (c_isLetter hM) rfl ⟨rfl, rfl⟩ rfl rfl ?_ rfl
  refine z_oif_ne (pc := 6) (zk4 kX5_turned_0) (tgt := 16) (by decide) (fun c_1 => ?_) (fun c_1 => ?_)
  · obtain ⟨kx, hkx, rfl⟩ := okR_nI (n := m) (by omega) (by rw [← hm]; exact c_1)
    refine z_aload_n (pc := 16) (zk9 kX5_turned_0) rfl ?_
    refine z_aload_n (pc := 17) (zk10 kX5_turned_0) rfl ?_
    refine z_getf (pc := 18) (zk11 kX5_turned_0) flX5_138 hM.1 (v := .int (σ 6 0)) rfl ?_
    refine z_if_ne (pc := 21) (zk12 kX5_turned_0) (tgt := 28) (by decide) (fun c_2 => ?_) (fun c_2 => ?_)
    · refine z_iconst (pc := 28) (zk15 kX5_turned_0) (v := 0) (by decide) ?_
      refine z_Mo_w15 (pc := 29) (zk0 kX5_turned_1) flX5_138 hM (by omega) (by decide) (fun h_3 hR hU_4 => ?_)
      replace hU := hU.tr hU_4 (by omega) (by omega)
      replace hM := hR; clear hR
      refine z_aload_n (pc := 32) (zk1 kX5_turned_1) rfl ?_
      refine z_iload_n (pc := 33) (zk2 kX5_turned_1) rfl ?_
      refine z_rdV (pc := 34) (zk3 kX5_turned_1) (st := []) lkX5_251 ivX5_knowers hM.1 rfl rfl (c_mknowers hM hn h12 (show kx < 8 by omega) (hto _ (by omega))) rfl ⟨rfl, rfl⟩ rfl rfl ?_ rfl
      refine z_rdS (pc := 37) (zk4 kX5_turned_1) (st := []) lkX5_262 isX5_bits (c_mbits (knowersF_eq (up2 σ 6 0 0) kx (hsN_le (σ := (up2 σ 6 0 0)) hn h12))) rfl ⟨rfl, rfl⟩ rfl rfl ?_ rfl
      refine z_istore_n (pc := 40) (zk5 kX5_turned_1) rfl rfl ?_
      show Z D B xX5_turned _ _ _ 41 [some (.ref p), some (.int (nI kx)), some (.int (popI (knowersF (up2 σ 6 0 0) kx)))] _ _ _
      refine z_aload_n (pc := 41) (zk6 kX5_turned_1) rfl ?_
      refine z_aload_n (pc := 42) (zk7 kX5_turned_1) rfl ?_
      refine z_getf (pc := 43) (zk8 kX5_turned_1) flX5_138 hM.1 (v := .int 0) rfl ?_
      refine z_if_ne (pc := 46) (zk9 kX5_turned_1) (tgt := 53) (by decide) (fun q => absurd (by decide) q) (fun _ => ?_)
      refine z_iconst (pc := 49) (zk10 kX5_turned_1) (v := 1) (by decide) ?_
      refine z_goto (pc := 50) (zk11 kX5_turned_1) (tgt := 54) (by decide) ?_
      refine z_Mo_w15 (pc := 54) (zk13 kX5_turned_1) flX5_138 hM (by omega) (by decide) (fun h_5 hR hU_6 => ?_)
      replace hU := hU.tr hU_6 (by omega) (by omega)
      replace hM := hR; clear hR
      rw [up2_up2, up2_self (show σ 6 0 = _ from hbk.resolve_left c_2)] at hM
      refine z_iload_n (pc := 57) (zk14 kX5_turned_1) rfl ?_
      exact z_iret (pc := 58) (zk15 kX5_turned_1) rfl (Nat.zero_le _) (Nat.zero_le _) (by
                rw [show sp_turned σ τ ε (nI kx) = (popI (knowersF (up2 σ 6 0 0) kx), σ, τ, ε) from by simp [sp_turned, sBad, okS, okH, okL, okT, okB, sRd, up2_id, up2_id2, oI, sOther, sNone, sFull, c_1, c_2, ix_nI (show kx ≤ 1000 by omega)]]
                exact ⟨_, _, rfl, hM, hU, rfl⟩)
    · refine z_iconst (pc := 24) (zk13 kX5_turned_0) (v := 1) (by decide) ?_
      refine z_goto (pc := 25) (zk14 kX5_turned_0) (tgt := 29) (by decide) ?_
      refine z_Mo_w15 (pc := 29) (zk0 kX5_turned_1) flX5_138 hM (by omega) (by decide) (fun h_7 hR hU_8 => ?_)
      replace hU := hU.tr hU_8 (by omega) (by omega)
      replace hM := hR; clear hR
      refine z_aload_n (pc := 32) (zk1 kX5_turned_1) rfl ?_
      refine z_iload_n (pc := 33) (zk2 kX5_turned_1) rfl ?_
      refine z_rdV (pc := 34) (zk3 kX5_turned_1) (st := []) lkX5_251 ivX5_knowers hM.1 rfl rfl (c_mknowers hM hn h12 (show kx < 8 by omega) (hto _ (by omega))) rfl ⟨rfl, rfl⟩ rfl rfl ?_ rfl
      refine z_rdS (pc := 37) (zk4 kX5_turned_1) (st := []) lkX5_262 isX5_bits (c_mbits (knowersF_eq (up2 σ 6 0 1) kx (hsN_le (σ := (up2 σ 6 0 1)) hn h12))) rfl ⟨rfl, rfl⟩ rfl rfl ?_ rfl
      refine z_istore_n (pc := 40) (zk5 kX5_turned_1) rfl rfl ?_
      show Z D B xX5_turned _ _ _ 41 [some (.ref p), some (.int (nI kx)), some (.int (popI (knowersF (up2 σ 6 0 1) kx)))] _ _ _
      refine z_aload_n (pc := 41) (zk6 kX5_turned_1) rfl ?_
      refine z_aload_n (pc := 42) (zk7 kX5_turned_1) rfl ?_
      refine z_getf (pc := 43) (zk8 kX5_turned_1) flX5_138 hM.1 (v := .int 1) rfl ?_
      refine z_if_ne (pc := 46) (zk9 kX5_turned_1) (tgt := 53) (by decide) (fun _ => ?_) (fun q => absurd q (by decide))
      refine z_iconst (pc := 53) (zk12 kX5_turned_1) (v := 0) (by decide) ?_
      refine z_Mo_w15 (pc := 54) (zk13 kX5_turned_1) flX5_138 hM (by omega) (by decide) (fun h_9 hR hU_10 => ?_)
      replace hU := hU.tr hU_10 (by omega) (by omega)
      replace hM := hR; clear hR
      rw [up2_up2, up2_self (show σ 6 0 = _ from c_2)] at hM
      refine z_iload_n (pc := 57) (zk14 kX5_turned_1) rfl ?_
      exact z_iret (pc := 58) (zk15 kX5_turned_1) rfl (Nat.zero_le _) (Nat.zero_le _) (by
                rw [show sp_turned σ τ ε (nI kx) = (popI (knowersF (up2 σ 6 0 1) kx), σ, τ, ε) from by simp [sp_turned, sBad, okS, okH, okL, okT, okB, sRd, up2_id, up2_id2, oI, sOther, sNone, sFull, c_1, c_2, ix_nI (show kx ≤ 1000 by omega)]]
                exact ⟨_, _, rfl, hM, hU, rfl⟩)
  · refine z_aload_n (pc := 9) (zk5 kX5_turned_0) rfl ?_
    refine z_bipush (pc := 10) (zk6 kX5_turned_0) (v := (-2)) (by decide) ?_
    refine z_efV (pc := 12) (zk7 kX5_turned_0) (st := []) lkX5_94 ivX5_refuse hM.1 rfl rfl (c_refuse hM (by omega) (j := 2) (by decide) (by decide)) rfl ⟨rfl, rfl⟩ rfl rfl (fun r_ h_12 z_ q_11 => ?_) rfl
    obtain ⟨er_, hR, hU_13, ez_⟩ := q_11
    rw [er_, ez_]
    clear er_ ez_
    replace hU := hU.tr hU_13 (by omega) (by omega)
    replace hM := hR; clear hR
    show Z D B xX5_turned _ _ _ 15 _ [.int (-2)] _ _
    exact z_iret (pc := 15) (zk8 kX5_turned_0) rfl (Nat.zero_le _) (Nat.zero_le _) (by
            rw [show sp_turned σ τ ε x = ((-2), σ, rfN τ 2, ε) from by simp [sp_turned, sBad, okS, okH, okL, okT, okB, sRd, up2_id, up2_id2, oI, sOther, sNone, sFull, c_1]]
            exact ⟨_, _, rfl, hM, hU, rfl⟩)
set_option maxRecDepth 20000 in
theorem cP_thirst {D : zD} {B : Nat} {h : zH} {sz : Nat} {p : Nat} {σ τ ω : Ln} {ε : El} {mv : Nat → Int64} {kp tr : Option Nat} {x : Int32} {n m : Nat} (hM : MoAt h p σ τ ω ε mv kp tr) (hB : B ≤ p) (hn : σ 0 0 = nI n) (h12 : n ≤ 12) (hm : σ 9 0 = nI m) (h8 : m ≤ 8) (hto : ∀ l, l < m → ToOk σ l) : zM D B xX5_thirst [.ref p, .int x] h sz (mQ h p sz kp tr (sp_thirst σ τ ε x)) := by
  have hU : Upd h h p 29 := Upd.rf
  refine zM.of (by decide) rfl (n := 3) ?_
  show Z D B xX5_thirst 0 0 _ 0 [some (.ref p), some (.int x), none, none, none] [] h sz
  refine z_aload_n (pc := 0) (zk0 kX5_thirst_0) rfl ?_
  refine z_iload_n (pc := 1) (zk1 kX5_thirst_0) rfl ?_
  refine z_rdV (pc := 2) (zk2 kX5_thirst_0) (st := []) lkX5_123 ivX5_isHouse hM.1 rfl rfl (c_isHouse hM) rfl ⟨rfl, rfl⟩ rfl rfl ?_ rfl
  refine z_oif_ne (pc := 5) (zk3 kX5_thirst_0) (tgt := 15) (by decide) (fun c_1 => ?_) (fun c_1 => ?_)
  · refine z_aload_n (pc := 15) (zk8 kX5_thirst_0) rfl ?_
    refine z_getf (pc := 16) (zk9 kX5_thirst_0) flX5_44 hM.1 gMo_11 ?_
    refine z_iload_n (pc := 19) (zk10 kX5_thirst_0) rfl ?_
    obtain ⟨kx, hkx, rfl⟩ := okR_nI (n := n) (by omega) (by rw [← hn]; exact c_1)
    refine z_ialdN (pc := 20) (zk11 kX5_thirst_0) (f := σ 2) (j := kx) hM.2.2.2.2.2.2.2.2.2.2.2.1 (show kx < 12 by omega) rfl ?_
    refine z_istore_n (pc := 21) (zk12 kX5_thirst_0) rfl rfl ?_
    show Z D B xX5_thirst _ _ _ 22 [some (.ref p), some (.int (nI kx)), some (.int (σ 2 kx)), none, none] _ _ _
    refine z_aload_n (pc := 22) (zk13 kX5_thirst_0) rfl ?_
    refine z_rdV (pc := 23) (zk14 kX5_thirst_0) (st := []) lkX5_281 ivX5_knowersTogether hM.1 rfl rfl (c_mallKn hM hn h12 hm h8 hto) rfl ⟨rfl, rfl⟩ rfl rfl ?_ rfl
    refine z_istore_n (pc := 26) (zk15 kX5_thirst_0) rfl rfl ?_
    show Z D B xX5_thirst _ _ _ 27 [some (.ref p), some (.int (nI kx)), some (.int (σ 2 kx)), some (.int (allKnF σ)), none] _ _ _
    refine z_aload_n (pc := 27) (zk0 kX5_thirst_1) rfl ?_
    refine z_getf (pc := 28) (zk1 kX5_thirst_1) flX5_44 hM.1 gMo_11 ?_
    refine z_iload_n (pc := 31) (zk2 kX5_thirst_1) rfl ?_
    refine z_bipush (pc := 32) (zk3 kX5_thirst_1) (v := 9) (by decide) ?_
    refine z_Mo_s18 (pc := 34) (zk4 kX5_thirst_1) (j := kx) hM (by omega) (show kx < 12 by omega) (fun h_2 hR hU_3 => ?_)
    replace hU := hU.tr hU_3 (by omega) (by omega)
    replace hM := hR; clear hR
    refine z_aload_n (pc := 35) (zk5 kX5_thirst_1) rfl ?_
    refine z_rdV (pc := 36) (zk6 kX5_thirst_1) (st := []) lkX5_281 ivX5_knowersTogether hM.1 rfl rfl (c_mallKn hM hn h12 hm h8 hto) rfl ⟨rfl, rfl⟩ rfl rfl ?_ rfl
    refine z_istore (pc := 39) (zk7 kX5_thirst_1) rfl rfl ?_
    show Z D B xX5_thirst _ _ _ 41 [some (.ref p), some (.int (nI kx)), some (.int (σ 2 kx)), some (.int (allKnF σ)), some (.int (allKnF (up2 σ 2 kx 9)))] _ _ _
    refine z_aload_n (pc := 41) (zk8 kX5_thirst_1) rfl ?_
    refine z_getf (pc := 42) (zk9 kX5_thirst_1) flX5_44 hM.1 gMo_11 ?_
    refine z_iload_n (pc := 45) (zk10 kX5_thirst_1) rfl ?_
    refine z_iload_n (pc := 46) (zk11 kX5_thirst_1) rfl ?_
    refine z_Mo_s18 (pc := 47) (zk12 kX5_thirst_1) (j := kx) hM (by omega) (show kx < 12 by omega) (fun h_4 hR hU_5 => ?_)
    replace hU := hU.tr hU_5 (by omega) (by omega)
    replace hM := hR; clear hR
    rw [up2_up2, up2_id] at hM
    refine z_iload_n (pc := 48) (zk13 kX5_thirst_1) rfl ?_
    refine z_iload (pc := 49) (zk14 kX5_thirst_1) rfl ?_
    refine z_isub (pc := 51) (zk15 kX5_thirst_1) ?_
    exact z_iret (pc := 52) (zk0 kX5_thirst_2) rfl (Nat.zero_le _) (Nat.zero_le _) (by
            rw [show sp_thirst σ τ ε (nI kx) = ((allKnF σ) - (allKnF (up2 σ 2 kx 9)), σ, τ, ε) from by simp [sp_thirst, sBad, okS, okH, okL, okT, okB, sRd, up2_id, up2_id2, oI, sOther, sNone, sFull, c_1, ix_nI (show kx ≤ 1000 by omega)]]
            exact ⟨_, _, rfl, hM, hU, rfl⟩)
  · refine z_aload_n (pc := 8) (zk4 kX5_thirst_0) rfl ?_
    refine z_bipush (pc := 9) (zk5 kX5_thirst_0) (v := (-2)) (by decide) ?_
    refine z_efV (pc := 11) (zk6 kX5_thirst_0) (st := []) lkX5_94 ivX5_refuse hM.1 rfl rfl (c_refuse hM (by omega) (j := 2) (by decide) (by decide)) rfl ⟨rfl, rfl⟩ rfl rfl (fun r_ h_7 z_ q_6 => ?_) rfl
    obtain ⟨er_, hR, hU_8, ez_⟩ := q_6
    rw [er_, ez_]
    clear er_ ez_
    replace hU := hU.tr hU_8 (by omega) (by omega)
    replace hM := hR; clear hR
    show Z D B xX5_thirst _ _ _ 14 _ [.int (-2)] _ _
    exact z_iret (pc := 14) (zk7 kX5_thirst_0) rfl (Nat.zero_le _) (Nat.zero_le _) (by
            rw [show sp_thirst σ τ ε x = ((-2), σ, rfN τ 2, ε) from by simp [sp_thirst, sBad, okS, okH, okL, okT, okB, sRd, up2_id, up2_id2, oI, sOther, sNone, sFull, c_1]]
            exact ⟨_, _, rfl, hM, hU, rfl⟩)
set_option maxRecDepth 20000 in
theorem cP_taught {D : zD} {B : Nat} {h : zH} {sz : Nat} {p : Nat} {σ τ ω : Ln} {ε : El} {mv : Nat → Int64} {kp tr : Option Nat} {x : Int32} {y : Int32} {n m : Nat} (hM : MoAt h p σ τ ω ε mv kp tr) (hB : B ≤ p) (hn : σ 0 0 = nI n) (h12 : n ≤ 12) (hm : σ 9 0 = nI m) (h8 : m ≤ 8) (hto : ∀ l, l < m → ToOk σ l) : zM D B xX5_taught [.ref p, .int x, .int y] h sz (mQ h p sz kp tr (sp_taught σ τ ε x y)) := by
  have hU : Upd h h p 29 := Upd.rf
  refine zM.of (by decide) rfl (n := 2) ?_
  show Z D B xX5_taught 0 0 _ 0 [some (.ref p), some (.int x), some (.int y), none, none] [] h sz
  refine z_aload_n (pc := 0) (zk0 kX5_taught_0) rfl ?_
  refine z_iload_n (pc := 1) (zk1 kX5_taught_0) rfl ?_
  refine z_iload_n (pc := 2) (zk2 kX5_taught_0) rfl ?_
  refine z_rdV (pc := 3) (zk3 kX5_taught_0) (st := []) lkX5_248 ivX5_areBoth hM.1 rfl rfl (c_areBoth hM) rfl ⟨rfl, rfl⟩ rfl rfl ?_ rfl
  refine z_oif_ne (pc := 6) (zk4 kX5_taught_0) (tgt := 16) (by decide) (fun c_1 => ?_) (fun c_1 => ?_)
  · obtain ⟨c_2, c_3⟩ := Bool.and_eq_true_iff.mp c_1
    obtain ⟨kx, hkx, rfl⟩ := okR_nI (n := m) (by omega) (by rw [← hm]; exact c_2)
    obtain ⟨ky, hky, rfl⟩ := okR_nI (n := n) (by omega) (by rw [← hn]; exact c_3)
    refine z_aload_n (pc := 16) (zk9 kX5_taught_0) rfl ?_
    refine z_getf (pc := 17) (zk10 kX5_taught_0) flX5_47 hM.1 gMo_12 ?_
    refine z_iload_n (pc := 20) (zk11 kX5_taught_0) rfl ?_
    refine z_ialdN (pc := 21) (zk12 kX5_taught_0) (f := σ 3) (j := ky) hM.2.2.2.2.2.2.2.2.2.2.2.2.1 (show ky < 12 by omega) rfl ?_
    refine z_istore_n (pc := 22) (zk13 kX5_taught_0) rfl rfl ?_
    show Z D B xX5_taught _ _ _ 23 [some (.ref p), some (.int (nI kx)), some (.int (nI ky)), some (.int (σ 3 ky)), none] _ _ _
    refine z_aload_n (pc := 23) (zk14 kX5_taught_0) rfl ?_
    refine z_iload_n (pc := 24) (zk15 kX5_taught_0) rfl ?_
    refine z_aload_n (pc := 25) (zk0 kX5_taught_1) rfl ?_
    refine z_getf (pc := 26) (zk1 kX5_taught_1) flX5_56 hM.1 gMo_19 ?_
    refine z_iload_n (pc := 29) (zk2 kX5_taught_1) rfl ?_
    refine z_ialdN (pc := 30) (zk3 kX5_taught_1) (f := σ 11) (j := kx) hM.2.2.2.2.2.2.2.2.2.2.2.2.2.2.2.1 (show kx < 8 by omega) rfl ?_
    refine z_iconst (pc := 31) (zk4 kX5_taught_1) (v := 1) (by decide) ?_
    refine z_top (congrArg Value.int oI_t.symm) ?_
    refine z_efV (pc := 32) (zk5 kX5_taught_1) (st := []) lkX5_131 ivX5_setCode hM.1 rfl rfl (c_setCode hM hB (show ky < 12 by omega)) rfl ⟨rfl, rfl⟩ rfl rfl (fun r_ h_5 z_ q_4 => ?_) rfl
    obtain ⟨er_, hR, hU_6, ez_⟩ := q_4
    rw [er_, ez_]
    clear er_ ez_
    replace hU := hU.tr hU_6 (by omega) (by omega)
    replace hM := hR; clear hR
    show Z D B xX5_taught _ _ _ 35 _ [] _ _
    rw [show setC σ ky (σ 11 kx) true = learnF σ ky (σ 11 kx) from rfl] at hM
    refine z_aload_n (pc := 35) (zk6 kX5_taught_1) rfl ?_
    refine z_iload_n (pc := 36) (zk7 kX5_taught_1) rfl ?_
    refine z_iload_n (pc := 37) (zk8 kX5_taught_1) rfl ?_
    refine z_rdV (pc := 38) (zk9 kX5_taught_1) (st := []) lkX5_245 ivX5_knowsOf hM.1 rfl rfl (c_knowsOf hM hn h12 (show kx < 8 by omega) (show ky < n by omega) (hto _ (by omega))) rfl ⟨rfl, rfl⟩ rfl rfl ?_ rfl
    refine z_oif_eq (pc := 41) (zk10 kX5_taught_1) (tgt := 48) (by decide) (fun c_7 => ?_) (fun c_7 => ?_)
    · refine z_iconst (pc := 48) (zk13 kX5_taught_1) (v := 0) (by decide) ?_
      refine z_istore (pc := 49) (zk14 kX5_taught_1) rfl rfl ?_
      show Z D B xX5_taught _ _ _ 51 [some (.ref p), some (.int (nI kx)), some (.int (nI ky)), some (.int (σ 3 ky)), some (.int 0)] _ _ _
      refine z_aload_n (pc := 51) (zk15 kX5_taught_1) rfl ?_
      refine z_getf (pc := 52) (zk0 kX5_taught_2) flX5_47 hM.1 gMo_12 ?_
      refine z_iload_n (pc := 55) (zk1 kX5_taught_2) rfl ?_
      refine z_iload_n (pc := 56) (zk2 kX5_taught_2) rfl ?_
      refine z_Mo_s19 (pc := 57) (zk3 kX5_taught_2) (j := ky) hM (by omega) (show ky < 12 by omega) (fun h_8 hR hU_9 => ?_)
      replace hU := hU.tr hU_9 (by omega) (by omega)
      replace hM := hR; clear hR
      rw [learnF, up2_up2, up2_id] at hM
      refine z_iload (pc := 58) (zk4 kX5_taught_2) rfl ?_
      exact z_iret (pc := 60) (zk5 kX5_taught_2) rfl (Nat.zero_le _) (Nat.zero_le _) (by
                rw [show sp_taught σ τ ε (nI kx) (nI ky) = (0, σ, τ, ε) from by simp [sp_taught, sBad, okS, okH, okL, okT, okB, sRd, up2_id, up2_id2, oI, sOther, sNone, sFull, c_1, c_2, c_3, c_7, ix_nI (show kx ≤ 1000 by omega), ix_nI (show ky ≤ 1000 by omega)]]
                exact ⟨_, _, rfl, hM, hU, rfl⟩)
    · refine z_iconst (pc := 44) (zk11 kX5_taught_1) (v := 1) (by decide) ?_
      refine z_goto (pc := 45) (zk12 kX5_taught_1) (tgt := 49) (by decide) ?_
      refine z_istore (pc := 49) (zk14 kX5_taught_1) rfl rfl ?_
      show Z D B xX5_taught _ _ _ 51 [some (.ref p), some (.int (nI kx)), some (.int (nI ky)), some (.int (σ 3 ky)), some (.int 1)] _ _ _
      refine z_aload_n (pc := 51) (zk15 kX5_taught_1) rfl ?_
      refine z_getf (pc := 52) (zk0 kX5_taught_2) flX5_47 hM.1 gMo_12 ?_
      refine z_iload_n (pc := 55) (zk1 kX5_taught_2) rfl ?_
      refine z_iload_n (pc := 56) (zk2 kX5_taught_2) rfl ?_
      refine z_Mo_s19 (pc := 57) (zk3 kX5_taught_2) (j := ky) hM (by omega) (show ky < 12 by omega) (fun h_10 hR hU_11 => ?_)
      replace hU := hU.tr hU_11 (by omega) (by omega)
      replace hM := hR; clear hR
      rw [learnF, up2_up2, up2_id] at hM
      refine z_iload (pc := 58) (zk4 kX5_taught_2) rfl ?_
      exact z_iret (pc := 60) (zk5 kX5_taught_2) rfl (Nat.zero_le _) (Nat.zero_le _) (by
                rw [show sp_taught σ τ ε (nI kx) (nI ky) = (1, σ, τ, ε) from by simp [sp_taught, sBad, okS, okH, okL, okT, okB, sRd, up2_id, up2_id2, oI, sOther, sNone, sFull, c_1, c_2, c_3, c_7, ix_nI (show kx ≤ 1000 by omega), ix_nI (show ky ≤ 1000 by omega)]]
                exact ⟨_, _, rfl, hM, hU, rfl⟩)
  · refine z_aload_n (pc := 9) (zk5 kX5_taught_0) rfl ?_
    refine z_bipush (pc := 10) (zk6 kX5_taught_0) (v := (-2)) (by decide) ?_
    refine z_efV (pc := 12) (zk7 kX5_taught_0) (st := []) lkX5_94 ivX5_refuse hM.1 rfl rfl (c_refuse hM (by omega) (j := 2) (by decide) (by decide)) rfl ⟨rfl, rfl⟩ rfl rfl (fun r_ h_13 z_ q_12 => ?_) rfl
    obtain ⟨er_, hR, hU_14, ez_⟩ := q_12
    rw [er_, ez_]
    clear er_ ez_
    replace hU := hU.tr hU_14 (by omega) (by omega)
    replace hM := hR; clear hR
    show Z D B xX5_taught _ _ _ 15 _ [.int (-2)] _ _
    exact z_iret (pc := 15) (zk8 kX5_taught_0) rfl (Nat.zero_le _) (Nat.zero_le _) (by
            rw [show sp_taught σ τ ε x y = ((-2), σ, rfN τ 2, ε) from by simp [sp_taught, sBad, okS, okH, okL, okT, okB, sRd, up2_id, up2_id2, oI, sOther, sNone, sFull, c_1]]
            exact ⟨_, _, rfl, hM, hU, rfl⟩)
