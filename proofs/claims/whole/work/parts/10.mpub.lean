abbrev mQ (h : zH) (p sz : Nat) (kp tr : Option Nat) (q : Int32 × S3) : zQ := fun r h1 z1 => ∃ (ω1 : Ln) (mv1 : Nat → Int64), r = some (.int q.1) ∧ MoAt h1 p q.2.1 q.2.2.1 ω1 q.2.2.2 mv1 kp tr ∧ Upd h h1 p 29 ∧ z1 = sz
set_option maxRecDepth 20000 in
theorem cP_cold {D : zD} {B : Nat} {h : zH} {sz : Nat} {p : Nat} {σ τ ω : Ln} {ε : El} {mv : Nat → Int64} {kp tr : Option Nat} {x : Int32}  (hM : MoAt h p σ τ ω ε mv kp tr) (hB : B ≤ p)  : zM D B xX5_cold [.ref p, .int x] h sz (mQ h p sz kp tr (sp_cold σ τ ε x)) := by
  have hU : Upd h h p 29 := Upd.rf
  refine zM.of (by decide) rfl (n := 1) ?_
  show Z D B xX5_cold 0 0 _ 0 [some (.ref p), some (.int x), none] [] h sz
  refine z_iload_n (pc := 0) (zk0 kX5_cold_0) rfl ?_
  refine z_i2l (pc := 1) (zk1 kX5_cold_0) ?_
  refine z_lconst (pc := 2) (zk2 kX5_cold_0) (v := 0) (by decide) ?_
  refine z_ldc2 (pc := 3) (zk3 kX5_cold_0) klX5_121 ?_
  refine z_rdS (pc := 6) (zk4 kX5_cold_0) (st := []) lkX5_81 isX5_in (c_inI (x := x) (a := 0) (b := 9) (by decide) (by decide)) rfl ⟨rfl, rfl⟩ rfl rfl ?_ rfl
  refine z_oif_ne (pc := 9) (zk5 kX5_cold_0) (tgt := 19) (by decide) (fun c_1 => ?_) (fun c_1 => ?_)
  · refine z_aload_n (pc := 19) (zk10 kX5_cold_0) rfl ?_
    refine z_getf (pc := 20) (zk11 kX5_cold_0) flX5_135 hM.1 (v := .int (σ 5 0)) rfl ?_
    refine z_istore_n (pc := 23) (zk12 kX5_cold_0) rfl rfl ?_
    show Z D B xX5_cold _ _ _ 24 [some (.ref p), some (.int x), some (.int (σ 5 0))] _ _ _
    refine z_aload_n (pc := 24) (zk13 kX5_cold_0) rfl ?_
    refine z_iload_n (pc := 25) (zk14 kX5_cold_0) rfl ?_
    refine z_Mo_w14 (pc := 26) (zk15 kX5_cold_0) flX5_135 hM (by omega) (fun h_2 hR hU_3 => ?_)
    replace hU := hU.tr hU_3 (by omega) (by omega)
    replace hM := hR; clear hR
    refine z_iload_n (pc := 29) (zk0 kX5_cold_1) rfl ?_
    exact z_iret (pc := 30) (zk1 kX5_cold_1) rfl (Nat.zero_le _) (Nat.zero_le _) (by
            rw [show sp_cold σ τ ε x = (σ 5 0, (up2 σ 5 0 x), τ, ε) from by simp [sp_cold, sBad, okS, okH, okL, okT, okB, sRd, up2_id, up2_id2, oI, c_1]]
            exact ⟨_, _, rfl, hM, hU, rfl⟩)
  · refine z_aload_n (pc := 12) (zk6 kX5_cold_0) rfl ?_
    refine z_bipush (pc := 13) (zk7 kX5_cold_0) (v := (-2)) (by decide) ?_
    refine z_efV (pc := 15) (zk8 kX5_cold_0) (st := []) lkX5_94 ivX5_refuse hM.1 rfl rfl (c_refuse hM (by omega) (j := 2) (by decide) (by decide)) rfl ⟨rfl, rfl⟩ rfl rfl (fun r_ h_5 z_ q_4 => ?_) rfl
    obtain ⟨er_, hR, hU_6, ez_⟩ := q_4
    rw [er_, ez_]
    clear er_ ez_
    replace hU := hU.tr hU_6 (by omega) (by omega)
    replace hM := hR; clear hR
    show Z D B xX5_cold _ _ _ 18 _ [.int (-2)] _ _
    exact z_iret (pc := 18) (zk9 kX5_cold_0) rfl (Nat.zero_le _) (Nat.zero_le _) (by
            rw [show sp_cold σ τ ε x = ((-2), σ, rfN τ 2, ε) from by simp [sp_cold, sBad, okS, okH, okL, okT, okB, sRd, up2_id, up2_id2, oI, c_1]]
            exact ⟨_, _, rfl, hM, hU, rfl⟩)
set_option maxRecDepth 20000 in
theorem cP_tell {D : zD} {B : Nat} {h : zH} {sz : Nat} {p : Nat} {σ τ ω : Ln} {ε : El} {mv : Nat → Int64} {kp tr : Option Nat} {x : Int32} {y : Int32} {z : Int32} {n m : Nat} (hM : MoAt h p σ τ ω ε mv kp tr) (hB : B ≤ p) (hn : σ 0 0 = nI n) (h12 : n ≤ 12) (hm : σ 9 0 = nI m) (h8 : m ≤ 8) (hto : ∀ l, l < m → ToOk σ l) : zM D B xX5_tell [.ref p, .int x, .int y, .int z] h sz (mQ h p sz kp tr (sp_tell σ τ ε x y z)) := by
  have hU : Upd h h p 29 := Upd.rf
  refine zM.of (by decide) rfl (n := 1) ?_
  show Z D B xX5_tell 0 0 _ 0 [some (.ref p), some (.int x), some (.int y), some (.int z), none] [] h sz
  refine z_aload_n (pc := 0) (zk0 kX5_tell_0) rfl ?_
  refine z_iload_n (pc := 1) (zk1 kX5_tell_0) rfl ?_
  refine z_rdV (pc := 2) (zk2 kX5_tell_0) (st := []) lkX5_123 ivX5_isHouse hM.1 rfl rfl (c_isHouse hM) rfl ⟨rfl, rfl⟩ rfl rfl ?_ rfl
  refine z_oif_eq (pc := 5) (zk3 kX5_tell_0) (tgt := 30) (by decide) (fun c_1 => ?_) (fun c_1 => ?_)
  · refine z_aload_n (pc := 30) (zk0 kX5_tell_1) rfl ?_
    refine z_bipush (pc := 31) (zk1 kX5_tell_1) (v := (-2)) (by decide) ?_
    refine z_efV (pc := 33) (zk2 kX5_tell_1) (st := []) lkX5_94 ivX5_refuse hM.1 rfl rfl (c_refuse hM (by omega) (j := 2) (by decide) (by decide)) rfl ⟨rfl, rfl⟩ rfl rfl (fun r_ h_3 z_ q_2 => ?_) rfl
    obtain ⟨er_, hR, hU_4, ez_⟩ := q_2
    rw [er_, ez_]
    clear er_ ez_
    replace hU := hU.tr hU_4 (by omega) (by omega)
    replace hM := hR; clear hR
    show Z D B xX5_tell _ _ _ 36 _ [.int (-2)] _ _
    exact z_iret (pc := 36) (zk3 kX5_tell_1) rfl (Nat.zero_le _) (Nat.zero_le _) (by
            rw [show sp_tell σ τ ε x y z = ((-2), σ, rfN τ 2, ε) from by simp [sp_tell, sBad, okS, okH, okL, okT, okB, sRd, up2_id, up2_id2, oI, c_1]]
            exact ⟨_, _, rfl, hM, hU, rfl⟩)
  · refine z_iload_n (pc := 8) (zk4 kX5_tell_0) rfl ?_
    refine z_i2l (pc := 9) (zk5 kX5_tell_0) ?_
    refine z_lconst (pc := 10) (zk6 kX5_tell_0) (v := 0) (by decide) ?_
    refine z_lconst (pc := 11) (zk7 kX5_tell_0) (v := 1) (by decide) ?_
    refine z_rdS (pc := 12) (zk8 kX5_tell_0) (st := []) lkX5_81 isX5_in (c_inI (x := y) (a := 0) (b := 1) (by decide) (by decide)) rfl ⟨rfl, rfl⟩ rfl rfl ?_ rfl
    refine z_oif_eq (pc := 15) (zk9 kX5_tell_0) (tgt := 30) (by decide) (fun c_5 => ?_) (fun c_5 => ?_)
    · refine z_aload_n (pc := 30) (zk0 kX5_tell_1) rfl ?_
      refine z_bipush (pc := 31) (zk1 kX5_tell_1) (v := (-2)) (by decide) ?_
      refine z_efV (pc := 33) (zk2 kX5_tell_1) (st := []) lkX5_94 ivX5_refuse hM.1 rfl rfl (c_refuse hM (by omega) (j := 2) (by decide) (by decide)) rfl ⟨rfl, rfl⟩ rfl rfl (fun r_ h_7 z_ q_6 => ?_) rfl
      obtain ⟨er_, hR, hU_8, ez_⟩ := q_6
      rw [er_, ez_]
      clear er_ ez_
      replace hU := hU.tr hU_8 (by omega) (by omega)
      replace hM := hR; clear hR
      show Z D B xX5_tell _ _ _ 36 _ [.int (-2)] _ _
      exact z_iret (pc := 36) (zk3 kX5_tell_1) rfl (Nat.zero_le _) (Nat.zero_le _) (by
                rw [show sp_tell σ τ ε x y z = ((-2), σ, rfN τ 2, ε) from by simp [sp_tell, sBad, okS, okH, okL, okT, okB, sRd, up2_id, up2_id2, oI, c_1, c_5]]
                exact ⟨_, _, rfl, hM, hU, rfl⟩)
    · refine z_iload_n (pc := 18) (zk10 kX5_tell_0) rfl ?_
      refine z_i2l (pc := 19) (zk11 kX5_tell_0) ?_
      refine z_lconst (pc := 20) (zk12 kX5_tell_0) (v := 0) (by decide) ?_
      refine z_ldc2 (pc := 21) (zk13 kX5_tell_0) klX5_121 ?_
      refine z_rdS (pc := 24) (zk14 kX5_tell_0) (st := []) lkX5_81 isX5_in (c_inI (x := z) (a := 0) (b := 9) (by decide) (by decide)) rfl ⟨rfl, rfl⟩ rfl rfl ?_ rfl
      refine z_oif_ne (pc := 27) (zk15 kX5_tell_0) (tgt := 37) (by decide) (fun c_9 => ?_) (fun c_9 => ?_)
      · refine z_iload_n (pc := 37) (zk4 kX5_tell_1) rfl ?_
        rcases okR_01 c_5 with rfl | rfl
        · refine z_if_ne (pc := 38) (zk5 kX5_tell_1) (tgt := 50) (by decide) (fun q => absurd (by decide) q) (fun _ => ?_)
          refine z_aload_n (pc := 41) (zk6 kX5_tell_1) rfl ?_
          refine z_getf (pc := 42) (zk7 kX5_tell_1) flX5_41 hM.1 gMo_10 ?_
          refine z_iload_n (pc := 45) (zk8 kX5_tell_1) rfl ?_
          obtain ⟨kx, hkx, rfl⟩ := okR_nI (n := n) (by omega) (by rw [← hn]; exact c_1)
          refine z_ialdN (pc := 46) (zk9 kX5_tell_1) (f := σ 1) (j := kx) hM.2.2.2.2.2.2.2.2.2.2.1 (show kx < 12 by omega) rfl ?_
          refine z_goto (pc := 47) (zk10 kX5_tell_1) (tgt := 56) (by decide) ?_
          refine z_istore (pc := 56) (zk15 kX5_tell_1) rfl rfl ?_
          show Z D B xX5_tell _ _ _ 58 [some (.ref p), some (.int (nI kx)), some (.int 0), some (.int z), some (.int (σ 1 kx))] _ _ _
          refine z_aload_n (pc := 58) (zk0 kX5_tell_2) rfl ?_
          refine z_getf (pc := 59) (zk1 kX5_tell_2) flX5_41 hM.1 gMo_10 ?_
          refine z_iload_n (pc := 62) (zk2 kX5_tell_2) rfl ?_
          refine z_iload_n (pc := 63) (zk3 kX5_tell_2) rfl ?_
          refine z_if_ne (pc := 64) (zk4 kX5_tell_2) (tgt := 71) (by decide) (fun q => absurd (by decide) q) (fun _ => ?_)
          refine z_iload_n (pc := 67) (zk5 kX5_tell_2) rfl ?_
          refine z_goto (pc := 68) (zk6 kX5_tell_2) (tgt := 77) (by decide) ?_
          refine z_Mo_s17 (pc := 77) (zk11 kX5_tell_2) (j := kx) hM (by omega) (show kx < 12 by omega) (fun h_10 hR hU_11 => ?_)
          replace hU := hU.tr hU_11 (by omega) (by omega)
          replace hM := hR; clear hR
          refine z_aload_n (pc := 78) (zk12 kX5_tell_2) rfl ?_
          refine z_getf (pc := 79) (zk13 kX5_tell_2) flX5_44 hM.1 gMo_11 ?_
          refine z_iload_n (pc := 82) (zk14 kX5_tell_2) rfl ?_
          refine z_iload_n (pc := 83) (zk15 kX5_tell_2) rfl ?_
          refine z_iconst (pc := 84) (zk0 kX5_tell_3) (v := 1) (by decide) ?_
          refine z_icmp_ne (pc := 85) (zk1 kX5_tell_3) (tgt := 92) (by decide) (fun _ => ?_) (fun q => absurd q (by decide))
          refine z_aload_n (pc := 92) (zk4 kX5_tell_3) rfl ?_
          refine z_getf (pc := 93) (zk5 kX5_tell_3) flX5_44 hM.1 gMo_11 ?_
          refine z_iload_n (pc := 96) (zk6 kX5_tell_3) rfl ?_
          refine z_ialdN (pc := 97) (zk7 kX5_tell_3) (f := σ 2) (j := kx) hM.2.2.2.2.2.2.2.2.2.2.2.1 (show kx < 12 by omega) rfl ?_
          refine z_Mo_s18 (pc := 98) (zk8 kX5_tell_3) (j := kx) hM (by omega) (show kx < 12 by omega) (fun h_12 hR hU_13 => ?_)
          replace hU := hU.tr hU_13 (by omega) (by omega)
          replace hM := hR; clear hR
          refine z_iload (pc := 99) (zk9 kX5_tell_3) rfl ?_
          exact z_iret (pc := 101) (zk10 kX5_tell_3) rfl (Nat.zero_le _) (Nat.zero_le _) (by
                        rw [show sp_tell σ τ ε (nI kx) 0 z = (σ 1 kx, (up2 (up2 σ 1 kx z) 2 kx (σ 2 kx)), τ, ε) from by simp [sp_tell, sBad, okS, okH, okL, okT, okB, sRd, up2_id, up2_id2, oI, c_1, c_5, c_9, ix_nI (show kx ≤ 1000 by omega)]]
                        exact ⟨_, _, rfl, hM, hU, rfl⟩)
        · refine z_if_ne (pc := 38) (zk5 kX5_tell_1) (tgt := 50) (by decide) (fun _ => ?_) (fun q => absurd q (by decide))
          refine z_aload_n (pc := 50) (zk11 kX5_tell_1) rfl ?_
          refine z_getf (pc := 51) (zk12 kX5_tell_1) flX5_44 hM.1 gMo_11 ?_
          refine z_iload_n (pc := 54) (zk13 kX5_tell_1) rfl ?_
          obtain ⟨kx, hkx, rfl⟩ := okR_nI (n := n) (by omega) (by rw [← hn]; exact c_1)
          refine z_ialdN (pc := 55) (zk14 kX5_tell_1) (f := σ 2) (j := kx) hM.2.2.2.2.2.2.2.2.2.2.2.1 (show kx < 12 by omega) rfl ?_
          refine z_istore (pc := 56) (zk15 kX5_tell_1) rfl rfl ?_
          show Z D B xX5_tell _ _ _ 58 [some (.ref p), some (.int (nI kx)), some (.int 1), some (.int z), some (.int (σ 2 kx))] _ _ _
          refine z_aload_n (pc := 58) (zk0 kX5_tell_2) rfl ?_
          refine z_getf (pc := 59) (zk1 kX5_tell_2) flX5_41 hM.1 gMo_10 ?_
          refine z_iload_n (pc := 62) (zk2 kX5_tell_2) rfl ?_
          refine z_iload_n (pc := 63) (zk3 kX5_tell_2) rfl ?_
          refine z_if_ne (pc := 64) (zk4 kX5_tell_2) (tgt := 71) (by decide) (fun _ => ?_) (fun q => absurd q (by decide))
          refine z_aload_n (pc := 71) (zk7 kX5_tell_2) rfl ?_
          refine z_getf (pc := 72) (zk8 kX5_tell_2) flX5_41 hM.1 gMo_10 ?_
          refine z_iload_n (pc := 75) (zk9 kX5_tell_2) rfl ?_
          refine z_ialdN (pc := 76) (zk10 kX5_tell_2) (f := σ 1) (j := kx) hM.2.2.2.2.2.2.2.2.2.2.1 (show kx < 12 by omega) rfl ?_
          refine z_Mo_s17 (pc := 77) (zk11 kX5_tell_2) (j := kx) hM (by omega) (show kx < 12 by omega) (fun h_14 hR hU_15 => ?_)
          replace hU := hU.tr hU_15 (by omega) (by omega)
          replace hM := hR; clear hR
          refine z_aload_n (pc := 78) (zk12 kX5_tell_2) rfl ?_
          refine z_getf (pc := 79) (zk13 kX5_tell_2) flX5_44 hM.1 gMo_11 ?_
          refine z_iload_n (pc := 82) (zk14 kX5_tell_2) rfl ?_
          refine z_iload_n (pc := 83) (zk15 kX5_tell_2) rfl ?_
          refine z_iconst (pc := 84) (zk0 kX5_tell_3) (v := 1) (by decide) ?_
          refine z_icmp_ne (pc := 85) (zk1 kX5_tell_3) (tgt := 92) (by decide) (fun q => absurd (by decide) q) (fun _ => ?_)
          refine z_iload_n (pc := 88) (zk2 kX5_tell_3) rfl ?_
          refine z_goto (pc := 89) (zk3 kX5_tell_3) (tgt := 98) (by decide) ?_
          refine z_Mo_s18 (pc := 98) (zk8 kX5_tell_3) (j := kx) hM (by omega) (show kx < 12 by omega) (fun h_16 hR hU_17 => ?_)
          replace hU := hU.tr hU_17 (by omega) (by omega)
          replace hM := hR; clear hR
          refine z_iload (pc := 99) (zk9 kX5_tell_3) rfl ?_
          exact z_iret (pc := 101) (zk10 kX5_tell_3) rfl (Nat.zero_le _) (Nat.zero_le _) (by
                        rw [show sp_tell σ τ ε (nI kx) 1 z = (σ 2 kx, (up2 (up2 σ 1 kx (σ 1 kx)) 2 kx z), τ, ε) from by simp [sp_tell, sBad, okS, okH, okL, okT, okB, sRd, up2_id, up2_id2, oI, c_1, c_5, c_9, ix_nI (show kx ≤ 1000 by omega)]]
                        exact ⟨_, _, rfl, hM, hU, rfl⟩)
      · refine z_aload_n (pc := 30) (zk0 kX5_tell_1) rfl ?_
        refine z_bipush (pc := 31) (zk1 kX5_tell_1) (v := (-2)) (by decide) ?_
        refine z_efV (pc := 33) (zk2 kX5_tell_1) (st := []) lkX5_94 ivX5_refuse hM.1 rfl rfl (c_refuse hM (by omega) (j := 2) (by decide) (by decide)) rfl ⟨rfl, rfl⟩ rfl rfl (fun r_ h_19 z_ q_18 => ?_) rfl
        obtain ⟨er_, hR, hU_20, ez_⟩ := q_18
        rw [er_, ez_]
        clear er_ ez_
        replace hU := hU.tr hU_20 (by omega) (by omega)
        replace hM := hR; clear hR
        show Z D B xX5_tell _ _ _ 36 _ [.int (-2)] _ _
        exact z_iret (pc := 36) (zk3 kX5_tell_1) rfl (Nat.zero_le _) (Nat.zero_le _) (by
                    rw [show sp_tell σ τ ε x y z = ((-2), σ, rfN τ 2, ε) from by simp [sp_tell, sBad, okS, okH, okL, okT, okB, sRd, up2_id, up2_id2, oI, c_1, c_5, c_9]]
                    exact ⟨_, _, rfl, hM, hU, rfl⟩)
set_option maxRecDepth 20000 in
theorem cP_heard {D : zD} {B : Nat} {h : zH} {sz : Nat} {p : Nat} {σ τ ω : Ln} {ε : El} {mv : Nat → Int64} {kp tr : Option Nat} {x : Int32} {y : Int32} {n m : Nat} (hM : MoAt h p σ τ ω ε mv kp tr) (hB : B ≤ p) (hn : σ 0 0 = nI n) (h12 : n ≤ 12) (hm : σ 9 0 = nI m) (h8 : m ≤ 8) (hto : ∀ l, l < m → ToOk σ l) : zM D B xX5_heard [.ref p, .int x, .int y] h sz (mQ h p sz kp tr (sp_heard σ τ ε x y)) := by
  have hU : Upd h h p 29 := Upd.rf
  refine zM.of (by decide) rfl (n := 0) ?_
  show Z D B xX5_heard 0 0 _ 0 [some (.ref p), some (.int x), some (.int y)] [] h sz
  refine z_aload_n (pc := 0) (zk0 kX5_heard_0) rfl ?_
  refine z_iload_n (pc := 1) (zk1 kX5_heard_0) rfl ?_
  refine z_iload_n (pc := 2) (zk2 kX5_heard_0) rfl ?_
  refine z_rdV (pc := 3) (zk3 kX5_heard_0) (st := []) lkX5_248 ivX5_areBoth hM.1 rfl rfl (c_areBoth hM) rfl ⟨rfl, rfl⟩ rfl rfl ?_ rfl
  refine z_oif_eq (pc := 6) (zk4 kX5_heard_0) (tgt := 18) (by decide) (fun c_1 => ?_) (fun c_1 => ?_)
  · refine z_aload_n (pc := 18) (zk10 kX5_heard_0) rfl ?_
    refine z_bipush (pc := 19) (zk11 kX5_heard_0) (v := (-2)) (by decide) ?_
    refine z_efV (pc := 21) (zk12 kX5_heard_0) (st := []) lkX5_94 ivX5_refuse hM.1 rfl rfl (c_refuse hM (by omega) (j := 2) (by decide) (by decide)) rfl ⟨rfl, rfl⟩ rfl rfl (fun r_ h_3 z_ q_2 => ?_) rfl
    obtain ⟨er_, hR, hU_4, ez_⟩ := q_2
    rw [er_, ez_]
    clear er_ ez_
    replace hU := hU.tr hU_4 (by omega) (by omega)
    replace hM := hR; clear hR
    show Z D B xX5_heard _ _ _ 24 _ [.int (-2)] _ _
    exact z_iret (pc := 24) (zk13 kX5_heard_0) rfl (Nat.zero_le _) (Nat.zero_le _) (by
            rw [show sp_heard σ τ ε x y = ((-2), σ, rfN τ 2, ε) from by simp [sp_heard, sBad, okS, okH, okL, okT, okB, sRd, up2_id, up2_id2, oI, c_1]]
            exact ⟨_, _, rfl, hM, hU, rfl⟩)
  · obtain ⟨c_5, c_6⟩ := Bool.and_eq_true_iff.mp c_1
    refine z_aload_n (pc := 9) (zk5 kX5_heard_0) rfl ?_
    refine z_iload_n (pc := 10) (zk6 kX5_heard_0) rfl ?_
    refine z_iload_n (pc := 11) (zk7 kX5_heard_0) rfl ?_
    obtain ⟨ky, hky, rfl⟩ := okR_nI (n := n) (by omega) (by rw [← hn]; exact c_6)
    obtain ⟨kx, hkx, rfl⟩ := okR_nI (n := m) (by omega) (by rw [← hm]; exact c_5)
    refine z_rdV (pc := 12) (zk8 kX5_heard_0) (st := []) lkX5_115 ivX5_heardAt hM.1 rfl rfl (c_mheardAt hM hn h12 (show kx < 8 by omega) (show ky < n by omega) (hto _ (by omega))) rfl ⟨rfl, rfl⟩ rfl rfl ?_ rfl
    refine z_goto (pc := 15) (zk9 kX5_heard_0) (tgt := 24) (by decide) ?_
    exact z_iret (pc := 24) (zk13 kX5_heard_0) rfl (Nat.zero_le _) (Nat.zero_le _) (by
            rw [show sp_heard σ τ ε (nI kx) (nI ky) = (heardF σ kx ky, σ, τ, ε) from by simp [sp_heard, sBad, okS, okH, okL, okT, okB, sRd, up2_id, up2_id2, oI, c_1, c_5, c_6, ix_nI (show ky ≤ 1000 by omega), ix_nI (show kx ≤ 1000 by omega)]]
            exact ⟨_, _, rfl, hM, hU, rfl⟩)
set_option maxRecDepth 20000 in
theorem cP_isRead {D : zD} {B : Nat} {h : zH} {sz : Nat} {p : Nat} {σ τ ω : Ln} {ε : El} {mv : Nat → Int64} {kp tr : Option Nat} {x : Int32} {y : Int32} {n m : Nat} (hM : MoAt h p σ τ ω ε mv kp tr) (hB : B ≤ p) (hn : σ 0 0 = nI n) (h12 : n ≤ 12) (hm : σ 9 0 = nI m) (h8 : m ≤ 8) (hto : ∀ l, l < m → ToOk σ l) : zM D B xX5_isRead [.ref p, .int x, .int y] h sz (mQ h p sz kp tr (sp_isRead σ τ ε x y)) := by
  have hU : Upd h h p 29 := Upd.rf
  refine zM.of (by decide) rfl (n := 0) ?_
  show Z D B xX5_isRead 0 0 _ 0 [some (.ref p), some (.int x), some (.int y)] [] h sz
  refine z_aload_n (pc := 0) (zk0 kX5_isRead_0) rfl ?_
  refine z_iload_n (pc := 1) (zk1 kX5_isRead_0) rfl ?_
  refine z_iload_n (pc := 2) (zk2 kX5_isRead_0) rfl ?_
  refine z_rdV (pc := 3) (zk3 kX5_isRead_0) (st := []) lkX5_248 ivX5_areBoth hM.1 rfl rfl (c_areBoth hM) rfl ⟨rfl, rfl⟩ rfl rfl ?_ rfl
  refine z_oif_eq (pc := 6) (zk4 kX5_isRead_0) (tgt := 26) (by decide) (fun c_1 => ?_) (fun c_1 => ?_)
  · refine z_aload_n (pc := 26) (zk14 kX5_isRead_0) rfl ?_
    refine z_bipush (pc := 27) (zk15 kX5_isRead_0) (v := (-2)) (by decide) ?_
    refine z_efV (pc := 29) (zk0 kX5_isRead_1) (st := []) lkX5_94 ivX5_refuse hM.1 rfl rfl (c_refuse hM (by omega) (j := 2) (by decide) (by decide)) rfl ⟨rfl, rfl⟩ rfl rfl (fun r_ h_3 z_ q_2 => ?_) rfl
    obtain ⟨er_, hR, hU_4, ez_⟩ := q_2
    rw [er_, ez_]
    clear er_ ez_
    replace hU := hU.tr hU_4 (by omega) (by omega)
    replace hM := hR; clear hR
    show Z D B xX5_isRead _ _ _ 32 _ [.int (-2)] _ _
    exact z_iret (pc := 32) (zk1 kX5_isRead_1) rfl (Nat.zero_le _) (Nat.zero_le _) (by
            rw [show sp_isRead σ τ ε x y = ((-2), σ, rfN τ 2, ε) from by simp [sp_isRead, sBad, okS, okH, okL, okT, okB, sRd, up2_id, up2_id2, oI, c_1]]
            exact ⟨_, _, rfl, hM, hU, rfl⟩)
  · obtain ⟨c_5, c_6⟩ := Bool.and_eq_true_iff.mp c_1
    refine z_aload_n (pc := 9) (zk5 kX5_isRead_0) rfl ?_
    refine z_iload_n (pc := 10) (zk6 kX5_isRead_0) rfl ?_
    refine z_iload_n (pc := 11) (zk7 kX5_isRead_0) rfl ?_
    obtain ⟨ky, hky, rfl⟩ := okR_nI (n := n) (by omega) (by rw [← hn]; exact c_6)
    obtain ⟨kx, hkx, rfl⟩ := okR_nI (n := m) (by omega) (by rw [← hm]; exact c_5)
    refine z_rdV (pc := 12) (zk8 kX5_isRead_0) (st := []) lkX5_236 ivX5_readAt hM.1 rfl rfl (c_mreadAt hM (show kx < 8 by omega)) rfl ⟨rfl, rfl⟩ rfl rfl ?_ rfl
    refine z_oif_eq (pc := 15) (zk9 kX5_isRead_0) (tgt := 22) (by decide) (fun c_7 => ?_) (fun c_7 => ?_)
    · refine z_iconst (pc := 22) (zk12 kX5_isRead_0) (v := 0) (by decide) ?_
      refine z_goto (pc := 23) (zk13 kX5_isRead_0) (tgt := 32) (by decide) ?_
      exact z_iret (pc := 32) (zk1 kX5_isRead_1) rfl (Nat.zero_le _) (Nat.zero_le _) (by
                rw [show sp_isRead σ τ ε (nI kx) (nI ky) = (0, σ, τ, ε) from by simp [sp_isRead, sBad, okS, okH, okL, okT, okB, sRd, up2_id, up2_id2, oI, c_1, c_5, c_6, c_7, ix_nI (show ky ≤ 1000 by omega), ix_nI (show kx ≤ 1000 by omega)]]
                exact ⟨_, _, rfl, hM, hU, rfl⟩)
    · refine z_iconst (pc := 18) (zk10 kX5_isRead_0) (v := 1) (by decide) ?_
      refine z_goto (pc := 19) (zk11 kX5_isRead_0) (tgt := 32) (by decide) ?_
      exact z_iret (pc := 32) (zk1 kX5_isRead_1) rfl (Nat.zero_le _) (Nat.zero_le _) (by
                rw [show sp_isRead σ τ ε (nI kx) (nI ky) = (1, σ, τ, ε) from by simp [sp_isRead, sBad, okS, okH, okL, okT, okB, sRd, up2_id, up2_id2, oI, c_1, c_5, c_6, c_7, ix_nI (show ky ≤ 1000 by omega), ix_nI (show kx ≤ 1000 by omega)]]
                exact ⟨_, _, rfl, hM, hU, rfl⟩)
set_option maxRecDepth 20000 in
theorem cP_whoKnows {D : zD} {B : Nat} {h : zH} {sz : Nat} {p : Nat} {σ τ ω : Ln} {ε : El} {mv : Nat → Int64} {kp tr : Option Nat} {x : Int32} {n m : Nat} (hM : MoAt h p σ τ ω ε mv kp tr) (hB : B ≤ p) (hn : σ 0 0 = nI n) (h12 : n ≤ 12) (hm : σ 9 0 = nI m) (h8 : m ≤ 8) (hto : ∀ l, l < m → ToOk σ l) : zM D B xX5_whoKnows [.ref p, .int x] h sz (mQ h p sz kp tr (sp_whoKnows σ τ ε x)) := by
  have hU : Upd h h p 29 := Upd.rf
  refine zM.of (by decide) rfl (n := 0) ?_
  show Z D B xX5_whoKnows 0 0 _ 0 [some (.ref p), some (.int x)] [] h sz
  refine z_aload_n (pc := 0) (zk0 kX5_whoKnows_0) rfl ?_
  refine z_iload_n (pc := 1) (zk1 kX5_whoKnows_0) rfl ?_
  refine z_i2l (pc := 2) (zk2 kX5_whoKnows_0) ?_
  refine z_rdV (pc := 3) (zk3 kX5_whoKnows_0) (st := []) lkX5_105 ivX5_isLetter hM.1 rfl rfl (c_isLetter hM) rfl ⟨rfl, rfl⟩ rfl rfl ?_ rfl
  refine z_oif_eq (pc := 6) (zk4 kX5_whoKnows_0) (tgt := 17) (by decide) (fun c_1 => ?_) (fun c_1 => ?_)
  · refine z_aload_n (pc := 17) (zk9 kX5_whoKnows_0) rfl ?_
    refine z_bipush (pc := 18) (zk10 kX5_whoKnows_0) (v := (-2)) (by decide) ?_
    refine z_efV (pc := 20) (zk11 kX5_whoKnows_0) (st := []) lkX5_94 ivX5_refuse hM.1 rfl rfl (c_refuse hM (by omega) (j := 2) (by decide) (by decide)) rfl ⟨rfl, rfl⟩ rfl rfl (fun r_ h_3 z_ q_2 => ?_) rfl
    obtain ⟨er_, hR, hU_4, ez_⟩ := q_2
    rw [er_, ez_]
    clear er_ ez_
    replace hU := hU.tr hU_4 (by omega) (by omega)
    replace hM := hR; clear hR
    show Z D B xX5_whoKnows _ _ _ 23 _ [.int (-2)] _ _
    exact z_iret (pc := 23) (zk12 kX5_whoKnows_0) rfl (Nat.zero_le _) (Nat.zero_le _) (by
            rw [show sp_whoKnows σ τ ε x = ((-2), σ, rfN τ 2, ε) from by simp [sp_whoKnows, sBad, okS, okH, okL, okT, okB, sRd, up2_id, up2_id2, oI, c_1]]
            exact ⟨_, _, rfl, hM, hU, rfl⟩)
  · refine z_aload_n (pc := 9) (zk5 kX5_whoKnows_0) rfl ?_
    refine z_iload_n (pc := 10) (zk6 kX5_whoKnows_0) rfl ?_
    obtain ⟨kx, hkx, rfl⟩ := okR_nI (n := m) (by omega) (by rw [← hm]; exact c_1)
    refine z_rdV (pc := 11) (zk7 kX5_whoKnows_0) (st := []) lkX5_251 ivX5_knowers hM.1 rfl rfl (c_mknowers hM hn h12 (show kx < 8 by omega) (hto _ (by omega))) rfl ⟨rfl, rfl⟩ rfl rfl ?_ rfl
    refine z_goto (pc := 14) (zk8 kX5_whoKnows_0) (tgt := 23) (by decide) ?_
    exact z_iret (pc := 23) (zk12 kX5_whoKnows_0) rfl (Nat.zero_le _) (Nat.zero_le _) (by
            rw [show sp_whoKnows σ τ ε (nI kx) = (knowersF σ kx, σ, τ, ε) from by simp [sp_whoKnows, sBad, okS, okH, okL, okT, okB, sRd, up2_id, up2_id2, oI, c_1, ix_nI (show kx ≤ 1000 by omega)]]
            exact ⟨_, _, rfl, hM, hU, rfl⟩)
set_option maxRecDepth 20000 in
theorem cP_knows {D : zD} {B : Nat} {h : zH} {sz : Nat} {p : Nat} {σ τ ω : Ln} {ε : El} {mv : Nat → Int64} {kp tr : Option Nat} {x : Int32} {n m : Nat} (hM : MoAt h p σ τ ω ε mv kp tr) (hB : B ≤ p) (hn : σ 0 0 = nI n) (h12 : n ≤ 12) (hm : σ 9 0 = nI m) (h8 : m ≤ 8) (hto : ∀ l, l < m → ToOk σ l) : zM D B xX5_knows [.ref p, .int x] h sz (mQ h p sz kp tr (sp_knows σ τ ε x)) := by
  have hU : Upd h h p 29 := Upd.rf
  refine zM.of (by decide) rfl (n := 0) ?_
  show Z D B xX5_knows 0 0 _ 0 [some (.ref p), some (.int x)] [] h sz
  refine z_aload_n (pc := 0) (zk0 kX5_knows_0) rfl ?_
  refine z_iload_n (pc := 1) (zk1 kX5_knows_0) rfl ?_
  refine z_rdV (pc := 2) (zk2 kX5_knows_0) (st := []) lkX5_123 ivX5_isHouse hM.1 rfl rfl (c_isHouse hM) rfl ⟨rfl, rfl⟩ rfl rfl ?_ rfl
  refine z_oif_eq (pc := 5) (zk3 kX5_knows_0) (tgt := 16) (by decide) (fun c_1 => ?_) (fun c_1 => ?_)
  · refine z_aload_n (pc := 16) (zk8 kX5_knows_0) rfl ?_
    refine z_bipush (pc := 17) (zk9 kX5_knows_0) (v := (-2)) (by decide) ?_
    refine z_efV (pc := 19) (zk10 kX5_knows_0) (st := []) lkX5_94 ivX5_refuse hM.1 rfl rfl (c_refuse hM (by omega) (j := 2) (by decide) (by decide)) rfl ⟨rfl, rfl⟩ rfl rfl (fun r_ h_3 z_ q_2 => ?_) rfl
    obtain ⟨er_, hR, hU_4, ez_⟩ := q_2
    rw [er_, ez_]
    clear er_ ez_
    replace hU := hU.tr hU_4 (by omega) (by omega)
    replace hM := hR; clear hR
    show Z D B xX5_knows _ _ _ 22 _ [.int (-2)] _ _
    exact z_iret (pc := 22) (zk11 kX5_knows_0) rfl (Nat.zero_le _) (Nat.zero_le _) (by
            rw [show sp_knows σ τ ε x = ((-2), σ, rfN τ 2, ε) from by simp [sp_knows, sBad, okS, okH, okL, okT, okB, sRd, up2_id, up2_id2, oI, c_1]]
            exact ⟨_, _, rfl, hM, hU, rfl⟩)
  · refine z_aload_n (pc := 8) (zk4 kX5_knows_0) rfl ?_
    refine z_iload_n (pc := 9) (zk5 kX5_knows_0) rfl ?_
    obtain ⟨kx, hkx, rfl⟩ := okR_nI (n := n) (by omega) (by rw [← hn]; exact c_1)
    refine z_rdV (pc := 10) (zk6 kX5_knows_0) (st := []) lkX5_254 ivX5_knownAt hM.1 rfl rfl (c_mknownAt hM hn h12 hm h8 (show kx < n by omega) hto) rfl ⟨rfl, rfl⟩ rfl rfl ?_ rfl
    refine z_goto (pc := 13) (zk7 kX5_knows_0) (tgt := 22) (by decide) ?_
    exact z_iret (pc := 22) (zk11 kX5_knows_0) rfl (Nat.zero_le _) (Nat.zero_le _) (by
            rw [show sp_knows σ τ ε (nI kx) = (knownF σ kx, σ, τ, ε) from by simp [sp_knows, sBad, okS, okH, okL, okT, okB, sRd, up2_id, up2_id2, oI, c_1, ix_nI (show kx ≤ 1000 by omega)]]
            exact ⟨_, _, rfl, hM, hU, rfl⟩)
set_option maxRecDepth 20000 in
theorem cP_words {D : zD} {B : Nat} {h : zH} {sz : Nat} {p : Nat} {σ τ ω : Ln} {ε : El} {mv : Nat → Int64} {kp tr : Option Nat} {x : Int32} {n m : Nat} (hM : MoAt h p σ τ ω ε mv kp tr) (hB : B ≤ p) (hn : σ 0 0 = nI n) (h12 : n ≤ 12) (hm : σ 9 0 = nI m) (h8 : m ≤ 8) (hto : ∀ l, l < m → ToOk σ l) : zM D B xX5_words [.ref p, .int x] h sz (mQ h p sz kp tr (sp_words σ τ ε x)) := by
  have hU : Upd h h p 29 := Upd.rf
  refine zM.of (by decide) rfl (n := 0) ?_
  show Z D B xX5_words 0 0 _ 0 [some (.ref p), some (.int x)] [] h sz
  refine z_aload_n (pc := 0) (zk0 kX5_words_0) rfl ?_
  refine z_iload_n (pc := 1) (zk1 kX5_words_0) rfl ?_
  refine z_rdV (pc := 2) (zk2 kX5_words_0) (st := []) lkX5_123 ivX5_isHouse hM.1 rfl rfl (c_isHouse hM) rfl ⟨rfl, rfl⟩ rfl rfl ?_ rfl
  refine z_oif_eq (pc := 5) (zk3 kX5_words_0) (tgt := 16) (by decide) (fun c_1 => ?_) (fun c_1 => ?_)
  · refine z_aload_n (pc := 16) (zk8 kX5_words_0) rfl ?_
    refine z_bipush (pc := 17) (zk9 kX5_words_0) (v := (-2)) (by decide) ?_
    refine z_efV (pc := 19) (zk10 kX5_words_0) (st := []) lkX5_94 ivX5_refuse hM.1 rfl rfl (c_refuse hM (by omega) (j := 2) (by decide) (by decide)) rfl ⟨rfl, rfl⟩ rfl rfl (fun r_ h_3 z_ q_2 => ?_) rfl
    obtain ⟨er_, hR, hU_4, ez_⟩ := q_2
    rw [er_, ez_]
    clear er_ ez_
    replace hU := hU.tr hU_4 (by omega) (by omega)
    replace hM := hR; clear hR
    show Z D B xX5_words _ _ _ 22 _ [.int (-2)] _ _
    exact z_iret (pc := 22) (zk11 kX5_words_0) rfl (Nat.zero_le _) (Nat.zero_le _) (by
            rw [show sp_words σ τ ε x = ((-2), σ, rfN τ 2, ε) from by simp [sp_words, sBad, okS, okH, okL, okT, okB, sRd, up2_id, up2_id2, oI, c_1]]
            exact ⟨_, _, rfl, hM, hU, rfl⟩)
  · refine z_aload_n (pc := 8) (zk4 kX5_words_0) rfl ?_
    refine z_iload_n (pc := 9) (zk5 kX5_words_0) rfl ?_
    obtain ⟨kx, hkx, rfl⟩ := okR_nI (n := n) (by omega) (by rw [← hn]; exact c_1)
    refine z_rdV (pc := 10) (zk6 kX5_words_0) (st := []) lkX5_257 ivX5_wordsAt hM.1 rfl rfl (c_mwordsAt hM hn h12 hm h8 (show kx < n by omega) hto) rfl ⟨rfl, rfl⟩ rfl rfl ?_ rfl
    refine z_goto (pc := 13) (zk7 kX5_words_0) (tgt := 22) (by decide) ?_
    exact z_iret (pc := 22) (zk11 kX5_words_0) rfl (Nat.zero_le _) (Nat.zero_le _) (by
            rw [show sp_words σ τ ε (nI kx) = (wordsF σ kx, σ, τ, ε) from by simp [sp_words, sBad, okS, okH, okL, okT, okB, sRd, up2_id, up2_id2, oI, c_1, ix_nI (show kx ≤ 1000 by omega)]]
            exact ⟨_, _, rfl, hM, hU, rfl⟩)
set_option maxRecDepth 20000 in
theorem cP_wipe {D : zD} {B : Nat} {h : zH} {sz : Nat} {p : Nat} {σ τ ω : Ln} {ε : El} {mv : Nat → Int64} {kp tr : Option Nat}  (hM : MoAt h p σ τ ω ε mv kp tr) (hB : B ≤ p)  : zM D B xX5_wipe [.ref p] h sz (mQ h p sz kp tr (sp_wipe σ τ ε)) := by
  have hU : Upd h h p 29 := Upd.rf
  refine zM.of (by decide) rfl (n := 1) ?_
  show Z D B xX5_wipe 0 0 _ 0 [some (.ref p), none] [] h sz
  refine z_aload_n (pc := 0) (zk0 kX5_wipe_0) rfl ?_
  refine z_getf (pc := 1) (zk1 kX5_wipe_0) flX5_144 hM.1 (v := .int (τ 6 0)) rfl ?_
  refine z_istore_n (pc := 4) (zk2 kX5_wipe_0) rfl rfl ?_
  show Z D B xX5_wipe _ _ _ 5 [some (.ref p), some (.int (τ 6 0))] _ _ _
  refine z_aload_n (pc := 5) (zk3 kX5_wipe_0) rfl ?_
  refine z_iconst (pc := 6) (zk4 kX5_wipe_0) (v := 0) (by decide) ?_
  refine z_Mo_w7 (pc := 7) (zk5 kX5_wipe_0) flX5_144 hM (by omega) (fun h_1 hR hU_2 => ?_)
  replace hU := hU.tr hU_2 (by omega) (by omega)
  replace hM := hR; clear hR
  refine z_iload_n (pc := 10) (zk6 kX5_wipe_0) rfl ?_
  exact z_iret (pc := 11) (zk7 kX5_wipe_0) rfl (Nat.zero_le _) (Nat.zero_le _) (by
        rw [show sp_wipe σ τ ε = (τ 6 0, σ, (up2 τ 6 0 0), ε) from by simp [sp_wipe, sBad, okS, okH, okL, okT, okB, sRd, up2_id, up2_id2, oI]]
        exact ⟨_, _, rfl, hM, hU, rfl⟩)
set_option maxRecDepth 20000 in
theorem cP_common {D : zD} {B : Nat} {h : zH} {sz : Nat} {p : Nat} {σ τ ω : Ln} {ε : El} {mv : Nat → Int64} {kp tr : Option Nat} {x : Int32} {y : Int32} {n m : Nat} (hM : MoAt h p σ τ ω ε mv kp tr) (hB : B ≤ p) (hn : σ 0 0 = nI n) (h12 : n ≤ 12) (hm : σ 9 0 = nI m) (h8 : m ≤ 8) (hto : ∀ l, l < m → ToOk σ l) : zM D B xX5_common [.ref p, .int x, .int y] h sz (mQ h p sz kp tr (sp_common σ τ ε x y)) := by
  have hU : Upd h h p 29 := Upd.rf
  refine zM.of (by decide) rfl (n := 0) ?_
  show Z D B xX5_common 0 0 _ 0 [some (.ref p), some (.int x), some (.int y)] [] h sz
  refine z_aload_n (pc := 0) (zk0 kX5_common_0) rfl ?_
  refine z_iload_n (pc := 1) (zk1 kX5_common_0) rfl ?_
  refine z_i2l (pc := 2) (zk2 kX5_common_0) ?_
  refine z_rdV (pc := 3) (zk3 kX5_common_0) (st := []) lkX5_105 ivX5_isLetter hM.1 rfl rfl (c_isLetter hM) rfl ⟨rfl, rfl⟩ rfl rfl ?_ rfl
  refine z_oif_eq (pc := 6) (zk4 kX5_common_0) (tgt := 32) (by decide) (fun c_1 => ?_) (fun c_1 => ?_)
  · refine z_aload_n (pc := 32) (zk2 kX5_common_1) rfl ?_
    refine z_bipush (pc := 33) (zk3 kX5_common_1) (v := (-2)) (by decide) ?_
    refine z_efV (pc := 35) (zk4 kX5_common_1) (st := []) lkX5_94 ivX5_refuse hM.1 rfl rfl (c_refuse hM (by omega) (j := 2) (by decide) (by decide)) rfl ⟨rfl, rfl⟩ rfl rfl (fun r_ h_3 z_ q_2 => ?_) rfl
    obtain ⟨er_, hR, hU_4, ez_⟩ := q_2
    rw [er_, ez_]
    clear er_ ez_
    replace hU := hU.tr hU_4 (by omega) (by omega)
    replace hM := hR; clear hR
    show Z D B xX5_common _ _ _ 38 _ [.int (-2)] _ _
    exact z_iret (pc := 38) (zk5 kX5_common_1) rfl (Nat.zero_le _) (Nat.zero_le _) (by
            rw [show sp_common σ τ ε x y = ((-2), σ, rfN τ 2, ε) from by simp [sp_common, sBad, okS, okH, okL, okT, okB, sRd, up2_id, up2_id2, oI, c_1]]
            exact ⟨_, _, rfl, hM, hU, rfl⟩)
  · refine z_aload_n (pc := 9) (zk5 kX5_common_0) rfl ?_
    refine z_iload_n (pc := 10) (zk6 kX5_common_0) rfl ?_
    refine z_i2l (pc := 11) (zk7 kX5_common_0) ?_
    refine z_rdV (pc := 12) (zk8 kX5_common_0) (st := []) lkX5_105 ivX5_isLetter hM.1 rfl rfl (c_isLetter hM) rfl ⟨rfl, rfl⟩ rfl rfl ?_ rfl
    refine z_oif_eq (pc := 15) (zk9 kX5_common_0) (tgt := 32) (by decide) (fun c_5 => ?_) (fun c_5 => ?_)
    · refine z_aload_n (pc := 32) (zk2 kX5_common_1) rfl ?_
      refine z_bipush (pc := 33) (zk3 kX5_common_1) (v := (-2)) (by decide) ?_
      refine z_efV (pc := 35) (zk4 kX5_common_1) (st := []) lkX5_94 ivX5_refuse hM.1 rfl rfl (c_refuse hM (by omega) (j := 2) (by decide) (by decide)) rfl ⟨rfl, rfl⟩ rfl rfl (fun r_ h_7 z_ q_6 => ?_) rfl
      obtain ⟨er_, hR, hU_8, ez_⟩ := q_6
      rw [er_, ez_]
      clear er_ ez_
      replace hU := hU.tr hU_8 (by omega) (by omega)
      replace hM := hR; clear hR
      show Z D B xX5_common _ _ _ 38 _ [.int (-2)] _ _
      exact z_iret (pc := 38) (zk5 kX5_common_1) rfl (Nat.zero_le _) (Nat.zero_le _) (by
                rw [show sp_common σ τ ε x y = ((-2), σ, rfN τ 2, ε) from by simp [sp_common, sBad, okS, okH, okL, okT, okB, sRd, up2_id, up2_id2, oI, c_1, c_5]]
                exact ⟨_, _, rfl, hM, hU, rfl⟩)
    · refine z_aload_n (pc := 18) (zk10 kX5_common_0) rfl ?_
      refine z_iload_n (pc := 19) (zk11 kX5_common_0) rfl ?_
      obtain ⟨kx, hkx, rfl⟩ := okR_nI (n := m) (by omega) (by rw [← hm]; exact c_1)
      refine z_rdV (pc := 20) (zk12 kX5_common_0) (st := []) lkX5_251 ivX5_knowers hM.1 rfl rfl (c_mknowers hM hn h12 (show kx < 8 by omega) (hto _ (by omega))) rfl ⟨rfl, rfl⟩ rfl rfl ?_ rfl
      refine z_aload_n (pc := 23) (zk13 kX5_common_0) rfl ?_
      refine z_iload_n (pc := 24) (zk14 kX5_common_0) rfl ?_
      obtain ⟨ky, hky, rfl⟩ := okR_nI (n := m) (by omega) (by rw [← hm]; exact c_5)
      refine z_rdV (pc := 25) (zk15 kX5_common_0) (st := [.int (knowersF σ kx)]) lkX5_251 ivX5_knowers hM.1 rfl rfl (c_mknowers hM hn h12 (show ky < 8 by omega) (hto _ (by omega))) rfl ⟨rfl, rfl⟩ rfl rfl ?_ rfl
      refine z_iand (pc := 28) (zk0 kX5_common_1) ?_
      refine z_goto (pc := 29) (zk1 kX5_common_1) (tgt := 38) (by decide) ?_
      exact z_iret (pc := 38) (zk5 kX5_common_1) rfl (Nat.zero_le _) (Nat.zero_le _) (by
                rw [show sp_common σ τ ε (nI kx) (nI ky) = ((knowersF σ kx) &&& (knowersF σ ky), σ, τ, ε) from by simp [sp_common, sBad, okS, okH, okL, okT, okB, sRd, up2_id, up2_id2, oI, c_1, c_5, ix_nI (show kx ≤ 1000 by omega), ix_nI (show ky ≤ 1000 by omega)]]
                exact ⟨_, _, rfl, hM, hU, rfl⟩)
set_option maxRecDepth 20000 in
theorem cP_alike {D : zD} {B : Nat} {h : zH} {sz : Nat} {p : Nat} {σ τ ω : Ln} {ε : El} {mv : Nat → Int64} {kp tr : Option Nat} {x : Int32} {y : Int32} {n m : Nat} (hM : MoAt h p σ τ ω ε mv kp tr) (hB : B ≤ p) (hn : σ 0 0 = nI n) (h12 : n ≤ 12) (hm : σ 9 0 = nI m) (h8 : m ≤ 8) (hto : ∀ l, l < m → ToOk σ l) : zM D B xX5_alike [.ref p, .int x, .int y] h sz (mQ h p sz kp tr (sp_alike σ τ ε x y)) := by
  have hU : Upd h h p 29 := Upd.rf
  refine zM.of (by decide) rfl (n := 0) ?_
  show Z D B xX5_alike 0 0 _ 0 [some (.ref p), some (.int x), some (.int y)] [] h sz
  refine z_aload_n (pc := 0) (zk0 kX5_alike_0) rfl ?_
  refine z_iload_n (pc := 1) (zk1 kX5_alike_0) rfl ?_
  refine z_rdV (pc := 2) (zk2 kX5_alike_0) (st := []) lkX5_123 ivX5_isHouse hM.1 rfl rfl (c_isHouse hM) rfl ⟨rfl, rfl⟩ rfl rfl ?_ rfl
  refine z_oif_eq (pc := 5) (zk3 kX5_alike_0) (tgt := 37) (by decide) (fun c_1 => ?_) (fun c_1 => ?_)
  · refine z_aload_n (pc := 37) (zk3 kX5_alike_1) rfl ?_
    refine z_bipush (pc := 38) (zk4 kX5_alike_1) (v := (-2)) (by decide) ?_
    refine z_efV (pc := 40) (zk5 kX5_alike_1) (st := []) lkX5_94 ivX5_refuse hM.1 rfl rfl (c_refuse hM (by omega) (j := 2) (by decide) (by decide)) rfl ⟨rfl, rfl⟩ rfl rfl (fun r_ h_3 z_ q_2 => ?_) rfl
    obtain ⟨er_, hR, hU_4, ez_⟩ := q_2
    rw [er_, ez_]
    clear er_ ez_
    replace hU := hU.tr hU_4 (by omega) (by omega)
    replace hM := hR; clear hR
    show Z D B xX5_alike _ _ _ 43 _ [.int (-2)] _ _
    exact z_iret (pc := 43) (zk6 kX5_alike_1) rfl (Nat.zero_le _) (Nat.zero_le _) (by
            rw [show sp_alike σ τ ε x y = ((-2), σ, rfN τ 2, ε) from by simp [sp_alike, sBad, okS, okH, okL, okT, okB, sRd, up2_id, up2_id2, oI, oI, c_1]]
            exact ⟨_, _, rfl, hM, hU, rfl⟩)
  · refine z_aload_n (pc := 8) (zk4 kX5_alike_0) rfl ?_
    refine z_iload_n (pc := 9) (zk5 kX5_alike_0) rfl ?_
    refine z_rdV (pc := 10) (zk6 kX5_alike_0) (st := []) lkX5_123 ivX5_isHouse hM.1 rfl rfl (c_isHouse hM) rfl ⟨rfl, rfl⟩ rfl rfl ?_ rfl
    refine z_oif_eq (pc := 13) (zk7 kX5_alike_0) (tgt := 37) (by decide) (fun c_5 => ?_) (fun c_5 => ?_)
    · refine z_aload_n (pc := 37) (zk3 kX5_alike_1) rfl ?_
      refine z_bipush (pc := 38) (zk4 kX5_alike_1) (v := (-2)) (by decide) ?_
      refine z_efV (pc := 40) (zk5 kX5_alike_1) (st := []) lkX5_94 ivX5_refuse hM.1 rfl rfl (c_refuse hM (by omega) (j := 2) (by decide) (by decide)) rfl ⟨rfl, rfl⟩ rfl rfl (fun r_ h_7 z_ q_6 => ?_) rfl
      obtain ⟨er_, hR, hU_8, ez_⟩ := q_6
      rw [er_, ez_]
      clear er_ ez_
      replace hU := hU.tr hU_8 (by omega) (by omega)
      replace hM := hR; clear hR
      show Z D B xX5_alike _ _ _ 43 _ [.int (-2)] _ _
      exact z_iret (pc := 43) (zk6 kX5_alike_1) rfl (Nat.zero_le _) (Nat.zero_le _) (by
                rw [show sp_alike σ τ ε x y = ((-2), σ, rfN τ 2, ε) from by simp [sp_alike, sBad, okS, okH, okL, okT, okB, sRd, up2_id, up2_id2, oI, oI, c_1, c_5]]
                exact ⟨_, _, rfl, hM, hU, rfl⟩)
    · refine z_aload_n (pc := 16) (zk8 kX5_alike_0) rfl ?_
      refine z_iload_n (pc := 17) (zk9 kX5_alike_0) rfl ?_
      obtain ⟨kx, hkx, rfl⟩ := okR_nI (n := n) (by omega) (by rw [← hn]; exact c_1)
      refine z_rdV (pc := 18) (zk10 kX5_alike_0) (st := []) lkX5_254 ivX5_knownAt hM.1 rfl rfl (c_mknownAt hM hn h12 hm h8 (show kx < n by omega) hto) rfl ⟨rfl, rfl⟩ rfl rfl ?_ rfl
      refine z_aload_n (pc := 21) (zk11 kX5_alike_0) rfl ?_
      refine z_iload_n (pc := 22) (zk12 kX5_alike_0) rfl ?_
      obtain ⟨ky, hky, rfl⟩ := okR_nI (n := n) (by omega) (by rw [← hn]; exact c_5)
      refine z_rdV (pc := 23) (zk13 kX5_alike_0) (st := [.int (knownF σ kx)]) lkX5_254 ivX5_knownAt hM.1 rfl rfl (c_mknownAt hM hn h12 hm h8 (show ky < n by omega) hto) rfl ⟨rfl, rfl⟩ rfl rfl ?_ rfl
      refine z_icmp_ne (pc := 26) (zk14 kX5_alike_0) (tgt := 33) (by decide) (fun c_9 => ?_) (fun c_9 => ?_)
      · refine z_iconst (pc := 33) (zk1 kX5_alike_1) (v := 0) (by decide) ?_
        refine z_goto (pc := 34) (zk2 kX5_alike_1) (tgt := 43) (by decide) ?_
        exact z_iret (pc := 43) (zk6 kX5_alike_1) rfl (Nat.zero_le _) (Nat.zero_le _) (by
                    rw [show sp_alike σ τ ε (nI kx) (nI ky) = (0, σ, τ, ε) from by simp [sp_alike, sBad, okS, okH, okL, okT, okB, sRd, up2_id, up2_id2, oI, oI, c_1, c_5, c_9, ix_nI (show kx ≤ 1000 by omega), ix_nI (show ky ≤ 1000 by omega)]]
                    exact ⟨_, _, rfl, hM, hU, rfl⟩)
      · refine z_iconst (pc := 29) (zk15 kX5_alike_0) (v := 1) (by decide) ?_
        refine z_goto (pc := 30) (zk0 kX5_alike_1) (tgt := 43) (by decide) ?_
        exact z_iret (pc := 43) (zk6 kX5_alike_1) rfl (Nat.zero_le _) (Nat.zero_le _) (by
                    rw [show sp_alike σ τ ε (nI kx) (nI ky) = (1, σ, τ, ε) from by simp [sp_alike, sBad, okS, okH, okL, okT, okB, sRd, up2_id, up2_id2, oI, oI, c_1, c_5, c_9, ix_nI (show kx ≤ 1000 by omega), ix_nI (show ky ≤ 1000 by omega)]]
                    exact ⟨_, _, rfl, hM, hU, rfl⟩)
set_option maxRecDepth 20000 in
theorem cP_lacks {D : zD} {B : Nat} {h : zH} {sz : Nat} {p : Nat} {σ τ ω : Ln} {ε : El} {mv : Nat → Int64} {kp tr : Option Nat} {x : Int32} {y : Int32} {n m : Nat} (hM : MoAt h p σ τ ω ε mv kp tr) (hB : B ≤ p) (hn : σ 0 0 = nI n) (h12 : n ≤ 12) (hm : σ 9 0 = nI m) (h8 : m ≤ 8) (hto : ∀ l, l < m → ToOk σ l) : zM D B xX5_lacks [.ref p, .int x, .int y] h sz (mQ h p sz kp tr (sp_lacks σ τ ε x y)) := by
  have hU : Upd h h p 29 := Upd.rf
  refine zM.of (by decide) rfl (n := 1) ?_
  show Z D B xX5_lacks 0 0 _ 0 [some (.ref p), some (.int x), some (.int y), none] [] h sz
  refine z_aload_n (pc := 0) (zk0 kX5_lacks_0) rfl ?_
  refine z_iload_n (pc := 1) (zk1 kX5_lacks_0) rfl ?_
  refine z_iload_n (pc := 2) (zk2 kX5_lacks_0) rfl ?_
  refine z_rdV (pc := 3) (zk3 kX5_lacks_0) (st := []) lkX5_248 ivX5_areBoth hM.1 rfl rfl (c_areBoth hM) rfl ⟨rfl, rfl⟩ rfl rfl ?_ rfl
  refine z_oif_ne (pc := 6) (zk4 kX5_lacks_0) (tgt := 16) (by decide) (fun c_1 => ?_) (fun c_1 => ?_)
  · obtain ⟨c_2, c_3⟩ := Bool.and_eq_true_iff.mp c_1
    refine z_aload_n (pc := 16) (zk9 kX5_lacks_0) rfl ?_
    refine z_getf (pc := 17) (zk10 kX5_lacks_0) flX5_62 hM.1 gMo_21 ?_
    refine z_iload_n (pc := 20) (zk11 kX5_lacks_0) rfl ?_
    obtain ⟨kx, hkx, rfl⟩ := okR_nI (n := m) (by omega) (by rw [← hm]; exact c_2)
    refine z_ialdN (pc := 21) (zk12 kX5_lacks_0) (f := σ 13) (j := kx) hM.2.2.2.2.2.2.2.2.2.2.2.2.2.2.2.2.2.1 (show kx < 8 by omega) rfl ?_
    refine z_iconst (pc := 22) (zk13 kX5_lacks_0) (v := 2) (by decide) ?_
    refine z_aload_n (pc := 23) (zk14 kX5_lacks_0) rfl ?_
    refine z_iload_n (pc := 24) (zk15 kX5_lacks_0) rfl ?_
    refine z_iload_n (pc := 25) (zk0 kX5_lacks_1) rfl ?_
    obtain ⟨ky, hky, rfl⟩ := okR_nI (n := n) (by omega) (by rw [← hn]; exact c_3)
    refine z_rdV (pc := 26) (zk1 kX5_lacks_1) (st := [.int 2, .int (σ 13 kx)]) lkX5_115 ivX5_heardAt hM.1 rfl rfl (c_mheardAt hM hn h12 (show kx < 8 by omega) (show ky < n by omega) (hto _ (by omega))) rfl ⟨rfl, rfl⟩ rfl rfl ?_ rfl
    refine z_imul (pc := 29) (zk2 kX5_lacks_1) ?_
    refine z_isub (pc := 30) (zk3 kX5_lacks_1) ?_
    refine z_istore_n (pc := 31) (zk4 kX5_lacks_1) rfl rfl ?_
    show Z D B xX5_lacks _ _ _ 32 [some (.ref p), some (.int (nI kx)), some (.int (nI ky)), some (.int ((σ 13 kx) - (2 * (heardF σ kx ky))))] _ _ _
    refine z_iload_n (pc := 32) (zk5 kX5_lacks_1) rfl ?_
    refine z_if_gt (pc := 33) (zk6 kX5_lacks_1) (tgt := 40) (by decide) (fun c_4 => ?_) (fun c_4 => ?_)
    · refine z_iload_n (pc := 40) (zk9 kX5_lacks_1) rfl ?_
      refine z_iconst (pc := 41) (zk10 kX5_lacks_1) (v := 1) (by decide) ?_
      refine z_iadd (pc := 42) (zk11 kX5_lacks_1) ?_
      refine z_iconst (pc := 43) (zk12 kX5_lacks_1) (v := 2) (by decide) ?_
      refine z_idiv (pc := 44) (zk13 kX5_lacks_1) (by decide) ?_
      exact z_iret (pc := 45) (zk14 kX5_lacks_1) rfl (Nat.zero_le _) (Nat.zero_le _) (by
                rw [show sp_lacks σ τ ε (nI kx) (nI ky) = ((((σ 13 kx) - (2 * (heardF σ kx ky))) + 1) / 2, σ, τ, ε) from by simp [sp_lacks, sBad, okS, okH, okL, okT, okB, sRd, up2_id, up2_id2, oI, lackF, c_1, c_2, c_3, c_4, Int32.not_le.mpr c_4, ix_nI (show kx ≤ 1000 by omega), ix_nI (show ky ≤ 1000 by omega)]]
                exact ⟨_, _, rfl, hM, hU, rfl⟩)
    · refine z_iconst (pc := 36) (zk7 kX5_lacks_1) (v := 0) (by decide) ?_
      refine z_goto (pc := 37) (zk8 kX5_lacks_1) (tgt := 45) (by decide) ?_
      exact z_iret (pc := 45) (zk14 kX5_lacks_1) rfl (Nat.zero_le _) (Nat.zero_le _) (by
                rw [show sp_lacks σ τ ε (nI kx) (nI ky) = (0, σ, τ, ε) from by simp [sp_lacks, sBad, okS, okH, okL, okT, okB, sRd, up2_id, up2_id2, oI, lackF, c_1, c_2, c_3, c_4, Int32.not_lt.mp c_4, ix_nI (show kx ≤ 1000 by omega), ix_nI (show ky ≤ 1000 by omega)]]
                exact ⟨_, _, rfl, hM, hU, rfl⟩)
  · refine z_aload_n (pc := 9) (zk5 kX5_lacks_0) rfl ?_
    refine z_bipush (pc := 10) (zk6 kX5_lacks_0) (v := (-2)) (by decide) ?_
    refine z_efV (pc := 12) (zk7 kX5_lacks_0) (st := []) lkX5_94 ivX5_refuse hM.1 rfl rfl (c_refuse hM (by omega) (j := 2) (by decide) (by decide)) rfl ⟨rfl, rfl⟩ rfl rfl (fun r_ h_6 z_ q_5 => ?_) rfl
    obtain ⟨er_, hR, hU_7, ez_⟩ := q_5
    rw [er_, ez_]
    clear er_ ez_
    replace hU := hU.tr hU_7 (by omega) (by omega)
    replace hM := hR; clear hR
    show Z D B xX5_lacks _ _ _ 15 _ [.int (-2)] _ _
    exact z_iret (pc := 15) (zk8 kX5_lacks_0) rfl (Nat.zero_le _) (Nat.zero_le _) (by
            rw [show sp_lacks σ τ ε x y = ((-2), σ, rfN τ 2, ε) from by simp [sp_lacks, sBad, okS, okH, okL, okT, okB, sRd, up2_id, up2_id2, oI, lackF, c_1]]
            exact ⟨_, _, rfl, hM, hU, rfl⟩)
set_option maxRecDepth 20000 in
theorem cP_houses {D : zD} {B : Nat} {h : zH} {sz : Nat} {p : Nat} {σ τ ω : Ln} {ε : El} {mv : Nat → Int64} {kp tr : Option Nat} {x : Int32}  (hM : MoAt h p σ τ ω ε mv kp tr) (hB : B ≤ p)  : zM D B xX5_houses [.ref p, .int x] h sz (mQ h p sz kp tr (sp_houses σ τ ε x)) := by
  have hU : Upd h h p 29 := Upd.rf
  refine zM.of (by decide) rfl (n := 1) ?_
  show Z D B xX5_houses 0 0 _ 0 [some (.ref p), some (.int x), none] [] h sz
  refine z_iload_n (pc := 0) (zk0 kX5_houses_0) rfl ?_
  refine z_i2l (pc := 1) (zk1 kX5_houses_0) ?_
  refine z_aload_n (pc := 2) (zk2 kX5_houses_0) rfl ?_
  refine z_getf (pc := 3) (zk3 kX5_houses_0) flX5_37 hM.1 (v := .int (σ 0 0)) rfl ?_
  refine z_i2l (pc := 6) (zk4 kX5_houses_0) ?_
  refine z_ldc2 (pc := 7) (zk5 kX5_houses_0) klX5_119 ?_
  refine z_rdS (pc := 10) (zk6 kX5_houses_0) (st := []) lkX5_81 isX5_in (c_inI (x := x) (a := σ 0 0) (b := 12) rfl (by decide)) rfl ⟨rfl, rfl⟩ rfl rfl ?_ rfl
  refine z_oif_ne (pc := 13) (zk7 kX5_houses_0) (tgt := 23) (by decide) (fun c_1 => ?_) (fun c_1 => ?_)
  · refine z_aload_n (pc := 23) (zk12 kX5_houses_0) rfl ?_
    refine z_getf (pc := 24) (zk13 kX5_houses_0) flX5_37 hM.1 (v := .int (σ 0 0)) rfl ?_
    refine z_istore_n (pc := 27) (zk14 kX5_houses_0) rfl rfl ?_
    show Z D B xX5_houses _ _ _ 28 [some (.ref p), some (.int x), some (.int (σ 0 0))] _ _ _
    refine z_aload_n (pc := 28) (zk15 kX5_houses_0) rfl ?_
    refine z_iload_n (pc := 29) (zk0 kX5_houses_1) rfl ?_
    refine z_Mo_w9 (pc := 30) (zk1 kX5_houses_1) flX5_37 hM (by omega) (fun h_2 hR hU_3 => ?_)
    replace hU := hU.tr hU_3 (by omega) (by omega)
    replace hM := hR; clear hR
    refine z_iload_n (pc := 33) (zk2 kX5_houses_1) rfl ?_
    exact z_iret (pc := 34) (zk3 kX5_houses_1) rfl (Nat.zero_le _) (Nat.zero_le _) (by
            rw [show sp_houses σ τ ε x = (σ 0 0, (up2 σ 0 0 x), τ, ε) from by simp [sp_houses, sBad, okS, okH, okL, okT, okB, sRd, up2_id, up2_id2, oI, c_1]]
            exact ⟨_, _, rfl, hM, hU, rfl⟩)
  · refine z_aload_n (pc := 16) (zk8 kX5_houses_0) rfl ?_
    refine z_bipush (pc := 17) (zk9 kX5_houses_0) (v := (-2)) (by decide) ?_
    refine z_efV (pc := 19) (zk10 kX5_houses_0) (st := []) lkX5_94 ivX5_refuse hM.1 rfl rfl (c_refuse hM (by omega) (j := 2) (by decide) (by decide)) rfl ⟨rfl, rfl⟩ rfl rfl (fun r_ h_5 z_ q_4 => ?_) rfl
    obtain ⟨er_, hR, hU_6, ez_⟩ := q_4
    rw [er_, ez_]
    clear er_ ez_
    replace hU := hU.tr hU_6 (by omega) (by omega)
    replace hM := hR; clear hR
    show Z D B xX5_houses _ _ _ 22 _ [.int (-2)] _ _
    exact z_iret (pc := 22) (zk11 kX5_houses_0) rfl (Nat.zero_le _) (Nat.zero_le _) (by
            rw [show sp_houses σ τ ε x = ((-2), σ, rfN τ 2, ε) from by simp [sp_houses, sBad, okS, okH, okL, okT, okB, sRd, up2_id, up2_id2, oI, c_1]]
            exact ⟨_, _, rfl, hM, hU, rfl⟩)
set_option maxRecDepth 20000 in
theorem cP_seed {D : zD} {B : Nat} {h : zH} {sz : Nat} {p : Nat} {σ τ ω : Ln} {ε : El} {mv : Nat → Int64} {kp tr : Option Nat} {x : Int32}  (hM : MoAt h p σ τ ω ε mv kp tr) (hB : B ≤ p)  : zM D B xX5_seed [.ref p, .int x] h sz (mQ h p sz kp tr (sp_seed σ τ ε x)) := by
  have hU : Upd h h p 29 := Upd.rf
  refine zM.of (by decide) rfl (n := 1) ?_
  show Z D B xX5_seed 0 0 _ 0 [some (.ref p), some (.int x), none] [] h sz
  refine z_aload_n (pc := 0) (zk0 kX5_seed_0) rfl ?_
  refine z_getf (pc := 1) (zk1 kX5_seed_0) flX5_65 hM.1 (v := .int (σ 8 0)) rfl ?_
  refine z_istore_n (pc := 4) (zk2 kX5_seed_0) rfl rfl ?_
  show Z D B xX5_seed _ _ _ 5 [some (.ref p), some (.int x), some (.int (σ 8 0))] _ _ _
  refine z_aload_n (pc := 5) (zk3 kX5_seed_0) rfl ?_
  refine z_iload_n (pc := 6) (zk4 kX5_seed_0) rfl ?_
  refine z_Mo_w22 (pc := 7) (zk5 kX5_seed_0) flX5_65 hM (by omega) (fun h_1 hR hU_2 => ?_)
  replace hU := hU.tr hU_2 (by omega) (by omega)
  replace hM := hR; clear hR
  refine z_iload_n (pc := 10) (zk6 kX5_seed_0) rfl ?_
  exact z_iret (pc := 11) (zk7 kX5_seed_0) rfl (Nat.zero_le _) (Nat.zero_le _) (by
        rw [show sp_seed σ τ ε x = (σ 8 0, (up2 σ 8 0 x), τ, ε) from by simp [sp_seed, sBad, okS, okH, okL, okT, okB, sRd, up2_id, up2_id2, oI]]
        exact ⟨_, _, rfl, hM, hU, rfl⟩)
set_option maxRecDepth 20000 in
theorem cP_letterOf {D : zD} {B : Nat} {h : zH} {sz : Nat} {p : Nat} {σ τ ω : Ln} {ε : El} {mv : Nat → Int64} {kp tr : Option Nat} {x : Int32} {y : Int32} {n m : Nat} (hM : MoAt h p σ τ ω ε mv kp tr) (hB : B ≤ p) (hn : σ 0 0 = nI n) (h12 : n ≤ 12) (hm : σ 9 0 = nI m) (h8 : m ≤ 8) (hto : ∀ l, l < m → ToOk σ l) : zM D B xX5_letterOf [.ref p, .int x, .int y] h sz (mQ h p sz kp tr (sp_letterOf σ τ ε x y)) := by
  have hU : Upd h h p 29 := Upd.rf
  refine zM.of (by decide) rfl (n := 0) ?_
  show Z D B xX5_letterOf 0 0 _ 0 [some (.ref p), some (.int x), some (.int y)] [] h sz
  refine z_aload_n (pc := 0) (zk0 kX5_letterOf_0) rfl ?_
  refine z_iload_n (pc := 1) (zk1 kX5_letterOf_0) rfl ?_
  refine z_i2l (pc := 2) (zk2 kX5_letterOf_0) ?_
  refine z_rdV (pc := 3) (zk3 kX5_letterOf_0) (st := []) lkX5_105 ivX5_isLetter hM.1 rfl rfl (c_isLetter hM) rfl ⟨rfl, rfl⟩ rfl rfl ?_ rfl
  refine z_oif_eq (pc := 6) (zk4 kX5_letterOf_0) (tgt := 21) (by decide) (fun c_1 => ?_) (fun c_1 => ?_)
  · refine z_aload_n (pc := 21) (zk11 kX5_letterOf_0) rfl ?_
    refine z_bipush (pc := 22) (zk12 kX5_letterOf_0) (v := (-2)) (by decide) ?_
    refine z_efV (pc := 24) (zk13 kX5_letterOf_0) (st := []) lkX5_94 ivX5_refuse hM.1 rfl rfl (c_refuse hM (by omega) (j := 2) (by decide) (by decide)) rfl ⟨rfl, rfl⟩ rfl rfl (fun r_ h_3 z_ q_2 => ?_) rfl
    obtain ⟨er_, hR, hU_4, ez_⟩ := q_2
    rw [er_, ez_]
    clear er_ ez_
    replace hU := hU.tr hU_4 (by omega) (by omega)
    replace hM := hR; clear hR
    show Z D B xX5_letterOf _ _ _ 27 _ [.int (-2)] _ _
    exact z_iret (pc := 27) (zk14 kX5_letterOf_0) rfl (Nat.zero_le _) (Nat.zero_le _) (by
            rw [show sp_letterOf σ τ ε x y = ((-2), σ, rfN τ 2, ε) from by simp [sp_letterOf, sBad, okS, okH, okL, okT, okB, sRd, up2_id, up2_id2, oI, c_1]]
            exact ⟨_, _, rfl, hM, hU, rfl⟩)
  · refine z_iload_n (pc := 9) (zk5 kX5_letterOf_0) rfl ?_
    refine z_i2l (pc := 10) (zk6 kX5_letterOf_0) ?_
    refine z_lconst (pc := 11) (zk7 kX5_letterOf_0) (v := 0) (by decide) ?_
    refine z_ldc2 (pc := 12) (zk8 kX5_letterOf_0) klX5_231 ?_
    refine z_rdS (pc := 15) (zk9 kX5_letterOf_0) (st := []) lkX5_81 isX5_in (c_inI (x := y) (a := 0) (b := 3) (by decide) (by decide)) rfl ⟨rfl, rfl⟩ rfl rfl ?_ rfl
    refine z_oif_ne (pc := 18) (zk10 kX5_letterOf_0) (tgt := 28) (by decide) (fun c_5 => ?_) (fun c_5 => ?_)
    · refine z_iload_n (pc := 28) (zk15 kX5_letterOf_0) rfl ?_
      rcases okR_03 c_5 with rfl | rfl | rfl | rfl
      · refine z_if_ne (pc := 29) (zk0 kX5_letterOf_1) (tgt := 41) (by decide) (fun q => absurd (by decide) q) (fun _ => ?_)
        refine z_aload_n (pc := 32) (zk1 kX5_letterOf_1) rfl ?_
        refine z_getf (pc := 33) (zk2 kX5_letterOf_1) flX5_53 hM.1 gMo_18 ?_
        refine z_iload_n (pc := 36) (zk3 kX5_letterOf_1) rfl ?_
        obtain ⟨kx, hkx, rfl⟩ := okR_nI (n := m) (by omega) (by rw [← hm]; exact c_1)
        refine z_ialdN (pc := 37) (zk4 kX5_letterOf_1) (f := σ 10) (j := kx) hM.2.2.2.2.2.2.2.2.2.2.2.2.2.2.1 (show kx < 8 by omega) rfl ?_
        refine z_goto (pc := 38) (zk5 kX5_letterOf_1) (tgt := 75) (by decide) ?_
        exact z_iret (pc := 75) (zk10 kX5_letterOf_2) rfl (Nat.zero_le _) (Nat.zero_le _) (by
                    rw [show sp_letterOf σ τ ε (nI kx) 0 = (σ 10 kx, σ, τ, ε) from by simp [sp_letterOf, sBad, okS, okH, okL, okT, okB, sRd, up2_id, up2_id2, oI, c_1, c_5, ix_nI (show kx ≤ 1000 by omega)]]
                    exact ⟨_, _, rfl, hM, hU, rfl⟩)
      · refine z_if_ne (pc := 29) (zk0 kX5_letterOf_1) (tgt := 41) (by decide) (fun _ => ?_) (fun q => absurd q (by decide))
        refine z_iload_n (pc := 41) (zk6 kX5_letterOf_1) rfl ?_
        refine z_iconst (pc := 42) (zk7 kX5_letterOf_1) (v := 1) (by decide) ?_
        refine z_icmp_ne (pc := 43) (zk8 kX5_letterOf_1) (tgt := 55) (by decide) (fun q => absurd (by decide) q) (fun _ => ?_)
        refine z_aload_n (pc := 46) (zk9 kX5_letterOf_1) rfl ?_
        refine z_getf (pc := 47) (zk10 kX5_letterOf_1) flX5_56 hM.1 gMo_19 ?_
        refine z_iload_n (pc := 50) (zk11 kX5_letterOf_1) rfl ?_
        obtain ⟨kx, hkx, rfl⟩ := okR_nI (n := m) (by omega) (by rw [← hm]; exact c_1)
        refine z_ialdN (pc := 51) (zk12 kX5_letterOf_1) (f := σ 11) (j := kx) hM.2.2.2.2.2.2.2.2.2.2.2.2.2.2.2.1 (show kx < 8 by omega) rfl ?_
        refine z_goto (pc := 52) (zk13 kX5_letterOf_1) (tgt := 75) (by decide) ?_
        exact z_iret (pc := 75) (zk10 kX5_letterOf_2) rfl (Nat.zero_le _) (Nat.zero_le _) (by
                    rw [show sp_letterOf σ τ ε (nI kx) 1 = (σ 11 kx, σ, τ, ε) from by simp [sp_letterOf, sBad, okS, okH, okL, okT, okB, sRd, up2_id, up2_id2, oI, c_1, c_5, ix_nI (show kx ≤ 1000 by omega)]]
                    exact ⟨_, _, rfl, hM, hU, rfl⟩)
      · refine z_if_ne (pc := 29) (zk0 kX5_letterOf_1) (tgt := 41) (by decide) (fun _ => ?_) (fun q => absurd q (by decide))
        refine z_iload_n (pc := 41) (zk6 kX5_letterOf_1) rfl ?_
        refine z_iconst (pc := 42) (zk7 kX5_letterOf_1) (v := 1) (by decide) ?_
        refine z_icmp_ne (pc := 43) (zk8 kX5_letterOf_1) (tgt := 55) (by decide) (fun _ => ?_) (fun q => absurd q (by decide))
        refine z_iload_n (pc := 55) (zk14 kX5_letterOf_1) rfl ?_
        refine z_iconst (pc := 56) (zk15 kX5_letterOf_1) (v := 2) (by decide) ?_
        refine z_icmp_ne (pc := 57) (zk0 kX5_letterOf_2) (tgt := 69) (by decide) (fun q => absurd (by decide) q) (fun _ => ?_)
        refine z_aload_n (pc := 60) (zk1 kX5_letterOf_2) rfl ?_
        refine z_getf (pc := 61) (zk2 kX5_letterOf_2) flX5_59 hM.1 gMo_20 ?_
        refine z_iload_n (pc := 64) (zk3 kX5_letterOf_2) rfl ?_
        obtain ⟨kx, hkx, rfl⟩ := okR_nI (n := m) (by omega) (by rw [← hm]; exact c_1)
        refine z_ialdN (pc := 65) (zk4 kX5_letterOf_2) (f := σ 12) (j := kx) hM.2.2.2.2.2.2.2.2.2.2.2.2.2.2.2.2.1 (show kx < 8 by omega) rfl ?_
        refine z_goto (pc := 66) (zk5 kX5_letterOf_2) (tgt := 75) (by decide) ?_
        exact z_iret (pc := 75) (zk10 kX5_letterOf_2) rfl (Nat.zero_le _) (Nat.zero_le _) (by
                    rw [show sp_letterOf σ τ ε (nI kx) 2 = (σ 12 kx, σ, τ, ε) from by simp [sp_letterOf, sBad, okS, okH, okL, okT, okB, sRd, up2_id, up2_id2, oI, c_1, c_5, ix_nI (show kx ≤ 1000 by omega)]]
                    exact ⟨_, _, rfl, hM, hU, rfl⟩)
      · refine z_if_ne (pc := 29) (zk0 kX5_letterOf_1) (tgt := 41) (by decide) (fun _ => ?_) (fun q => absurd q (by decide))
        refine z_iload_n (pc := 41) (zk6 kX5_letterOf_1) rfl ?_
        refine z_iconst (pc := 42) (zk7 kX5_letterOf_1) (v := 1) (by decide) ?_
        refine z_icmp_ne (pc := 43) (zk8 kX5_letterOf_1) (tgt := 55) (by decide) (fun _ => ?_) (fun q => absurd q (by decide))
        refine z_iload_n (pc := 55) (zk14 kX5_letterOf_1) rfl ?_
        refine z_iconst (pc := 56) (zk15 kX5_letterOf_1) (v := 2) (by decide) ?_
        refine z_icmp_ne (pc := 57) (zk0 kX5_letterOf_2) (tgt := 69) (by decide) (fun _ => ?_) (fun q => absurd q (by decide))
        refine z_aload_n (pc := 69) (zk6 kX5_letterOf_2) rfl ?_
        refine z_getf (pc := 70) (zk7 kX5_letterOf_2) flX5_62 hM.1 gMo_21 ?_
        refine z_iload_n (pc := 73) (zk8 kX5_letterOf_2) rfl ?_
        obtain ⟨kx, hkx, rfl⟩ := okR_nI (n := m) (by omega) (by rw [← hm]; exact c_1)
        refine z_ialdN (pc := 74) (zk9 kX5_letterOf_2) (f := σ 13) (j := kx) hM.2.2.2.2.2.2.2.2.2.2.2.2.2.2.2.2.2.1 (show kx < 8 by omega) rfl ?_
        exact z_iret (pc := 75) (zk10 kX5_letterOf_2) rfl (Nat.zero_le _) (Nat.zero_le _) (by
                    rw [show sp_letterOf σ τ ε (nI kx) 3 = (σ 13 kx, σ, τ, ε) from by simp [sp_letterOf, sBad, okS, okH, okL, okT, okB, sRd, up2_id, up2_id2, oI, c_1, c_5, ix_nI (show kx ≤ 1000 by omega)]]
                    exact ⟨_, _, rfl, hM, hU, rfl⟩)
    · refine z_aload_n (pc := 21) (zk11 kX5_letterOf_0) rfl ?_
      refine z_bipush (pc := 22) (zk12 kX5_letterOf_0) (v := (-2)) (by decide) ?_
      refine z_efV (pc := 24) (zk13 kX5_letterOf_0) (st := []) lkX5_94 ivX5_refuse hM.1 rfl rfl (c_refuse hM (by omega) (j := 2) (by decide) (by decide)) rfl ⟨rfl, rfl⟩ rfl rfl (fun r_ h_7 z_ q_6 => ?_) rfl
      obtain ⟨er_, hR, hU_8, ez_⟩ := q_6
      rw [er_, ez_]
      clear er_ ez_
      replace hU := hU.tr hU_8 (by omega) (by omega)
      replace hM := hR; clear hR
      show Z D B xX5_letterOf _ _ _ 27 _ [.int (-2)] _ _
      exact z_iret (pc := 27) (zk14 kX5_letterOf_0) rfl (Nat.zero_le _) (Nat.zero_le _) (by
                rw [show sp_letterOf σ τ ε x y = ((-2), σ, rfN τ 2, ε) from by simp [sp_letterOf, sBad, okS, okH, okL, okT, okB, sRd, up2_id, up2_id2, oI, c_1, c_5]]
                exact ⟨_, _, rfl, hM, hU, rfl⟩)
set_option maxRecDepth 20000 in
theorem cP_houseOf {D : zD} {B : Nat} {h : zH} {sz : Nat} {p : Nat} {σ τ ω : Ln} {ε : El} {mv : Nat → Int64} {kp tr : Option Nat} {x : Int32} {y : Int32} {n m : Nat} (hM : MoAt h p σ τ ω ε mv kp tr) (hB : B ≤ p) (hn : σ 0 0 = nI n) (h12 : n ≤ 12) (hm : σ 9 0 = nI m) (h8 : m ≤ 8) (hto : ∀ l, l < m → ToOk σ l) : zM D B xX5_houseOf [.ref p, .int x, .int y] h sz (mQ h p sz kp tr (sp_houseOf σ τ ε x y)) := by
  have hU : Upd h h p 29 := Upd.rf
  refine zM.of (by decide) rfl (n := 0) ?_
  show Z D B xX5_houseOf 0 0 _ 0 [some (.ref p), some (.int x), some (.int y)] [] h sz
  refine z_aload_n (pc := 0) (zk0 kX5_houseOf_0) rfl ?_
  refine z_iload_n (pc := 1) (zk1 kX5_houseOf_0) rfl ?_
  refine z_rdV (pc := 2) (zk2 kX5_houseOf_0) (st := []) lkX5_123 ivX5_isHouse hM.1 rfl rfl (c_isHouse hM) rfl ⟨rfl, rfl⟩ rfl rfl ?_ rfl
  refine z_oif_eq (pc := 5) (zk3 kX5_houseOf_0) (tgt := 20) (by decide) (fun c_1 => ?_) (fun c_1 => ?_)
  · refine z_aload_n (pc := 20) (zk10 kX5_houseOf_0) rfl ?_
    refine z_bipush (pc := 21) (zk11 kX5_houseOf_0) (v := (-2)) (by decide) ?_
    refine z_efV (pc := 23) (zk12 kX5_houseOf_0) (st := []) lkX5_94 ivX5_refuse hM.1 rfl rfl (c_refuse hM (by omega) (j := 2) (by decide) (by decide)) rfl ⟨rfl, rfl⟩ rfl rfl (fun r_ h_3 z_ q_2 => ?_) rfl
    obtain ⟨er_, hR, hU_4, ez_⟩ := q_2
    rw [er_, ez_]
    clear er_ ez_
    replace hU := hU.tr hU_4 (by omega) (by omega)
    replace hM := hR; clear hR
    show Z D B xX5_houseOf _ _ _ 26 _ [.int (-2)] _ _
    exact z_iret (pc := 26) (zk13 kX5_houseOf_0) rfl (Nat.zero_le _) (Nat.zero_le _) (by
            rw [show sp_houseOf σ τ ε x y = ((-2), σ, rfN τ 2, ε) from by simp [sp_houseOf, sBad, okS, okH, okL, okT, okB, sRd, up2_id, up2_id2, oI, c_1]]
            exact ⟨_, _, rfl, hM, hU, rfl⟩)
  · refine z_iload_n (pc := 8) (zk4 kX5_houseOf_0) rfl ?_
    refine z_i2l (pc := 9) (zk5 kX5_houseOf_0) ?_
    refine z_lconst (pc := 10) (zk6 kX5_houseOf_0) (v := 0) (by decide) ?_
    refine z_ldc2 (pc := 11) (zk7 kX5_houseOf_0) klX5_109 ?_
    refine z_rdS (pc := 14) (zk8 kX5_houseOf_0) (st := []) lkX5_81 isX5_in (c_inI (x := y) (a := 0) (b := 5) (by decide) (by decide)) rfl ⟨rfl, rfl⟩ rfl rfl ?_ rfl
    refine z_oif_ne (pc := 17) (zk9 kX5_houseOf_0) (tgt := 27) (by decide) (fun c_5 => ?_) (fun c_5 => ?_)
    · refine z_iload_n (pc := 27) (zk14 kX5_houseOf_0) rfl ?_
      by_cases c_6 : y = 0
      · refine z_tableIn (pc := 28) (zk15 kX5_houseOf_0) (off := 36) (tgt := 64) (by rw [c_6]; decide) (by rw [c_6]; decide) (by rw [c_6]; rfl) (by decide) ?_
        subst c_6
        refine z_aload_n (pc := 64) (zk0 kX5_houseOf_1) rfl ?_
        refine z_getf (pc := 65) (zk1 kX5_houseOf_1) flX5_41 hM.1 gMo_10 ?_
        refine z_iload_n (pc := 68) (zk2 kX5_houseOf_1) rfl ?_
        obtain ⟨kx, hkx, rfl⟩ := okR_nI (n := n) (by omega) (by rw [← hn]; exact c_1)
        refine z_ialdN (pc := 69) (zk3 kX5_houseOf_1) (f := σ 1) (j := kx) hM.2.2.2.2.2.2.2.2.2.2.1 (show kx < 12 by omega) rfl ?_
        exact z_iret (pc := 70) (zk4 kX5_houseOf_1) rfl (Nat.zero_le _) (Nat.zero_le _) (by
                    rw [show sp_houseOf σ τ ε (nI kx) 0 = (σ 1 kx, σ, τ, ε) from by simp [sp_houseOf, sBad, okS, okH, okL, okT, okB, sRd, up2_id, up2_id2, oI, c_1, c_5, ix_nI (show kx ≤ 1000 by omega)]]
                    exact ⟨_, _, rfl, hM, hU, rfl⟩)
      by_cases c_7 : y = 1
      · refine z_tableIn (pc := 28) (zk15 kX5_houseOf_0) (off := 43) (tgt := 71) (by rw [c_7]; decide) (by rw [c_7]; decide) (by rw [c_7]; rfl) (by decide) ?_
        subst c_7
        refine z_aload_n (pc := 71) (zk5 kX5_houseOf_1) rfl ?_
        refine z_getf (pc := 72) (zk6 kX5_houseOf_1) flX5_44 hM.1 gMo_11 ?_
        refine z_iload_n (pc := 75) (zk7 kX5_houseOf_1) rfl ?_
        obtain ⟨kx, hkx, rfl⟩ := okR_nI (n := n) (by omega) (by rw [← hn]; exact c_1)
        refine z_ialdN (pc := 76) (zk8 kX5_houseOf_1) (f := σ 2) (j := kx) hM.2.2.2.2.2.2.2.2.2.2.2.1 (show kx < 12 by omega) rfl ?_
        exact z_iret (pc := 77) (zk9 kX5_houseOf_1) rfl (Nat.zero_le _) (Nat.zero_le _) (by
                    rw [show sp_houseOf σ τ ε (nI kx) 1 = (σ 2 kx, σ, τ, ε) from by simp [sp_houseOf, sBad, okS, okH, okL, okT, okB, sRd, up2_id, up2_id2, oI, c_1, c_5, c_6, ix_nI (show kx ≤ 1000 by omega)]]
                    exact ⟨_, _, rfl, hM, hU, rfl⟩)
      by_cases c_8 : y = 2
      · refine z_tableIn (pc := 28) (zk15 kX5_houseOf_0) (off := 50) (tgt := 78) (by rw [c_8]; decide) (by rw [c_8]; decide) (by rw [c_8]; rfl) (by decide) ?_
        subst c_8
        refine z_aload_n (pc := 78) (zk10 kX5_houseOf_1) rfl ?_
        refine z_getf (pc := 79) (zk11 kX5_houseOf_1) flX5_47 hM.1 gMo_12 ?_
        refine z_iload_n (pc := 82) (zk12 kX5_houseOf_1) rfl ?_
        obtain ⟨kx, hkx, rfl⟩ := okR_nI (n := n) (by omega) (by rw [← hn]; exact c_1)
        refine z_ialdN (pc := 83) (zk13 kX5_houseOf_1) (f := σ 3) (j := kx) hM.2.2.2.2.2.2.2.2.2.2.2.2.1 (show kx < 12 by omega) rfl ?_
        exact z_iret (pc := 84) (zk14 kX5_houseOf_1) rfl (Nat.zero_le _) (Nat.zero_le _) (by
                    rw [show sp_houseOf σ τ ε (nI kx) 2 = (σ 3 kx, σ, τ, ε) from by simp [sp_houseOf, sBad, okS, okH, okL, okT, okB, sRd, up2_id, up2_id2, oI, c_1, c_5, c_6, c_7, ix_nI (show kx ≤ 1000 by omega)]]
                    exact ⟨_, _, rfl, hM, hU, rfl⟩)
      by_cases c_9 : y = 3
      · refine z_tableIn (pc := 28) (zk15 kX5_houseOf_0) (off := 57) (tgt := 85) (by rw [c_9]; decide) (by rw [c_9]; decide) (by rw [c_9]; rfl) (by decide) ?_
        subst c_9
        refine z_aload_n (pc := 85) (zk15 kX5_houseOf_1) rfl ?_
        refine z_getf (pc := 86) (zk0 kX5_houseOf_2) flX5_50 hM.1 gMo_13 ?_
        refine z_iload_n (pc := 89) (zk1 kX5_houseOf_2) rfl ?_
        obtain ⟨kx, hkx, rfl⟩ := okR_nI (n := n) (by omega) (by rw [← hn]; exact c_1)
        refine z_ialdN (pc := 90) (zk2 kX5_houseOf_2) (f := σ 4) (j := kx) hM.2.2.2.2.2.2.2.2.2.2.2.2.2.1 (show kx < 12 by omega) rfl ?_
        exact z_iret (pc := 91) (zk3 kX5_houseOf_2) rfl (Nat.zero_le _) (Nat.zero_le _) (by
                    rw [show sp_houseOf σ τ ε (nI kx) 3 = (σ 4 kx, σ, τ, ε) from by simp [sp_houseOf, sBad, okS, okH, okL, okT, okB, sRd, up2_id, up2_id2, oI, c_1, c_5, c_6, c_7, c_8, ix_nI (show kx ≤ 1000 by omega)]]
                    exact ⟨_, _, rfl, hM, hU, rfl⟩)
      by_cases c_10 : y = 4
      · refine z_tableIn (pc := 28) (zk15 kX5_houseOf_0) (off := 64) (tgt := 92) (by rw [c_10]; decide) (by rw [c_10]; decide) (by rw [c_10]; rfl) (by decide) ?_
        subst c_10
        refine z_aload_n (pc := 92) (zk4 kX5_houseOf_2) rfl ?_
        refine z_iload_n (pc := 93) (zk5 kX5_houseOf_2) rfl ?_
        obtain ⟨kx, hkx, rfl⟩ := okR_nI (n := n) (by omega) (by rw [← hn]; exact c_1)
        refine z_rdV (pc := 94) (zk6 kX5_houseOf_2) (st := []) lkX5_233 ivX5_tipsy hM.1 rfl rfl (c_mtipsy hM hn h12 (show kx < n by omega)) rfl ⟨rfl, rfl⟩ rfl rfl ?_ rfl
        exact z_iret (pc := 97) (zk7 kX5_houseOf_2) rfl (Nat.zero_le _) (Nat.zero_le _) (by
                    rw [show sp_houseOf σ τ ε (nI kx) 4 = (tipsy σ kx, σ, τ, ε) from by simp [sp_houseOf, sBad, okS, okH, okL, okT, okB, sRd, up2_id, up2_id2, oI, c_1, c_5, c_6, c_7, c_8, c_9, ix_nI (show kx ≤ 1000 by omega)]]
                    exact ⟨_, _, rfl, hM, hU, rfl⟩)
      refine z_tableOut (pc := 28) (zk15 kX5_houseOf_0) (tgt := 98) (zOut0_4 c_6 c_7 c_8 c_9 c_10) (by decide) ?_
      refine z_aload_n (pc := 98) (zk8 kX5_houseOf_2) rfl ?_
      refine z_iload_n (pc := 99) (zk9 kX5_houseOf_2) rfl ?_
      obtain ⟨kx, hkx, rfl⟩ := okR_nI (n := n) (by omega) (by rw [← hn]; exact c_1)
      refine z_rdV (pc := 100) (zk10 kX5_houseOf_2) (st := []) lkX5_239 ivX5_leftOut hM.1 rfl rfl (c_mleftOut hM hn h12 (show kx < n by omega)) rfl ⟨rfl, rfl⟩ rfl rfl ?_ rfl
      exact z_iret (pc := 103) (zk11 kX5_houseOf_2) rfl (Nat.zero_le _) (Nat.zero_le _) (by
                rw [show sp_houseOf σ τ ε (nI kx) y = (lout σ (tipsy σ kx), σ, τ, ε) from by simp [sp_houseOf, sBad, okS, okH, okL, okT, okB, sRd, up2_id, up2_id2, oI, c_1, c_5, c_6, c_7, c_8, c_9, c_10, ix_nI (show kx ≤ 1000 by omega)]]
                exact ⟨_, _, rfl, hM, hU, rfl⟩)
    · refine z_aload_n (pc := 20) (zk10 kX5_houseOf_0) rfl ?_
      refine z_bipush (pc := 21) (zk11 kX5_houseOf_0) (v := (-2)) (by decide) ?_
      refine z_efV (pc := 23) (zk12 kX5_houseOf_0) (st := []) lkX5_94 ivX5_refuse hM.1 rfl rfl (c_refuse hM (by omega) (j := 2) (by decide) (by decide)) rfl ⟨rfl, rfl⟩ rfl rfl (fun r_ h_12 z_ q_11 => ?_) rfl
      obtain ⟨er_, hR, hU_13, ez_⟩ := q_11
      rw [er_, ez_]
      clear er_ ez_
      replace hU := hU.tr hU_13 (by omega) (by omega)
      replace hM := hR; clear hR
      show Z D B xX5_houseOf _ _ _ 26 _ [.int (-2)] _ _
      exact z_iret (pc := 26) (zk13 kX5_houseOf_0) rfl (Nat.zero_le _) (Nat.zero_le _) (by
                rw [show sp_houseOf σ τ ε x y = ((-2), σ, rfN τ 2, ε) from by simp [sp_houseOf, sBad, okS, okH, okL, okT, okB, sRd, up2_id, up2_id2, oI, c_1, c_5]]
                exact ⟨_, _, rfl, hM, hU, rfl⟩)
