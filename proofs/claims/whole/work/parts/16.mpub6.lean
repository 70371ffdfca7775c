set_option maxRecDepth 20000 in
theorem cP_fits {D : zD} {B : Nat} {h : zH} {sz : Nat} {p : Nat} {σ τ ω : Ln} {ε : El} {mv : Nat → Int64} {kp tr : Option Nat} {x : Int32} {y : Int32} {z : Int32} {u : Int32} {n m : Nat} (hM : MoAt h p σ τ ω ε mv kp tr) (hB : B ≤ p) (hn : σ 0 0 = nI n) (h12 : n ≤ 12) (hm : σ 9 0 = nI m) (h8 : m ≤ 8) (hto : ∀ l, l < m → ToOk σ l) (hS : SW τ m) : zM D B xX5_fits [.ref p, .int x, .int y, .int z, .int u] h sz (mQ h p sz kp tr (sp_fits σ τ ε x y z u)) := by
  have hU : Upd h h p 29 := Upd.rf
  refine zM.of (by decide) rfl (n := 5) ?_
  show Z D B xX5_fits 0 0 _ 0 [some (.ref p), some (.int x), some (.int y), some (.int z), some (.int u), none, none, none, none, none] [] h sz
  refine z_aload_n (pc := 0) (zk0 kX5_fits_0) rfl ?_
  refine z_iload_n (pc := 1) (zk1 kX5_fits_0) rfl ?_
  refine z_iload_n (pc := 2) (zk2 kX5_fits_0) rfl ?_
  refine z_aload_n (pc := 3) (zk3 kX5_fits_0) rfl ?_
  refine z_getf (pc := 4) (zk4 kX5_fits_0) flX5_37 hM.1 (v := .int (nI n)) (by rw [← hn]; rfl) ?_
  suffices hJ : Z D B xX5_fits 0 0 (mQ h p sz kp tr (sp_fits σ τ ε x y z u)) 32 [some (.ref p), some (.int x), some (.int y), some (.int z), some (.int u), none, none, none, none, none] [.int (oI (okR 0 (σ 9 0 - 1) z && okR 0 1 u)), .int (nI n), .int y, .int x, .ref p] h sz from by
    refine z_aload_n (pc := 7) (zk5 kX5_fits_0) rfl ?_
    refine z_iload_n (pc := 8) (zk6 kX5_fits_0) rfl ?_
    refine z_i2l (pc := 9) (zk7 kX5_fits_0) ?_
    refine z_rdV (pc := 10) (zk8 kX5_fits_0) (st := [.int (nI n), .int y, .int x, .ref p]) lkX5_105 ivX5_isLetter hM.1 rfl rfl (c_isLetter hM) rfl ⟨rfl, rfl⟩ rfl rfl ?_ rfl
    refine z_oif_eq (pc := 13) (zk9 kX5_fits_0) (tgt := 31) (by decide) (fun c_1 => ?_) (fun c_1 => ?_)
    · refine z_iconst (pc := 31) (zk2 kX5_fits_1) (v := 0) (by decide) ?_
      exact z_top (congrArg Value.int (by simp [oI, c_1])) hJ
    · refine z_iload (pc := 16) (zk10 kX5_fits_0) rfl ?_
      refine z_i2l (pc := 18) (zk11 kX5_fits_0) ?_
      refine z_lconst (pc := 19) (zk12 kX5_fits_0) (v := 0) (by decide) ?_
      refine z_lconst (pc := 20) (zk13 kX5_fits_0) (v := 1) (by decide) ?_
      refine z_rdS (pc := 21) (zk14 kX5_fits_0) (st := [.int (nI n), .int y, .int x, .ref p]) lkX5_81 isX5_in (c_inI (x := u) (a := 0) (b := 1) (by decide) (by decide)) rfl ⟨rfl, rfl⟩ rfl rfl ?_ rfl
      refine z_oif_eq (pc := 24) (zk15 kX5_fits_0) (tgt := 31) (by decide) (fun c_2 => ?_) (fun c_2 => ?_)
      · refine z_iconst (pc := 31) (zk2 kX5_fits_1) (v := 0) (by decide) ?_
        exact z_top (congrArg Value.int (by simp [oI, c_1, c_2])) hJ
      · refine z_iconst (pc := 27) (zk0 kX5_fits_1) (v := 1) (by decide) ?_
        refine z_goto (pc := 28) (zk1 kX5_fits_1) (tgt := 32) (by decide) ?_
        exact z_top (congrArg Value.int (by simp [oI, c_1, c_2])) hJ
  refine z_efV (pc := 32) (zk3 kX5_fits_1) (st := []) lkX5_296 ivX5_noSounds hM.1 rfl rfl (c_noSounds hM hB) rfl ⟨rfl, rfl⟩ rfl rfl (fun r_ h_4 z_ q_3 => ?_) rfl
  rcases q_3 with ⟨f0_, er_, hR, hU_5, ez_⟩ | ⟨f0_, er_, hR, hU_5, ez_⟩ | ⟨f0_, er_, hR, hU_5, ez_⟩ | ⟨f0_, er_, hR, hU_5, ez_⟩
  · rw [er_, ez_]
    clear er_ ez_
    replace hU := hU.tr hU_5 (by omega) (by omega)
    replace hM := hR; clear hR
    show Z D B xX5_fits _ _ _ 35 _ [.int (-2)] _ _
    refine z_istore (pc := 35) (zk4 kX5_fits_1) rfl rfl ?_
    show Z D B xX5_fits _ _ _ 37 [some (.ref p), some (.int x), some (.int y), some (.int z), some (.int u), some (.int (-2)), none, none, none, none] _ _ _
    refine z_iload (pc := 37) (zk5 kX5_fits_1) rfl ?_
    refine z_if_eq (pc := 39) (zk6 kX5_fits_1) (tgt := 45) (by decide) (fun q => absurd q (by decide)) (fun _ => ?_)
    refine z_iload (pc := 42) (zk7 kX5_fits_1) rfl ?_
    exact z_iret (pc := 44) (zk8 kX5_fits_1) rfl (Nat.zero_le _) (Nat.zero_le _) (by
            rw [show sp_fits σ τ ε x y z u = ((-2), σ, (rfN τ 2), ε) from by rw [sp_fits, okL, hn, f0_]; rfl]
            exact ⟨_, _, rfl, hM, hU, rfl⟩)
  · rw [er_, ez_]
    clear er_ ez_
    replace hU := hU.tr hU_5 (by omega) (by omega)
    replace hM := hR; clear hR
    show Z D B xX5_fits _ _ _ 35 _ [.int (-3)] _ _
    refine z_istore (pc := 35) (zk4 kX5_fits_1) rfl rfl ?_
    show Z D B xX5_fits _ _ _ 37 [some (.ref p), some (.int x), some (.int y), some (.int z), some (.int u), some (.int (-3)), none, none, none, none] _ _ _
    refine z_iload (pc := 37) (zk5 kX5_fits_1) rfl ?_
    refine z_if_eq (pc := 39) (zk6 kX5_fits_1) (tgt := 45) (by decide) (fun q => absurd q (by decide)) (fun _ => ?_)
    refine z_iload (pc := 42) (zk7 kX5_fits_1) rfl ?_
    exact z_iret (pc := 44) (zk8 kX5_fits_1) rfl (Nat.zero_le _) (Nat.zero_le _) (by
            rw [show sp_fits σ τ ε x y z u = ((-3), σ, (rfN τ 3), ε) from by rw [sp_fits, okL, hn, f0_]; rfl]
            exact ⟨_, _, rfl, hM, hU, rfl⟩)
  · rw [er_, ez_]
    clear er_ ez_
    replace hU := hU.tr hU_5 (by omega) (by omega)
    replace hM := hR; clear hR
    show Z D B xX5_fits _ _ _ 35 _ [.int (-4)] _ _
    refine z_istore (pc := 35) (zk4 kX5_fits_1) rfl rfl ?_
    show Z D B xX5_fits _ _ _ 37 [some (.ref p), some (.int x), some (.int y), some (.int z), some (.int u), some (.int (-4)), none, none, none, none] _ _ _
    refine z_iload (pc := 37) (zk5 kX5_fits_1) rfl ?_
    refine z_if_eq (pc := 39) (zk6 kX5_fits_1) (tgt := 45) (by decide) (fun q => absurd q (by decide)) (fun _ => ?_)
    refine z_iload (pc := 42) (zk7 kX5_fits_1) rfl ?_
    exact z_iret (pc := 44) (zk8 kX5_fits_1) rfl (Nat.zero_le _) (Nat.zero_le _) (by
            rw [show sp_fits σ τ ε x y z u = ((-4), σ, (rfN τ 4), ε) from by rw [sp_fits, okL, hn, f0_]; rfl]
            exact ⟨_, _, rfl, hM, hU, rfl⟩)
  · rw [er_, ez_]
    clear er_ ez_
    replace hU := hU.tr hU_5 (by omega) (by omega)
    replace hM := hR; clear hR
    show Z D B xX5_fits _ _ _ 35 _ [.int 0] _ _
    obtain ⟨f1_, f2_, f3_, f4_, f5_, f6_⟩ := rowF_0 f0_
    obtain ⟨c_6, c_7⟩ := Bool.and_eq_true_iff.mp f3_
    refine z_istore (pc := 35) (zk4 kX5_fits_1) rfl rfl ?_
    show Z D B xX5_fits _ _ _ 37 [some (.ref p), some (.int x), some (.int y), some (.int z), some (.int u), some (.int 0), none, none, none, none] _ _ _
    refine z_iload (pc := 37) (zk5 kX5_fits_1) rfl ?_
    refine z_if_eq (pc := 39) (zk6 kX5_fits_1) (tgt := 45) (by decide) (fun _ => ?_) (fun q => absurd (by decide) q)
    obtain ⟨kx, hkx, rfl⟩ := okR_c (c := 7) (by decide) f1_
    obtain ⟨ky, hky, rfl⟩ := okR_c (c := n) (by omega) f2_
    obtain ⟨kz, hkz, rfl⟩ := okR_nI (n := m) (by omega) (by rw [← hm]; exact c_6)
    rcases okR_01 c_7 with rfl | rfl
    · refine z_aload_n (pc := 45) (zk9 kX5_fits_1) rfl ?_
      refine z_getf (pc := 46) (zk10 kX5_fits_1) flX5_53 hM.1 gMo_18 ?_
      refine z_iload_n (pc := 49) (zk11 kX5_fits_1) rfl ?_
      refine z_ialdN (pc := 50) (zk12 kX5_fits_1) (f := σ 10) (j := kz) hM.2.2.2.2.2.2.2.2.2.2.2.2.2.2.1 (show kz < 8 by omega) rfl ?_
      refine z_istore (pc := 51) (zk13 kX5_fits_1) rfl rfl ?_
      show Z D B xX5_fits _ _ _ 53 [some (.ref p), some (.int (nI kx)), some (.int (nI ky)), some (.int (nI kz)), some (.int 0), some (.int 0), some (.int (σ 10 kz)), none, none, none] _ _ _
      refine z_aload_n (pc := 53) (zk14 kX5_fits_1) rfl ?_
      refine z_getf (pc := 54) (zk15 kX5_fits_1) flX5_59 hM.1 gMo_20 ?_
      refine z_iload_n (pc := 57) (zk0 kX5_fits_2) rfl ?_
      refine z_ialdN (pc := 58) (zk1 kX5_fits_2) (f := σ 12) (j := kz) hM.2.2.2.2.2.2.2.2.2.2.2.2.2.2.2.2.1 (show kz < 8 by omega) rfl ?_
      refine z_istore (pc := 59) (zk2 kX5_fits_2) rfl rfl ?_
      show Z D B xX5_fits _ _ _ 61 [some (.ref p), some (.int (nI kx)), some (.int (nI ky)), some (.int (nI kz)), some (.int 0), some (.int 0), some (.int (σ 10 kz)), some (.int (σ 12 kz)), none, none] _ _ _
      refine z_iconst (pc := 61) (zk3 kX5_fits_2) (v := 0) (by decide) ?_
      refine z_istore (pc := 62) (zk4 kX5_fits_2) rfl rfl ?_
      show Z D B xX5_fits _ _ _ 64 [some (.ref p), some (.int (nI kx)), some (.int (nI ky)), some (.int (nI kz)), some (.int 0), some (.int 0), some (.int (σ 10 kz)), some (.int (σ 12 kz)), some (.int 0), none] _ _ _
      refine z_iconst (pc := 64) (zk5 kX5_fits_2) (v := 0) (by decide) ?_
      refine z_istore (pc := 65) (zk6 kX5_fits_2) rfl rfl ?_
      show Z D B xX5_fits _ _ _ 67 [some (.ref p), some (.int (nI kx)), some (.int (nI ky)), some (.int (nI kz)), some (.int 0), some (.int 0), some (.int (σ 10 kz)), some (.int (σ 12 kz)), some (.int 0), some (.int 0)] _ _ _
      have lp67 : ∀ (n_ : Nat) (g : zH) (q : Int32) (b : Int32) (i : Nat), 6 - i < n_ → (i ≤ 6) → (b = bitsI (fun k => sndB (up2 σ 10 kz (nI k)) (ε kx) kz ky) i) → (MoAt g p (up2 σ 10 kz q) τ ω ε mv kp tr) → (Upd h g p 29) → Z D B xX5_fits 0 0 (mQ h p sz kp tr (sp_fits σ τ ε (nI kx) (nI ky) (nI kz) 0)) 67 [some (.ref p), some (.int (nI kx)), some (.int (nI ky)), some (.int (nI kz)), some (.int 0), some (.int 0), some (.int (σ 10 kz)), some (.int (σ 12 kz)), some (.int b), some (.int (nI i))] [] g sz := by
        intro n_
        induction n_ with
        | zero => intro g q b i hm_; exact absurd hm_ (Nat.not_lt_zero _)
        | succ n_ ih67 =>
          intro g q b i hm_ hi_i hb_ hM hU
          refine z_iload (pc := 67) (zk7 kX5_fits_2) rfl ?_
          refine z_iload (pc := 69) (zk8 kX5_fits_2) rfl ?_
          refine z_if_ne (pc := 71) (zk9 kX5_fits_2) (tgt := 79) (by decide) (fun q => absurd (by decide) q) (fun _ => ?_)
          refine z_bipush (pc := 74) (zk10 kX5_fits_2) (v := 6) (by decide) ?_
          refine z_goto (pc := 76) (zk11 kX5_fits_2) (tgt := 83) (by decide) ?_
          refine z_icmp_ge (pc := 83) (zk14 kX5_fits_2) (tgt := 152) (by decide) (fun c_8 => ?_) (fun c_8 => ?_)
          · have hie_i : i = 6 := nI_ge_yes (a := 6) (by omega) (by omega) (by omega) c_8
            refine z_aload_n (pc := 152) (zk2 kX5_fits_5) rfl ?_
            refine z_getf (pc := 153) (zk3 kX5_fits_5) flX5_53 hM.1 gMo_18 ?_
            refine z_iload_n (pc := 156) (zk4 kX5_fits_5) rfl ?_
            refine z_iload (pc := 157) (zk5 kX5_fits_5) rfl ?_
            refine z_Mo_s21 (pc := 159) (zk6 kX5_fits_5) (j := kz) hM (by omega) (show kz < 8 by omega) (fun h_9 hR hU_10 => ?_)
            replace hU := hU.tr hU_10 (by omega) (by omega)
            replace hM := hR; clear hR
            rw [up2_up2, up2_id] at hM
            refine z_aload_n (pc := 160) (zk7 kX5_fits_5) rfl ?_
            refine z_getf (pc := 161) (zk8 kX5_fits_5) flX5_59 hM.1 gMo_20 ?_
            refine z_iload_n (pc := 164) (zk9 kX5_fits_5) rfl ?_
            refine z_iload (pc := 165) (zk10 kX5_fits_5) rfl ?_
            refine z_Mo_s23 (pc := 167) (zk11 kX5_fits_5) (j := kz) hM (by omega) (show kz < 8 by omega) (fun h_11 hR hU_12 => ?_)
            replace hU := hU.tr hU_12 (by omega) (by omega)
            replace hM := hR; clear hR
            rw [up2_id] at hM
            refine z_iload (pc := 168) (zk12 kX5_fits_5) rfl ?_
            exact z_iret (pc := 170) (zk13 kX5_fits_5) rfl (Nat.zero_le _) (Nat.zero_le _) (by
                            rw [show sp_fits σ τ ε (nI kx) (nI ky) (nI kz) 0 = (b, σ, τ, ε) from by rw [sp_fits, okL, hn, f0_]; simp [sTold, hb_, hie_i, hsN_eq hn h12, ix_nI (show kx ≤ 1000 by omega), ix_nI (show ky ≤ 1000 by omega), ix_nI (show kz ≤ 1000 by omega)]]
                            exact ⟨_, _, rfl, hM, hU, rfl⟩)
          · have hlt_i : i < 6 := nI_ge_not (a := 6) (by omega) (by omega) c_8
            refine z_aload_n (pc := 86) (zk15 kX5_fits_2) rfl ?_
            refine z_getf (pc := 87) (zk0 kX5_fits_3) flX5_53 hM.1 gMo_18 ?_
            refine z_iload_n (pc := 90) (zk1 kX5_fits_3) rfl ?_
            refine z_iload (pc := 91) (zk2 kX5_fits_3) rfl ?_
            refine z_if_ne (pc := 93) (zk3 kX5_fits_3) (tgt := 101) (by decide) (fun q => absurd (by decide) q) (fun _ => ?_)
            refine z_iload (pc := 96) (zk4 kX5_fits_3) rfl ?_
            refine z_goto (pc := 98) (zk5 kX5_fits_3) (tgt := 103) (by decide) ?_
            refine z_Mo_s21 (pc := 103) (zk7 kX5_fits_3) (j := kz) hM (by omega) (show kz < 8 by omega) (fun h_13 hR hU_14 => ?_)
            replace hU := hU.tr hU_14 (by omega) (by omega)
            replace hM := hR; clear hR
            rw [up2_up2] at hM
            refine z_aload_n (pc := 104) (zk8 kX5_fits_3) rfl ?_
            refine z_getf (pc := 105) (zk9 kX5_fits_3) flX5_59 hM.1 gMo_20 ?_
            refine z_iload_n (pc := 108) (zk10 kX5_fits_3) rfl ?_
            refine z_iload (pc := 109) (zk11 kX5_fits_3) rfl ?_
            refine z_iconst (pc := 111) (zk12 kX5_fits_3) (v := 1) (by decide) ?_
            refine z_icmp_ne (pc := 112) (zk13 kX5_fits_3) (tgt := 120) (by decide) (fun _ => ?_) (fun q => absurd q (by decide))
            refine z_iload (pc := 120) (zk0 kX5_fits_4) rfl ?_
            refine z_Mo_s23 (pc := 122) (zk1 kX5_fits_4) (j := kz) hM (by omega) (show kz < 8 by omega) (fun h_15 hR hU_16 => ?_)
            replace hU := hU.tr hU_16 (by omega) (by omega)
            replace hM := hR; clear hR
            rw [up2_id2 _ _ _ _ (by decide)] at hM
            refine z_iload (pc := 123) (zk2 kX5_fits_4) rfl ?_
            suffices hJ : Z D B xX5_fits 0 0 (mQ h p sz kp tr (sp_fits σ τ ε (nI kx) (nI ky) (nI kz) 0)) 143 [some (.ref p), some (.int (nI kx)), some (.int (nI ky)), some (.int (nI kz)), some (.int 0), some (.int 0), some (.int (σ 10 kz)), some (.int (σ 12 kz)), some (.int b), some (.int (nI i))] [.int (if sndB (up2 σ 10 kz (nI i)) (ε kx) kz ky = true then 1 <<< (nI i &&& 31) else 0), .int b] h_15 sz from by
              refine z_aload_n (pc := 125) (zk3 kX5_fits_4) rfl ?_
              refine z_iload_n (pc := 126) (zk4 kX5_fits_4) rfl ?_
              refine z_iload_n (pc := 127) (zk5 kX5_fits_4) rfl ?_
              refine z_iload_n (pc := 128) (zk6 kX5_fits_4) rfl ?_
              refine z_rdV (pc := 129) (zk7 kX5_fits_4) (st := [.int b]) lkX5_293 ivX5_sounds hM.1 rfl rfl (c_sounds hM hn h12 (show kx < 8 by omega) (by omega) (show kz < 8 by omega) (hto _ (by omega))) rfl ⟨rfl, rfl⟩ rfl rfl ?_ rfl
              refine z_oif_eq (pc := 132) (zk8 kX5_fits_4) (tgt := 142) (by decide) (fun c_17 => ?_) (fun c_17 => ?_)
              · refine z_iconst (pc := 142) (zk13 kX5_fits_4) (v := 0) (by decide) ?_
                exact z_top (congrArg Value.int (by simp [f1_, f2_, f3_, c_6, c_7, c_8, Int32.not_le.mp c_8, c_17])) hJ
              · refine z_iconst (pc := 135) (zk9 kX5_fits_4) (v := 1) (by decide) ?_
                refine z_iload (pc := 136) (zk10 kX5_fits_4) rfl ?_
                refine z_ishl (pc := 138) (zk11 kX5_fits_4) ?_
                refine z_goto (pc := 139) (zk12 kX5_fits_4) (tgt := 143) (by decide) ?_
                exact z_top (congrArg Value.int (by simp [f1_, f2_, f3_, c_6, c_7, c_8, Int32.not_le.mp c_8, c_17])) hJ
            refine z_ior (pc := 143) (zk14 kX5_fits_4) ?_
            refine z_istore (pc := 144) (zk15 kX5_fits_4) rfl rfl ?_
            show Z D B xX5_fits _ _ _ 146 [some (.ref p), some (.int (nI kx)), some (.int (nI ky)), some (.int (nI kz)), some (.int 0), some (.int 0), some (.int (σ 10 kz)), some (.int (σ 12 kz)), some (.int (b ||| (if sndB (up2 σ 10 kz (nI i)) (ε kx) kz ky = true then 1 <<< (nI i &&& 31) else 0))), some (.int (nI i))] _ _ _
            refine z_iinc (pc := 146) (zk0 kX5_fits_5) (v := nI (i + 1)) rfl zinc rfl rfl ?_
            show Z D B xX5_fits _ _ _ 149 [some (.ref p), some (.int (nI kx)), some (.int (nI ky)), some (.int (nI kz)), some (.int 0), some (.int 0), some (.int (σ 10 kz)), some (.int (σ 12 kz)), some (.int (b ||| (if sndB (up2 σ 10 kz (nI i)) (ε kx) kz ky = true then 1 <<< (nI i &&& 31) else 0))), some (.int (nI (i + 1)))] _ _ _
            refine z_goto (pc := 149) (zk1 kX5_fits_5) (tgt := 67) (by decide) ?_
            exact ih67 h_15 (nI i) (b ||| (if sndB (up2 σ 10 kz (nI i)) (ε kx) kz ky = true then 1 <<< (nI i &&& 31) else 0)) (i + 1) (by omega) (by omega) (by rw [hb_]; exact bitsI_s (fun k => sndB (up2 σ 10 kz (nI k)) (ε kx) kz ky) i) hM hU
      exact lp67 _ h_4 (σ 10 kz) 0 0 (Nat.lt_succ_self _) (by omega) rfl (by rw [up2_id]; exact hM) hU
    · refine z_aload_n (pc := 45) (zk9 kX5_fits_1) rfl ?_
      refine z_getf (pc := 46) (zk10 kX5_fits_1) flX5_53 hM.1 gMo_18 ?_
      refine z_iload_n (pc := 49) (zk11 kX5_fits_1) rfl ?_
      refine z_ialdN (pc := 50) (zk12 kX5_fits_1) (f := σ 10) (j := kz) hM.2.2.2.2.2.2.2.2.2.2.2.2.2.2.1 (show kz < 8 by omega) rfl ?_
      refine z_istore (pc := 51) (zk13 kX5_fits_1) rfl rfl ?_
      show Z D B xX5_fits _ _ _ 53 [some (.ref p), some (.int (nI kx)), some (.int (nI ky)), some (.int (nI kz)), some (.int 1), some (.int 0), some (.int (σ 10 kz)), none, none, none] _ _ _
      refine z_aload_n (pc := 53) (zk14 kX5_fits_1) rfl ?_
      refine z_getf (pc := 54) (zk15 kX5_fits_1) flX5_59 hM.1 gMo_20 ?_
      refine z_iload_n (pc := 57) (zk0 kX5_fits_2) rfl ?_
      refine z_ialdN (pc := 58) (zk1 kX5_fits_2) (f := σ 12) (j := kz) hM.2.2.2.2.2.2.2.2.2.2.2.2.2.2.2.2.1 (show kz < 8 by omega) rfl ?_
      refine z_istore (pc := 59) (zk2 kX5_fits_2) rfl rfl ?_
      show Z D B xX5_fits _ _ _ 61 [some (.ref p), some (.int (nI kx)), some (.int (nI ky)), some (.int (nI kz)), some (.int 1), some (.int 0), some (.int (σ 10 kz)), some (.int (σ 12 kz)), none, none] _ _ _
      refine z_iconst (pc := 61) (zk3 kX5_fits_2) (v := 0) (by decide) ?_
      refine z_istore (pc := 62) (zk4 kX5_fits_2) rfl rfl ?_
      show Z D B xX5_fits _ _ _ 64 [some (.ref p), some (.int (nI kx)), some (.int (nI ky)), some (.int (nI kz)), some (.int 1), some (.int 0), some (.int (σ 10 kz)), some (.int (σ 12 kz)), some (.int 0), none] _ _ _
      refine z_iconst (pc := 64) (zk5 kX5_fits_2) (v := 0) (by decide) ?_
      refine z_istore (pc := 65) (zk6 kX5_fits_2) rfl rfl ?_
      show Z D B xX5_fits _ _ _ 67 [some (.ref p), some (.int (nI kx)), some (.int (nI ky)), some (.int (nI kz)), some (.int 1), some (.int 0), some (.int (σ 10 kz)), some (.int (σ 12 kz)), some (.int 0), some (.int 0)] _ _ _
      have lp67 : ∀ (n_ : Nat) (g : zH) (q : Int32) (b : Int32) (i : Nat), n - i < n_ → (i ≤ n) → (b = bitsI (fun k => sndB (up2 σ 12 kz (nI k)) (ε kx) kz ky) i) → (MoAt g p (up2 σ 12 kz q) τ ω ε mv kp tr) → (Upd h g p 29) → Z D B xX5_fits 0 0 (mQ h p sz kp tr (sp_fits σ τ ε (nI kx) (nI ky) (nI kz) 1)) 67 [some (.ref p), some (.int (nI kx)), some (.int (nI ky)), some (.int (nI kz)), some (.int 1), some (.int 0), some (.int (σ 10 kz)), some (.int (σ 12 kz)), some (.int b), some (.int (nI i))] [] g sz := by
        intro n_
        induction n_ with
        | zero => intro g q b i hm_; exact absurd hm_ (Nat.not_lt_zero _)
        | succ n_ ih67 =>
          intro g q b i hm_ hi_i hb_ hM hU
          refine z_iload (pc := 67) (zk7 kX5_fits_2) rfl ?_
          refine z_iload (pc := 69) (zk8 kX5_fits_2) rfl ?_
          refine z_if_ne (pc := 71) (zk9 kX5_fits_2) (tgt := 79) (by decide) (fun _ => ?_) (fun q => absurd q (by decide))
          refine z_aload_n (pc := 79) (zk12 kX5_fits_2) rfl ?_
          refine z_getf (pc := 80) (zk13 kX5_fits_2) flX5_37 hM.1 (v := .int (nI n)) (by rw [← hn]; rfl) ?_
          refine z_icmp_ge (pc := 83) (zk14 kX5_fits_2) (tgt := 152) (by decide) (fun c_18 => ?_) (fun c_18 => ?_)
          · have hie_i : i = n := nI_ge_yes (a := n) (by omega) (by omega) (by omega) c_18
            refine z_aload_n (pc := 152) (zk2 kX5_fits_5) rfl ?_
            refine z_getf (pc := 153) (zk3 kX5_fits_5) flX5_53 hM.1 gMo_18 ?_
            refine z_iload_n (pc := 156) (zk4 kX5_fits_5) rfl ?_
            refine z_iload (pc := 157) (zk5 kX5_fits_5) rfl ?_
            refine z_Mo_s21 (pc := 159) (zk6 kX5_fits_5) (j := kz) hM (by omega) (show kz < 8 by omega) (fun h_19 hR hU_20 => ?_)
            replace hU := hU.tr hU_20 (by omega) (by omega)
            replace hM := hR; clear hR
            rw [up2_id2 _ _ _ _ (by decide)] at hM
            refine z_aload_n (pc := 160) (zk7 kX5_fits_5) rfl ?_
            refine z_getf (pc := 161) (zk8 kX5_fits_5) flX5_59 hM.1 gMo_20 ?_
            refine z_iload_n (pc := 164) (zk9 kX5_fits_5) rfl ?_
            refine z_iload (pc := 165) (zk10 kX5_fits_5) rfl ?_
            refine z_Mo_s23 (pc := 167) (zk11 kX5_fits_5) (j := kz) hM (by omega) (show kz < 8 by omega) (fun h_21 hR hU_22 => ?_)
            replace hU := hU.tr hU_22 (by omega) (by omega)
            replace hM := hR; clear hR
            rw [up2_up2, up2_id] at hM
            refine z_iload (pc := 168) (zk12 kX5_fits_5) rfl ?_
            exact z_iret (pc := 170) (zk13 kX5_fits_5) rfl (Nat.zero_le _) (Nat.zero_le _) (by
                            rw [show sp_fits σ τ ε (nI kx) (nI ky) (nI kz) 1 = (b, σ, τ, ε) from by rw [sp_fits, okL, hn, f0_]; simp [sTold, hb_, hie_i, hsN_eq hn h12, ix_nI (show kx ≤ 1000 by omega), ix_nI (show ky ≤ 1000 by omega), ix_nI (show kz ≤ 1000 by omega)]]
                            exact ⟨_, _, rfl, hM, hU, rfl⟩)
          · have hlt_i : i < n := nI_ge_not (a := n) (by omega) (by omega) c_18
            refine z_aload_n (pc := 86) (zk15 kX5_fits_2) rfl ?_
            refine z_getf (pc := 87) (zk0 kX5_fits_3) flX5_53 hM.1 gMo_18 ?_
            refine z_iload_n (pc := 90) (zk1 kX5_fits_3) rfl ?_
            refine z_iload (pc := 91) (zk2 kX5_fits_3) rfl ?_
            refine z_if_ne (pc := 93) (zk3 kX5_fits_3) (tgt := 101) (by decide) (fun _ => ?_) (fun q => absurd q (by decide))
            refine z_iload (pc := 101) (zk6 kX5_fits_3) rfl ?_
            refine z_Mo_s21 (pc := 103) (zk7 kX5_fits_3) (j := kz) hM (by omega) (show kz < 8 by omega) (fun h_23 hR hU_24 => ?_)
            replace hU := hU.tr hU_24 (by omega) (by omega)
            replace hM := hR; clear hR
            rw [up2_id2 _ _ _ _ (by decide)] at hM
            refine z_aload_n (pc := 104) (zk8 kX5_fits_3) rfl ?_
            refine z_getf (pc := 105) (zk9 kX5_fits_3) flX5_59 hM.1 gMo_20 ?_
            refine z_iload_n (pc := 108) (zk10 kX5_fits_3) rfl ?_
            refine z_iload (pc := 109) (zk11 kX5_fits_3) rfl ?_
            refine z_iconst (pc := 111) (zk12 kX5_fits_3) (v := 1) (by decide) ?_
            refine z_icmp_ne (pc := 112) (zk13 kX5_fits_3) (tgt := 120) (by decide) (fun q => absurd (by decide) q) (fun _ => ?_)
            refine z_iload (pc := 115) (zk14 kX5_fits_3) rfl ?_
            refine z_goto (pc := 117) (zk15 kX5_fits_3) (tgt := 122) (by decide) ?_
            refine z_Mo_s23 (pc := 122) (zk1 kX5_fits_4) (j := kz) hM (by omega) (show kz < 8 by omega) (fun h_25 hR hU_26 => ?_)
            replace hU := hU.tr hU_26 (by omega) (by omega)
            replace hM := hR; clear hR
            rw [up2_up2] at hM
            refine z_iload (pc := 123) (zk2 kX5_fits_4) rfl ?_
            suffices hJ : Z D B xX5_fits 0 0 (mQ h p sz kp tr (sp_fits σ τ ε (nI kx) (nI ky) (nI kz) 1)) 143 [some (.ref p), some (.int (nI kx)), some (.int (nI ky)), some (.int (nI kz)), some (.int 1), some (.int 0), some (.int (σ 10 kz)), some (.int (σ 12 kz)), some (.int b), some (.int (nI i))] [.int (if sndB (up2 σ 12 kz (nI i)) (ε kx) kz ky = true then 1 <<< (nI i &&& 31) else 0), .int b] h_25 sz from by
              refine z_aload_n (pc := 125) (zk3 kX5_fits_4) rfl ?_
              refine z_iload_n (pc := 126) (zk4 kX5_fits_4) rfl ?_
              refine z_iload_n (pc := 127) (zk5 kX5_fits_4) rfl ?_
              refine z_iload_n (pc := 128) (zk6 kX5_fits_4) rfl ?_
              refine z_rdV (pc := 129) (zk7 kX5_fits_4) (st := [.int b]) lkX5_293 ivX5_sounds hM.1 rfl rfl (c_sounds hM hn h12 (show kx < 8 by omega) (by omega) (show kz < 8 by omega) ⟨i, by omega, up2_eq _ _ _ _⟩) rfl ⟨rfl, rfl⟩ rfl rfl ?_ rfl
              refine z_oif_eq (pc := 132) (zk8 kX5_fits_4) (tgt := 142) (by decide) (fun c_27 => ?_) (fun c_27 => ?_)
              · refine z_iconst (pc := 142) (zk13 kX5_fits_4) (v := 0) (by decide) ?_
                exact z_top (congrArg Value.int (by simp [f1_, f2_, f3_, c_6, c_7, c_18, Int32.not_le.mp c_18, c_27])) hJ
              · refine z_iconst (pc := 135) (zk9 kX5_fits_4) (v := 1) (by decide) ?_
                refine z_iload (pc := 136) (zk10 kX5_fits_4) rfl ?_
                refine z_ishl (pc := 138) (zk11 kX5_fits_4) ?_
                refine z_goto (pc := 139) (zk12 kX5_fits_4) (tgt := 143) (by decide) ?_
                exact z_top (congrArg Value.int (by simp [f1_, f2_, f3_, c_6, c_7, c_18, Int32.not_le.mp c_18, c_27])) hJ
            refine z_ior (pc := 143) (zk14 kX5_fits_4) ?_
            refine z_istore (pc := 144) (zk15 kX5_fits_4) rfl rfl ?_
            show Z D B xX5_fits _ _ _ 146 [some (.ref p), some (.int (nI kx)), some (.int (nI ky)), some (.int (nI kz)), some (.int 1), some (.int 0), some (.int (σ 10 kz)), some (.int (σ 12 kz)), some (.int (b ||| (if sndB (up2 σ 12 kz (nI i)) (ε kx) kz ky = true then 1 <<< (nI i &&& 31) else 0))), some (.int (nI i))] _ _ _
            refine z_iinc (pc := 146) (zk0 kX5_fits_5) (v := nI (i + 1)) rfl zinc rfl rfl ?_
            show Z D B xX5_fits _ _ _ 149 [some (.ref p), some (.int (nI kx)), some (.int (nI ky)), some (.int (nI kz)), some (.int 1), some (.int 0), some (.int (σ 10 kz)), some (.int (σ 12 kz)), some (.int (b ||| (if sndB (up2 σ 12 kz (nI i)) (ε kx) kz ky = true then 1 <<< (nI i &&& 31) else 0))), some (.int (nI (i + 1)))] _ _ _
            refine z_goto (pc := 149) (zk1 kX5_fits_5) (tgt := 67) (by decide) ?_
            exact ih67 h_25 (nI i) (b ||| (if sndB (up2 σ 12 kz (nI i)) (ε kx) kz ky = true then 1 <<< (nI i &&& 31) else 0)) (i + 1) (by omega) (by omega) (by rw [hb_]; exact bitsI_s (fun k => sndB (up2 σ 12 kz (nI k)) (ε kx) kz ky) i) hM hU
      exact lp67 _ h_4 (σ 12 kz) 0 0 (Nat.lt_succ_self _) (by omega) rfl (by rw [up2_id]; exact hM) hU
theorem wndB_f {σ : Ln} {e : Nat → Int64} {k j : Nat} (c : wndB σ e k j = false) : ∀ {q : Nat}, j ≤ q → wndB σ e k q = false
  | 0, h => by rw [show (0 : Nat) = j by omega]; exact c
  | q + 1, h => by
    rcases Nat.lt_or_ge j (q + 1) with r | r
    · rw [wndB, wndB_f c (by omega)]; rfl
    · rw [show q + 1 = j by omega]; exact c
set_option maxRecDepth 20000 in
theorem cP_winds {D : zD} {B : Nat} {h : zH} {sz : Nat} {p : Nat} {σ τ ω : Ln} {ε : El} {mv : Nat → Int64} {kp tr : Option Nat} {x : Int32} {y : Int32} {z : Int32} {n m : Nat} (hM : MoAt h p σ τ ω ε mv kp tr) (hB : B ≤ p) (hn : σ 0 0 = nI n) (h12 : n ≤ 12) (hm : σ 9 0 = nI m) (h8 : m ≤ 8) (hto : ∀ l, l < m → ToOk σ l) (hS : SW τ m) : zM D B xX5_winds [.ref p, .int x, .int y, .int z] h sz (mQ h p sz kp tr (sp_winds σ τ ε x y z)) := by
  have hU : Upd h h p 29 := Upd.rf
  refine zM.of (by decide) rfl (n := 6) ?_
  show Z D B xX5_winds 0 0 _ 0 [some (.ref p), some (.int x), some (.int y), some (.int z), none, none, none, none, none, none] [] h sz
  refine z_aload_n (pc := 0) (zk0 kX5_winds_0) rfl ?_
  refine z_iload_n (pc := 1) (zk1 kX5_winds_0) rfl ?_
  refine z_iload_n (pc := 2) (zk2 kX5_winds_0) rfl ?_
  refine z_aload_n (pc := 3) (zk3 kX5_winds_0) rfl ?_
  refine z_getf (pc := 4) (zk4 kX5_winds_0) flX5_85 hM.1 (v := .int (nI m)) (by rw [← hm]; rfl) ?_
  refine z_aload_n (pc := 7) (zk5 kX5_winds_0) rfl ?_
  refine z_iload_n (pc := 8) (zk6 kX5_winds_0) rfl ?_
  refine z_rdV (pc := 9) (zk7 kX5_winds_0) (st := [.int (nI m), .int y, .int x, .ref p]) lkX5_123 ivX5_isHouse hM.1 rfl rfl (c_isHouse hM) rfl ⟨rfl, rfl⟩ rfl rfl ?_ rfl
  refine z_efV (pc := 12) (zk8 kX5_winds_0) (st := []) lkX5_296 ivX5_noSounds hM.1 rfl rfl (c_noSounds hM hB) rfl ⟨rfl, rfl⟩ rfl rfl (fun r_ h_2 z_ q_1 => ?_) rfl
  rcases q_1 with ⟨f0_, er_, hR, hU_3, ez_⟩ | ⟨f0_, er_, hR, hU_3, ez_⟩ | ⟨f0_, er_, hR, hU_3, ez_⟩ | ⟨f0_, er_, hR, hU_3, ez_⟩
  · rw [er_, ez_]
    clear er_ ez_
    replace hU := hU.tr hU_3 (by omega) (by omega)
    replace hM := hR; clear hR
    show Z D B xX5_winds _ _ _ 15 _ [.int (-2)] _ _
    refine z_istore (pc := 15) (zk9 kX5_winds_0) rfl rfl ?_
    show Z D B xX5_winds _ _ _ 17 [some (.ref p), some (.int x), some (.int y), some (.int z), some (.int (-2)), none, none, none, none, none] _ _ _
    refine z_iload (pc := 17) (zk10 kX5_winds_0) rfl ?_
    refine z_if_eq (pc := 19) (zk11 kX5_winds_0) (tgt := 25) (by decide) (fun q => absurd q (by decide)) (fun _ => ?_)
    refine z_iload (pc := 22) (zk12 kX5_winds_0) rfl ?_
    exact z_iret (pc := 24) (zk13 kX5_winds_0) rfl (Nat.zero_le _) (Nat.zero_le _) (by
            rw [show sp_winds σ τ ε x y z = ((-2), σ, (rfN τ 2), ε) from by rw [sp_winds, okH, hm, f0_]; rfl]
            exact ⟨_, _, rfl, hM, hU, rfl⟩)
  · rw [er_, ez_]
    clear er_ ez_
    replace hU := hU.tr hU_3 (by omega) (by omega)
    replace hM := hR; clear hR
    show Z D B xX5_winds _ _ _ 15 _ [.int (-3)] _ _
    refine z_istore (pc := 15) (zk9 kX5_winds_0) rfl rfl ?_
    show Z D B xX5_winds _ _ _ 17 [some (.ref p), some (.int x), some (.int y), some (.int z), some (.int (-3)), none, none, none, none, none] _ _ _
    refine z_iload (pc := 17) (zk10 kX5_winds_0) rfl ?_
    refine z_if_eq (pc := 19) (zk11 kX5_winds_0) (tgt := 25) (by decide) (fun q => absurd q (by decide)) (fun _ => ?_)
    refine z_iload (pc := 22) (zk12 kX5_winds_0) rfl ?_
    exact z_iret (pc := 24) (zk13 kX5_winds_0) rfl (Nat.zero_le _) (Nat.zero_le _) (by
            rw [show sp_winds σ τ ε x y z = ((-3), σ, (rfN τ 3), ε) from by rw [sp_winds, okH, hm, f0_]; rfl]
            exact ⟨_, _, rfl, hM, hU, rfl⟩)
  · rw [er_, ez_]
    clear er_ ez_
    replace hU := hU.tr hU_3 (by omega) (by omega)
    replace hM := hR; clear hR
    show Z D B xX5_winds _ _ _ 15 _ [.int (-4)] _ _
    refine z_istore (pc := 15) (zk9 kX5_winds_0) rfl rfl ?_
    show Z D B xX5_winds _ _ _ 17 [some (.ref p), some (.int x), some (.int y), some (.int z), some (.int (-4)), none, none, none, none, none] _ _ _
    refine z_iload (pc := 17) (zk10 kX5_winds_0) rfl ?_
    refine z_if_eq (pc := 19) (zk11 kX5_winds_0) (tgt := 25) (by decide) (fun q => absurd q (by decide)) (fun _ => ?_)
    refine z_iload (pc := 22) (zk12 kX5_winds_0) rfl ?_
    exact z_iret (pc := 24) (zk13 kX5_winds_0) rfl (Nat.zero_le _) (Nat.zero_le _) (by
            rw [show sp_winds σ τ ε x y z = ((-4), σ, (rfN τ 4), ε) from by rw [sp_winds, okH, hm, f0_]; rfl]
            exact ⟨_, _, rfl, hM, hU, rfl⟩)
  · rw [er_, ez_]
    clear er_ ez_
    replace hU := hU.tr hU_3 (by omega) (by omega)
    replace hM := hR; clear hR
    show Z D B xX5_winds _ _ _ 15 _ [.int 0] _ _
    obtain ⟨f1_, f2_, f3_, f4_, f5_, f6_⟩ := rowF_0 f0_
    refine z_istore (pc := 15) (zk9 kX5_winds_0) rfl rfl ?_
    show Z D B xX5_winds _ _ _ 17 [some (.ref p), some (.int x), some (.int y), some (.int z), some (.int 0), none, none, none, none, none] _ _ _
    refine z_iload (pc := 17) (zk10 kX5_winds_0) rfl ?_
    refine z_if_eq (pc := 19) (zk11 kX5_winds_0) (tgt := 25) (by decide) (fun _ => ?_) (fun q => absurd (by decide) q)
    obtain ⟨kx, hkx, rfl⟩ := okR_c (c := 7) (by decide) f1_
    obtain ⟨ky, hky, rfl⟩ := okR_c (c := m) (by omega) f2_
    obtain ⟨kz, hkz, rfl⟩ := okR_nI (n := n) (by omega) (by rw [← hn]; exact f3_)
    refine z_aload_n (pc := 25) (zk14 kX5_winds_0) rfl ?_
    refine z_getf (pc := 26) (zk15 kX5_winds_0) flX5_41 hM.1 gMo_10 ?_
    refine z_iload_n (pc := 29) (zk0 kX5_winds_1) rfl ?_
    refine z_ialdN (pc := 30) (zk1 kX5_winds_1) (f := σ 1) (j := kz) hM.2.2.2.2.2.2.2.2.2.2.1 (show kz < 12 by omega) rfl ?_
    refine z_istore (pc := 31) (zk2 kX5_winds_1) rfl rfl ?_
    show Z D B xX5_winds _ _ _ 33 [some (.ref p), some (.int (nI kx)), some (.int (nI ky)), some (.int (nI kz)), some (.int 0), some (.int (σ 1 kz)), none, none, none, none] _ _ _
    refine z_iconst (pc := 33) (zk3 kX5_winds_1) (v := 0) (by decide) ?_
    refine z_istore (pc := 34) (zk4 kX5_winds_1) rfl rfl ?_
    show Z D B xX5_winds _ _ _ 36 [some (.ref p), some (.int (nI kx)), some (.int (nI ky)), some (.int (nI kz)), some (.int 0), some (.int (σ 1 kz)), some (.int 0), none, none, none] _ _ _
    refine z_iconst (pc := 36) (zk5 kX5_winds_1) (v := 0) (by decide) ?_
    refine z_istore (pc := 37) (zk6 kX5_winds_1) rfl rfl ?_
    show Z D B xX5_winds _ _ _ 39 [some (.ref p), some (.int (nI kx)), some (.int (nI ky)), some (.int (nI kz)), some (.int 0), some (.int (σ 1 kz)), some (.int 0), some (.int 0), none, none] _ _ _
    have lp39 : ∀ (n_ : Nat) (g : zH) (q : Int32) (b : Int32) (i : Nat), 10 - i < n_ → (i ≤ 10) → (b = bitsI (fun v => wndB (up2 σ 1 kz (nI v)) (ε kx) kz ky) i) → (MoAt g p (up2 σ 1 kz q) τ ω ε mv kp tr) → (Upd h g p 29) → Z D B xX5_winds 0 0 (mQ h p sz kp tr (sp_winds σ τ ε (nI kx) (nI ky) (nI kz))) 39 [some (.ref p), some (.int (nI kx)), some (.int (nI ky)), some (.int (nI kz)), some (.int 0), some (.int (σ 1 kz)), some (.int b), some (.int (nI i)), none, none] [] g sz := by
      intro n_
      induction n_ with
      | zero => intro g q b i hm_; exact absurd hm_ (Nat.not_lt_zero _)
      | succ n_ ih39 =>
        intro g q b i hm_ hi_i hb_ hM hU
        refine z_iload (pc := 39) (zk7 kX5_winds_1) rfl ?_
        refine z_bipush (pc := 41) (zk8 kX5_winds_1) (v := 9) (by decide) ?_
        refine z_icmp_gt (pc := 43) (zk9 kX5_winds_1) (tgt := 129) (by decide) (fun c_4 => ?_) (fun c_4 => ?_)
        · have hie_i : i = 10 := nI_gt_yes (a := 9) (by omega) (by omega) c_4
          refine z_aload_n (pc := 129) (zk7 kX5_winds_4) rfl ?_
          refine z_getf (pc := 130) (zk8 kX5_winds_4) flX5_41 hM.1 gMo_10 ?_
          refine z_iload_n (pc := 133) (zk9 kX5_winds_4) rfl ?_
          refine z_iload (pc := 134) (zk10 kX5_winds_4) rfl ?_
          refine z_Mo_s17 (pc := 136) (zk11 kX5_winds_4) (j := kz) hM (by omega) (show kz < 12 by omega) (fun h_5 hR hU_6 => ?_)
          replace hU := hU.tr hU_6 (by omega) (by omega)
          replace hM := hR; clear hR
          rw [up2_up2, up2_id] at hM
          refine z_iload (pc := 137) (zk12 kX5_winds_4) rfl ?_
          exact z_iret (pc := 139) (zk13 kX5_winds_4) rfl (Nat.zero_le _) (Nat.zero_le _) (by
                        rw [show sp_winds σ τ ε (nI kx) (nI ky) (nI kz) = (b, σ, τ, ε) from by rw [sp_winds, okH, hm, f0_]; simp [sTold, hb_, hie_i, ix_nI (show kx ≤ 1000 by omega), ix_nI (show ky ≤ 1000 by omega), ix_nI (show kz ≤ 1000 by omega)]]
                        exact ⟨_, _, rfl, hM, hU, rfl⟩)
        · have hlt_i : i < 10 := nI_gt_not (a := 9) (by omega) c_4
          refine z_aload_n (pc := 46) (zk10 kX5_winds_1) rfl ?_
          refine z_getf (pc := 47) (zk11 kX5_winds_1) flX5_41 hM.1 gMo_10 ?_
          refine z_iload_n (pc := 50) (zk12 kX5_winds_1) rfl ?_
          refine z_iload (pc := 51) (zk13 kX5_winds_1) rfl ?_
          refine z_Mo_s17 (pc := 53) (zk14 kX5_winds_1) (j := kz) hM (by omega) (show kz < 12 by omega) (fun h_7 hR hU_8 => ?_)
          replace hU := hU.tr hU_8 (by omega) (by omega)
          replace hM := hR; clear hR
          rw [up2_up2] at hM
          refine z_iconst (pc := 54) (zk15 kX5_winds_1) (v := 1) (by decide) ?_
          refine z_top (congrArg Value.int oI_t.symm) ?_
          refine z_istore (pc := 55) (zk0 kX5_winds_2) rfl rfl ?_
          show Z D B xX5_winds _ _ _ 57 [some (.ref p), some (.int (nI kx)), some (.int (nI ky)), some (.int (nI kz)), some (.int 0), some (.int (σ 1 kz)), some (.int b), some (.int (nI i)), some (.int (oI true)), none] _ _ _
          refine z_iconst (pc := 57) (zk1 kX5_winds_2) (v := 0) (by decide) ?_
          refine z_istore (pc := 58) (zk2 kX5_winds_2) rfl rfl ?_
          show Z D B xX5_winds _ _ _ 60 [some (.ref p), some (.int (nI kx)), some (.int (nI ky)), some (.int (nI kz)), some (.int 0), some (.int (σ 1 kz)), some (.int b), some (.int (nI i)), some (.int (oI true)), some (.int 0)] _ _ _
          have lp60 : ∀ (n_ : Nat) (fb : Bool) (j : Nat), ky - j < n_ → (j ≤ ky) → (fb = wndB (up2 σ 1 kz (nI i)) (ε kx) kz j) → Z D B xX5_winds 0 0 (mQ h p sz kp tr (sp_winds σ τ ε (nI kx) (nI ky) (nI kz))) 60 [some (.ref p), some (.int (nI kx)), some (.int (nI ky)), some (.int (nI kz)), some (.int 0), some (.int (σ 1 kz)), some (.int b), some (.int (nI i)), some (.int (oI fb)), some (.int (nI j))] [] h_7 sz := by
            intro n_
            induction n_ with
            | zero => intro fb j hm_; exact absurd hm_ (Nat.not_lt_zero _)
            | succ n_ ih60 =>
              intro fb j hm_ hi_j hf
              refine z_iload (pc := 60) (zk3 kX5_winds_2) rfl ?_
              refine z_iload_n (pc := 62) (zk4 kX5_winds_2) rfl ?_
              refine z_icmp_ge (pc := 63) (zk5 kX5_winds_2) (tgt := 105) (by decide) (fun c_9 => ?_) (fun c_9 => ?_)
              · have hie_j : j = ky := nI_ge_yes (a := ky) (by omega) (by omega) (by omega) c_9
                refine z_iload (pc := 105) (zk11 kX5_winds_3) rfl ?_
                suffices hJ : Z D B xX5_winds 0 0 (mQ h p sz kp tr (sp_winds σ τ ε (nI kx) (nI ky) (nI kz))) 120 [some (.ref p), some (.int (nI kx)), some (.int (nI ky)), some (.int (nI kz)), some (.int 0), some (.int (σ 1 kz)), some (.int b), some (.int (nI i)), some (.int (oI fb)), some (.int (nI j))] [.int (if wndB (up2 σ 1 kz (nI i)) (ε kx) kz ky = true then 1 <<< (nI i &&& 31) else 0), .int b] h_7 sz from by
                  refine z_iload (pc := 107) (zk12 kX5_winds_3) rfl ?_
                  refine z_oif_eq (pc := 109) (zk13 kX5_winds_3) (tgt := 119) (by decide) (fun c_10 => ?_) (fun c_10 => ?_)
                  · refine z_iconst (pc := 119) (zk2 kX5_winds_4) (v := 0) (by decide) ?_
                    exact z_top (congrArg Value.int (by rw [← hie_j, ← hf]; simp [f1_, f2_, f3_, c_4, Int32.not_lt.mp c_4, c_9, Int32.not_lt.mpr c_9, c_10])) hJ
                  · refine z_iconst (pc := 112) (zk14 kX5_winds_3) (v := 1) (by decide) ?_
                    refine z_iload (pc := 113) (zk15 kX5_winds_3) rfl ?_
                    refine z_ishl (pc := 115) (zk0 kX5_winds_4) ?_
                    refine z_goto (pc := 116) (zk1 kX5_winds_4) (tgt := 120) (by decide) ?_
                    exact z_top (congrArg Value.int (by rw [← hie_j, ← hf]; simp [f1_, f2_, f3_, c_4, Int32.not_lt.mp c_4, c_9, Int32.not_lt.mpr c_9, c_10])) hJ
                refine z_ior (pc := 120) (zk3 kX5_winds_4) ?_
                refine z_istore (pc := 121) (zk4 kX5_winds_4) rfl rfl ?_
                show Z D B xX5_winds _ _ _ 123 [some (.ref p), some (.int (nI kx)), some (.int (nI ky)), some (.int (nI kz)), some (.int 0), some (.int (σ 1 kz)), some (.int (b ||| (if wndB (up2 σ 1 kz (nI i)) (ε kx) kz ky = true then 1 <<< (nI i &&& 31) else 0))), some (.int (nI i)), some (.int (oI fb)), some (.int (nI j))] _ _ _
                refine z_iinc (pc := 123) (zk5 kX5_winds_4) (v := nI (i + 1)) rfl zinc rfl rfl ?_
                show Z D B xX5_winds _ _ _ 126 [some (.ref p), some (.int (nI kx)), some (.int (nI ky)), some (.int (nI kz)), some (.int 0), some (.int (σ 1 kz)), some (.int (b ||| (if wndB (up2 σ 1 kz (nI i)) (ε kx) kz ky = true then 1 <<< (nI i &&& 31) else 0))), some (.int (nI (i + 1))), some (.int (oI fb)), some (.int (nI j))] _ _ _
                refine z_goto (pc := 126) (zk6 kX5_winds_4) (tgt := 39) (by decide) ?_
                refine z_kill 8 ?_
                show Z D B xX5_winds _ _ _ 39 [some (.ref p), some (.int (nI kx)), some (.int (nI ky)), some (.int (nI kz)), some (.int 0), some (.int (σ 1 kz)), some (.int (b ||| (if wndB (up2 σ 1 kz (nI i)) (ε kx) kz ky = true then 1 <<< (nI i &&& 31) else 0))), some (.int (nI (i + 1))), none, some (.int (nI j))] _ _ _
                refine z_kill 9 ?_
                show Z D B xX5_winds _ _ _ 39 [some (.ref p), some (.int (nI kx)), some (.int (nI ky)), some (.int (nI kz)), some (.int 0), some (.int (σ 1 kz)), some (.int (b ||| (if wndB (up2 σ 1 kz (nI i)) (ε kx) kz ky = true then 1 <<< (nI i &&& 31) else 0))), some (.int (nI (i + 1))), none, none] _ _ _
                exact ih39 h_7 (nI i) (b ||| (if wndB (up2 σ 1 kz (nI i)) (ε kx) kz ky = true then 1 <<< (nI i &&& 31) else 0)) (i + 1) (by omega) (by omega) (by rw [hb_]; exact bitsI_s (fun v => wndB (up2 σ 1 kz (nI v)) (ε kx) kz ky) i) hM hU
              · have hlt_j : j < ky := nI_ge_not (a := ky) (by omega) (by omega) c_9
                refine z_iload (pc := 66) (zk6 kX5_winds_2) rfl ?_
                refine z_oif_eq (pc := 68) (zk7 kX5_winds_2) (tgt := 105) (by decide) (fun c_11 => ?_) (fun c_11 => ?_)
                · refine z_iload (pc := 105) (zk11 kX5_winds_3) rfl ?_
                  suffices hJ : Z D B xX5_winds 0 0 (mQ h p sz kp tr (sp_winds σ τ ε (nI kx) (nI ky) (nI kz))) 120 [some (.ref p), some (.int (nI kx)), some (.int (nI ky)), some (.int (nI kz)), some (.int 0), some (.int (σ 1 kz)), some (.int b), some (.int (nI i)), some (.int (oI fb)), some (.int (nI j))] [.int (if wndB (up2 σ 1 kz (nI i)) (ε kx) kz ky = true then 1 <<< (nI i &&& 31) else 0), .int b] h_7 sz from by
                    refine z_iload (pc := 107) (zk12 kX5_winds_3) rfl ?_
                    refine z_oif_eq (pc := 109) (zk13 kX5_winds_3) (tgt := 119) (by decide) (fun _ => ?_) (fun q => by rw [c_11] at q; cases q)
                    refine z_iconst (pc := 119) (zk2 kX5_winds_4) (v := 0) (by decide) ?_
                    exact z_top (congrArg Value.int (by rw [wndB_f (show wndB (up2 σ 1 kz (nI i)) (ε kx) kz j = false by rw [← hf]; exact c_11) (by omega)]; rfl)) hJ
                  refine z_ior (pc := 120) (zk3 kX5_winds_4) ?_
                  refine z_istore (pc := 121) (zk4 kX5_winds_4) rfl rfl ?_
                  show Z D B xX5_winds _ _ _ 123 [some (.ref p), some (.int (nI kx)), some (.int (nI ky)), some (.int (nI kz)), some (.int 0), some (.int (σ 1 kz)), some (.int (b ||| (if wndB (up2 σ 1 kz (nI i)) (ε kx) kz ky = true then 1 <<< (nI i &&& 31) else 0))), some (.int (nI i)), some (.int (oI fb)), some (.int (nI j))] _ _ _
                  refine z_iinc (pc := 123) (zk5 kX5_winds_4) (v := nI (i + 1)) rfl zinc rfl rfl ?_
                  show Z D B xX5_winds _ _ _ 126 [some (.ref p), some (.int (nI kx)), some (.int (nI ky)), some (.int (nI kz)), some (.int 0), some (.int (σ 1 kz)), some (.int (b ||| (if wndB (up2 σ 1 kz (nI i)) (ε kx) kz ky = true then 1 <<< (nI i &&& 31) else 0))), some (.int (nI (i + 1))), some (.int (oI fb)), some (.int (nI j))] _ _ _
                  refine z_goto (pc := 126) (zk6 kX5_winds_4) (tgt := 39) (by decide) ?_
                  refine z_kill 8 ?_
                  show Z D B xX5_winds _ _ _ 39 [some (.ref p), some (.int (nI kx)), some (.int (nI ky)), some (.int (nI kz)), some (.int 0), some (.int (σ 1 kz)), some (.int (b ||| (if wndB (up2 σ 1 kz (nI i)) (ε kx) kz ky = true then 1 <<< (nI i &&& 31) else 0))), some (.int (nI (i + 1))), none, some (.int (nI j))] _ _ _
                  refine z_kill 9 ?_
                  show Z D B xX5_winds _ _ _ 39 [some (.ref p), some (.int (nI kx)), some (.int (nI ky)), some (.int (nI kz)), some (.int 0), some (.int (σ 1 kz)), some (.int (b ||| (if wndB (up2 σ 1 kz (nI i)) (ε kx) kz ky = true then 1 <<< (nI i &&& 31) else 0))), some (.int (nI (i + 1))), none, none] _ _ _
                  exact ih39 h_7 (nI i) (b ||| (if wndB (up2 σ 1 kz (nI i)) (ε kx) kz ky = true then 1 <<< (nI i &&& 31) else 0)) (i + 1) (by omega) (by omega) (by rw [hb_]; exact bitsI_s (fun v => wndB (up2 σ 1 kz (nI v)) (ε kx) kz ky) i) hM hU
                · suffices hJ : Z D B xX5_winds 0 0 (mQ h p sz kp tr (sp_winds σ τ ε (nI kx) (nI ky) (nI kz))) 97 [some (.ref p), some (.int (nI kx)), some (.int (nI ky)), some (.int (nI kz)), some (.int 0), some (.int (σ 1 kz)), some (.int b), some (.int (nI i)), some (.int (oI fb)), some (.int (nI j))] [.int (oI (decide ((heardF (up2 σ 1 kz (nI i)) j kz).toInt64 = ε kx j)))] h_7 sz from by
                    refine z_aload_n (pc := 71) (zk8 kX5_winds_2) rfl ?_
                    refine z_iload (pc := 72) (zk9 kX5_winds_2) rfl ?_
                    refine z_iload_n (pc := 74) (zk10 kX5_winds_2) rfl ?_
                    refine z_rdV (pc := 75) (zk11 kX5_winds_2) (st := []) lkX5_115 ivX5_heardAt hM.1 rfl rfl (c_mheardAt hM hn h12 (show j < 8 by omega) (show kz < n by omega) (hto _ (by omega))) rfl ⟨rfl, rfl⟩ rfl rfl ?_ rfl
                    refine z_i2l (pc := 78) (zk12 kX5_winds_2) ?_
                    refine z_aload_n (pc := 79) (zk13 kX5_winds_2) rfl ?_
                    refine z_getf (pc := 80) (zk14 kX5_winds_2) flX5_21 hM.1 gMo_3 ?_
                    refine z_iload_n (pc := 83) (zk15 kX5_winds_2) rfl ?_
                    refine z_aald4N (pc := 84) (zk0 kX5_winds_3) (j := kx) (b := p + 4 + 1 + kx) hM.2.2.2.2.1 (show kx < 8 by omega) rfl (if_pos (show kx < 8 by omega)) ?_
                    refine z_iload (pc := 85) (zk1 kX5_winds_3) rfl ?_
                    refine z_laldN (pc := 87) (zk2 kX5_winds_3) (j := j) (hM.2.2.2.2.2.1 kx (show kx < 8 by omega)) (show j < 40 by omega) rfl ?_
                    refine z_lcmp (pc := 88) (zk3 kX5_winds_3) ?_
                    refine z_lif_ne (pc := 89) (zk4 kX5_winds_3) (tgt := 96) (by decide) (fun c_12 => ?_) (fun c_12 => ?_)
                    · refine z_iconst (pc := 96) (zk7 kX5_winds_3) (v := 0) (by decide) ?_
                      exact z_top (congrArg Value.int (by simp [oI, f1_, f2_, f3_, c_4, Int32.not_lt.mp c_4, c_9, Int32.not_le.mp c_9, c_11, c_12])) hJ
                    · refine z_iconst (pc := 92) (zk5 kX5_winds_3) (v := 1) (by decide) ?_
                      refine z_goto (pc := 93) (zk6 kX5_winds_3) (tgt := 97) (by decide) ?_
                      exact z_top (congrArg Value.int (by simp [oI, f1_, f2_, f3_, c_4, Int32.not_lt.mp c_4, c_9, Int32.not_le.mp c_9, c_11, c_12])) hJ
                  refine z_istore (pc := 97) (zk8 kX5_winds_3) rfl rfl ?_
                  show Z D B xX5_winds _ _ _ 99 [some (.ref p), some (.int (nI kx)), some (.int (nI ky)), some (.int (nI kz)), some (.int 0), some (.int (σ 1 kz)), some (.int b), some (.int (nI i)), some (.int (oI (decide ((heardF (up2 σ 1 kz (nI i)) j kz).toInt64 = ε kx j)))), some (.int (nI j))] _ _ _
                  refine z_iinc (pc := 99) (zk9 kX5_winds_3) (v := nI (j + 1)) rfl zinc rfl rfl ?_
                  show Z D B xX5_winds _ _ _ 102 [some (.ref p), some (.int (nI kx)), some (.int (nI ky)), some (.int (nI kz)), some (.int 0), some (.int (σ 1 kz)), some (.int b), some (.int (nI i)), some (.int (oI (decide ((heardF (up2 σ 1 kz (nI i)) j kz).toInt64 = ε kx j)))), some (.int (nI (j + 1)))] _ _ _
                  refine z_goto (pc := 102) (zk10 kX5_winds_3) (tgt := 60) (by decide) ?_
                  exact ih60 (decide ((heardF (up2 σ 1 kz (nI i)) j kz).toInt64 = ε kx j)) (j + 1) (by omega) (by omega) (by rw [wndB, ← hf, c_11, Bool.true_and])
          exact lp60 _ true 0 (Nat.lt_succ_self _) (by omega) rfl
    exact lp39 _ h_2 (σ 1 kz) 0 0 (Nat.lt_succ_self _) (by omega) rfl (by rw [up2_id]; exact hM) hU
set_option maxRecDepth 20000 in
theorem cP_element {D : zD} {B : Nat} {h : zH} {sz : Nat} {p : Nat} {σ τ ω : Ln} {ε : El} {mv : Nat → Int64} {kp tr : Option Nat} {m : Nat} {x y : Int32} (hM : MoAt h p σ τ ω ε mv kp tr) (hS : SW τ m) : zRd D B xX5_element [.ref p, .int x, .int y] h sz (.long (sp_element τ ε x y)) := by
  refine zM.of (by decide) rfl (n := 0) ?_
  show Z D B xX5_element 0 0 _ 0 [some (.ref p), some (.int x), some (.int y)] [] h sz
  refine z_iload_n (pc := 0) (zk0 kX5_element_0) rfl ?_
  refine z_i2l (pc := 1) (zk1 kX5_element_0) ?_
  refine z_lconst (pc := 2) (zk2 kX5_element_0) (v := 0) (by decide) ?_
  refine z_ldc2 (pc := 3) (zk3 kX5_element_0) klX5_88 ?_
  refine z_rdS (pc := 6) (zk4 kX5_element_0) (st := []) lkX5_81 isX5_in (c_inI (x := x) (a := 0) (b := 7) (by decide) (by decide)) rfl ⟨rfl, rfl⟩ rfl rfl ?_ rfl
  refine z_oif_eq (pc := 9) (zk5 kX5_element_0) (tgt := 51) (by decide) (fun c_1 => ?_) (fun c_1 => ?_)
  · refine z_lconst (pc := 51) (zk15 kX5_element_1) (v := 0) (by decide) ?_
    exact z_lret (pc := 52) (zk0 kX5_element_2) rfl (Nat.zero_le _) (Nat.zero_le _) ⟨by simp [sp_element, okS, c_1], rfl, rfl⟩
  · refine z_aload_n (pc := 12) (zk6 kX5_element_0) rfl ?_
    refine z_getf (pc := 13) (zk7 kX5_element_0) flX5_7 hM.1 gMo_0 ?_
    refine z_iload_n (pc := 16) (zk8 kX5_element_0) rfl ?_
    obtain ⟨kx, hkx, rfl⟩ := okR_c (c := 7) (by decide) c_1
    refine z_ialdN (pc := 17) (zk9 kX5_element_0) (f := τ 1) (j := kx) hM.2.1 (show kx < 8 by omega) rfl ?_
    refine z_iconst (pc := 18) (zk10 kX5_element_0) (v := 1) (by decide) ?_
    refine z_icmp_ne (pc := 19) (zk11 kX5_element_0) (tgt := 51) (by decide) (fun c_2 => ?_) (fun c_2 => ?_)
    · refine z_lconst (pc := 51) (zk15 kX5_element_1) (v := 0) (by decide) ?_
      exact z_lret (pc := 52) (zk0 kX5_element_2) rfl (Nat.zero_le _) (Nat.zero_le _) ⟨by simp [sp_element, okS, c_1, c_2, ix_nI (show kx ≤ 1000 by omega)], rfl, rfl⟩
    · obtain ⟨r_, hr_, er_⟩ := SW_row1 hS (by omega) c_2
      refine z_iload_n (pc := 22) (zk12 kX5_element_0) rfl ?_
      refine z_i2l (pc := 23) (zk13 kX5_element_0) ?_
      refine z_lconst (pc := 24) (zk14 kX5_element_0) (v := 0) (by decide) ?_
      refine z_aload_n (pc := 25) (zk15 kX5_element_0) rfl ?_
      refine z_getf (pc := 26) (zk0 kX5_element_1) flX5_16 hM.1 gMo_2 ?_
      refine z_iload_n (pc := 29) (zk1 kX5_element_1) rfl ?_
      refine z_ialdN (pc := 30) (zk2 kX5_element_1) (f := τ 3) (j := kx) hM.2.2.2.1 (show kx < 8 by omega) rfl ?_
      refine z_iconst (pc := 31) (zk3 kX5_element_1) (v := 1) (by decide) ?_
      refine z_isub (pc := 32) (zk4 kX5_element_1) ?_
      refine z_i2l (pc := 33) (zk5 kX5_element_1) ?_
      refine z_rdS (pc := 34) (zk6 kX5_element_1) (st := []) lkX5_81 isX5_in (c_inI (x := y) (a := 0) (b := (τ 3 kx) - 1) (by decide) rfl) rfl ⟨rfl, rfl⟩ rfl rfl ?_ rfl
      refine z_oif_eq (pc := 37) (zk7 kX5_element_1) (tgt := 51) (by decide) (fun c_3 => ?_) (fun c_3 => ?_)
      · refine z_lconst (pc := 51) (zk15 kX5_element_1) (v := 0) (by decide) ?_
        exact z_lret (pc := 52) (zk0 kX5_element_2) rfl (Nat.zero_le _) (Nat.zero_le _) ⟨by simp [sp_element, okS, c_1, c_2, c_3, ix_nI (show kx ≤ 1000 by omega)], rfl, rfl⟩
      · refine z_aload_n (pc := 40) (zk8 kX5_element_1) rfl ?_
        refine z_getf (pc := 41) (zk9 kX5_element_1) flX5_21 hM.1 gMo_3 ?_
        refine z_iload_n (pc := 44) (zk10 kX5_element_1) rfl ?_
        refine z_aald4N (pc := 45) (zk11 kX5_element_1) (j := kx) (b := p + 4 + 1 + kx) hM.2.2.2.2.1 (show kx < 8 by omega) rfl (if_pos (show kx < 8 by omega)) ?_
        refine z_iload_n (pc := 46) (zk12 kX5_element_1) rfl ?_
        obtain ⟨ky, hky, rfl⟩ := okR_nI (n := r_) (by omega) (by rw [← er_]; exact c_3)
        refine z_laldN (pc := 47) (zk13 kX5_element_1) (j := ky) (hM.2.2.2.2.2.1 kx (show kx < 8 by omega)) (show ky < 40 by omega) rfl ?_
        refine z_goto (pc := 48) (zk14 kX5_element_1) (tgt := 52) (by decide) ?_
        exact z_lret (pc := 52) (zk0 kX5_element_2) rfl (Nat.zero_le _) (Nat.zero_le _) ⟨by simp [sp_element, okS, c_1, c_2, c_3, ix_nI (show kx ≤ 1000 by omega), ix_nI (show ky ≤ 1000 by omega)], rfl, rfl⟩
theorem bx_known (σ : Ln) (a b : Nat) (h : lsN σ ≤ 8) : ∃ v, v < 4096 ∧ knownF σ a &&& knownF σ b = nI v := by
  obtain ⟨v, hv, e⟩ := knownF_eq σ a h
  obtain ⟨w, _, f⟩ := knownF_eq σ b h
  refine ⟨v &&& w, Nat.lt_of_le_of_lt Nat.and_le_left (by omega), ?_⟩
  rw [e, f, bx_and]
theorem gosI_s1 (σ : Ln) (a : Nat) (q : Int32 × Int32) (d : Nat) : (if (gosI σ a q d).1 < popI (knownF σ a &&& knownF σ (a + 1 + d)) then popI (knownF σ a &&& knownF σ (a + 1 + d)) else (gosI σ a q d).1) = (gosI σ a q (d + 1)).1 := by
  rw [gosI]; split <;> rfl
theorem gosI_s2 (σ : Ln) (a : Nat) (q : Int32 × Int32) (d : Nat) : (if (gosI σ a q d).1 < popI (knownF σ a &&& knownF σ (a + 1 + d)) then 100 * nI a + nI (a + 1 + d) else (gosI σ a q d).2) = (gosI σ a q (d + 1)).2 := by
  rw [gosI]; split <;> rfl
theorem gosI_j1 {σ : Ln} {a j : Nat} {q : Int32 × Int32} (h : a + 1 ≤ j) : (if (gosI σ a q (j - (a + 1))).1 < popI (knownF σ a &&& knownF σ j) then popI (knownF σ a &&& knownF σ j) else (gosI σ a q (j - (a + 1))).1) = (gosI σ a q (j + 1 - (a + 1))).1 := by
  have := gosI_s1 σ a q (j - (a + 1))
  rw [show a + 1 + (j - (a + 1)) = j by omega] at this
  rw [this, show j + 1 - (a + 1) = j - (a + 1) + 1 by omega]
theorem gosI_j2 {σ : Ln} {a j : Nat} {q : Int32 × Int32} (h : a + 1 ≤ j) : (if (gosI σ a q (j - (a + 1))).1 < popI (knownF σ a &&& knownF σ j) then 100 * nI a + nI j else (gosI σ a q (j - (a + 1))).2) = (gosI σ a q (j + 1 - (a + 1))).2 := by
  have := gosI_s2 σ a q (j - (a + 1))
  rw [show a + 1 + (j - (a + 1)) = j by omega] at this
  rw [this, show j + 1 - (a + 1) = j - (a + 1) + 1 by omega]
set_option maxRecDepth 20000 in
theorem cP_gossips {D : zD} {B : Nat} {h : zH} {sz : Nat} {p : Nat} {σ τ ω : Ln} {ε : El} {mv : Nat → Int64} {kp tr : Option Nat} {n m : Nat} (hM : MoAt h p σ τ ω ε mv kp tr) (hB : B ≤ p) (hn : σ 0 0 = nI n) (h12 : n ≤ 12) (hm : σ 9 0 = nI m) (h8 : m ≤ 8) (hto : ∀ l, l < m → ToOk σ l) : zM D B xX5_gossips [.ref p] h sz (mQ h p sz kp tr (sp_gossips σ τ ε)) := by
  have hU : Upd h h p 29 := Upd.rf
  refine zM.of (by decide) rfl (n := 5) ?_
  show Z D B xX5_gossips 0 0 _ 0 [some (.ref p), none, none, none, none, none] [] h sz
  refine z_iconst (pc := 0) (zk0 kX5_gossips_0) (v := (-1)) (by decide) ?_
  refine z_istore_n (pc := 1) (zk1 kX5_gossips_0) rfl rfl ?_
  show Z D B xX5_gossips _ _ _ 2 [some (.ref p), some (.int (-1)), none, none, none, none] _ _ _
  refine z_iconst (pc := 2) (zk2 kX5_gossips_0) (v := 0) (by decide) ?_
  refine z_istore_n (pc := 3) (zk3 kX5_gossips_0) rfl rfl ?_
  show Z D B xX5_gossips _ _ _ 4 [some (.ref p), some (.int (-1)), some (.int 0), none, none, none] _ _ _
  refine z_iconst (pc := 4) (zk4 kX5_gossips_0) (v := 0) (by decide) ?_
  refine z_istore_n (pc := 5) (zk5 kX5_gossips_0) rfl rfl ?_
  show Z D B xX5_gossips _ _ _ 6 [some (.ref p), some (.int (-1)), some (.int 0), some (.int 0), none, none] _ _ _
  have lp6 : ∀ (n_ : Nat) (a : Int32) (b : Int32) (i : Nat), n - i < n_ → (i ≤ n) → (a = (gosO σ n i).2) → (b = (gosO σ n i).1) → Z D B xX5_gossips 0 0 (mQ h p sz kp tr (sp_gossips σ τ ε)) 6 [some (.ref p), some (.int a), some (.int b), some (.int (nI i)), none, none] [] h sz := by
    intro n_
    induction n_ with
    | zero => intro a b i hm_; exact absurd hm_ (Nat.not_lt_zero _)
    | succ n_ ih6 =>
      intro a b i hm_ hi_i ha_ hb_
      refine z_iload_n (pc := 6) (zk6 kX5_gossips_0) rfl ?_
      refine z_aload_n (pc := 7) (zk7 kX5_gossips_0) rfl ?_
      refine z_getf (pc := 8) (zk8 kX5_gossips_0) flX5_37 hM.1 (v := .int (nI n)) (by rw [← hn]; rfl) ?_
      refine z_icmp_ge (pc := 11) (zk9 kX5_gossips_0) (tgt := 88) (by decide) (fun c_1 => ?_) (fun c_1 => ?_)
      · have hie_i : i = n := nI_ge_yes (a := n) (by omega) (by omega) (by omega) c_1
        refine z_iload_n (pc := 88) (zk1 kX5_gossips_3) rfl ?_
        exact z_iret (pc := 89) (zk2 kX5_gossips_3) rfl (Nat.zero_le _) (Nat.zero_le _) (by
                    rw [show sp_gossips σ τ ε = (a, σ, τ, ε) from by simp [sp_gossips, sBad, okS, okH, okL, okT, okB, sRd, up2_id, up2_id2, oI, c_1, Int32.not_lt.mpr c_1, ha_, hie_i, hsN_eq hn h12, lsN_eq hm h8]]
                    exact ⟨_, _, rfl, hM, hU, rfl⟩)
      · have hlt_i : i < n := nI_ge_not (a := n) (by omega) (by omega) c_1
        refine z_iload_n (pc := 14) (zk10 kX5_gossips_0) rfl ?_
        refine z_iconst (pc := 15) (zk11 kX5_gossips_0) (v := 1) (by decide) ?_
        refine z_iadd (pc := 16) (zk12 kX5_gossips_0) ?_
        refine z_top (congrArg Value.int (nI_1 i)) ?_
        refine z_istore (pc := 17) (zk13 kX5_gossips_0) rfl rfl ?_
        show Z D B xX5_gossips _ _ _ 19 [some (.ref p), some (.int a), some (.int b), some (.int (nI i)), some (.int (nI (i + 1))), none] _ _ _
        have lp19 : ∀ (n_ : Nat) (a2 : Int32) (b2 : Int32) (j : Nat), n - j < n_ → (i + 1 ≤ j) → (j ≤ n) → (a2 = (gosI σ i (gosO σ n i) (j - (i + 1))).2) → (b2 = (gosI σ i (gosO σ n i) (j - (i + 1))).1) → Z D B xX5_gossips 0 0 (mQ h p sz kp tr (sp_gossips σ τ ε)) 19 [some (.ref p), some (.int a2), some (.int b2), some (.int (nI i)), some (.int (nI j)), none] [] h sz := by
          intro n_
          induction n_ with
          | zero => intro a2 b2 j hm_; exact absurd hm_ (Nat.not_lt_zero _)
          | succ n_ ih19 =>
            intro a2 b2 j hm_ h0_j hi_j ha2 hb2
            refine z_iload (pc := 19) (zk14 kX5_gossips_0) rfl ?_
            refine z_aload_n (pc := 21) (zk15 kX5_gossips_0) rfl ?_
            refine z_getf (pc := 22) (zk0 kX5_gossips_1) flX5_37 hM.1 (v := .int (nI n)) (by rw [← hn]; rfl) ?_
            refine z_icmp_ge (pc := 25) (zk1 kX5_gossips_1) (tgt := 82) (by decide) (fun c_2 => ?_) (fun c_2 => ?_)
            · have hie_j : j = n := nI_ge_yes (a := n) (by omega) (by omega) (by omega) c_2
              refine z_iinc (pc := 82) (zk15 kX5_gossips_2) (v := nI (i + 1)) rfl zinc rfl rfl ?_
              show Z D B xX5_gossips _ _ _ 85 [some (.ref p), some (.int a2), some (.int b2), some (.int (nI (i + 1))), some (.int (nI j)), none] _ _ _
              refine z_goto (pc := 85) (zk0 kX5_gossips_3) (tgt := 6) (by decide) ?_
              refine z_kill 4 ?_
              show Z D B xX5_gossips _ _ _ 6 [some (.ref p), some (.int a2), some (.int b2), some (.int (nI (i + 1))), none, none] _ _ _
              exact ih6 a2 b2 (i + 1) (by omega) (by omega) (by rw [ha2, hie_j]; rfl) (by rw [hb2, hie_j]; rfl)
            · have hlt_j : j < n := nI_ge_not (a := n) (by omega) (by omega) c_2
              refine z_aload_n (pc := 28) (zk2 kX5_gossips_1) rfl ?_
              refine z_iload_n (pc := 29) (zk3 kX5_gossips_1) rfl ?_
              refine z_rdV (pc := 30) (zk4 kX5_gossips_1) (st := []) lkX5_254 ivX5_knownAt hM.1 rfl rfl (c_mknownAt hM hn h12 hm h8 (show i < n by omega) hto) rfl ⟨rfl, rfl⟩ rfl rfl ?_ rfl
              refine z_aload_n (pc := 33) (zk5 kX5_gossips_1) rfl ?_
              refine z_iload (pc := 34) (zk6 kX5_gossips_1) rfl ?_
              refine z_rdV (pc := 36) (zk7 kX5_gossips_1) (st := [.int (knownF σ i)]) lkX5_254 ivX5_knownAt hM.1 rfl rfl (c_mknownAt hM hn h12 hm h8 (show j < n by omega) hto) rfl ⟨rfl, rfl⟩ rfl rfl ?_ rfl
              refine z_iand (pc := 39) (zk8 kX5_gossips_1) ?_
              refine z_rdS (pc := 40) (zk9 kX5_gossips_1) (st := []) lkX5_262 isX5_bits (c_mbits (bx_known σ i j (by rw [lsN_eq hm h8]; exact h8))) rfl ⟨rfl, rfl⟩ rfl rfl ?_ rfl
              refine z_istore (pc := 43) (zk10 kX5_gossips_1) rfl rfl ?_
              show Z D B xX5_gossips _ _ _ 45 [some (.ref p), some (.int a2), some (.int b2), some (.int (nI i)), some (.int (nI j)), some (.int (popI ((knownF σ i) &&& (knownF σ j))))] _ _ _
              suffices hJ : Z D B xX5_gossips 0 0 (mQ h p sz kp tr (sp_gossips σ τ ε)) 62 [some (.ref p), some (.int a2), some (.int b2), some (.int (nI i)), some (.int (nI j)), some (.int (popI ((knownF σ i) &&& (knownF σ j))))] [.int (if b2 < popI (knownF σ i &&& knownF σ j) then 100 * nI i + nI j else a2)] h sz from by
                refine z_iload (pc := 45) (zk11 kX5_gossips_1) rfl ?_
                refine z_iload_n (pc := 47) (zk12 kX5_gossips_1) rfl ?_
                refine z_icmp_le (pc := 48) (zk13 kX5_gossips_1) (tgt := 61) (by decide) (fun c_3 => ?_) (fun c_3 => ?_)
                · refine z_iload_n (pc := 61) (zk4 kX5_gossips_2) rfl ?_
                  exact z_top (congrArg Value.int (by simp [c_1, Int32.not_le.mp c_1, c_2, Int32.not_le.mp c_2, c_3, Int32.not_lt.mpr c_3])) hJ
                · refine z_bipush (pc := 51) (zk14 kX5_gossips_1) (v := 100) (by decide) ?_
                  refine z_iload_n (pc := 53) (zk15 kX5_gossips_1) rfl ?_
                  refine z_imul (pc := 54) (zk0 kX5_gossips_2) ?_
                  refine z_iload (pc := 55) (zk1 kX5_gossips_2) rfl ?_
                  refine z_iadd (pc := 57) (zk2 kX5_gossips_2) ?_
                  refine z_goto (pc := 58) (zk3 kX5_gossips_2) (tgt := 62) (by decide) ?_
                  exact z_top (congrArg Value.int (by simp [c_1, Int32.not_le.mp c_1, c_2, Int32.not_le.mp c_2, c_3, Int32.not_le.mp c_3])) hJ
              refine z_istore_n (pc := 62) (zk5 kX5_gossips_2) rfl rfl ?_
              show Z D B xX5_gossips _ _ _ 63 [some (.ref p), some (.int (if b2 < popI (knownF σ i &&& knownF σ j) then 100 * nI i + nI j else a2)), some (.int b2), some (.int (nI i)), some (.int (nI j)), some (.int (popI ((knownF σ i) &&& (knownF σ j))))] _ _ _
              suffices hJ : Z D B xX5_gossips 0 0 (mQ h p sz kp tr (sp_gossips σ τ ε)) 75 [some (.ref p), some (.int (if b2 < popI (knownF σ i &&& knownF σ j) then 100 * nI i + nI j else a2)), some (.int b2), some (.int (nI i)), some (.int (nI j)), some (.int (popI ((knownF σ i) &&& (knownF σ j))))] [.int (if b2 < popI (knownF σ i &&& knownF σ j) then popI (knownF σ i &&& knownF σ j) else b2)] h sz from by
                refine z_iload (pc := 63) (zk6 kX5_gossips_2) rfl ?_
                refine z_iload_n (pc := 65) (zk7 kX5_gossips_2) rfl ?_
                refine z_icmp_le (pc := 66) (zk8 kX5_gossips_2) (tgt := 74) (by decide) (fun c_4 => ?_) (fun c_4 => ?_)
                · refine z_iload_n (pc := 74) (zk11 kX5_gossips_2) rfl ?_
                  exact z_top (congrArg Value.int (by simp [c_1, Int32.not_le.mp c_1, c_2, Int32.not_le.mp c_2, c_4, Int32.not_lt.mpr c_4])) hJ
                · refine z_iload (pc := 69) (zk9 kX5_gossips_2) rfl ?_
                  refine z_goto (pc := 71) (zk10 kX5_gossips_2) (tgt := 75) (by decide) ?_
                  exact z_top (congrArg Value.int (by simp [c_1, Int32.not_le.mp c_1, c_2, Int32.not_le.mp c_2, c_4, Int32.not_le.mp c_4])) hJ
              refine z_istore_n (pc := 75) (zk12 kX5_gossips_2) rfl rfl ?_
              show Z D B xX5_gossips _ _ _ 76 [some (.ref p), some (.int (if b2 < popI (knownF σ i &&& knownF σ j) then 100 * nI i + nI j else a2)), some (.int (if b2 < popI (knownF σ i &&& knownF σ j) then popI (knownF σ i &&& knownF σ j) else b2)), some (.int (nI i)), some (.int (nI j)), some (.int (popI ((knownF σ i) &&& (knownF σ j))))] _ _ _
              refine z_iinc (pc := 76) (zk13 kX5_gossips_2) (v := nI (j + 1)) rfl zinc rfl rfl ?_
              show Z D B xX5_gossips _ _ _ 79 [some (.ref p), some (.int (if b2 < popI (knownF σ i &&& knownF σ j) then 100 * nI i + nI j else a2)), some (.int (if b2 < popI (knownF σ i &&& knownF σ j) then popI (knownF σ i &&& knownF σ j) else b2)), some (.int (nI i)), some (.int (nI (j + 1))), some (.int (popI ((knownF σ i) &&& (knownF σ j))))] _ _ _
              refine z_goto (pc := 79) (zk14 kX5_gossips_2) (tgt := 19) (by decide) ?_
              refine z_kill 5 ?_
              show Z D B xX5_gossips _ _ _ 19 [some (.ref p), some (.int (if b2 < popI (knownF σ i &&& knownF σ j) then 100 * nI i + nI j else a2)), some (.int (if b2 < popI (knownF σ i &&& knownF σ j) then popI (knownF σ i &&& knownF σ j) else b2)), some (.int (nI i)), some (.int (nI (j + 1))), none] _ _ _
              exact ih19 (if b2 < popI (knownF σ i &&& knownF σ j) then 100 * nI i + nI j else a2) (if b2 < popI (knownF σ i &&& knownF σ j) then popI (knownF σ i &&& knownF σ j) else b2) (j + 1) (by omega) (by omega) (by omega) (by rw [ha2, hb2]; exact gosI_j2 (by omega)) (by rw [hb2]; exact gosI_j1 (by omega))
        exact lp19 _ a b (i + 1) (Nat.lt_succ_self _) (by omega) (by omega) (by rw [Nat.sub_self]; exact ha_) (by rw [Nat.sub_self]; exact hb_)
  exact lp6 _ (-1) 0 0 (Nat.lt_succ_self _) (by omega) rfl rfl
