theorem amn_s1 (f : Nat → Int32) (m b : Int32) (n : Nat) : (if f n < (amn f m b n).1 then f n else (amn f m b n).1) = (amn f m b (n + 1)).1 := by
  rw [amn]; split <;> rfl
theorem amn_s2 (f : Nat → Int32) (m b : Int32) (n : Nat) : (if f n < (amn f m b n).1 then nI n else (amn f m b n).2) = (amn f m b (n + 1)).2 := by
  rw [amn]; split <;> rfl
set_option maxRecDepth 20000 in
theorem cP_ask {D : zD} {B : Nat} {h : zH} {sz : Nat} {p : Nat} {σ τ ω : Ln} {ε : El} {mv : Nat → Int64} {kp tr : Option Nat} {x : Int32} {y : Int32} {z : Int32} {n m : Nat} (hM : MoAt h p σ τ ω ε mv kp tr) (hB : B ≤ p) (hn : σ 0 0 = nI n) (h12 : n ≤ 12) (hm : σ 9 0 = nI m) (h8 : m ≤ 8) (hto : ∀ l, l < m → ToOk σ l) (hS : SW τ m) (h2 : 2 ≤ n) : zM D B xX5_ask [.ref p, .int x, .int y, .int z] h sz (mQ h p sz kp tr (sp_ask σ τ ε x y z)) := by
  have hU : Upd h h p 29 := Upd.rf
  refine zM.of (by decide) rfl (n := 6) ?_
  show Z D B xX5_ask 0 0 _ 0 [some (.ref p), some (.int x), some (.int y), some (.int z), none, none, none, none, none, none] [] h sz
  refine z_aload_n (pc := 0) (zk0 kX5_ask_0) rfl ?_
  refine z_iload_n (pc := 1) (zk1 kX5_ask_0) rfl ?_
  refine z_iload_n (pc := 2) (zk2 kX5_ask_0) rfl ?_
  refine z_aload_n (pc := 3) (zk3 kX5_ask_0) rfl ?_
  refine z_getf (pc := 4) (zk4 kX5_ask_0) flX5_37 hM.1 (v := .int (nI n)) (by rw [← hn]; rfl) ?_
  refine z_aload_n (pc := 7) (zk5 kX5_ask_0) rfl ?_
  refine z_iload_n (pc := 8) (zk6 kX5_ask_0) rfl ?_
  refine z_i2l (pc := 9) (zk7 kX5_ask_0) ?_
  refine z_rdV (pc := 10) (zk8 kX5_ask_0) (st := [.int (nI n), .int y, .int x, .ref p]) lkX5_105 ivX5_isLetter hM.1 rfl rfl (c_isLetter hM) rfl ⟨rfl, rfl⟩ rfl rfl ?_ rfl
  refine z_efV (pc := 13) (zk9 kX5_ask_0) (st := []) lkX5_296 ivX5_noSounds hM.1 rfl rfl (c_noSounds hM hB) rfl ⟨rfl, rfl⟩ rfl rfl (fun r_ h_2 z_ q_1 => ?_) rfl
  rcases q_1 with ⟨f0_, er_, hR, hU_3, ez_⟩ | ⟨f0_, er_, hR, hU_3, ez_⟩ | ⟨f0_, er_, hR, hU_3, ez_⟩ | ⟨f0_, er_, hR, hU_3, ez_⟩
  · rw [er_, ez_]
    clear er_ ez_
    replace hU := hU.tr hU_3 (by omega) (by omega)
    replace hM := hR; clear hR
    show Z D B xX5_ask _ _ _ 16 _ [.int (-2)] _ _
    refine z_istore (pc := 16) (zk10 kX5_ask_0) rfl rfl ?_
    show Z D B xX5_ask _ _ _ 18 [some (.ref p), some (.int x), some (.int y), some (.int z), some (.int (-2)), none, none, none, none, none] _ _ _
    refine z_iload (pc := 18) (zk11 kX5_ask_0) rfl ?_
    refine z_if_eq (pc := 20) (zk12 kX5_ask_0) (tgt := 26) (by decide) (fun q => absurd q (by decide)) (fun _ => ?_)
    refine z_iload (pc := 23) (zk13 kX5_ask_0) rfl ?_
    exact z_iret (pc := 25) (zk14 kX5_ask_0) rfl (Nat.zero_le _) (Nat.zero_le _) (by
            rw [show sp_ask σ τ ε x y z = ((-2), σ, (rfN τ 2), ε) from by rw [sp_ask, okL, hn, f0_]; rfl]
            exact ⟨_, _, rfl, hM, hU, rfl⟩)
  · rw [er_, ez_]
    clear er_ ez_
    replace hU := hU.tr hU_3 (by omega) (by omega)
    replace hM := hR; clear hR
    show Z D B xX5_ask _ _ _ 16 _ [.int (-3)] _ _
    refine z_istore (pc := 16) (zk10 kX5_ask_0) rfl rfl ?_
    show Z D B xX5_ask _ _ _ 18 [some (.ref p), some (.int x), some (.int y), some (.int z), some (.int (-3)), none, none, none, none, none] _ _ _
    refine z_iload (pc := 18) (zk11 kX5_ask_0) rfl ?_
    refine z_if_eq (pc := 20) (zk12 kX5_ask_0) (tgt := 26) (by decide) (fun q => absurd q (by decide)) (fun _ => ?_)
    refine z_iload (pc := 23) (zk13 kX5_ask_0) rfl ?_
    exact z_iret (pc := 25) (zk14 kX5_ask_0) rfl (Nat.zero_le _) (Nat.zero_le _) (by
            rw [show sp_ask σ τ ε x y z = ((-3), σ, (rfN τ 3), ε) from by rw [sp_ask, okL, hn, f0_]; rfl]
            exact ⟨_, _, rfl, hM, hU, rfl⟩)
  · rw [er_, ez_]
    clear er_ ez_
    replace hU := hU.tr hU_3 (by omega) (by omega)
    replace hM := hR; clear hR
    show Z D B xX5_ask _ _ _ 16 _ [.int (-4)] _ _
    refine z_istore (pc := 16) (zk10 kX5_ask_0) rfl rfl ?_
    show Z D B xX5_ask _ _ _ 18 [some (.ref p), some (.int x), some (.int y), some (.int z), some (.int (-4)), none, none, none, none, none] _ _ _
    refine z_iload (pc := 18) (zk11 kX5_ask_0) rfl ?_
    refine z_if_eq (pc := 20) (zk12 kX5_ask_0) (tgt := 26) (by decide) (fun q => absurd q (by decide)) (fun _ => ?_)
    refine z_iload (pc := 23) (zk13 kX5_ask_0) rfl ?_
    exact z_iret (pc := 25) (zk14 kX5_ask_0) rfl (Nat.zero_le _) (Nat.zero_le _) (by
            rw [show sp_ask σ τ ε x y z = ((-4), σ, (rfN τ 4), ε) from by rw [sp_ask, okL, hn, f0_]; rfl]
            exact ⟨_, _, rfl, hM, hU, rfl⟩)
  · rw [er_, ez_]
    clear er_ ez_
    replace hU := hU.tr hU_3 (by omega) (by omega)
    replace hM := hR; clear hR
    show Z D B xX5_ask _ _ _ 16 _ [.int 0] _ _
    obtain ⟨f1_, f2_, f3_, f4_, f5_, f6_⟩ := rowF_0 f0_
    refine z_istore (pc := 16) (zk10 kX5_ask_0) rfl rfl ?_
    show Z D B xX5_ask _ _ _ 18 [some (.ref p), some (.int x), some (.int y), some (.int z), some (.int 0), none, none, none, none, none] _ _ _
    refine z_iload (pc := 18) (zk11 kX5_ask_0) rfl ?_
    refine z_if_eq (pc := 20) (zk12 kX5_ask_0) (tgt := 26) (by decide) (fun _ => ?_) (fun q => absurd (by decide) q)
    obtain ⟨kx, hkx, rfl⟩ := okR_c (c := 7) (by decide) f1_
    obtain ⟨ky, hky, rfl⟩ := okR_c (c := n) (by omega) f2_
    obtain ⟨kz, hkz, rfl⟩ := okR_nI (n := m) (by omega) (by rw [← hm]; exact f3_)
    refine z_aload_n (pc := 26) (zk15 kX5_ask_0) rfl ?_
    refine z_iload_n (pc := 27) (zk0 kX5_ask_1) rfl ?_
    refine z_iload_n (pc := 28) (zk1 kX5_ask_1) rfl ?_
    refine z_iload_n (pc := 29) (zk2 kX5_ask_1) rfl ?_
    refine z_efV (pc := 30) (zk3 kX5_ask_1) (st := []) lkX5_300 ivX5_findLengths hM.1 rfl rfl (c_findLengths hM hn h12 (show kx < 8 by omega) (by omega) (show kz < 8 by omega) (hto _ (by omega)) hB) rfl ⟨rfl, rfl⟩ rfl rfl (fun r_ h_5 z_ q_4 => ?_) rfl
    obtain ⟨w_7, er_, hR, e1_, e2_, e3_, e4_, hU_6, ez_⟩ := q_4
    rw [er_, ez_]
    clear er_ ez_
    replace hU := hU.tr hU_6 (by omega) (by omega)
    replace hM := hR; clear hR
    show Z D B xX5_ask _ _ _ 33 _ [] _ _
    refine z_aload_n (pc := 33) (zk4 kX5_ask_1) rfl ?_
    refine z_getf (pc := 34) (zk5 kX5_ask_1) flX5_62 hM.1 gMo_21 ?_
    refine z_iload_n (pc := 37) (zk6 kX5_ask_1) rfl ?_
    refine z_ialdN (pc := 38) (zk7 kX5_ask_1) (f := σ 13) (j := kz) hM.2.2.2.2.2.2.2.2.2.2.2.2.2.2.2.2.2.1 (show kz < 8 by omega) rfl ?_
    refine z_istore (pc := 39) (zk8 kX5_ask_1) rfl rfl ?_
    show Z D B xX5_ask _ _ _ 41 [some (.ref p), some (.int (nI kx)), some (.int (nI ky)), some (.int (nI kz)), some (.int 0), some (.int (σ 13 kz)), none, none, none, none] _ _ _
    refine z_iconst (pc := 41) (zk9 kX5_ask_1) (v := (-1)) (by decide) ?_
    refine z_istore (pc := 42) (zk10 kX5_ask_1) rfl rfl ?_
    show Z D B xX5_ask _ _ _ 44 [some (.ref p), some (.int (nI kx)), some (.int (nI ky)), some (.int (nI kz)), some (.int 0), some (.int (σ 13 kz)), some (.int (-1)), none, none, none] _ _ _
    refine z_bipush (pc := 44) (zk11 kX5_ask_1) (v := 41) (by decide) ?_
    refine z_istore (pc := 46) (zk12 kX5_ask_1) rfl rfl ?_
    show Z D B xX5_ask _ _ _ 48 [some (.ref p), some (.int (nI kx)), some (.int (nI ky)), some (.int (nI kz)), some (.int 0), some (.int (σ 13 kz)), some (.int (-1)), some (.int 41), none, none] _ _ _
    refine z_iconst (pc := 48) (zk13 kX5_ask_1) (v := 0) (by decide) ?_
    refine z_istore (pc := 49) (zk14 kX5_ask_1) rfl rfl ?_
    show Z D B xX5_ask _ _ _ 51 [some (.ref p), some (.int (nI kx)), some (.int (nI ky)), some (.int (nI kz)), some (.int 0), some (.int (σ 13 kz)), some (.int (-1)), some (.int 41), some (.int 0), none] _ _ _
    have lp51 : ∀ (n_ : Nat) (w1 : Ln) (g : zH) (q : Int32) (a : Int32) (b : Int32) (i : Nat), n - i < n_ → (i ≤ n) → (a = (amn (fun k => wrstF σ (ε kx) ky kz k 40) 41 (-1) i).2) → (b = (amn (fun k => wrstF σ (ε kx) ky kz k 40) 41 (-1) i).1) → (∀ a, 1 ≤ a → a ≤ 40 → w1 18 a = oI ((lenB σ (ε kx) ky kz) a)) → (w1 19 0 = lenC σ (ε kx) ky kz) → (lenC σ (ε kx) ky kz ≤ 1 → i = 0) → (MoAt g p (up2 σ 13 kz q) τ w1 ε mv kp tr) → (Upd h g p 29) → Z D B xX5_ask 0 0 (mQ h p sz kp tr (sp_ask σ τ ε (nI kx) (nI ky) (nI kz))) 51 [some (.ref p), some (.int (nI kx)), some (.int (nI ky)), some (.int (nI kz)), some (.int 0), some (.int (σ 13 kz)), some (.int a), some (.int b), some (.int (nI i)), none] [] g sz := by
      intro n_
      induction n_ with
      | zero => intro w1 g q a b i hm_; exact absurd hm_ (Nat.not_lt_zero _)
      | succ n_ ih51 =>
        intro w1 g q a b i hm_ hi_i ha_ hb_ hmy h19 hone hM hU
        refine z_iload (pc := 51) (zk15 kX5_ask_1) rfl ?_
        refine z_aload_n (pc := 53) (zk0 kX5_ask_2) rfl ?_
        refine z_getf (pc := 54) (zk1 kX5_ask_2) flX5_37 hM.1 (v := .int (nI n)) (by rw [← hn]; rfl) ?_
        refine z_icmp_ge (pc := 57) (zk2 kX5_ask_2) (tgt := 115) (by decide) (fun c_8 => ?_) (fun c_8 => ?_)
        · have hie_i : i = n := nI_ge_yes (a := n) (by omega) (by omega) (by omega) c_8
          have hres : askF σ (ε kx) ky kz = a := by
            by_cases c : 1 < lenC σ (ε kx) ky kz
            · rw [askF, if_pos c, ha_, hie_i, hsN_eq hn h12]
            · exact absurd (hone (Int32.not_lt.mp c)) (by omega)
          refine z_aload_n (pc := 115) (zk12 kX5_ask_3) rfl ?_
          refine z_getf (pc := 116) (zk13 kX5_ask_3) flX5_62 hM.1 gMo_21 ?_
          refine z_iload_n (pc := 119) (zk14 kX5_ask_3) rfl ?_
          refine z_iload (pc := 120) (zk15 kX5_ask_3) rfl ?_
          refine z_Mo_s24 (pc := 122) (zk0 kX5_ask_4) (j := kz) hM (by omega) (show kz < 8 by omega) (fun h_9 hR hU_10 => ?_)
          replace hU := hU.tr hU_10 (by omega) (by omega)
          replace hM := hR; clear hR
          rw [up2_up2, up2_id] at hM
          refine z_iload (pc := 123) (zk1 kX5_ask_4) rfl ?_
          exact z_iret (pc := 125) (zk2 kX5_ask_4) rfl (Nat.zero_le _) (Nat.zero_le _) (by
                        rw [show sp_ask σ τ ε (nI kx) (nI ky) (nI kz) = (a, σ, τ, ε) from by rw [sp_ask, okL, hn, f0_]; simp [sTold, hres, ix_nI (show kx ≤ 1000 by omega), ix_nI (show ky ≤ 1000 by omega), ix_nI (show kz ≤ 1000 by omega)]]
                        exact ⟨_, _, rfl, hM, hU, rfl⟩)
        · have hlt_i : i < n := nI_ge_not (a := n) (by omega) (by omega) c_8
          refine z_aload_n (pc := 60) (zk3 kX5_ask_2) rfl ?_
          refine z_getf (pc := 61) (zk4 kX5_ask_2) flX5_284 hM.1 (v := .int (lenC σ (ε kx) ky kz)) (by rw [← h19]; rfl) ?_
          refine z_iconst (pc := 64) (zk5 kX5_ask_2) (v := 1) (by decide) ?_
          refine z_icmp_le (pc := 65) (zk6 kX5_ask_2) (tgt := 115) (by decide) (fun c_11 => ?_) (fun c_11 => ?_)
          · have hres : askF σ (ε kx) ky kz = a := by rw [askF, if_neg (Int32.not_lt.mpr c_11), ha_, hone c_11]; rfl
            refine z_aload_n (pc := 115) (zk12 kX5_ask_3) rfl ?_
            refine z_getf (pc := 116) (zk13 kX5_ask_3) flX5_62 hM.1 gMo_21 ?_
            refine z_iload_n (pc := 119) (zk14 kX5_ask_3) rfl ?_
            refine z_iload (pc := 120) (zk15 kX5_ask_3) rfl ?_
            refine z_Mo_s24 (pc := 122) (zk0 kX5_ask_4) (j := kz) hM (by omega) (show kz < 8 by omega) (fun h_12 hR hU_13 => ?_)
            replace hU := hU.tr hU_13 (by omega) (by omega)
            replace hM := hR; clear hR
            rw [up2_up2, up2_id] at hM
            refine z_iload (pc := 123) (zk1 kX5_ask_4) rfl ?_
            exact z_iret (pc := 125) (zk2 kX5_ask_4) rfl (Nat.zero_le _) (Nat.zero_le _) (by
                            rw [show sp_ask σ τ ε (nI kx) (nI ky) (nI kz) = (a, σ, τ, ε) from by rw [sp_ask, okL, hn, f0_]; simp [sTold, hres, ix_nI (show kx ≤ 1000 by omega), ix_nI (show ky ≤ 1000 by omega), ix_nI (show kz ≤ 1000 by omega)]]
                            exact ⟨_, _, rfl, hM, hU, rfl⟩)
          · refine z_aload_n (pc := 68) (zk7 kX5_ask_2) rfl ?_
            refine z_iload_n (pc := 69) (zk8 kX5_ask_2) rfl ?_
            refine z_iload (pc := 70) (zk9 kX5_ask_2) rfl ?_
            refine z_efV (pc := 72) (zk10 kX5_ask_2) (st := []) lkX5_304 ivX5_worstAt hM.1 rfl rfl (c_worstAt (pm := (lenB σ (ε kx) ky kz)) hM hn h12 (show kz < 8 by omega) (show i < n by omega) (hto _ (by omega)) hmy hB) rfl ⟨rfl, rfl⟩ rfl rfl (fun r_ h_15 z_ q_14 => ?_) rfl
            obtain ⟨w_17, q1_18, er_, hR, hm_w_17, h9_w_17, hU_16, ez_⟩ := q_14
            simp only [up2_up2] at er_
            rw [up2_up2] at hR
            rw [← wF_eq] at er_
            rw [er_, ez_]
            clear er_ ez_
            replace hU := hU.tr hU_16 (by omega) (by omega)
            replace hM := hR; clear hR
            show Z D B xX5_ask _ _ _ 75 _ [.int (wrstF σ (ε kx) ky kz i 40)] _ _
            refine z_istore (pc := 75) (zk11 kX5_ask_2) rfl rfl ?_
            show Z D B xX5_ask _ _ _ 77 [some (.ref p), some (.int (nI kx)), some (.int (nI ky)), some (.int (nI kz)), some (.int 0), some (.int (σ 13 kz)), some (.int a), some (.int b), some (.int (nI i)), some (.int (wrstF σ (ε kx) ky kz i 40))] _ _ _
            suffices hJ : Z D B xX5_ask 0 0 (mQ h p sz kp tr (sp_ask σ τ ε (nI kx) (nI ky) (nI kz))) 91 [some (.ref p), some (.int (nI kx)), some (.int (nI ky)), some (.int (nI kz)), some (.int 0), some (.int (σ 13 kz)), some (.int a), some (.int b), some (.int (nI i)), some (.int (wrstF σ (ε kx) ky kz i 40))] [.int (if wrstF σ (ε kx) ky kz i 40 < b then nI i else a)] h_15 sz from by
              refine z_iload (pc := 77) (zk12 kX5_ask_2) rfl ?_
              refine z_iload (pc := 79) (zk13 kX5_ask_2) rfl ?_
              refine z_icmp_ge (pc := 81) (zk14 kX5_ask_2) (tgt := 89) (by decide) (fun c_19 => ?_) (fun c_19 => ?_)
              · refine z_iload (pc := 89) (zk1 kX5_ask_3) rfl ?_
                exact z_top (congrArg Value.int (by simp [f1_, f2_, f3_, c_8, Int32.not_le.mp c_8, c_11, Int32.not_le.mp c_11, c_19, Int32.not_lt.mpr c_19])) hJ
              · refine z_iload (pc := 84) (zk15 kX5_ask_2) rfl ?_
                refine z_goto (pc := 86) (zk0 kX5_ask_3) (tgt := 91) (by decide) ?_
                exact z_top (congrArg Value.int (by simp [f1_, f2_, f3_, c_8, Int32.not_le.mp c_8, c_11, Int32.not_le.mp c_11, c_19, Int32.not_le.mp c_19])) hJ
            refine z_istore (pc := 91) (zk2 kX5_ask_3) rfl rfl ?_
            show Z D B xX5_ask _ _ _ 93 [some (.ref p), some (.int (nI kx)), some (.int (nI ky)), some (.int (nI kz)), some (.int 0), some (.int (σ 13 kz)), some (.int (if wrstF σ (ε kx) ky kz i 40 < b then nI i else a)), some (.int b), some (.int (nI i)), some (.int (wrstF σ (ε kx) ky kz i 40))] _ _ _
            suffices hJ : Z D B xX5_ask 0 0 (mQ h p sz kp tr (sp_ask σ τ ε (nI kx) (nI ky) (nI kz))) 107 [some (.ref p), some (.int (nI kx)), some (.int (nI ky)), some (.int (nI kz)), some (.int 0), some (.int (σ 13 kz)), some (.int (if wrstF σ (ε kx) ky kz i 40 < b then nI i else a)), some (.int b), some (.int (nI i)), some (.int (wrstF σ (ε kx) ky kz i 40))] [.int (if wrstF σ (ε kx) ky kz i 40 < b then wrstF σ (ε kx) ky kz i 40 else b)] h_15 sz from by
              refine z_iload (pc := 93) (zk3 kX5_ask_3) rfl ?_
              refine z_iload (pc := 95) (zk4 kX5_ask_3) rfl ?_
              refine z_icmp_ge (pc := 97) (zk5 kX5_ask_3) (tgt := 105) (by decide) (fun c_20 => ?_) (fun c_20 => ?_)
              · refine z_iload (pc := 105) (zk8 kX5_ask_3) rfl ?_
                exact z_top (congrArg Value.int (by simp [f1_, f2_, f3_, c_8, Int32.not_le.mp c_8, c_11, Int32.not_le.mp c_11, c_20, Int32.not_lt.mpr c_20])) hJ
              · refine z_iload (pc := 100) (zk6 kX5_ask_3) rfl ?_
                refine z_goto (pc := 102) (zk7 kX5_ask_3) (tgt := 107) (by decide) ?_
                exact z_top (congrArg Value.int (by simp [f1_, f2_, f3_, c_8, Int32.not_le.mp c_8, c_11, Int32.not_le.mp c_11, c_20, Int32.not_le.mp c_20])) hJ
            refine z_istore (pc := 107) (zk9 kX5_ask_3) rfl rfl ?_
            show Z D B xX5_ask _ _ _ 109 [some (.ref p), some (.int (nI kx)), some (.int (nI ky)), some (.int (nI kz)), some (.int 0), some (.int (σ 13 kz)), some (.int (if wrstF σ (ε kx) ky kz i 40 < b then nI i else a)), some (.int (if wrstF σ (ε kx) ky kz i 40 < b then wrstF σ (ε kx) ky kz i 40 else b)), some (.int (nI i)), some (.int (wrstF σ (ε kx) ky kz i 40))] _ _ _
            refine z_iinc (pc := 109) (zk10 kX5_ask_3) (v := nI (i + 1)) rfl zinc rfl rfl ?_
            show Z D B xX5_ask _ _ _ 112 [some (.ref p), some (.int (nI kx)), some (.int (nI ky)), some (.int (nI kz)), some (.int 0), some (.int (σ 13 kz)), some (.int (if wrstF σ (ε kx) ky kz i 40 < b then nI i else a)), some (.int (if wrstF σ (ε kx) ky kz i 40 < b then wrstF σ (ε kx) ky kz i 40 else b)), some (.int (nI (i + 1))), some (.int (wrstF σ (ε kx) ky kz i 40))] _ _ _
            refine z_goto (pc := 112) (zk11 kX5_ask_3) (tgt := 51) (by decide) ?_
            refine z_kill 9 ?_
            show Z D B xX5_ask _ _ _ 51 [some (.ref p), some (.int (nI kx)), some (.int (nI ky)), some (.int (nI kz)), some (.int 0), some (.int (σ 13 kz)), some (.int (if wrstF σ (ε kx) ky kz i 40 < b then nI i else a)), some (.int (if wrstF σ (ε kx) ky kz i 40 < b then wrstF σ (ε kx) ky kz i 40 else b)), some (.int (nI (i + 1))), none] _ _ _
            exact ih51 w_17 h_15 q1_18 (if wrstF σ (ε kx) ky kz i 40 < b then nI i else a) (if wrstF σ (ε kx) ky kz i 40 < b then wrstF σ (ε kx) ky kz i 40 else b) (i + 1) (by omega) (by omega) (by rw [ha_, hb_]; exact amn_s2 (fun k => wrstF σ (ε kx) ky kz k 40) _ _ _) (by rw [hb_]; exact amn_s1 (fun k => wrstF σ (ε kx) ky kz k 40) _ _ _) hm_w_17 (h9_w_17.trans h19) (fun q => absurd q c_11) hM hU
    exact lp51 _ w_7 h_5 (σ 13 kz) (-1) 41 0 (Nat.lt_succ_self _) (by omega) rfl rfl e4_ e1_ (fun _ => rfl) (by rw [up2_id]; exact hM) hU
