theorem amx_s1 (f : Nat → Int32) (m b : Int32) (n : Nat) : (if (amx f m b n).1 < f n then f n else (amx f m b n).1) = (amx f m b (n + 1)).1 := by
  rw [amx]; split <;> rfl
theorem amx_s2 (f : Nat → Int32) (m b : Int32) (n : Nat) : (if (amx f m b n).1 < f n then nI n else (amx f m b n).2) = (amx f m b (n + 1)).2 := by
  rw [amx]; split <;> rfl
theorem bestN_s (f : Nat → Int32) {n : Nat} (h0 : 0 < n) : (if f (bestN f n) < f n then n else bestN f n) = bestN f (n + 1) := by
  rw [bestN, if_neg (show ¬ n = 0 by omega)]
theorem fewN_s (f : Nat → Int32) {n : Nat} (h0 : 0 < n) : (if f n < f (fewN f n) then n else fewN f n) = fewN f (n + 1) := by
  rw [fewN, if_neg (show ¬ n = 0 by omega)]
theorem fstW_s (p : Nat → Bool) (g : Nat → Nat) (i : Nat) : (if p (g i) = true ∧ fstW p g i = -1 then nI (g i) else fstW p g i) = fstW p g (i + 1) := by
  rw [fstW]
  by_cases h : fstW p g i = -1
  · rw [h]; cases p (g i) <;> simp
  · simp [h]
theorem lstW_s (p : Nat → Bool) (g : Nat → Nat) (i : Nat) : (if p (g i) = true then nI (g i) else lstW p g i) = lstW p g (i + 1) := by
  rw [lstW]
theorem stepH_lt {σ : Ln} {n i : Nat} (hn : σ 0 0 = nI n) (h12 : n ≤ 12) (hi : i < n) : stepH σ i < n := by
  rw [stepH, hsN_eq hn h12]; split <;> omega
theorem stepH_b {σ : Ln} {n i : Nat} (hb : ¬ σ 6 0 = 0) (hn : σ 0 0 = nI n) (h12 : n ≤ 12) (hi : i < n) : nI n - 1 - nI i = nI (stepH σ i) := by
  rw [stepB hb hn h12, nI_dec (by omega), nI_sub1 (by omega)]
theorem stepH_f {σ : Ln} {i : Nat} (hb : σ 6 0 = 0) : nI i = nI (stepH σ i) := by rw [stepF hb]
set_option maxRecDepth 20000 in
theorem cP_ofKind {D : zD} {B : Nat} {h : zH} {sz : Nat} {p : Nat} {σ τ ω : Ln} {ε : El} {mv : Nat → Int64} {kp tr : Option Nat} {x : Int32} {n m : Nat} (hM : MoAt h p σ τ ω ε mv kp tr) (hB : B ≤ p) (hn : σ 0 0 = nI n) (h12 : n ≤ 12) (hm : σ 9 0 = nI m) (h8 : m ≤ 8) (hto : ∀ l, l < m → ToOk σ l) : zM D B xX5_ofKind [.ref p, .int x] h sz (mQ h p sz kp tr (sp_ofKind σ τ ε x)) := by
  have hU : Upd h h p 29 := Upd.rf
  refine zM.of (by decide) rfl (n := 2) ?_
  show Z D B xX5_ofKind 0 0 _ 0 [some (.ref p), some (.int x), none, none] [] h sz
  refine z_iload_n (pc := 0) (zk0 kX5_ofKind_0) rfl ?_
  refine z_i2l (pc := 1) (zk1 kX5_ofKind_0) ?_
  refine z_lconst (pc := 2) (zk2 kX5_ofKind_0) (v := 0) (by decide) ?_
  refine z_ldc2 (pc := 3) (zk3 kX5_ofKind_0) klX5_109 ?_
  refine z_rdS (pc := 6) (zk4 kX5_ofKind_0) (st := []) lkX5_81 isX5_in (c_inI (x := x) (a := 0) (b := 5) (by decide) (by decide)) rfl ⟨rfl, rfl⟩ rfl rfl ?_ rfl
  refine z_oif_ne (pc := 9) (zk5 kX5_ofKind_0) (tgt := 19) (by decide) (fun c_1 => ?_) (fun c_1 => ?_)
  · refine z_iconst (pc := 19) (zk10 kX5_ofKind_0) (v := 0) (by decide) ?_
    refine z_istore_n (pc := 20) (zk11 kX5_ofKind_0) rfl rfl ?_
    show Z D B xX5_ofKind _ _ _ 21 [some (.ref p), some (.int x), some (.int 0), none] _ _ _
    refine z_iconst (pc := 21) (zk12 kX5_ofKind_0) (v := 0) (by decide) ?_
    refine z_istore_n (pc := 22) (zk13 kX5_ofKind_0) rfl rfl ?_
    show Z D B xX5_ofKind _ _ _ 23 [some (.ref p), some (.int x), some (.int 0), some (.int 0)] _ _ _
    have lp23 : ∀ (n_ : Nat) (t : Int32) (i : Nat), m - i < n_ → (i ≤ m) → (t = sum0 (fun l => oI (decide (σ 10 l = x))) i) → Z D B xX5_ofKind 0 0 (mQ h p sz kp tr (sp_ofKind σ τ ε x)) 23 [some (.ref p), some (.int x), some (.int t), some (.int (nI i))] [] h sz := by
      intro n_
      induction n_ with
      | zero => intro t i hm_; exact absurd hm_ (Nat.not_lt_zero _)
      | succ n_ ih23 =>
        intro t i hm_ hi_i ht
        refine z_iload_n (pc := 23) (zk14 kX5_ofKind_0) rfl ?_
        refine z_aload_n (pc := 24) (zk15 kX5_ofKind_0) rfl ?_
        refine z_getf (pc := 25) (zk0 kX5_ofKind_1) flX5_85 hM.1 (v := .int (nI m)) (by rw [← hm]; rfl) ?_
        refine z_icmp_ge (pc := 28) (zk1 kX5_ofKind_1) (tgt := 55) (by decide) (fun c_2 => ?_) (fun c_2 => ?_)
        · have hie_i : i = m := nI_ge_yes (a := m) (by omega) (by omega) (by omega) c_2
          refine z_iload_n (pc := 55) (zk0 kX5_ofKind_2) rfl ?_
          exact z_iret (pc := 56) (zk1 kX5_ofKind_2) rfl (Nat.zero_le _) (Nat.zero_le _) (by
                        rw [show sp_ofKind σ τ ε x = (t, σ, τ, ε) from by simp [sp_ofKind, sBad, okS, okH, okL, okT, okB, sRd, up2_id, up2_id2, oI, c_1, c_2, Int32.not_lt.mpr c_2, ht, hie_i, hsN_eq hn h12, lsN_eq hm h8]]
                        exact ⟨_, _, rfl, hM, hU, rfl⟩)
        · have hlt_i : i < m := nI_ge_not (a := m) (by omega) (by omega) c_2
          refine z_iload_n (pc := 31) (zk2 kX5_ofKind_1) rfl ?_
          suffices hJ : Z D B xX5_ofKind 0 0 (mQ h p sz kp tr (sp_ofKind σ τ ε x)) 47 [some (.ref p), some (.int x), some (.int t), some (.int (nI i))] [.int (oI (decide (σ 10 i = x))), .int t] h sz from by
            refine z_aload_n (pc := 32) (zk3 kX5_ofKind_1) rfl ?_
            refine z_getf (pc := 33) (zk4 kX5_ofKind_1) flX5_53 hM.1 gMo_18 ?_
            refine z_iload_n (pc := 36) (zk5 kX5_ofKind_1) rfl ?_
            refine z_ialdN (pc := 37) (zk6 kX5_ofKind_1) (f := σ 10) (j := i) hM.2.2.2.2.2.2.2.2.2.2.2.2.2.2.1 (show i < 8 by omega) rfl ?_
            refine z_iload_n (pc := 38) (zk7 kX5_ofKind_1) rfl ?_
            refine z_icmp_ne (pc := 39) (zk8 kX5_ofKind_1) (tgt := 46) (by decide) (fun c_3 => ?_) (fun c_3 => ?_)
            · refine z_iconst (pc := 46) (zk11 kX5_ofKind_1) (v := 0) (by decide) ?_
              exact z_top (congrArg Value.int (by simp [oI, c_1, c_2, Int32.not_le.mp c_2, c_3])) hJ
            · refine z_iconst (pc := 42) (zk9 kX5_ofKind_1) (v := 1) (by decide) ?_
              refine z_goto (pc := 43) (zk10 kX5_ofKind_1) (tgt := 47) (by decide) ?_
              exact z_top (congrArg Value.int (by simp [oI, c_1, c_2, Int32.not_le.mp c_2, c_3])) hJ
          refine z_iadd (pc := 47) (zk12 kX5_ofKind_1) ?_
          refine z_istore_n (pc := 48) (zk13 kX5_ofKind_1) rfl rfl ?_
          show Z D B xX5_ofKind _ _ _ 49 [some (.ref p), some (.int x), some (.int (t + (oI (decide (σ 10 i = x))))), some (.int (nI i))] _ _ _
          refine z_iinc (pc := 49) (zk14 kX5_ofKind_1) (v := nI (i + 1)) rfl zinc rfl rfl ?_
          show Z D B xX5_ofKind _ _ _ 52 [some (.ref p), some (.int x), some (.int (t + (oI (decide (σ 10 i = x))))), some (.int (nI (i + 1)))] _ _ _
          refine z_goto (pc := 52) (zk15 kX5_ofKind_1) (tgt := 23) (by decide) ?_
          exact ih23 (t + (oI (decide (σ 10 i = x)))) (i + 1) (by omega) (by omega) (by rw [ht]; rfl)
    exact lp23 _ 0 0 (Nat.lt_succ_self _) (by omega) rfl
  · refine z_aload_n (pc := 12) (zk6 kX5_ofKind_0) rfl ?_
    refine z_bipush (pc := 13) (zk7 kX5_ofKind_0) (v := (-2)) (by decide) ?_
    refine z_efV (pc := 15) (zk8 kX5_ofKind_0) (st := []) lkX5_94 ivX5_refuse hM.1 rfl rfl (c_refuse hM (by omega) (j := 2) (by decide) (by decide)) rfl ⟨rfl, rfl⟩ rfl rfl (fun r_ h_5 z_ q_4 => ?_) rfl
    obtain ⟨er_, hR, hU_6, ez_⟩ := q_4
    rw [er_, ez_]
    clear er_ ez_
    replace hU := hU.tr hU_6 (by omega) (by omega)
    replace hM := hR; clear hR
    show Z D B xX5_ofKind _ _ _ 18 _ [.int (-2)] _ _
    exact z_iret (pc := 18) (zk9 kX5_ofKind_0) rfl (Nat.zero_le _) (Nat.zero_le _) (by
            rw [show sp_ofKind σ τ ε x = ((-2), σ, rfN τ 2, ε) from by simp [sp_ofKind, sBad, okS, okH, okL, okT, okB, sRd, up2_id, up2_id2, oI, c_1]]
            exact ⟨_, _, rfl, hM, hU, rfl⟩)
set_option maxRecDepth 20000 in
theorem cP_doubt {D : zD} {B : Nat} {h : zH} {sz : Nat} {p : Nat} {σ τ ω : Ln} {ε : El} {mv : Nat → Int64} {kp tr : Option Nat} {x : Int32} {n m : Nat} (hM : MoAt h p σ τ ω ε mv kp tr) (hB : B ≤ p) (hn : σ 0 0 = nI n) (h12 : n ≤ 12) (hm : σ 9 0 = nI m) (h8 : m ≤ 8) (hto : ∀ l, l < m → ToOk σ l) : zM D B xX5_doubt [.ref p, .int x] h sz (mQ h p sz kp tr (sp_doubt σ τ ε x)) := by
  have hU : Upd h h p 29 := Upd.rf
  refine zM.of (by decide) rfl (n := 2) ?_
  show Z D B xX5_doubt 0 0 _ 0 [some (.ref p), some (.int x), none, none] [] h sz
  refine z_aload_n (pc := 0) (zk0 kX5_doubt_0) rfl ?_
  refine z_iload_n (pc := 1) (zk1 kX5_doubt_0) rfl ?_
  refine z_i2l (pc := 2) (zk2 kX5_doubt_0) ?_
  refine z_rdV (pc := 3) (zk3 kX5_doubt_0) (st := []) lkX5_105 ivX5_isLetter hM.1 rfl rfl (c_isLetter hM) rfl ⟨rfl, rfl⟩ rfl rfl ?_ rfl
  refine z_oif_ne (pc := 6) (zk4 kX5_doubt_0) (tgt := 16) (by decide) (fun c_1 => ?_) (fun c_1 => ?_)
  · obtain ⟨kx, hkx, rfl⟩ := okR_nI (n := m) (by omega) (by rw [← hm]; exact c_1)
    refine z_iconst (pc := 16) (zk9 kX5_doubt_0) (v := 0) (by decide) ?_
    refine z_istore_n (pc := 17) (zk10 kX5_doubt_0) rfl rfl ?_
    show Z D B xX5_doubt _ _ _ 18 [some (.ref p), some (.int (nI kx)), some (.int 0), none] _ _ _
    refine z_iconst (pc := 18) (zk11 kX5_doubt_0) (v := 0) (by decide) ?_
    refine z_istore_n (pc := 19) (zk12 kX5_doubt_0) rfl rfl ?_
    show Z D B xX5_doubt _ _ _ 20 [some (.ref p), some (.int (nI kx)), some (.int 0), some (.int 0)] _ _ _
    have lp20 : ∀ (n_ : Nat) (b : Int32) (i : Nat), n - i < n_ → (i ≤ n) → (b = bitsI (fun k => readB σ kx k && !knowB σ kx k) i) → Z D B xX5_doubt 0 0 (mQ h p sz kp tr (sp_doubt σ τ ε (nI kx))) 20 [some (.ref p), some (.int (nI kx)), some (.int b), some (.int (nI i))] [] h sz := by
      intro n_
      induction n_ with
      | zero => intro b i hm_; exact absurd hm_ (Nat.not_lt_zero _)
      | succ n_ ih20 =>
        intro b i hm_ hi_i hb_
        refine z_iload_n (pc := 20) (zk13 kX5_doubt_0) rfl ?_
        refine z_aload_n (pc := 21) (zk14 kX5_doubt_0) rfl ?_
        refine z_getf (pc := 22) (zk15 kX5_doubt_0) flX5_37 hM.1 (v := .int (nI n)) (by rw [← hn]; rfl) ?_
        refine z_icmp_ge (pc := 25) (zk0 kX5_doubt_1) (tgt := 62) (by decide) (fun c_2 => ?_) (fun c_2 => ?_)
        · have hie_i : i = n := nI_ge_yes (a := n) (by omega) (by omega) (by omega) c_2
          refine z_iload_n (pc := 62) (zk5 kX5_doubt_2) rfl ?_
          exact z_iret (pc := 63) (zk6 kX5_doubt_2) rfl (Nat.zero_le _) (Nat.zero_le _) (by
                        rw [show sp_doubt σ τ ε (nI kx) = (b, σ, τ, ε) from by simp [sp_doubt, sBad, okS, okH, okL, okT, okB, sRd, up2_id, up2_id2, oI, c_1, c_2, Int32.not_lt.mpr c_2, ix_nI (show kx ≤ 1000 by omega), hb_, hie_i, hsN_eq hn h12, lsN_eq hm h8]]
                        exact ⟨_, _, rfl, hM, hU, rfl⟩)
        · have hlt_i : i < n := nI_ge_not (a := n) (by omega) (by omega) c_2
          refine z_iload_n (pc := 28) (zk1 kX5_doubt_1) rfl ?_
          suffices hJ : Z D B xX5_doubt 0 0 (mQ h p sz kp tr (sp_doubt σ τ ε (nI kx))) 54 [some (.ref p), some (.int (nI kx)), some (.int b), some (.int (nI i))] [.int (if (readB σ kx i && !knowB σ kx i) = true then 1 <<< (nI i &&& 31) else 0), .int b] h sz from by
            refine z_aload_n (pc := 29) (zk2 kX5_doubt_1) rfl ?_
            refine z_iload_n (pc := 30) (zk3 kX5_doubt_1) rfl ?_
            refine z_iload_n (pc := 31) (zk4 kX5_doubt_1) rfl ?_
            refine z_rdV (pc := 32) (zk5 kX5_doubt_1) (st := [.int b]) lkX5_236 ivX5_readAt hM.1 rfl rfl (c_mreadAt hM (show kx < 8 by omega)) rfl ⟨rfl, rfl⟩ rfl rfl ?_ rfl
            refine z_oif_eq (pc := 35) (zk6 kX5_doubt_1) (tgt := 53) (by decide) (fun c_3 => ?_) (fun c_3 => ?_)
            · refine z_iconst (pc := 53) (zk0 kX5_doubt_2) (v := 0) (by decide) ?_
              exact z_top (congrArg Value.int (by simp [c_1, c_2, Int32.not_le.mp c_2, c_3])) hJ
            · refine z_aload_n (pc := 38) (zk7 kX5_doubt_1) rfl ?_
              refine z_iload_n (pc := 39) (zk8 kX5_doubt_1) rfl ?_
              refine z_iload_n (pc := 40) (zk9 kX5_doubt_1) rfl ?_
              refine z_rdV (pc := 41) (zk10 kX5_doubt_1) (st := [.int b]) lkX5_245 ivX5_knowsOf hM.1 rfl rfl (c_knowsOf hM hn h12 (show kx < 8 by omega) (show i < n by omega) (hto _ (by omega))) rfl ⟨rfl, rfl⟩ rfl rfl ?_ rfl
              refine z_oif_ne (pc := 44) (zk11 kX5_doubt_1) (tgt := 53) (by decide) (fun c_4 => ?_) (fun c_4 => ?_)
              · refine z_iconst (pc := 53) (zk0 kX5_doubt_2) (v := 0) (by decide) ?_
                exact z_top (congrArg Value.int (by simp [c_1, c_2, Int32.not_le.mp c_2, c_3, c_4])) hJ
              · refine z_iconst (pc := 47) (zk12 kX5_doubt_1) (v := 1) (by decide) ?_
                refine z_iload_n (pc := 48) (zk13 kX5_doubt_1) rfl ?_
                refine z_ishl (pc := 49) (zk14 kX5_doubt_1) ?_
                refine z_goto (pc := 50) (zk15 kX5_doubt_1) (tgt := 54) (by decide) ?_
                exact z_top (congrArg Value.int (by simp [c_1, c_2, Int32.not_le.mp c_2, c_3, c_4])) hJ
          refine z_ior (pc := 54) (zk1 kX5_doubt_2) ?_
          refine z_istore_n (pc := 55) (zk2 kX5_doubt_2) rfl rfl ?_
          show Z D B xX5_doubt _ _ _ 56 [some (.ref p), some (.int (nI kx)), some (.int (b ||| (if (readB σ kx i && !knowB σ kx i) = true then 1 <<< (nI i &&& 31) else 0))), some (.int (nI i))] _ _ _
          refine z_iinc (pc := 56) (zk3 kX5_doubt_2) (v := nI (i + 1)) rfl zinc rfl rfl ?_
          show Z D B xX5_doubt _ _ _ 59 [some (.ref p), some (.int (nI kx)), some (.int (b ||| (if (readB σ kx i && !knowB σ kx i) = true then 1 <<< (nI i &&& 31) else 0))), some (.int (nI (i + 1)))] _ _ _
          refine z_goto (pc := 59) (zk4 kX5_doubt_2) (tgt := 20) (by decide) ?_
          exact ih20 (b ||| (if (readB σ kx i && !knowB σ kx i) = true then 1 <<< (nI i &&& 31) else 0)) (i + 1) (by omega) (by omega) (by rw [hb_]; exact bitsI_s (fun k => readB σ kx k && !knowB σ kx k) i)
    exact lp20 _ 0 0 (Nat.lt_succ_self _) (by omega) rfl
  · refine z_aload_n (pc := 9) (zk5 kX5_doubt_0) rfl ?_
    refine z_bipush (pc := 10) (zk6 kX5_doubt_0) (v := (-2)) (by decide) ?_
    refine z_efV (pc := 12) (zk7 kX5_doubt_0) (st := []) lkX5_94 ivX5_refuse hM.1 rfl rfl (c_refuse hM (by omega) (j := 2) (by decide) (by decide)) rfl ⟨rfl, rfl⟩ rfl rfl (fun r_ h_6 z_ q_5 => ?_) rfl
    obtain ⟨er_, hR, hU_7, ez_⟩ := q_5
    rw [er_, ez_]
    clear er_ ez_
    replace hU := hU.tr hU_7 (by omega) (by omega)
    replace hM := hR; clear hR
    show Z D B xX5_doubt _ _ _ 15 _ [.int (-2)] _ _
    exact z_iret (pc := 15) (zk8 kX5_doubt_0) rfl (Nat.zero_le _) (Nat.zero_le _) (by
            rw [show sp_doubt σ τ ε x = ((-2), σ, rfN τ 2, ε) from by simp [sp_doubt, sBad, okS, okH, okL, okT, okB, sRd, up2_id, up2_id2, oI, c_1]]
            exact ⟨_, _, rfl, hM, hU, rfl⟩)
set_option maxRecDepth 20000 in
theorem cP_reach {D : zD} {B : Nat} {h : zH} {sz : Nat} {p : Nat} {σ τ ω : Ln} {ε : El} {mv : Nat → Int64} {kp tr : Option Nat} {x : Int32} {y : Int32} {n m : Nat} (hM : MoAt h p σ τ ω ε mv kp tr) (hB : B ≤ p) (hn : σ 0 0 = nI n) (h12 : n ≤ 12) (hm : σ 9 0 = nI m) (h8 : m ≤ 8) (hto : ∀ l, l < m → ToOk σ l) : zM D B xX5_reach [.ref p, .int x, .int y] h sz (mQ h p sz kp tr (sp_reach σ τ ε x y)) := by
  have hU : Upd h h p 29 := Upd.rf
  refine zM.of (by decide) rfl (n := 3) ?_
  show Z D B xX5_reach 0 0 _ 0 [some (.ref p), some (.int x), some (.int y), none, none, none] [] h sz
  refine z_aload_n (pc := 0) (zk0 kX5_reach_0) rfl ?_
  refine z_iload_n (pc := 1) (zk1 kX5_reach_0) rfl ?_
  refine z_i2l (pc := 2) (zk2 kX5_reach_0) ?_
  refine z_rdV (pc := 3) (zk3 kX5_reach_0) (st := []) lkX5_105 ivX5_isLetter hM.1 rfl rfl (c_isLetter hM) rfl ⟨rfl, rfl⟩ rfl rfl ?_ rfl
  refine z_oif_eq (pc := 6) (zk4 kX5_reach_0) (tgt := 19) (by decide) (fun c_1 => ?_) (fun c_1 => ?_)
  · refine z_aload_n (pc := 19) (zk11 kX5_reach_0) rfl ?_
    refine z_bipush (pc := 20) (zk12 kX5_reach_0) (v := (-2)) (by decide) ?_
    refine z_efV (pc := 22) (zk13 kX5_reach_0) (st := []) lkX5_94 ivX5_refuse hM.1 rfl rfl (c_refuse hM (by omega) (j := 2) (by decide) (by decide)) rfl ⟨rfl, rfl⟩ rfl rfl (fun r_ h_3 z_ q_2 => ?_) rfl
    obtain ⟨er_, hR, hU_4, ez_⟩ := q_2
    rw [er_, ez_]
    clear er_ ez_
    replace hU := hU.tr hU_4 (by omega) (by omega)
    replace hM := hR; clear hR
    show Z D B xX5_reach _ _ _ 25 _ [.int (-2)] _ _
    exact z_iret (pc := 25) (zk14 kX5_reach_0) rfl (Nat.zero_le _) (Nat.zero_le _) (by
            rw [show sp_reach σ τ ε x y = ((-2), σ, rfN τ 2, ε) from by simp [sp_reach, sBad, okS, okH, okL, okT, okB, sRd, up2_id, up2_id2, oI, c_1]]
            exact ⟨_, _, rfl, hM, hU, rfl⟩)
  · refine z_iload_n (pc := 9) (zk5 kX5_reach_0) rfl ?_
    refine z_i2l (pc := 10) (zk6 kX5_reach_0) ?_
    refine z_lconst (pc := 11) (zk7 kX5_reach_0) (v := 0) (by decide) ?_
    refine z_lconst (pc := 12) (zk8 kX5_reach_0) (v := 1) (by decide) ?_
    refine z_rdS (pc := 13) (zk9 kX5_reach_0) (st := []) lkX5_81 isX5_in (c_inI (x := y) (a := 0) (b := 1) (by decide) (by decide)) rfl ⟨rfl, rfl⟩ rfl rfl ?_ rfl
    refine z_oif_ne (pc := 16) (zk10 kX5_reach_0) (tgt := 26) (by decide) (fun c_5 => ?_) (fun c_5 => ?_)
    · obtain ⟨kx, hkx, rfl⟩ := okR_nI (n := m) (by omega) (by rw [← hm]; exact c_1)
      refine z_iconst (pc := 26) (zk15 kX5_reach_0) (v := 0) (by decide) ?_
      refine z_istore_n (pc := 27) (zk0 kX5_reach_1) rfl rfl ?_
      show Z D B xX5_reach _ _ _ 28 [some (.ref p), some (.int (nI kx)), some (.int y), some (.int 0), none, none] _ _ _
      refine z_iconst (pc := 28) (zk1 kX5_reach_1) (v := 0) (by decide) ?_
      refine z_istore (pc := 29) (zk2 kX5_reach_1) rfl rfl ?_
      show Z D B xX5_reach _ _ _ 31 [some (.ref p), some (.int (nI kx)), some (.int y), some (.int 0), some (.int 0), none] _ _ _
      refine z_iconst (pc := 31) (zk3 kX5_reach_1) (v := 0) (by decide) ?_
      refine z_istore (pc := 32) (zk4 kX5_reach_1) rfl rfl ?_
      show Z D B xX5_reach _ _ _ 34 [some (.ref p), some (.int (nI kx)), some (.int y), some (.int 0), some (.int 0), some (.int 0)] _ _ _
      have lp34 : ∀ (n_ : Nat) (a : Int32) (b : Int32) (i : Nat), n - i < n_ → (i ≤ n) → (a = sum0 (fun k => oI (decide (0 < heardF σ kx k))) i) → (b = sum0 (fun k => heardF σ kx k) i) → Z D B xX5_reach 0 0 (mQ h p sz kp tr (sp_reach σ τ ε (nI kx) y)) 34 [some (.ref p), some (.int (nI kx)), some (.int y), some (.int a), some (.int b), some (.int (nI i))] [] h sz := by
        intro n_
        induction n_ with
        | zero => intro a b i hm_; exact absurd hm_ (Nat.not_lt_zero _)
        | succ n_ ih34 =>
          intro a b i hm_ hi_i ha_ hb_
          refine z_iload (pc := 34) (zk5 kX5_reach_1) rfl ?_
          refine z_aload_n (pc := 36) (zk6 kX5_reach_1) rfl ?_
          refine z_getf (pc := 37) (zk7 kX5_reach_1) flX5_37 hM.1 (v := .int (nI n)) (by rw [← hn]; rfl) ?_
          refine z_icmp_ge (pc := 40) (zk8 kX5_reach_1) (tgt := 79) (by decide) (fun c_6 => ?_) (fun c_6 => ?_)
          · have hie_i : i = n := nI_ge_yes (a := n) (by omega) (by omega) (by omega) c_6
            refine z_iload_n (pc := 79) (zk13 kX5_reach_2) rfl ?_
            rcases okR_01 c_5 with rfl | rfl
            · refine z_if_ne (pc := 80) (zk14 kX5_reach_2) (tgt := 87) (by decide) (fun q => absurd (by decide) q) (fun _ => ?_)
              refine z_iload_n (pc := 83) (zk15 kX5_reach_2) rfl ?_
              refine z_goto (pc := 84) (zk0 kX5_reach_3) (tgt := 89) (by decide) ?_
              exact z_iret (pc := 89) (zk2 kX5_reach_3) rfl (Nat.zero_le _) (Nat.zero_le _) (by
                                rw [show sp_reach σ τ ε (nI kx) 0 = (a, σ, τ, ε) from by simp [sp_reach, sBad, okS, okH, okL, okT, okB, sRd, up2_id, up2_id2, oI, c_1, c_5, c_6, Int32.not_lt.mpr c_6, ix_nI (show kx ≤ 1000 by omega), ha_, hb_, hie_i, hsN_eq hn h12, lsN_eq hm h8]]
                                exact ⟨_, _, rfl, hM, hU, rfl⟩)
            · refine z_if_ne (pc := 80) (zk14 kX5_reach_2) (tgt := 87) (by decide) (fun _ => ?_) (fun q => absurd q (by decide))
              refine z_iload (pc := 87) (zk1 kX5_reach_3) rfl ?_
              exact z_iret (pc := 89) (zk2 kX5_reach_3) rfl (Nat.zero_le _) (Nat.zero_le _) (by
                                rw [show sp_reach σ τ ε (nI kx) 1 = (b, σ, τ, ε) from by simp [sp_reach, sBad, okS, okH, okL, okT, okB, sRd, up2_id, up2_id2, oI, c_1, c_5, c_6, Int32.not_lt.mpr c_6, ix_nI (show kx ≤ 1000 by omega), ha_, hb_, hie_i, hsN_eq hn h12, lsN_eq hm h8]]
                                exact ⟨_, _, rfl, hM, hU, rfl⟩)
          · have hlt_i : i < n := nI_ge_not (a := n) (by omega) (by omega) c_6
            refine z_iload_n (pc := 43) (zk9 kX5_reach_1) rfl ?_
            suffices hJ : Z D B xX5_reach 0 0 (mQ h p sz kp tr (sp_reach σ τ ε (nI kx) y)) 59 [some (.ref p), some (.int (nI kx)), some (.int y), some (.int a), some (.int b), some (.int (nI i))] [.int (oI (decide (0 < heardF σ kx i))), .int a] h sz from by
              refine z_aload_n (pc := 44) (zk10 kX5_reach_1) rfl ?_
              refine z_iload_n (pc := 45) (zk11 kX5_reach_1) rfl ?_
              refine z_iload (pc := 46) (zk12 kX5_reach_1) rfl ?_
              refine z_rdV (pc := 48) (zk13 kX5_reach_1) (st := [.int a]) lkX5_115 ivX5_heardAt hM.1 rfl rfl (c_mheardAt hM hn h12 (show kx < 8 by omega) (show i < n by omega) (hto _ (by omega))) rfl ⟨rfl, rfl⟩ rfl rfl ?_ rfl
              refine z_if_le (pc := 51) (zk14 kX5_reach_1) (tgt := 58) (by decide) (fun c_7 => ?_) (fun c_7 => ?_)
              · refine z_iconst (pc := 58) (zk1 kX5_reach_2) (v := 0) (by decide) ?_
                exact z_top (congrArg Value.int (by simp [oI, c_1, c_5, c_6, Int32.not_le.mp c_6, c_7, Int32.not_lt.mpr c_7])) hJ
              · refine z_iconst (pc := 54) (zk15 kX5_reach_1) (v := 1) (by decide) ?_
                refine z_goto (pc := 55) (zk0 kX5_reach_2) (tgt := 59) (by decide) ?_
                exact z_top (congrArg Value.int (by simp [oI, c_1, c_5, c_6, Int32.not_le.mp c_6, c_7, Int32.not_le.mp c_7])) hJ
            refine z_iadd (pc := 59) (zk2 kX5_reach_2) ?_
            refine z_istore_n (pc := 60) (zk3 kX5_reach_2) rfl rfl ?_
            show Z D B xX5_reach _ _ _ 61 [some (.ref p), some (.int (nI kx)), some (.int y), some (.int (a + (oI (decide (0 < heardF σ kx i))))), some (.int b), some (.int (nI i))] _ _ _
            refine z_iload (pc := 61) (zk4 kX5_reach_2) rfl ?_
            refine z_aload_n (pc := 63) (zk5 kX5_reach_2) rfl ?_
            refine z_iload_n (pc := 64) (zk6 kX5_reach_2) rfl ?_
            refine z_iload (pc := 65) (zk7 kX5_reach_2) rfl ?_
            refine z_rdV (pc := 67) (zk8 kX5_reach_2) (st := [.int b]) lkX5_115 ivX5_heardAt hM.1 rfl rfl (c_mheardAt hM hn h12 (show kx < 8 by omega) (show i < n by omega) (hto _ (by omega))) rfl ⟨rfl, rfl⟩ rfl rfl ?_ rfl
            refine z_iadd (pc := 70) (zk9 kX5_reach_2) ?_
            refine z_istore (pc := 71) (zk10 kX5_reach_2) rfl rfl ?_
            show Z D B xX5_reach _ _ _ 73 [some (.ref p), some (.int (nI kx)), some (.int y), some (.int (a + (oI (decide (0 < heardF σ kx i))))), some (.int (b + (heardF σ kx i))), some (.int (nI i))] _ _ _
            refine z_iinc (pc := 73) (zk11 kX5_reach_2) (v := nI (i + 1)) rfl zinc rfl rfl ?_
            show Z D B xX5_reach _ _ _ 76 [some (.ref p), some (.int (nI kx)), some (.int y), some (.int (a + (oI (decide (0 < heardF σ kx i))))), some (.int (b + (heardF σ kx i))), some (.int (nI (i + 1)))] _ _ _
            refine z_goto (pc := 76) (zk12 kX5_reach_2) (tgt := 34) (by decide) ?_
            exact ih34 (a + (oI (decide (0 < heardF σ kx i)))) (b + (heardF σ kx i)) (i + 1) (by omega) (by omega) (by rw [ha_]; rfl) (by rw [hb_]; rfl)
      exact lp34 _ 0 0 0 (Nat.lt_succ_self _) (by omega) rfl rfl
    · refine z_aload_n (pc := 19) (zk11 kX5_reach_0) rfl ?_
      refine z_bipush (pc := 20) (zk12 kX5_reach_0) (v := (-2)) (by decide) ?_
      refine z_efV (pc := 22) (zk13 kX5_reach_0) (st := []) lkX5_94 ivX5_refuse hM.1 rfl rfl (c_refuse hM (by omega) (j := 2) (by decide) (by decide)) rfl ⟨rfl, rfl⟩ rfl rfl (fun r_ h_9 z_ q_8 => ?_) rfl
      obtain ⟨er_, hR, hU_10, ez_⟩ := q_8
      rw [er_, ez_]
      clear er_ ez_
      replace hU := hU.tr hU_10 (by omega) (by omega)
      replace hM := hR; clear hR
      show Z D B xX5_reach _ _ _ 25 _ [.int (-2)] _ _
      exact z_iret (pc := 25) (zk14 kX5_reach_0) rfl (Nat.zero_le _) (Nat.zero_le _) (by
                rw [show sp_reach σ τ ε x y = ((-2), σ, rfN τ 2, ε) from by simp [sp_reach, sBad, okS, okH, okL, okT, okB, sRd, up2_id, up2_id2, oI, c_1, c_5]]
                exact ⟨_, _, rfl, hM, hU, rfl⟩)
set_option maxRecDepth 20000 in
theorem cP_first {D : zD} {B : Nat} {h : zH} {sz : Nat} {p : Nat} {σ τ ω : Ln} {ε : El} {mv : Nat → Int64} {kp tr : Option Nat} {x : Int32} {y : Int32} {n m : Nat} (hM : MoAt h p σ τ ω ε mv kp tr) (hB : B ≤ p) (hn : σ 0 0 = nI n) (h12 : n ≤ 12) (hm : σ 9 0 = nI m) (h8 : m ≤ 8) (hto : ∀ l, l < m → ToOk σ l) : zM D B xX5_first [.ref p, .int x, .int y] h sz (mQ h p sz kp tr (sp_first σ τ ε x y)) := by
  have hU : Upd h h p 29 := Upd.rf
  refine zM.of (by decide) rfl (n := 5) ?_
  show Z D B xX5_first 0 0 _ 0 [some (.ref p), some (.int x), some (.int y), none, none, none, none, none] [] h sz
  refine z_aload_n (pc := 0) (zk0 kX5_first_0) rfl ?_
  refine z_iload_n (pc := 1) (zk1 kX5_first_0) rfl ?_
  refine z_i2l (pc := 2) (zk2 kX5_first_0) ?_
  refine z_rdV (pc := 3) (zk3 kX5_first_0) (st := []) lkX5_105 ivX5_isLetter hM.1 rfl rfl (c_isLetter hM) rfl ⟨rfl, rfl⟩ rfl rfl ?_ rfl
  refine z_oif_eq (pc := 6) (zk4 kX5_first_0) (tgt := 19) (by decide) (fun c_1 => ?_) (fun c_1 => ?_)
  · refine z_aload_n (pc := 19) (zk11 kX5_first_0) rfl ?_
    refine z_bipush (pc := 20) (zk12 kX5_first_0) (v := (-2)) (by decide) ?_
    refine z_efV (pc := 22) (zk13 kX5_first_0) (st := []) lkX5_94 ivX5_refuse hM.1 rfl rfl (c_refuse hM (by omega) (j := 2) (by decide) (by decide)) rfl ⟨rfl, rfl⟩ rfl rfl (fun r_ h_3 z_ q_2 => ?_) rfl
    obtain ⟨er_, hR, hU_4, ez_⟩ := q_2
    rw [er_, ez_]
    clear er_ ez_
    replace hU := hU.tr hU_4 (by omega) (by omega)
    replace hM := hR; clear hR
    show Z D B xX5_first _ _ _ 25 _ [.int (-2)] _ _
    exact z_iret (pc := 25) (zk14 kX5_first_0) rfl (Nat.zero_le _) (Nat.zero_le _) (by
            rw [show sp_first σ τ ε x y = ((-2), σ, rfN τ 2, ε) from by simp [sp_first, sBad, okS, okH, okL, okT, okB, sRd, up2_id, up2_id2, oI, c_1]]
            exact ⟨_, _, rfl, hM, hU, rfl⟩)
  · refine z_iload_n (pc := 9) (zk5 kX5_first_0) rfl ?_
    refine z_i2l (pc := 10) (zk6 kX5_first_0) ?_
    refine z_lconst (pc := 11) (zk7 kX5_first_0) (v := 0) (by decide) ?_
    refine z_lconst (pc := 12) (zk8 kX5_first_0) (v := 1) (by decide) ?_
    refine z_rdS (pc := 13) (zk9 kX5_first_0) (st := []) lkX5_81 isX5_in (c_inI (x := y) (a := 0) (b := 1) (by decide) (by decide)) rfl ⟨rfl, rfl⟩ rfl rfl ?_ rfl
    refine z_oif_ne (pc := 16) (zk10 kX5_first_0) (tgt := 26) (by decide) (fun c_5 => ?_) (fun c_5 => ?_)
    · obtain ⟨kx, hkx, rfl⟩ := okR_nI (n := m) (by omega) (by rw [← hm]; exact c_1)
      refine z_iconst (pc := 26) (zk15 kX5_first_0) (v := (-1)) (by decide) ?_
      refine z_istore_n (pc := 27) (zk0 kX5_first_1) rfl rfl ?_
      show Z D B xX5_first _ _ _ 28 [some (.ref p), some (.int (nI kx)), some (.int y), some (.int (-1)), none, none, none, none] _ _ _
      refine z_iconst (pc := 28) (zk1 kX5_first_1) (v := (-1)) (by decide) ?_
      refine z_istore (pc := 29) (zk2 kX5_first_1) rfl rfl ?_
      show Z D B xX5_first _ _ _ 31 [some (.ref p), some (.int (nI kx)), some (.int y), some (.int (-1)), some (.int (-1)), none, none, none] _ _ _
      refine z_iconst (pc := 31) (zk3 kX5_first_1) (v := 0) (by decide) ?_
      refine z_istore (pc := 32) (zk4 kX5_first_1) rfl rfl ?_
      show Z D B xX5_first _ _ _ 34 [some (.ref p), some (.int (nI kx)), some (.int y), some (.int (-1)), some (.int (-1)), some (.int 0), none, none] _ _ _
      have lp34 : ∀ (n_ : Nat) (a : Int32) (b : Int32) (i : Nat), n - i < n_ → (i ≤ n) → (a = fstW (fun k => knowB σ kx k) (stepH σ) i) → (b = lstW (fun k => knowB σ kx k) (stepH σ) i) → Z D B xX5_first 0 0 (mQ h p sz kp tr (sp_first σ τ ε (nI kx) y)) 34 [some (.ref p), some (.int (nI kx)), some (.int y), some (.int a), some (.int b), some (.int (nI i)), none, none] [] h sz := by
        intro n_
        induction n_ with
        | zero => intro a b i hm_; exact absurd hm_ (Nat.not_lt_zero _)
        | succ n_ ih34 =>
          intro a b i hm_ hi_i ha_ hb_
          refine z_iload (pc := 34) (zk5 kX5_first_1) rfl ?_
          refine z_aload_n (pc := 36) (zk6 kX5_first_1) rfl ?_
          refine z_getf (pc := 37) (zk7 kX5_first_1) flX5_37 hM.1 (v := .int (nI n)) (by rw [← hn]; rfl) ?_
          refine z_icmp_ge (pc := 40) (zk8 kX5_first_1) (tgt := 112) (by decide) (fun c_6 => ?_) (fun c_6 => ?_)
          · have hie_i : i = n := nI_ge_yes (a := n) (by omega) (by omega) (by omega) c_6
            refine z_iload_n (pc := 112) (zk11 kX5_first_3) rfl ?_
            rcases okR_01 c_5 with rfl | rfl
            · refine z_if_ne (pc := 113) (zk12 kX5_first_3) (tgt := 120) (by decide) (fun q => absurd (by decide) q) (fun _ => ?_)
              refine z_iload_n (pc := 116) (zk13 kX5_first_3) rfl ?_
              refine z_goto (pc := 117) (zk14 kX5_first_3) (tgt := 122) (by decide) ?_
              exact z_iret (pc := 122) (zk0 kX5_first_4) rfl (Nat.zero_le _) (Nat.zero_le _) (by
                                rw [show sp_first σ τ ε (nI kx) 0 = (a, σ, τ, ε) from by simp [sp_first, sBad, okS, okH, okL, okT, okB, sRd, up2_id, up2_id2, oI, c_1, c_5, c_6, Int32.not_lt.mpr c_6, ix_nI (show kx ≤ 1000 by omega), ha_, hb_, firstF, lastF, hie_i, hsN_eq hn h12, lsN_eq hm h8]]
                                exact ⟨_, _, rfl, hM, hU, rfl⟩)
            · refine z_if_ne (pc := 113) (zk12 kX5_first_3) (tgt := 120) (by decide) (fun _ => ?_) (fun q => absurd q (by decide))
              refine z_iload (pc := 120) (zk15 kX5_first_3) rfl ?_
              exact z_iret (pc := 122) (zk0 kX5_first_4) rfl (Nat.zero_le _) (Nat.zero_le _) (by
                                rw [show sp_first σ τ ε (nI kx) 1 = (b, σ, τ, ε) from by simp [sp_first, sBad, okS, okH, okL, okT, okB, sRd, up2_id, up2_id2, oI, c_1, c_5, c_6, Int32.not_lt.mpr c_6, ix_nI (show kx ≤ 1000 by omega), ha_, hb_, firstF, lastF, hie_i, hsN_eq hn h12, lsN_eq hm h8]]
                                exact ⟨_, _, rfl, hM, hU, rfl⟩)
          · have hlt_i : i < n := nI_ge_not (a := n) (by omega) (by omega) c_6
            suffices hJ : Z D B xX5_first 0 0 (mQ h p sz kp tr (sp_first σ τ ε (nI kx) y)) 64 [some (.ref p), some (.int (nI kx)), some (.int y), some (.int a), some (.int b), some (.int (nI i)), none, none] [.int (nI (stepH σ i))] h sz from by
              refine z_aload_n (pc := 43) (zk9 kX5_first_1) rfl ?_
              refine z_getf (pc := 44) (zk10 kX5_first_1) flX5_138 hM.1 (v := .int (σ 6 0)) rfl ?_
              refine z_if_eq (pc := 47) (zk11 kX5_first_1) (tgt := 62) (by decide) (fun c_7 => ?_) (fun c_7 => ?_)
              · refine z_iload (pc := 62) (zk3 kX5_first_2) rfl ?_
                exact z_top (congrArg Value.int ((stepH_f c_7))) hJ
              · refine z_aload_n (pc := 50) (zk12 kX5_first_1) rfl ?_
                refine z_getf (pc := 51) (zk13 kX5_first_1) flX5_37 hM.1 (v := .int (nI n)) (by rw [← hn]; rfl) ?_
                refine z_iconst (pc := 54) (zk14 kX5_first_1) (v := 1) (by decide) ?_
                refine z_isub (pc := 55) (zk15 kX5_first_1) ?_
                refine z_iload (pc := 56) (zk0 kX5_first_2) rfl ?_
                refine z_isub (pc := 58) (zk1 kX5_first_2) ?_
                refine z_goto (pc := 59) (zk2 kX5_first_2) (tgt := 64) (by decide) ?_
                exact z_top (congrArg Value.int ((stepH_b c_7 hn h12 hlt_i))) hJ
            refine z_istore (pc := 64) (zk4 kX5_first_2) rfl rfl ?_
            show Z D B xX5_first _ _ _ 66 [some (.ref p), some (.int (nI kx)), some (.int y), some (.int a), some (.int b), some (.int (nI i)), some (.int (nI (stepH σ i))), none] _ _ _
            refine z_aload_n (pc := 66) (zk5 kX5_first_2) rfl ?_
            refine z_iload_n (pc := 67) (zk6 kX5_first_2) rfl ?_
            refine z_iload (pc := 68) (zk7 kX5_first_2) rfl ?_
            refine z_rdV (pc := 70) (zk8 kX5_first_2) (st := []) lkX5_245 ivX5_knowsOf hM.1 rfl rfl (c_knowsOf hM hn h12 (show kx < 8 by omega) (stepH_lt hn h12 hlt_i) (hto _ (by omega))) rfl ⟨rfl, rfl⟩ rfl rfl ?_ rfl
            refine z_istore (pc := 73) (zk9 kX5_first_2) rfl rfl ?_
            show Z D B xX5_first _ _ _ 75 [some (.ref p), some (.int (nI kx)), some (.int y), some (.int a), some (.int b), some (.int (nI i)), some (.int (nI (stepH σ i))), some (.int (oI (knowB σ kx (stepH σ i))))] _ _ _
            suffices hJ : Z D B xX5_first 0 0 (mQ h p sz kp tr (sp_first σ τ ε (nI kx) y)) 91 [some (.ref p), some (.int (nI kx)), some (.int y), some (.int a), some (.int b), some (.int (nI i)), some (.int (nI (stepH σ i))), some (.int (oI (knowB σ kx (stepH σ i))))] [.int (if knowB σ kx (stepH σ i) = true ∧ a = -1 then nI (stepH σ i) else a)] h sz from by
              refine z_iload (pc := 75) (zk10 kX5_first_2) rfl ?_
              refine z_oif_eq (pc := 77) (zk11 kX5_first_2) (tgt := 90) (by decide) (fun c_8 => ?_) (fun c_8 => ?_)
              · refine z_iload_n (pc := 90) (zk1 kX5_first_3) rfl ?_
                exact z_top (congrArg Value.int (by simp [c_1, c_5, c_6, Int32.not_le.mp c_6, c_8])) hJ
              · refine z_iload_n (pc := 80) (zk12 kX5_first_2) rfl ?_
                refine z_iconst (pc := 81) (zk13 kX5_first_2) (v := (-1)) (by decide) ?_
                refine z_icmp_ne (pc := 82) (zk14 kX5_first_2) (tgt := 90) (by decide) (fun c_9 => ?_) (fun c_9 => ?_)
                · refine z_iload_n (pc := 90) (zk1 kX5_first_3) rfl ?_
                  exact z_top (congrArg Value.int (by simp [c_1, c_5, c_6, Int32.not_le.mp c_6, c_8, c_9])) hJ
                · refine z_iload (pc := 85) (zk15 kX5_first_2) rfl ?_
                  refine z_goto (pc := 87) (zk0 kX5_first_3) (tgt := 91) (by decide) ?_
                  exact z_top (congrArg Value.int (by simp [c_1, c_5, c_6, Int32.not_le.mp c_6, c_8, c_9])) hJ
            refine z_istore_n (pc := 91) (zk2 kX5_first_3) rfl rfl ?_
            show Z D B xX5_first _ _ _ 92 [some (.ref p), some (.int (nI kx)), some (.int y), some (.int (if knowB σ kx (stepH σ i) = true ∧ a = -1 then nI (stepH σ i) else a)), some (.int b), some (.int (nI i)), some (.int (nI (stepH σ i))), some (.int (oI (knowB σ kx (stepH σ i))))] _ _ _
            suffices hJ : Z D B xX5_first 0 0 (mQ h p sz kp tr (sp_first σ τ ε (nI kx) y)) 104 [some (.ref p), some (.int (nI kx)), some (.int y), some (.int (if knowB σ kx (stepH σ i) = true ∧ a = -1 then nI (stepH σ i) else a)), some (.int b), some (.int (nI i)), some (.int (nI (stepH σ i))), some (.int (oI (knowB σ kx (stepH σ i))))] [.int (if knowB σ kx (stepH σ i) = true then nI (stepH σ i) else b)] h sz from by
              refine z_iload (pc := 92) (zk3 kX5_first_3) rfl ?_
              refine z_oif_eq (pc := 94) (zk4 kX5_first_3) (tgt := 102) (by decide) (fun c_10 => ?_) (fun c_10 => ?_)
              · refine z_iload (pc := 102) (zk7 kX5_first_3) rfl ?_
                exact z_top (congrArg Value.int (by simp [c_1, c_5, c_6, Int32.not_le.mp c_6, c_10])) hJ
              · refine z_iload (pc := 97) (zk5 kX5_first_3) rfl ?_
                refine z_goto (pc := 99) (zk6 kX5_first_3) (tgt := 104) (by decide) ?_
                exact z_top (congrArg Value.int (by simp [c_1, c_5, c_6, Int32.not_le.mp c_6, c_10])) hJ
            refine z_istore (pc := 104) (zk8 kX5_first_3) rfl rfl ?_
            show Z D B xX5_first _ _ _ 106 [some (.ref p), some (.int (nI kx)), some (.int y), some (.int (if knowB σ kx (stepH σ i) = true ∧ a = -1 then nI (stepH σ i) else a)), some (.int (if knowB σ kx (stepH σ i) = true then nI (stepH σ i) else b)), some (.int (nI i)), some (.int (nI (stepH σ i))), some (.int (oI (knowB σ kx (stepH σ i))))] _ _ _
            refine z_iinc (pc := 106) (zk9 kX5_first_3) (v := nI (i + 1)) rfl zinc rfl rfl ?_
            show Z D B xX5_first _ _ _ 109 [some (.ref p), some (.int (nI kx)), some (.int y), some (.int (if knowB σ kx (stepH σ i) = true ∧ a = -1 then nI (stepH σ i) else a)), some (.int (if knowB σ kx (stepH σ i) = true then nI (stepH σ i) else b)), some (.int (nI (i + 1))), some (.int (nI (stepH σ i))), some (.int (oI (knowB σ kx (stepH σ i))))] _ _ _
            refine z_goto (pc := 109) (zk10 kX5_first_3) (tgt := 34) (by decide) ?_
            refine z_kill 6 ?_
            show Z D B xX5_first _ _ _ 34 [some (.ref p), some (.int (nI kx)), some (.int y), some (.int (if knowB σ kx (stepH σ i) = true ∧ a = -1 then nI (stepH σ i) else a)), some (.int (if knowB σ kx (stepH σ i) = true then nI (stepH σ i) else b)), some (.int (nI (i + 1))), none, some (.int (oI (knowB σ kx (stepH σ i))))] _ _ _
            refine z_kill 7 ?_
            show Z D B xX5_first _ _ _ 34 [some (.ref p), some (.int (nI kx)), some (.int y), some (.int (if knowB σ kx (stepH σ i) = true ∧ a = -1 then nI (stepH σ i) else a)), some (.int (if knowB σ kx (stepH σ i) = true then nI (stepH σ i) else b)), some (.int (nI (i + 1))), none, none] _ _ _
            exact ih34 (if knowB σ kx (stepH σ i) = true ∧ a = -1 then nI (stepH σ i) else a) (if knowB σ kx (stepH σ i) = true then nI (stepH σ i) else b) (i + 1) (by omega) (by omega) (by rw [ha_]; exact fstW_s (fun k => knowB σ kx k) (stepH σ) i) (by rw [hb_]; exact lstW_s (fun k => knowB σ kx k) (stepH σ) i)
      exact lp34 _ (-1) (-1) 0 (Nat.lt_succ_self _) (by omega) rfl rfl
    · refine z_aload_n (pc := 19) (zk11 kX5_first_0) rfl ?_
      refine z_bipush (pc := 20) (zk12 kX5_first_0) (v := (-2)) (by decide) ?_
      refine z_efV (pc := 22) (zk13 kX5_first_0) (st := []) lkX5_94 ivX5_refuse hM.1 rfl rfl (c_refuse hM (by omega) (j := 2) (by decide) (by decide)) rfl ⟨rfl, rfl⟩ rfl rfl (fun r_ h_12 z_ q_11 => ?_) rfl
      obtain ⟨er_, hR, hU_13, ez_⟩ := q_11
      rw [er_, ez_]
      clear er_ ez_
      replace hU := hU.tr hU_13 (by omega) (by omega)
      replace hM := hR; clear hR
      show Z D B xX5_first _ _ _ 25 _ [.int (-2)] _ _
      exact z_iret (pc := 25) (zk14 kX5_first_0) rfl (Nat.zero_le _) (Nat.zero_le _) (by
                rw [show sp_first σ τ ε x y = ((-2), σ, rfN τ 2, ε) from by simp [sp_first, sBad, okS, okH, okL, okT, okB, sRd, up2_id, up2_id2, oI, c_1, c_5]]
                exact ⟨_, _, rfl, hM, hU, rfl⟩)
set_option maxRecDepth 20000 in
theorem cP_loudest {D : zD} {B : Nat} {h : zH} {sz : Nat} {p : Nat} {σ τ ω : Ln} {ε : El} {mv : Nat → Int64} {kp tr : Option Nat} {x : Int32} {n m : Nat} (hM : MoAt h p σ τ ω ε mv kp tr) (hB : B ≤ p) (hn : σ 0 0 = nI n) (h12 : n ≤ 12) (hm : σ 9 0 = nI m) (h8 : m ≤ 8) (hto : ∀ l, l < m → ToOk σ l) : zM D B xX5_loudest [.ref p, .int x] h sz (mQ h p sz kp tr (sp_loudest σ τ ε x)) := by
  have hU : Upd h h p 29 := Upd.rf
  refine zM.of (by decide) rfl (n := 3) ?_
  show Z D B xX5_loudest 0 0 _ 0 [some (.ref p), some (.int x), none, none, none] [] h sz
  refine z_aload_n (pc := 0) (zk0 kX5_loudest_0) rfl ?_
  refine z_iload_n (pc := 1) (zk1 kX5_loudest_0) rfl ?_
  refine z_rdV (pc := 2) (zk2 kX5_loudest_0) (st := []) lkX5_123 ivX5_isHouse hM.1 rfl rfl (c_isHouse hM) rfl ⟨rfl, rfl⟩ rfl rfl ?_ rfl
  refine z_oif_ne (pc := 5) (zk3 kX5_loudest_0) (tgt := 15) (by decide) (fun c_1 => ?_) (fun c_1 => ?_)
  · obtain ⟨kx, hkx, rfl⟩ := okR_nI (n := n) (by omega) (by rw [← hn]; exact c_1)
    refine z_iconst (pc := 15) (zk8 kX5_loudest_0) (v := (-1)) (by decide) ?_
    refine z_istore_n (pc := 16) (zk9 kX5_loudest_0) rfl rfl ?_
    show Z D B xX5_loudest _ _ _ 17 [some (.ref p), some (.int (nI kx)), some (.int (-1)), none, none] _ _ _
    refine z_iconst (pc := 17) (zk10 kX5_loudest_0) (v := 0) (by decide) ?_
    refine z_istore_n (pc := 18) (zk11 kX5_loudest_0) rfl rfl ?_
    show Z D B xX5_loudest _ _ _ 19 [some (.ref p), some (.int (nI kx)), some (.int (-1)), some (.int 0), none] _ _ _
    refine z_iconst (pc := 19) (zk12 kX5_loudest_0) (v := 0) (by decide) ?_
    refine z_istore (pc := 20) (zk13 kX5_loudest_0) rfl rfl ?_
    show Z D B xX5_loudest _ _ _ 22 [some (.ref p), some (.int (nI kx)), some (.int (-1)), some (.int 0), some (.int 0)] _ _ _
    have lp22 : ∀ (n_ : Nat) (a : Int32) (b : Int32) (i : Nat), m - i < n_ → (i ≤ m) → (a = (amx (fun l => heardF σ l kx) 0 (-1) i).2) → (b = (amx (fun l => heardF σ l kx) 0 (-1) i).1) → Z D B xX5_loudest 0 0 (mQ h p sz kp tr (sp_loudest σ τ ε (nI kx))) 22 [some (.ref p), some (.int (nI kx)), some (.int a), some (.int b), some (.int (nI i))] [] h sz := by
      intro n_
      induction n_ with
      | zero => intro a b i hm_; exact absurd hm_ (Nat.not_lt_zero _)
      | succ n_ ih22 =>
        intro a b i hm_ hi_i ha_ hb_
        refine z_iload (pc := 22) (zk14 kX5_loudest_0) rfl ?_
        refine z_aload_n (pc := 24) (zk15 kX5_loudest_0) rfl ?_
        refine z_getf (pc := 25) (zk0 kX5_loudest_1) flX5_85 hM.1 (v := .int (nI m)) (by rw [← hm]; rfl) ?_
        refine z_icmp_ge (pc := 28) (zk1 kX5_loudest_1) (tgt := 78) (by decide) (fun c_2 => ?_) (fun c_2 => ?_)
        · have hie_i : i = m := nI_ge_yes (a := m) (by omega) (by omega) (by omega) c_2
          refine z_iload_n (pc := 78) (zk11 kX5_loudest_2) rfl ?_
          exact z_iret (pc := 79) (zk12 kX5_loudest_2) rfl (Nat.zero_le _) (Nat.zero_le _) (by
                        rw [show sp_loudest σ τ ε (nI kx) = (a, σ, τ, ε) from by simp [sp_loudest, sBad, okS, okH, okL, okT, okB, sRd, up2_id, up2_id2, oI, c_1, c_2, Int32.not_lt.mpr c_2, ix_nI (show kx ≤ 1000 by omega), ha_, loudF, hie_i, hsN_eq hn h12, lsN_eq hm h8]]
                        exact ⟨_, _, rfl, hM, hU, rfl⟩)
        · have hlt_i : i < m := nI_ge_not (a := m) (by omega) (by omega) c_2
          suffices hJ : Z D B xX5_loudest 0 0 (mQ h p sz kp tr (sp_loudest σ τ ε (nI kx))) 48 [some (.ref p), some (.int (nI kx)), some (.int a), some (.int b), some (.int (nI i))] [.int (if b < heardF σ i kx then nI i else a)] h sz from by
            refine z_aload_n (pc := 31) (zk2 kX5_loudest_1) rfl ?_
            refine z_iload (pc := 32) (zk3 kX5_loudest_1) rfl ?_
            refine z_iload_n (pc := 34) (zk4 kX5_loudest_1) rfl ?_
            refine z_rdV (pc := 35) (zk5 kX5_loudest_1) (st := []) lkX5_115 ivX5_heardAt hM.1 rfl rfl (c_mheardAt hM hn h12 (show i < 8 by omega) (show kx < n by omega) (hto _ (by omega))) rfl ⟨rfl, rfl⟩ rfl rfl ?_ rfl
            refine z_iload_n (pc := 38) (zk6 kX5_loudest_1) rfl ?_
            refine z_icmp_le (pc := 39) (zk7 kX5_loudest_1) (tgt := 47) (by decide) (fun c_3 => ?_) (fun c_3 => ?_)
            · refine z_iload_n (pc := 47) (zk10 kX5_loudest_1) rfl ?_
              exact z_top (congrArg Value.int (by simp [c_1, c_2, Int32.not_le.mp c_2, c_3, Int32.not_lt.mpr c_3])) hJ
            · refine z_iload (pc := 42) (zk8 kX5_loudest_1) rfl ?_
              refine z_goto (pc := 44) (zk9 kX5_loudest_1) (tgt := 48) (by decide) ?_
              exact z_top (congrArg Value.int (by simp [c_1, c_2, Int32.not_le.mp c_2, c_3, Int32.not_le.mp c_3])) hJ
          refine z_istore_n (pc := 48) (zk11 kX5_loudest_1) rfl rfl ?_
          show Z D B xX5_loudest _ _ _ 49 [some (.ref p), some (.int (nI kx)), some (.int (if b < heardF σ i kx then nI i else a)), some (.int b), some (.int (nI i))] _ _ _
          suffices hJ : Z D B xX5_loudest 0 0 (mQ h p sz kp tr (sp_loudest σ τ ε (nI kx))) 71 [some (.ref p), some (.int (nI kx)), some (.int (if b < heardF σ i kx then nI i else a)), some (.int b), some (.int (nI i))] [.int (if b < heardF σ i kx then heardF σ i kx else b)] h sz from by
            refine z_aload_n (pc := 49) (zk12 kX5_loudest_1) rfl ?_
            refine z_iload (pc := 50) (zk13 kX5_loudest_1) rfl ?_
            refine z_iload_n (pc := 52) (zk14 kX5_loudest_1) rfl ?_
            refine z_rdV (pc := 53) (zk15 kX5_loudest_1) (st := []) lkX5_115 ivX5_heardAt hM.1 rfl rfl (c_mheardAt hM hn h12 (show i < 8 by omega) (show kx < n by omega) (hto _ (by omega))) rfl ⟨rfl, rfl⟩ rfl rfl ?_ rfl
            refine z_iload_n (pc := 56) (zk0 kX5_loudest_2) rfl ?_
            refine z_icmp_le (pc := 57) (zk1 kX5_loudest_2) (tgt := 70) (by decide) (fun c_4 => ?_) (fun c_4 => ?_)
            · refine z_iload_n (pc := 70) (zk7 kX5_loudest_2) rfl ?_
              exact z_top (congrArg Value.int (by simp [c_1, c_2, Int32.not_le.mp c_2, c_4, Int32.not_lt.mpr c_4])) hJ
            · refine z_aload_n (pc := 60) (zk2 kX5_loudest_2) rfl ?_
              refine z_iload (pc := 61) (zk3 kX5_loudest_2) rfl ?_
              refine z_iload_n (pc := 63) (zk4 kX5_loudest_2) rfl ?_
              refine z_rdV (pc := 64) (zk5 kX5_loudest_2) (st := []) lkX5_115 ivX5_heardAt hM.1 rfl rfl (c_mheardAt hM hn h12 (show i < 8 by omega) (show kx < n by omega) (hto _ (by omega))) rfl ⟨rfl, rfl⟩ rfl rfl ?_ rfl
              refine z_goto (pc := 67) (zk6 kX5_loudest_2) (tgt := 71) (by decide) ?_
              exact z_top (congrArg Value.int (by simp [c_1, c_2, Int32.not_le.mp c_2, c_4, Int32.not_le.mp c_4])) hJ
          refine z_istore_n (pc := 71) (zk8 kX5_loudest_2) rfl rfl ?_
          show Z D B xX5_loudest _ _ _ 72 [some (.ref p), some (.int (nI kx)), some (.int (if b < heardF σ i kx then nI i else a)), some (.int (if b < heardF σ i kx then heardF σ i kx else b)), some (.int (nI i))] _ _ _
          refine z_iinc (pc := 72) (zk9 kX5_loudest_2) (v := nI (i + 1)) rfl zinc rfl rfl ?_
          show Z D B xX5_loudest _ _ _ 75 [some (.ref p), some (.int (nI kx)), some (.int (if b < heardF σ i kx then nI i else a)), some (.int (if b < heardF σ i kx then heardF σ i kx else b)), some (.int (nI (i + 1)))] _ _ _
          refine z_goto (pc := 75) (zk10 kX5_loudest_2) (tgt := 22) (by decide) ?_
          exact ih22 (if b < heardF σ i kx then nI i else a) (if b < heardF σ i kx then heardF σ i kx else b) (i + 1) (by omega) (by omega) (by rw [ha_, hb_]; exact amx_s2 (fun l => heardF σ l kx) _ _ _) (by rw [hb_]; exact amx_s1 (fun l => heardF σ l kx) _ _ _)
    exact lp22 _ (-1) 0 0 (Nat.lt_succ_self _) (by omega) rfl rfl
  · refine z_aload_n (pc := 8) (zk4 kX5_loudest_0) rfl ?_
    refine z_bipush (pc := 9) (zk5 kX5_loudest_0) (v := (-2)) (by decide) ?_
    refine z_efV (pc := 11) (zk6 kX5_loudest_0) (st := []) lkX5_94 ivX5_refuse hM.1 rfl rfl (c_refuse hM (by omega) (j := 2) (by decide) (by decide)) rfl ⟨rfl, rfl⟩ rfl rfl (fun r_ h_6 z_ q_5 => ?_) rfl
    obtain ⟨er_, hR, hU_7, ez_⟩ := q_5
    rw [er_, ez_]
    clear er_ ez_
    replace hU := hU.tr hU_7 (by omega) (by omega)
    replace hM := hR; clear hR
    show Z D B xX5_loudest _ _ _ 14 _ [.int (-2)] _ _
    exact z_iret (pc := 14) (zk7 kX5_loudest_0) rfl (Nat.zero_le _) (Nat.zero_le _) (by
            rw [show sp_loudest σ τ ε x = ((-2), σ, rfN τ 2, ε) from by simp [sp_loudest, sBad, okS, okH, okL, okT, okB, sRd, up2_id, up2_id2, oI, c_1]]
            exact ⟨_, _, rfl, hM, hU, rfl⟩)
set_option maxRecDepth 20000 in
theorem cP_best {D : zD} {B : Nat} {h : zH} {sz : Nat} {p : Nat} {σ τ ω : Ln} {ε : El} {mv : Nat → Int64} {kp tr : Option Nat} {x : Int32} {n m : Nat} (hM : MoAt h p σ τ ω ε mv kp tr) (hB : B ≤ p) (hn : σ 0 0 = nI n) (h12 : n ≤ 12) (hm : σ 9 0 = nI m) (h8 : m ≤ 8) (hto : ∀ l, l < m → ToOk σ l) (h2 : 2 ≤ n) : zM D B xX5_best [.ref p, .int x] h sz (mQ h p sz kp tr (sp_best σ τ ε x)) := by
  have hU : Upd h h p 29 := Upd.rf
  refine zM.of (by decide) rfl (n := 3) ?_
  show Z D B xX5_best 0 0 _ 0 [some (.ref p), some (.int x), none, none, none] [] h sz
  refine z_iload_n (pc := 0) (zk0 kX5_best_0) rfl ?_
  refine z_i2l (pc := 1) (zk1 kX5_best_0) ?_
  refine z_lconst (pc := 2) (zk2 kX5_best_0) (v := 0) (by decide) ?_
  refine z_ldc2 (pc := 3) (zk3 kX5_best_0) klX5_260 ?_
  refine z_rdS (pc := 6) (zk4 kX5_best_0) (st := []) lkX5_81 isX5_in (c_inI (x := x) (a := 0) (b := 2) (by decide) (by decide)) rfl ⟨rfl, rfl⟩ rfl rfl ?_ rfl
  refine z_oif_ne (pc := 9) (zk5 kX5_best_0) (tgt := 19) (by decide) (fun c_1 => ?_) (fun c_1 => ?_)
  · refine z_iconst (pc := 19) (zk10 kX5_best_0) (v := 0) (by decide) ?_
    refine z_istore_n (pc := 20) (zk11 kX5_best_0) rfl rfl ?_
    show Z D B xX5_best _ _ _ 21 [some (.ref p), some (.int x), some (.int 0), none, none] _ _ _
    refine z_iconst (pc := 21) (zk12 kX5_best_0) (v := 0) (by decide) ?_
    refine z_istore_n (pc := 22) (zk13 kX5_best_0) rfl rfl ?_
    show Z D B xX5_best _ _ _ 23 [some (.ref p), some (.int x), some (.int 0), some (.int 0), none] _ _ _
    refine z_iconst (pc := 23) (zk14 kX5_best_0) (v := 1) (by decide) ?_
    refine z_istore (pc := 24) (zk15 kX5_best_0) rfl rfl ?_
    show Z D B xX5_best _ _ _ 26 [some (.ref p), some (.int x), some (.int 0), some (.int 0), some (.int 1)] _ _ _
    have lp26 : ∀ (n_ : Nat) (g : Nat) (e : Nat) (i : Nat), n - i < n_ → (1 ≤ i) → (i ≤ n) → (g = bestN (wordsF σ) i) → (e = fewN (wordsF σ) i) → Z D B xX5_best 0 0 (mQ h p sz kp tr (sp_best σ τ ε x)) 26 [some (.ref p), some (.int x), some (.int (nI g)), some (.int (nI e)), some (.int (nI i))] [] h sz := by
      intro n_
      induction n_ with
      | zero => intro g e i hm_; exact absurd hm_ (Nat.not_lt_zero _)
      | succ n_ ih26 =>
        intro g e i hm_ h0_i hi_i hg he
        have hgn : g < i := by rw [hg]; exact bestN_lt (by omega)
        have hen : e < i := by rw [he]; exact fewN_lt (by omega)
        refine z_iload (pc := 26) (zk0 kX5_best_1) rfl ?_
        refine z_aload_n (pc := 28) (zk1 kX5_best_1) rfl ?_
        refine z_getf (pc := 29) (zk2 kX5_best_1) flX5_37 hM.1 (v := .int (nI n)) (by rw [← hn]; rfl) ?_
        refine z_icmp_ge (pc := 32) (zk3 kX5_best_1) (tgt := 83) (by decide) (fun c_2 => ?_) (fun c_2 => ?_)
        · have hie_i : i = n := nI_ge_yes (a := n) (by omega) (by omega) (by omega) c_2
          refine z_iload_n (pc := 83) (zk12 kX5_best_2) rfl ?_
          rcases okR_02 c_1 with rfl | rfl | rfl
          · refine z_if_ne (pc := 84) (zk13 kX5_best_2) (tgt := 91) (by decide) (fun q => absurd (by decide) q) (fun _ => ?_)
            refine z_iload_n (pc := 87) (zk14 kX5_best_2) rfl ?_
            refine z_goto (pc := 88) (zk15 kX5_best_2) (tgt := 105) (by decide) ?_
            exact z_iret (pc := 105) (zk8 kX5_best_3) rfl (Nat.zero_le _) (Nat.zero_le _) (by
                            rw [show sp_best σ τ ε 0 = (nI g, σ, τ, ε) from by simp [sp_best, sBad, okS, okH, okL, okT, okB, sRd, up2_id, up2_id2, oI, c_1, c_2, Int32.not_lt.mpr c_2, hg, he, hie_i, hsN_eq hn h12, lsN_eq hm h8]]
                            exact ⟨_, _, rfl, hM, hU, rfl⟩)
          · refine z_if_ne (pc := 84) (zk13 kX5_best_2) (tgt := 91) (by decide) (fun _ => ?_) (fun q => absurd q (by decide))
            refine z_iload_n (pc := 91) (zk0 kX5_best_3) rfl ?_
            refine z_iconst (pc := 92) (zk1 kX5_best_3) (v := 1) (by decide) ?_
            refine z_icmp_ne (pc := 93) (zk2 kX5_best_3) (tgt := 104) (by decide) (fun q => absurd (by decide) q) (fun _ => ?_)
            refine z_aload_n (pc := 96) (zk3 kX5_best_3) rfl ?_
            refine z_iload_n (pc := 97) (zk4 kX5_best_3) rfl ?_
            refine z_rdV (pc := 98) (zk5 kX5_best_3) (st := []) lkX5_257 ivX5_wordsAt hM.1 rfl rfl (c_mwordsAt hM hn h12 hm h8 (show g < n by omega) hto) rfl ⟨rfl, rfl⟩ rfl rfl ?_ rfl
            refine z_goto (pc := 101) (zk6 kX5_best_3) (tgt := 105) (by decide) ?_
            exact z_iret (pc := 105) (zk8 kX5_best_3) rfl (Nat.zero_le _) (Nat.zero_le _) (by
                            rw [show sp_best σ τ ε 1 = (wordsF σ g, σ, τ, ε) from by simp [sp_best, sBad, okS, okH, okL, okT, okB, sRd, up2_id, up2_id2, oI, c_1, c_2, Int32.not_lt.mpr c_2, hg, he, hie_i, hsN_eq hn h12, lsN_eq hm h8]]
                            exact ⟨_, _, rfl, hM, hU, rfl⟩)
          · refine z_if_ne (pc := 84) (zk13 kX5_best_2) (tgt := 91) (by decide) (fun _ => ?_) (fun q => absurd q (by decide))
            refine z_iload_n (pc := 91) (zk0 kX5_best_3) rfl ?_
            refine z_iconst (pc := 92) (zk1 kX5_best_3) (v := 1) (by decide) ?_
            refine z_icmp_ne (pc := 93) (zk2 kX5_best_3) (tgt := 104) (by decide) (fun _ => ?_) (fun q => absurd q (by decide))
            refine z_iload_n (pc := 104) (zk7 kX5_best_3) rfl ?_
            exact z_iret (pc := 105) (zk8 kX5_best_3) rfl (Nat.zero_le _) (Nat.zero_le _) (by
                            rw [show sp_best σ τ ε 2 = (nI e, σ, τ, ε) from by simp [sp_best, sBad, okS, okH, okL, okT, okB, sRd, up2_id, up2_id2, oI, c_1, c_2, Int32.not_lt.mpr c_2, hg, he, hie_i, hsN_eq hn h12, lsN_eq hm h8]]
                            exact ⟨_, _, rfl, hM, hU, rfl⟩)
        · have hlt_i : i < n := nI_ge_not (a := n) (by omega) (by omega) c_2
          suffices hJ : Z D B xX5_best 0 0 (mQ h p sz kp tr (sp_best σ τ ε x)) 55 [some (.ref p), some (.int x), some (.int (nI g)), some (.int (nI e)), some (.int (nI i))] [.int (nI (if wordsF σ g < wordsF σ i then i else g))] h sz from by
            refine z_aload_n (pc := 35) (zk4 kX5_best_1) rfl ?_
            refine z_iload (pc := 36) (zk5 kX5_best_1) rfl ?_
            refine z_rdV (pc := 38) (zk6 kX5_best_1) (st := []) lkX5_257 ivX5_wordsAt hM.1 rfl rfl (c_mwordsAt hM hn h12 hm h8 (show i < n by omega) hto) rfl ⟨rfl, rfl⟩ rfl rfl ?_ rfl
            refine z_aload_n (pc := 41) (zk7 kX5_best_1) rfl ?_
            refine z_iload_n (pc := 42) (zk8 kX5_best_1) rfl ?_
            refine z_rdV (pc := 43) (zk9 kX5_best_1) (st := [.int (wordsF σ i)]) lkX5_257 ivX5_wordsAt hM.1 rfl rfl (c_mwordsAt hM hn h12 hm h8 (show g < n by omega) hto) rfl ⟨rfl, rfl⟩ rfl rfl ?_ rfl
            refine z_icmp_le (pc := 46) (zk10 kX5_best_1) (tgt := 54) (by decide) (fun c_3 => ?_) (fun c_3 => ?_)
            · refine z_iload_n (pc := 54) (zk13 kX5_best_1) rfl ?_
              exact z_top (congrArg Value.int (by simp [c_1, c_2, Int32.not_le.mp c_2, c_3, Int32.not_lt.mpr c_3])) hJ
            · refine z_iload (pc := 49) (zk11 kX5_best_1) rfl ?_
              refine z_goto (pc := 51) (zk12 kX5_best_1) (tgt := 55) (by decide) ?_
              exact z_top (congrArg Value.int (by simp [c_1, c_2, Int32.not_le.mp c_2, c_3, Int32.not_le.mp c_3])) hJ
          refine z_istore_n (pc := 55) (zk14 kX5_best_1) rfl rfl ?_
          show Z D B xX5_best _ _ _ 56 [some (.ref p), some (.int x), some (.int (nI (if wordsF σ g < wordsF σ i then i else g))), some (.int (nI e)), some (.int (nI i))] _ _ _
          suffices hJ : Z D B xX5_best 0 0 (mQ h p sz kp tr (sp_best σ τ ε x)) 76 [some (.ref p), some (.int x), some (.int (nI (if wordsF σ g < wordsF σ i then i else g))), some (.int (nI e)), some (.int (nI i))] [.int (nI (if wordsF σ i < wordsF σ e then i else e))] h sz from by
            refine z_aload_n (pc := 56) (zk15 kX5_best_1) rfl ?_
            refine z_iload (pc := 57) (zk0 kX5_best_2) rfl ?_
            refine z_rdV (pc := 59) (zk1 kX5_best_2) (st := []) lkX5_257 ivX5_wordsAt hM.1 rfl rfl (c_mwordsAt hM hn h12 hm h8 (show i < n by omega) hto) rfl ⟨rfl, rfl⟩ rfl rfl ?_ rfl
            refine z_aload_n (pc := 62) (zk2 kX5_best_2) rfl ?_
            refine z_iload_n (pc := 63) (zk3 kX5_best_2) rfl ?_
            refine z_rdV (pc := 64) (zk4 kX5_best_2) (st := [.int (wordsF σ i)]) lkX5_257 ivX5_wordsAt hM.1 rfl rfl (c_mwordsAt hM hn h12 hm h8 (show e < n by omega) hto) rfl ⟨rfl, rfl⟩ rfl rfl ?_ rfl
            refine z_icmp_ge (pc := 67) (zk5 kX5_best_2) (tgt := 75) (by decide) (fun c_4 => ?_) (fun c_4 => ?_)
            · refine z_iload_n (pc := 75) (zk8 kX5_best_2) rfl ?_
              exact z_top (congrArg Value.int (by simp [c_1, c_2, Int32.not_le.mp c_2, c_4, Int32.not_lt.mpr c_4])) hJ
            · refine z_iload (pc := 70) (zk6 kX5_best_2) rfl ?_
              refine z_goto (pc := 72) (zk7 kX5_best_2) (tgt := 76) (by decide) ?_
              exact z_top (congrArg Value.int (by simp [c_1, c_2, Int32.not_le.mp c_2, c_4, Int32.not_le.mp c_4])) hJ
          refine z_istore_n (pc := 76) (zk9 kX5_best_2) rfl rfl ?_
          show Z D B xX5_best _ _ _ 77 [some (.ref p), some (.int x), some (.int (nI (if wordsF σ g < wordsF σ i then i else g))), some (.int (nI (if wordsF σ i < wordsF σ e then i else e))), some (.int (nI i))] _ _ _
          refine z_iinc (pc := 77) (zk10 kX5_best_2) (v := nI (i + 1)) rfl zinc rfl rfl ?_
          show Z D B xX5_best _ _ _ 80 [some (.ref p), some (.int x), some (.int (nI (if wordsF σ g < wordsF σ i then i else g))), some (.int (nI (if wordsF σ i < wordsF σ e then i else e))), some (.int (nI (i + 1)))] _ _ _
          refine z_goto (pc := 80) (zk11 kX5_best_2) (tgt := 26) (by decide) ?_
          exact ih26 (if wordsF σ g < wordsF σ i then i else g) (if wordsF σ i < wordsF σ e then i else e) (i + 1) (by omega) (by omega) (by omega) (by rw [hg]; exact bestN_s (wordsF σ) (by omega)) (by rw [he]; exact fewN_s (wordsF σ) (by omega))
    exact lp26 _ 0 0 1 (Nat.lt_succ_self _) (by omega) (by omega) rfl rfl
  · refine z_aload_n (pc := 12) (zk6 kX5_best_0) rfl ?_
    refine z_bipush (pc := 13) (zk7 kX5_best_0) (v := (-2)) (by decide) ?_
    refine z_efV (pc := 15) (zk8 kX5_best_0) (st := []) lkX5_94 ivX5_refuse hM.1 rfl rfl (c_refuse hM (by omega) (j := 2) (by decide) (by decide)) rfl ⟨rfl, rfl⟩ rfl rfl (fun r_ h_6 z_ q_5 => ?_) rfl
    obtain ⟨er_, hR, hU_7, ez_⟩ := q_5
    rw [er_, ez_]
    clear er_ ez_
    replace hU := hU.tr hU_7 (by omega) (by omega)
    replace hM := hR; clear hR
    show Z D B xX5_best _ _ _ 18 _ [.int (-2)] _ _
    exact z_iret (pc := 18) (zk9 kX5_best_0) rfl (Nat.zero_le _) (Nat.zero_le _) (by
            rw [show sp_best σ τ ε x = ((-2), σ, rfN τ 2, ε) from by simp [sp_best, sBad, okS, okH, okL, okT, okB, sRd, up2_id, up2_id2, oI, c_1]]
            exact ⟨_, _, rfl, hM, hU, rfl⟩)
set_option maxRecDepth 20000 in
theorem cP_wise {D : zD} {B : Nat} {h : zH} {sz : Nat} {p : Nat} {σ τ ω : Ln} {ε : El} {mv : Nat → Int64} {kp tr : Option Nat} {n m : Nat} (hM : MoAt h p σ τ ω ε mv kp tr) (hB : B ≤ p) (hn : σ 0 0 = nI n) (h12 : n ≤ 12) (hm : σ 9 0 = nI m) (h8 : m ≤ 8) (hto : ∀ l, l < m → ToOk σ l) : zM D B xX5_wise [.ref p] h sz (mQ h p sz kp tr (sp_wise σ τ ε)) := by
  have hU : Upd h h p 29 := Upd.rf
  refine zM.of (by decide) rfl (n := 4) ?_
  show Z D B xX5_wise 0 0 _ 0 [some (.ref p), none, none, none, none] [] h sz
  refine z_iconst (pc := 0) (zk0 kX5_wise_0) (v := 0) (by decide) ?_
  refine z_istore_n (pc := 1) (zk1 kX5_wise_0) rfl rfl ?_
  show Z D B xX5_wise _ _ _ 2 [some (.ref p), some (.int 0), none, none, none] _ _ _
  refine z_iconst (pc := 2) (zk2 kX5_wise_0) (v := 0) (by decide) ?_
  refine z_istore_n (pc := 3) (zk3 kX5_wise_0) rfl rfl ?_
  show Z D B xX5_wise _ _ _ 4 [some (.ref p), some (.int 0), some (.int 0), none, none] _ _ _
  have lp4 : ∀ (n_ : Nat) (b : Int32) (i : Nat), n - i < n_ → (i ≤ n) → (b = bitsI (fun k => decide (¬ readsF σ k = 0) && decide (readsF σ k &&& (knownF σ k ^^^ -1) = 0)) i) → Z D B xX5_wise 0 0 (mQ h p sz kp tr (sp_wise σ τ ε)) 4 [some (.ref p), some (.int b), some (.int (nI i)), none, none] [] h sz := by
    intro n_
    induction n_ with
    | zero => intro b i hm_; exact absurd hm_ (Nat.not_lt_zero _)
    | succ n_ ih4 =>
      intro b i hm_ hi_i hb_
      refine z_iload_n (pc := 4) (zk4 kX5_wise_0) rfl ?_
      refine z_aload_n (pc := 5) (zk5 kX5_wise_0) rfl ?_
      refine z_getf (pc := 6) (zk6 kX5_wise_0) flX5_37 hM.1 (v := .int (nI n)) (by rw [← hn]; rfl) ?_
      refine z_icmp_ge (pc := 9) (zk7 kX5_wise_0) (tgt := 85) (by decide) (fun c_1 => ?_) (fun c_1 => ?_)
      · have hie_i : i = n := nI_ge_yes (a := n) (by omega) (by omega) (by omega) c_1
        refine z_iload_n (pc := 85) (zk3 kX5_wise_3) rfl ?_
        exact z_iret (pc := 86) (zk4 kX5_wise_3) rfl (Nat.zero_le _) (Nat.zero_le _) (by
                    rw [show sp_wise σ τ ε = (b, σ, τ, ε) from by simp [sp_wise, sBad, okS, okH, okL, okT, okB, sRd, up2_id, up2_id2, oI, c_1, Int32.not_lt.mpr c_1, hb_, hie_i, hsN_eq hn h12, lsN_eq hm h8]]
                    exact ⟨_, _, rfl, hM, hU, rfl⟩)
      · have hlt_i : i < n := nI_ge_not (a := n) (by omega) (by omega) c_1
        refine z_iconst (pc := 12) (zk8 kX5_wise_0) (v := 0) (by decide) ?_
        refine z_istore_n (pc := 13) (zk9 kX5_wise_0) rfl rfl ?_
        show Z D B xX5_wise _ _ _ 14 [some (.ref p), some (.int b), some (.int (nI i)), some (.int 0), none] _ _ _
        refine z_iconst (pc := 14) (zk10 kX5_wise_0) (v := 0) (by decide) ?_
        refine z_istore (pc := 15) (zk11 kX5_wise_0) rfl rfl ?_
        show Z D B xX5_wise _ _ _ 17 [some (.ref p), some (.int b), some (.int (nI i)), some (.int 0), some (.int 0)] _ _ _
        have lp17 : ∀ (n_ : Nat) (r : Int32) (j : Nat), m - j < n_ → (j ≤ m) → (r = bitsI (fun l => readB σ l i) j) → Z D B xX5_wise 0 0 (mQ h p sz kp tr (sp_wise σ τ ε)) 17 [some (.ref p), some (.int b), some (.int (nI i)), some (.int r), some (.int (nI j))] [] h sz := by
          intro n_
          induction n_ with
          | zero => intro r j hm_; exact absurd hm_ (Nat.not_lt_zero _)
          | succ n_ ih17 =>
            intro r j hm_ hi_j hr_
            refine z_iload (pc := 17) (zk12 kX5_wise_0) rfl ?_
            refine z_aload_n (pc := 19) (zk13 kX5_wise_0) rfl ?_
            refine z_getf (pc := 20) (zk14 kX5_wise_0) flX5_85 hM.1 (v := .int (nI m)) (by rw [← hm]; rfl) ?_
            refine z_icmp_ge (pc := 23) (zk15 kX5_wise_0) (tgt := 53) (by decide) (fun c_2 => ?_) (fun c_2 => ?_)
            · have hie_j : j = m := nI_ge_yes (a := m) (by omega) (by omega) (by omega) c_2
              have er : r = readsF σ i := by rw [hr_, hie_j, readsF, lsN_eq hm h8]
              refine z_iload_n (pc := 53) (zk15 kX5_wise_1) rfl ?_
              suffices hJ : Z D B xX5_wise 0 0 (mQ h p sz kp tr (sp_wise σ τ ε)) 77 [some (.ref p), some (.int b), some (.int (nI i)), some (.int r), some (.int (nI j))] [.int (if (decide (¬ readsF σ i = 0) && decide (readsF σ i &&& (knownF σ i ^^^ -1) = 0)) = true then 1 <<< (nI i &&& 31) else 0), .int b] h sz from by
                refine z_iload_n (pc := 54) (zk0 kX5_wise_2) rfl ?_
                refine z_if_eq (pc := 55) (zk1 kX5_wise_2) (tgt := 76) (by decide) (fun c_3 => ?_) (fun c_3 => ?_)
                · refine z_iconst (pc := 76) (zk14 kX5_wise_2) (v := 0) (by decide) ?_
                  exact z_top (congrArg Value.int (by simp only [← er, c_1, c_2, c_3, not_true_eq_false, not_false_eq_true, decide_true, decide_false, Bool.and_true, Bool.true_and, Bool.and_false, Bool.false_and, Bool.and_self, Bool.false_eq_true, if_true, if_false])) hJ
                · refine z_iload_n (pc := 58) (zk2 kX5_wise_2) rfl ?_
                  refine z_aload_n (pc := 59) (zk3 kX5_wise_2) rfl ?_
                  refine z_iload_n (pc := 60) (zk4 kX5_wise_2) rfl ?_
                  refine z_rdV (pc := 61) (zk5 kX5_wise_2) (st := [.int r, .int b]) lkX5_254 ivX5_knownAt hM.1 rfl rfl (c_mknownAt hM hn h12 hm h8 (show i < n by omega) hto) rfl ⟨rfl, rfl⟩ rfl rfl ?_ rfl
                  refine z_iconst (pc := 64) (zk6 kX5_wise_2) (v := (-1)) (by decide) ?_
                  refine z_ixor (pc := 65) (zk7 kX5_wise_2) ?_
                  refine z_iand (pc := 66) (zk8 kX5_wise_2) ?_
                  refine z_if_ne (pc := 67) (zk9 kX5_wise_2) (tgt := 76) (by decide) (fun c_4 => ?_) (fun c_4 => ?_)
                  · refine z_iconst (pc := 76) (zk14 kX5_wise_2) (v := 0) (by decide) ?_
                    exact z_top (congrArg Value.int (by simp only [← er, c_1, c_2, c_3, c_4, not_true_eq_false, not_false_eq_true, decide_true, decide_false, Bool.and_true, Bool.true_and, Bool.and_false, Bool.false_and, Bool.and_self, Bool.false_eq_true, if_true, if_false])) hJ
                  · refine z_iconst (pc := 70) (zk10 kX5_wise_2) (v := 1) (by decide) ?_
                    refine z_iload_n (pc := 71) (zk11 kX5_wise_2) rfl ?_
                    refine z_ishl (pc := 72) (zk12 kX5_wise_2) ?_
                    refine z_goto (pc := 73) (zk13 kX5_wise_2) (tgt := 77) (by decide) ?_
                    exact z_top (congrArg Value.int (by simp only [← er, c_1, c_2, c_3, c_4, not_true_eq_false, not_false_eq_true, decide_true, decide_false, Bool.and_true, Bool.true_and, Bool.and_false, Bool.false_and, Bool.and_self, Bool.false_eq_true, if_true, if_false])) hJ
              refine z_ior (pc := 77) (zk15 kX5_wise_2) ?_
              refine z_istore_n (pc := 78) (zk0 kX5_wise_3) rfl rfl ?_
              show Z D B xX5_wise _ _ _ 79 [some (.ref p), some (.int (b ||| (if (decide (¬ readsF σ i = 0) && decide (readsF σ i &&& (knownF σ i ^^^ -1) = 0)) = true then 1 <<< (nI i &&& 31) else 0))), some (.int (nI i)), some (.int r), some (.int (nI j))] _ _ _
              refine z_iinc (pc := 79) (zk1 kX5_wise_3) (v := nI (i + 1)) rfl zinc rfl rfl ?_
              show Z D B xX5_wise _ _ _ 82 [some (.ref p), some (.int (b ||| (if (decide (¬ readsF σ i = 0) && decide (readsF σ i &&& (knownF σ i ^^^ -1) = 0)) = true then 1 <<< (nI i &&& 31) else 0))), some (.int (nI (i + 1))), some (.int r), some (.int (nI j))] _ _ _
              refine z_goto (pc := 82) (zk2 kX5_wise_3) (tgt := 4) (by decide) ?_
              refine z_kill 3 ?_
              show Z D B xX5_wise _ _ _ 4 [some (.ref p), some (.int (b ||| (if (decide (¬ readsF σ i = 0) && decide (readsF σ i &&& (knownF σ i ^^^ -1) = 0)) = true then 1 <<< (nI i &&& 31) else 0))), some (.int (nI (i + 1))), none, some (.int (nI j))] _ _ _
              refine z_kill 4 ?_
              show Z D B xX5_wise _ _ _ 4 [some (.ref p), some (.int (b ||| (if (decide (¬ readsF σ i = 0) && decide (readsF σ i &&& (knownF σ i ^^^ -1) = 0)) = true then 1 <<< (nI i &&& 31) else 0))), some (.int (nI (i + 1))), none, none] _ _ _
              exact ih4 (b ||| (if (decide (¬ readsF σ i = 0) && decide (readsF σ i &&& (knownF σ i ^^^ -1) = 0)) = true then 1 <<< (nI i &&& 31) else 0)) (i + 1) (by omega) (by omega) (by rw [hb_]; exact bitsI_s (fun k => decide (¬ readsF σ k = 0) && decide (readsF σ k &&& (knownF σ k ^^^ -1) = 0)) i)
            · have hlt_j : j < m := nI_ge_not (a := m) (by omega) (by omega) c_2
              refine z_iload_n (pc := 26) (zk0 kX5_wise_1) rfl ?_
              suffices hJ : Z D B xX5_wise 0 0 (mQ h p sz kp tr (sp_wise σ τ ε)) 45 [some (.ref p), some (.int b), some (.int (nI i)), some (.int r), some (.int (nI j))] [.int (if readB σ j i = true then 1 <<< (nI j &&& 31) else 0), .int r] h sz from by
                refine z_aload_n (pc := 27) (zk1 kX5_wise_1) rfl ?_
                refine z_iload (pc := 28) (zk2 kX5_wise_1) rfl ?_
                refine z_iload_n (pc := 30) (zk3 kX5_wise_1) rfl ?_
                refine z_rdV (pc := 31) (zk4 kX5_wise_1) (st := [.int r]) lkX5_236 ivX5_readAt hM.1 rfl rfl (c_mreadAt hM (show j < 8 by omega)) rfl ⟨rfl, rfl⟩ rfl rfl ?_ rfl
                refine z_oif_eq (pc := 34) (zk5 kX5_wise_1) (tgt := 44) (by decide) (fun c_5 => ?_) (fun c_5 => ?_)
                · refine z_iconst (pc := 44) (zk10 kX5_wise_1) (v := 0) (by decide) ?_
                  exact z_top (congrArg Value.int (by simp [c_1, Int32.not_le.mp c_1, c_2, Int32.not_le.mp c_2, c_5])) hJ
                · refine z_iconst (pc := 37) (zk6 kX5_wise_1) (v := 1) (by decide) ?_
                  refine z_iload (pc := 38) (zk7 kX5_wise_1) rfl ?_
                  refine z_ishl (pc := 40) (zk8 kX5_wise_1) ?_
                  refine z_goto (pc := 41) (zk9 kX5_wise_1) (tgt := 45) (by decide) ?_
                  exact z_top (congrArg Value.int (by simp [c_1, Int32.not_le.mp c_1, c_2, Int32.not_le.mp c_2, c_5])) hJ
              refine z_ior (pc := 45) (zk11 kX5_wise_1) ?_
              refine z_istore_n (pc := 46) (zk12 kX5_wise_1) rfl rfl ?_
              show Z D B xX5_wise _ _ _ 47 [some (.ref p), some (.int b), some (.int (nI i)), some (.int (r ||| (if readB σ j i = true then 1 <<< (nI j &&& 31) else 0))), some (.int (nI j))] _ _ _
              refine z_iinc (pc := 47) (zk13 kX5_wise_1) (v := nI (j + 1)) rfl zinc rfl rfl ?_
              show Z D B xX5_wise _ _ _ 50 [some (.ref p), some (.int b), some (.int (nI i)), some (.int (r ||| (if readB σ j i = true then 1 <<< (nI j &&& 31) else 0))), some (.int (nI (j + 1)))] _ _ _
              refine z_goto (pc := 50) (zk14 kX5_wise_1) (tgt := 17) (by decide) ?_
              exact ih17 (r ||| (if readB σ j i = true then 1 <<< (nI j &&& 31) else 0)) (j + 1) (by omega) (by omega) (by rw [hr_]; exact bitsI_s (fun l => readB σ l i) j)
        exact lp17 _ 0 0 (Nat.lt_succ_self _) (by omega) rfl
  exact lp4 _ 0 0 (Nat.lt_succ_self _) (by omega) rfl
set_option maxRecDepth 20000 in
theorem cP_secret {D : zD} {B : Nat} {h : zH} {sz : Nat} {p : Nat} {σ τ ω : Ln} {ε : El} {mv : Nat → Int64} {kp tr : Option Nat} {n m : Nat} (hM : MoAt h p σ τ ω ε mv kp tr) (hB : B ≤ p) (hn : σ 0 0 = nI n) (h12 : n ≤ 12) (hm : σ 9 0 = nI m) (h8 : m ≤ 8) (hto : ∀ l, l < m → ToOk σ l) : zM D B xX5_secret [.ref p] h sz (mQ h p sz kp tr (sp_secret σ τ ε)) := by
  have hU : Upd h h p 29 := Upd.rf
  refine zM.of (by decide) rfl (n := 2) ?_
  show Z D B xX5_secret 0 0 _ 0 [some (.ref p), none, none] [] h sz
  refine z_iconst (pc := 0) (zk0 kX5_secret_0) (v := 0) (by decide) ?_
  refine z_istore_n (pc := 1) (zk1 kX5_secret_0) rfl rfl ?_
  show Z D B xX5_secret _ _ _ 2 [some (.ref p), some (.int 0), none] _ _ _
  refine z_iconst (pc := 2) (zk2 kX5_secret_0) (v := 0) (by decide) ?_
  refine z_istore_n (pc := 3) (zk3 kX5_secret_0) rfl rfl ?_
  show Z D B xX5_secret _ _ _ 4 [some (.ref p), some (.int 0), some (.int 0)] _ _ _
  have lp4 : ∀ (n_ : Nat) (b : Int32) (i : Nat), m - i < n_ → (i ≤ m) → (b = bitsI (fun l => decide (knowersF σ l = 1 <<< (σ 12 l &&& 31))) i) → Z D B xX5_secret 0 0 (mQ h p sz kp tr (sp_secret σ τ ε)) 4 [some (.ref p), some (.int b), some (.int (nI i))] [] h sz := by
    intro n_
    induction n_ with
    | zero => intro b i hm_; exact absurd hm_ (Nat.not_lt_zero _)
    | succ n_ ih4 =>
      intro b i hm_ hi_i hb_
      refine z_iload_n (pc := 4) (zk4 kX5_secret_0) rfl ?_
      refine z_aload_n (pc := 5) (zk5 kX5_secret_0) rfl ?_
      refine z_getf (pc := 6) (zk6 kX5_secret_0) flX5_85 hM.1 (v := .int (nI m)) (by rw [← hm]; rfl) ?_
      refine z_icmp_ge (pc := 9) (zk7 kX5_secret_0) (tgt := 44) (by decide) (fun c_1 => ?_) (fun c_1 => ?_)
      · have hie_i : i = m := nI_ge_yes (a := m) (by omega) (by omega) (by omega) c_1
        refine z_iload_n (pc := 44) (zk12 kX5_secret_1) rfl ?_
        exact z_iret (pc := 45) (zk13 kX5_secret_1) rfl (Nat.zero_le _) (Nat.zero_le _) (by
                    rw [show sp_secret σ τ ε = (b, σ, τ, ε) from by simp [sp_secret, sBad, okS, okH, okL, okT, okB, sRd, up2_id, up2_id2, oI, c_1, Int32.not_lt.mpr c_1, hb_, hie_i, hsN_eq hn h12, lsN_eq hm h8]]
                    exact ⟨_, _, rfl, hM, hU, rfl⟩)
      · have hlt_i : i < m := nI_ge_not (a := m) (by omega) (by omega) c_1
        refine z_iload_n (pc := 12) (zk8 kX5_secret_0) rfl ?_
        suffices hJ : Z D B xX5_secret 0 0 (mQ h p sz kp tr (sp_secret σ τ ε)) 36 [some (.ref p), some (.int b), some (.int (nI i))] [.int (if decide (knowersF σ i = 1 <<< (σ 12 i &&& 31)) = true then 1 <<< (nI i &&& 31) else 0), .int b] h sz from by
          refine z_aload_n (pc := 13) (zk9 kX5_secret_0) rfl ?_
          refine z_iload_n (pc := 14) (zk10 kX5_secret_0) rfl ?_
          refine z_rdV (pc := 15) (zk11 kX5_secret_0) (st := [.int b]) lkX5_251 ivX5_knowers hM.1 rfl rfl (c_mknowers hM hn h12 (show i < 8 by omega) (hto _ (by omega))) rfl ⟨rfl, rfl⟩ rfl rfl ?_ rfl
          refine z_iconst (pc := 18) (zk12 kX5_secret_0) (v := 1) (by decide) ?_
          refine z_aload_n (pc := 19) (zk13 kX5_secret_0) rfl ?_
          refine z_getf (pc := 20) (zk14 kX5_secret_0) flX5_59 hM.1 gMo_20 ?_
          refine z_iload_n (pc := 23) (zk15 kX5_secret_0) rfl ?_
          refine z_ialdN (pc := 24) (zk0 kX5_secret_1) (f := σ 12) (j := i) hM.2.2.2.2.2.2.2.2.2.2.2.2.2.2.2.2.1 (show i < 8 by omega) rfl ?_
          refine z_ishl (pc := 25) (zk1 kX5_secret_1) ?_
          refine z_icmp_ne (pc := 26) (zk2 kX5_secret_1) (tgt := 35) (by decide) (fun c_2 => ?_) (fun c_2 => ?_)
          · refine z_iconst (pc := 35) (zk7 kX5_secret_1) (v := 0) (by decide) ?_
            exact z_top (congrArg Value.int (by simp [c_1, Int32.not_le.mp c_1, c_2])) hJ
          · refine z_iconst (pc := 29) (zk3 kX5_secret_1) (v := 1) (by decide) ?_
            refine z_iload_n (pc := 30) (zk4 kX5_secret_1) rfl ?_
            refine z_ishl (pc := 31) (zk5 kX5_secret_1) ?_
            refine z_goto (pc := 32) (zk6 kX5_secret_1) (tgt := 36) (by decide) ?_
            exact z_top (congrArg Value.int (by simp [c_1, Int32.not_le.mp c_1, c_2])) hJ
        refine z_ior (pc := 36) (zk8 kX5_secret_1) ?_
        refine z_istore_n (pc := 37) (zk9 kX5_secret_1) rfl rfl ?_
        show Z D B xX5_secret _ _ _ 38 [some (.ref p), some (.int (b ||| (if decide (knowersF σ i = 1 <<< (σ 12 i &&& 31)) = true then 1 <<< (nI i &&& 31) else 0))), some (.int (nI i))] _ _ _
        refine z_iinc (pc := 38) (zk10 kX5_secret_1) (v := nI (i + 1)) rfl zinc rfl rfl ?_
        show Z D B xX5_secret _ _ _ 41 [some (.ref p), some (.int (b ||| (if decide (knowersF σ i = 1 <<< (σ 12 i &&& 31)) = true then 1 <<< (nI i &&& 31) else 0))), some (.int (nI (i + 1)))] _ _ _
        refine z_goto (pc := 41) (zk11 kX5_secret_1) (tgt := 4) (by decide) ?_
        exact ih4 (b ||| (if decide (knowersF σ i = 1 <<< (σ 12 i &&& 31)) = true then 1 <<< (nI i &&& 31) else 0)) (i + 1) (by omega) (by omega) (by rw [hb_]; exact bitsI_s (fun l => decide (knowersF σ l = 1 <<< (σ 12 l &&& 31))) i)
  exact lp4 _ 0 0 (Nat.lt_succ_self _) (by omega) rfl
set_option maxRecDepth 20000 in
theorem cP_lost {D : zD} {B : Nat} {h : zH} {sz : Nat} {p : Nat} {σ τ ω : Ln} {ε : El} {mv : Nat → Int64} {kp tr : Option Nat} {n m : Nat} (hM : MoAt h p σ τ ω ε mv kp tr) (hB : B ≤ p) (hn : σ 0 0 = nI n) (h12 : n ≤ 12) (hm : σ 9 0 = nI m) (h8 : m ≤ 8) (hto : ∀ l, l < m → ToOk σ l) (htn : ∀ l, l < m → ∃ t, t < n ∧ σ 12 l = nI t) : zM D B xX5_lost [.ref p] h sz (mQ h p sz kp tr (sp_lost σ τ ε)) := by
  have hU : Upd h h p 29 := Upd.rf
  refine zM.of (by decide) rfl (n := 2) ?_
  show Z D B xX5_lost 0 0 _ 0 [some (.ref p), none, none] [] h sz
  refine z_iconst (pc := 0) (zk0 kX5_lost_0) (v := 0) (by decide) ?_
  refine z_istore_n (pc := 1) (zk1 kX5_lost_0) rfl rfl ?_
  show Z D B xX5_lost _ _ _ 2 [some (.ref p), some (.int 0), none] _ _ _
  refine z_iconst (pc := 2) (zk2 kX5_lost_0) (v := 0) (by decide) ?_
  refine z_istore_n (pc := 3) (zk3 kX5_lost_0) rfl rfl ?_
  show Z D B xX5_lost _ _ _ 4 [some (.ref p), some (.int 0), some (.int 0)] _ _ _
  have lp4 : ∀ (n_ : Nat) (b : Int32) (i : Nat), m - i < n_ → (i ≤ m) → (b = bitsI (fun l => !knowB σ l (ix (σ 12 l))) i) → Z D B xX5_lost 0 0 (mQ h p sz kp tr (sp_lost σ τ ε)) 4 [some (.ref p), some (.int b), some (.int (nI i))] [] h sz := by
    intro n_
    induction n_ with
    | zero => intro b i hm_; exact absurd hm_ (Nat.not_lt_zero _)
    | succ n_ ih4 =>
      intro b i hm_ hi_i hb_
      refine z_iload_n (pc := 4) (zk4 kX5_lost_0) rfl ?_
      refine z_aload_n (pc := 5) (zk5 kX5_lost_0) rfl ?_
      refine z_getf (pc := 6) (zk6 kX5_lost_0) flX5_85 hM.1 (v := .int (nI m)) (by rw [← hm]; rfl) ?_
      refine z_icmp_ge (pc := 9) (zk7 kX5_lost_0) (tgt := 42) (by decide) (fun c_1 => ?_) (fun c_1 => ?_)
      · have hie_i : i = m := nI_ge_yes (a := m) (by omega) (by omega) (by omega) c_1
        refine z_iload_n (pc := 42) (zk10 kX5_lost_1) rfl ?_
        exact z_iret (pc := 43) (zk11 kX5_lost_1) rfl (Nat.zero_le _) (Nat.zero_le _) (by
                    rw [show sp_lost σ τ ε = (b, σ, τ, ε) from by simp [sp_lost, sBad, okS, okH, okL, okT, okB, sRd, up2_id, up2_id2, oI, c_1, Int32.not_lt.mpr c_1, hb_, hie_i, hsN_eq hn h12, lsN_eq hm h8]]
                    exact ⟨_, _, rfl, hM, hU, rfl⟩)
      · have hlt_i : i < m := nI_ge_not (a := m) (by omega) (by omega) c_1
        refine z_iload_n (pc := 12) (zk8 kX5_lost_0) rfl ?_
        suffices hJ : Z D B xX5_lost 0 0 (mQ h p sz kp tr (sp_lost σ τ ε)) 34 [some (.ref p), some (.int b), some (.int (nI i))] [.int (if (!knowB σ i (ix (σ 12 i))) = true then 1 <<< (nI i &&& 31) else 0), .int b] h sz from by
          refine z_aload_n (pc := 13) (zk9 kX5_lost_0) rfl ?_
          refine z_iload_n (pc := 14) (zk10 kX5_lost_0) rfl ?_
          refine z_aload_n (pc := 15) (zk11 kX5_lost_0) rfl ?_
          refine z_getf (pc := 16) (zk12 kX5_lost_0) flX5_59 hM.1 gMo_20 ?_
          refine z_iload_n (pc := 19) (zk13 kX5_lost_0) rfl ?_
          refine z_ialdN (pc := 20) (zk14 kX5_lost_0) (f := σ 12) (j := i) hM.2.2.2.2.2.2.2.2.2.2.2.2.2.2.2.2.1 (show i < 8 by omega) rfl ?_
          obtain ⟨t_, ht_, et_⟩ := htn i hlt_i
          refine z_top (congrArg Value.int et_) ?_
          refine z_rdV (pc := 21) (zk15 kX5_lost_0) (st := [.int b]) lkX5_245 ivX5_knowsOf hM.1 rfl rfl (c_knowsOf hM hn h12 (show i < 8 by omega) (show t_ < n by omega) (hto _ (by omega))) rfl ⟨rfl, rfl⟩ rfl rfl ?_ rfl
          refine z_oif_eq (pc := 24) (zk0 kX5_lost_1) (tgt := 31) (by decide) (fun c_2 => ?_) (fun c_2 => ?_)
          · refine z_iconst (pc := 31) (zk3 kX5_lost_1) (v := 1) (by decide) ?_
            refine z_iload_n (pc := 32) (zk4 kX5_lost_1) rfl ?_
            refine z_ishl (pc := 33) (zk5 kX5_lost_1) ?_
            exact z_top (congrArg Value.int (by simp [et_, ix_nI (show t_ ≤ 1000 by omega), c_1, Int32.not_le.mp c_1, c_2])) hJ
          · refine z_iconst (pc := 27) (zk1 kX5_lost_1) (v := 0) (by decide) ?_
            refine z_goto (pc := 28) (zk2 kX5_lost_1) (tgt := 34) (by decide) ?_
            exact z_top (congrArg Value.int (by simp [et_, ix_nI (show t_ ≤ 1000 by omega), c_1, Int32.not_le.mp c_1, c_2])) hJ
        refine z_ior (pc := 34) (zk6 kX5_lost_1) ?_
        refine z_istore_n (pc := 35) (zk7 kX5_lost_1) rfl rfl ?_
        show Z D B xX5_lost _ _ _ 36 [some (.ref p), some (.int (b ||| (if (!knowB σ i (ix (σ 12 i))) = true then 1 <<< (nI i &&& 31) else 0))), some (.int (nI i))] _ _ _
        refine z_iinc (pc := 36) (zk8 kX5_lost_1) (v := nI (i + 1)) rfl zinc rfl rfl ?_
        show Z D B xX5_lost _ _ _ 39 [some (.ref p), some (.int (b ||| (if (!knowB σ i (ix (σ 12 i))) = true then 1 <<< (nI i &&& 31) else 0))), some (.int (nI (i + 1)))] _ _ _
        refine z_goto (pc := 39) (zk9 kX5_lost_1) (tgt := 4) (by decide) ?_
        exact ih4 (b ||| (if (!knowB σ i (ix (σ 12 i))) = true then 1 <<< (nI i &&& 31) else 0)) (i + 1) (by omega) (by omega) (by rw [hb_]; exact bitsI_s (fun l => !knowB σ l (ix (σ 12 l))) i)
  exact lp4 _ 0 0 (Nat.lt_succ_self _) (by omega) rfl
