theorem Upd.sym {h h1 : zH} {lo n : Nat} (x : Upd h h1 lo n) : Upd h1 h lo n := fun q hq => (x q hq).symm
theorem sp_lane_x {σ τ : Ln} {ε : El} {N x : Nat} (hN : τ 6 0 = nI N) (hN2 : N ≤ 250) (h : rdA (τ 5) N 251 σ 0 0 = .error x) : sp_lane σ τ ε = (-20 - nI x, σ, rfN (up2 τ 6 0 0) 2, ε) := by
  rw [sp_lane, hN, ix_nI (by omega), h]
theorem sp_lane_y {σ σ1 τ : Ln} {ε : El} {N c : Nat} (hN : τ 6 0 = nI N) (hN2 : N ≤ 250) (h : rdA (τ 5) N 251 σ 0 0 = .ok (σ1, c)) : sp_lane σ τ ε = (nI c, σ1, up2 τ 6 0 0, ε) := by
  rw [sp_lane, hN, ix_nI (by omega), h]
theorem rdA_xN {f : Nat → Int32} {N : Nat} : ∀ {d : Nat} {σ : Ln} {a c n m x : Nat}, LW σ n m → a ≤ N → rdA f N d σ a c = .error x → N ≤ 250 → x ≤ 1000
  | 0, σ, a, c, n, m, x, _, _, h, _ => by
    rw [rdA] at h
    cases h
    omega
  | d + 1, σ, a, c, n, m, x, hW, ha, h, hN => by
    have hs := skp_ge (f := f) ha
    cases q : stT f N σ (skp f N a) with
    | error y =>
      rw [rdA_x q] at h
      cases h
      have := (stT_ok (σ := σ) ha).1 _ q
      omega
    | ok w =>
      obtain ⟨σ1, e⟩ := w
      obtain ⟨n1, m1, h1⟩ := stT_lw hW hs.2 σ1 e q
      have he := (stT_ok (σ := σ) ha).2 σ1 e q
      have hs2 := skp_ge (f := f) he.2
      by_cases c0 : tkS f N (skp f N e) = 0
      · rw [rdA_0 q c0] at h; cases h
      · by_cases c3 : tkS f N (skp f N e) = 3
        · rw [rdA_3 q c3] at h; exact rdA_xN h1 (tkE_le hs2.2).2 h hN
        · rw [rdA_w q c0 c3] at h
          cases h
          omega
set_option maxRecDepth 20000 in
theorem cX_lane {D : zD} {B : Nat} {h : zH} {sz : Nat} {p : Nat} {σ κ τ : Ln} {ε : El} {ik : Int32} {n m : Nat} (hX : XoAt h p ik (rfo τ)) (hL : LnAt h (p + 1) σ) (hK : XR h p κ τ ε) (hB : B ≤ p) (hn : σ 0 0 = nI n) (h12 : n ≤ 12) (hm : σ 9 0 = nI m) (h8 : m ≤ 8) (hbk : σ 6 0 = 0 ∨ σ 6 0 = 1) (htn : ∀ l, l < m → ∃ t, t < n ∧ σ 12 l = nI t) (hlen : ∀ l, l < m → ∃ g, 1 ≤ g ∧ g ≤ 40 ∧ σ 13 l = nI g) (h2 : 2 ≤ n) (hS : SW τ m) (hW : LW σ n m) : zM D B xX4_lane [.ref p] h sz (xQ h p sz ik κ (sp_lane σ τ ε)) := by
  have hU : Upd h h p 51 := Upd.rf
  obtain ⟨mk, tl, γ, hG, hγ⟩ := hK.2.1
  replace hγ : LnAt h (p + 19 + 1) γ := hγ
  obtain ⟨ω, hT⟩ := hK.2.2.2
  obtain ⟨kt, hkt, ht⟩ := hS.2.1
  refine zM.of (by decide) rfl (n := 2) ?_
  show Z D B xX4_lane 0 0 _ 0 [some (.ref p), none, none] [] h sz
  refine z_aload_n (pc := 0) (zk0 kX4_lane_0) rfl ?_
  refine z_getf (pc := 1) (zk1 kX4_lane_0) flX4_36 hX.1 gXo_4 ?_
  refine z_aload_n (pc := 4) (zk2 kX4_lane_0) rfl ?_
  refine z_getf (pc := 5) (zk3 kX4_lane_0) flX4_22 hX.1 gXo_2 ?_
  refine z_aload_n (pc := 8) (zk4 kX4_lane_0) rfl ?_
  refine z_getf (pc := 9) (zk5 kX4_lane_0) flX4_10 hX.1 gXo_0 ?_
  refine z_efV (pc := 12) (zk6 kX4_lane_0) (st := [.ref (p + 48)]) lkX4_177 ivX0_freshFrom hG.1 rfl rfl (c_fresh hG hγ hL (by omega) (by omega) hbk) rfl ⟨rfl, rfl⟩ rfl rfl (fun r_ h_2 z_ q_1 => ?_) rfl
  obtain ⟨er_, hR, hU_3, ez_⟩ := q_1
  rw [er_, ez_]
  clear er_ ez_
  replace hX := XoAt.fr hX hU_3 (by omega)
  replace hL := LnAt.fr hL hU_3 (by omega)
  replace hG := GuAt.fr hG hU_3 (by omega)
  replace hT := TaAt.fr hT hU_3 (by omega)
  replace hU := hU.tr hU_3 (by omega) (by omega)
  have hUf := hU_3
  replace hγ := hR; clear hR
  show Z D B xX4_lane _ _ _ 15 _ [.ref ((p + 19) + 1), .ref (p + 48)] _ _
  replace hK := XR.gu hK (hUf.wd (by omega) (by omega)) ⟨_, _, _, hG, hγ⟩
  refine z_efV (pc := 15) (zk7 kX4_lane_0) (st := []) lkX4_181 ivX3_readInto hT.1 rfl rfl (c_readInto hT hγ (by omega) ht hkt (by omega) (by omega) hW) rfl ⟨rfl, rfl⟩ rfl rfl (fun r_ h_5 z_ q_4 => ?_) rfl
  obtain ⟨⟨w_, hT_, hq_⟩, hU2, ez_⟩ := q_4
  rw [ez_]
  clear ez_
  obtain ⟨g_, hUa, hUb⟩ := hU2.sp
  replace hX := XoAt.fr (XoAt.fr hX hUa (by omega)) hUb (by omega)
  replace hL := LnAt.fr (LnAt.fr hL hUa (by omega)) hUb (by omega)
  replace hG := GuAt.fr (GuAt.fr hG hUa (by omega)) hUb (by omega)
  replace hU := (hU.tr hUa (by omega) (by omega)).tr hUb (by omega) (by omega)
  rcases hq_ with ⟨σ1, c, hrd, er_, hR, ef⟩ | ⟨x, γ1, hrd, er_, hR, ef⟩
  · rw [er_]
    clear er_
    replace hγ : LnAt h_5 (p + 19 + 1) _ := hR
    replace hT := hT_
    clear hR hT_
    replace hK := XR.gu (XR.ta hK hUa ⟨_, TaAt.fr hT hUb.sym (by omega)⟩ (fun _ _ => rfl)) (hUb.wd (by omega) (by omega)) ⟨_, _, _, hG, hγ⟩
    obtain ⟨n1, m1, hW1⟩ := rdA_lw hW (Nat.zero_le _) σ1 c hrd
    show Z D B xX4_lane _ _ _ 18 _ [.int (nI c)] _ _
    refine z_istore_n (pc := 18) (zk8 kX4_lane_0) rfl rfl ?_
    show Z D B xX4_lane _ _ _ 19 [some (.ref p), some (.int (nI c)), none] _ _ _
    refine z_aload_n (pc := 19) (zk9 kX4_lane_0) rfl ?_
    refine z_getf (pc := 20) (zk10 kX4_lane_0) flX4_36 hX.1 gXo_4 ?_
    refine z_rdV (pc := 23) (zk11 kX4_lane_0) (st := []) lkX4_185 ivX3_fault hT.1 rfl rfl (c_tFault hT) rfl ⟨rfl, rfl⟩ rfl rfl ?_ rfl
    refine z_top (congrArg Value.int ef) ?_
    refine z_istore_n (pc := 26) (zk12 kX4_lane_0) rfl rfl ?_
    show Z D B xX4_lane _ _ _ 27 [some (.ref p), some (.int (nI c)), some (.int (-1))] _ _ _
    refine z_aload_n (pc := 27) (zk13 kX4_lane_0) rfl ?_
    refine z_getf (pc := 28) (zk14 kX4_lane_0) flX4_36 hX.1 gXo_4 ?_
    refine z_efV (pc := 31) (zk15 kX4_lane_0) (st := []) lkX4_174 ivX3_empty hT.1 rfl rfl (c_tEmpty hT (by omega) ) rfl ⟨rfl, rfl⟩ rfl rfl (fun r_ h_7 z_ q_6 => ?_) rfl
    obtain ⟨er_, hR, hU_8, ez_⟩ := q_6
    rw [er_, ez_]
    clear er_ ez_
    replace hX := XoAt.fr hX hU_8 (by omega)
    replace hL := LnAt.fr hL hU_8 (by omega)
    replace hG := GuAt.fr hG hU_8 (by omega)
    replace hγ := LnAt.fr hγ hU_8 (by omega)
    replace hU := hU.tr hU_8 (by omega) (by omega)
    replace hT := hR; clear hR
    replace hK : XR h_7 p κ (up2 τ 6 0 0) ε := XR.ta hK hU_8 ⟨_, hT⟩ (fun f hf => by simp [up2, show ¬ f = 6 by omega, show ¬ f = 5 by omega])
    replace hX : XoAt h_7 p ik (rfo (up2 τ 6 0 0)) := hX
    show Z D B xX4_lane _ _ _ 34 _ [.int (τ 6 0)] _ _
    refine z_pop (pc := 34) (zk0 kX4_lane_1) rfl ?_
    refine z_iload_n (pc := 35) (zk1 kX4_lane_1) rfl ?_
    refine z_iconst (pc := 36) (zk2 kX4_lane_1) (v := (-1)) (by decide) ?_
    refine z_icmp_eq (pc := 37) (zk3 kX4_lane_1) (tgt := 52) (by decide) (fun _ => ?_) (fun q => absurd (by decide) q)
    refine z_aload_n (pc := 52) (zk12 kX4_lane_1) rfl ?_
    refine z_getf (pc := 53) (zk13 kX4_lane_1) flX4_10 hX.1 gXo_0 ?_
    refine z_aload_n (pc := 56) (zk14 kX4_lane_1) rfl ?_
    refine z_getf (pc := 57) (zk15 kX4_lane_1) flX4_22 hX.1 gXo_2 ?_
    refine z_getf (pc := 60) (zk0 kX4_lane_2) flX4_188 hG.1 gGu_0 ?_
    refine z_efV (pc := 63) (zk1 kX4_lane_2) (st := []) lkX4_191 ivX1_takeFrom hL.1 rfl rfl (c_takeFrom hL hγ (by omega) (by omega) hW1.2.2.2.2.1) rfl ⟨rfl, rfl⟩ rfl rfl (fun r_ h_10 z_ q_9 => ?_) rfl
    obtain ⟨er_, hR, hO_, hU_11, ez_⟩ := q_9
    rw [er_, ez_]
    clear er_ ez_ hO_
    replace hX := XoAt.fr hX hU_11 (by omega)
    replace hG := GuAt.fr hG hU_11 (by omega)
    replace hγ := LnAt.fr hγ hU_11 (by omega)
    replace hT := TaAt.fr hT hU_11 (by omega)
    replace hU := hU.tr hU_11 (by omega) (by omega)
    replace hK := XR.fr hK hU_11 (by omega)
    replace hL := hR; clear hR
    show Z D B xX4_lane _ _ _ 66 _ [] _ _
    refine z_iload_n (pc := 66) (zk2 kX4_lane_2) rfl ?_
    exact z_iret (pc := 67) (zk3 kX4_lane_2) rfl (Nat.zero_le _) (Nat.zero_le _) (by
            rw [show sp_lane σ τ ε = (nI c, σ1, (up2 τ 6 0 0), ε) from by exact sp_lane_y ht hkt hrd]
            exact ⟨rfl, hX, hL, hK, hU, rfl⟩)
  · rw [er_]
    clear er_
    replace hγ : LnAt h_5 (p + 19 + 1) _ := hR
    replace hT := hT_
    clear hR hT_
    replace hK := XR.gu (XR.ta hK hUa ⟨_, TaAt.fr hT hUb.sym (by omega)⟩ (fun _ _ => rfl)) (hUb.wd (by omega) (by omega)) ⟨_, _, _, hG, hγ⟩
    show Z D B xX4_lane _ _ _ 18 _ [.int (-1)] _ _
    refine z_istore_n (pc := 18) (zk8 kX4_lane_0) rfl rfl ?_
    show Z D B xX4_lane _ _ _ 19 [some (.ref p), some (.int (-1)), none] _ _ _
    refine z_aload_n (pc := 19) (zk9 kX4_lane_0) rfl ?_
    refine z_getf (pc := 20) (zk10 kX4_lane_0) flX4_36 hX.1 gXo_4 ?_
    refine z_rdV (pc := 23) (zk11 kX4_lane_0) (st := []) lkX4_185 ivX3_fault hT.1 rfl rfl (c_tFault hT) rfl ⟨rfl, rfl⟩ rfl rfl ?_ rfl
    refine z_top (congrArg Value.int ef) ?_
    have hxN : x ≤ 1000 := rdA_xN hW (Nat.zero_le _) hrd hkt
    refine z_istore_n (pc := 26) (zk12 kX4_lane_0) rfl rfl ?_
    show Z D B xX4_lane _ _ _ 27 [some (.ref p), some (.int (-1)), some (.int (nI x))] _ _ _
    refine z_aload_n (pc := 27) (zk13 kX4_lane_0) rfl ?_
    refine z_getf (pc := 28) (zk14 kX4_lane_0) flX4_36 hX.1 gXo_4 ?_
    refine z_efV (pc := 31) (zk15 kX4_lane_0) (st := []) lkX4_174 ivX3_empty hT.1 rfl rfl (c_tEmpty hT (by omega) ) rfl ⟨rfl, rfl⟩ rfl rfl (fun r_ h_13 z_ q_12 => ?_) rfl
    obtain ⟨er_, hR, hU_14, ez_⟩ := q_12
    rw [er_, ez_]
    clear er_ ez_
    replace hX := XoAt.fr hX hU_14 (by omega)
    replace hL := LnAt.fr hL hU_14 (by omega)
    replace hG := GuAt.fr hG hU_14 (by omega)
    replace hγ := LnAt.fr hγ hU_14 (by omega)
    replace hU := hU.tr hU_14 (by omega) (by omega)
    replace hT := hR; clear hR
    replace hK : XR h_13 p κ (up2 τ 6 0 0) ε := XR.ta hK hU_14 ⟨_, hT⟩ (fun f hf => by simp [up2, show ¬ f = 6 by omega, show ¬ f = 5 by omega])
    replace hX : XoAt h_13 p ik (rfo (up2 τ 6 0 0)) := hX
    show Z D B xX4_lane _ _ _ 34 _ [.int (τ 6 0)] _ _
    refine z_pop (pc := 34) (zk0 kX4_lane_1) rfl ?_
    refine z_iload_n (pc := 35) (zk1 kX4_lane_1) rfl ?_
    refine z_iconst (pc := 36) (zk2 kX4_lane_1) (v := (-1)) (by decide) ?_
    refine z_icmp_eq (pc := 37) (zk3 kX4_lane_1) (tgt := 52) (by decide) (fun q => absurd q (nI_ne_m1 hxN)) (fun _ => ?_)
    refine z_aload_n (pc := 40) (zk4 kX4_lane_1) rfl ?_
    refine z_bipush (pc := 41) (zk5 kX4_lane_1) (v := (-2)) (by decide) ?_
    refine z_efV (pc := 43) (zk6 kX4_lane_1) (st := []) lkX4_56 ivX4_refuse hX.1 rfl rfl (c_xrefuse (i := 0) hX hB (by decide) (by decide) (by decide)) rfl ⟨rfl, rfl⟩ rfl rfl (fun r_ h_16 z_ q_15 => ?_) rfl
    obtain ⟨er_, hR, hU_17, ez_⟩ := q_15
    rw [er_, ez_]
    clear er_ ez_
    replace hL := LnAt.fr hL hU_17 (by omega)
    replace hG := GuAt.fr hG hU_17 (by omega)
    replace hγ := LnAt.fr hγ hU_17 (by omega)
    replace hT := TaAt.fr hT hU_17 (by omega)
    replace hU := hU.tr hU_17 (by omega) (by omega)
    replace hK := XR.fr hK hU_17 (by omega)
    replace hX := hR; clear hR
    show Z D B xX4_lane _ _ _ 46 _ [.int (-2)] _ _
    refine z_pop (pc := 46) (zk7 kX4_lane_1) rfl ?_
    refine z_bipush (pc := 47) (zk8 kX4_lane_1) (v := (-20)) (by decide) ?_
    refine z_iload_n (pc := 49) (zk9 kX4_lane_1) rfl ?_
    refine z_isub (pc := 50) (zk10 kX4_lane_1) ?_
    exact z_iret (pc := 51) (zk11 kX4_lane_1) rfl (Nat.zero_le _) (Nat.zero_le _) (by
            rw [show sp_lane σ τ ε = ((-20) - (nI x), σ, (rfN (up2 τ 6 0 0) 2), ε) from by exact sp_lane_x ht hkt hrd]
            exact ⟨rfl, hX, hL, hK, hU, rfl⟩)
theorem c_copied {D : zD} {B : Nat} {h : zH} {sz : Nat} {a b n : Nat} {f g : Nat → Int32} (ha : h a = some (zI n f)) (hb : h b = some (zI n g)) (hab : a ≠ b) (hB : B ≤ b) (hn : n ≤ 12) : zM D B xX5_copied [.ref a, .ref b] h sz (fun r h1 z1 => r = none ∧ h1 = zup h b (zI n f) ∧ z1 = sz) := by
  refine zM.of (by decide) rfl (n := 1) ?_
  show Z D B xX5_copied 0 0 _ 0 [some (.ref a), some (.ref b), none] [] h sz
  refine z_iconst (pc := 0) (zk0 kX5_copied_0) (v := 0) (by decide) ?_
  refine z_istore_n (pc := 1) (zk1 kX5_copied_0) rfl rfl ?_
  show Z D B xX5_copied _ _ _ 2 [some (.ref a), some (.ref b), some (.int 0)] _ _ _
  have lp : ∀ (n_ : Nat) (i : Nat) (h2 : zH), n - i < n_ → i ≤ n → h2 = zup h b (zI n (fun j => if j < i then f j else g j)) → Z D B xX5_copied 0 0 (fun r h1 z1 => r = none ∧ h1 = zup h b (zI n f) ∧ z1 = sz) 2 [some (.ref a), some (.ref b), some (.int (nI i))] [] h2 sz := by
    intro n_
    induction n_ with
    | zero => intro i h2 hm; exact absurd hm (Nat.not_lt_zero _)
    | succ n_ ih =>
      intro i h2 hm hi e2
      have ha1 : h2 a = some (zI n f) := by rw [e2]; exact (zup_n hab).trans ha
      have hb1 : h2 b = some (zI n (fun j => if j < i then f j else g j)) := by rw [e2]; exact zup_s
      refine z_iload_n (pc := 2) (zk2 kX5_copied_0) rfl ?_
      refine z_aload_n (pc := 3) (zk3 kX5_copied_0) rfl ?_
      refine z_alenI (pc := 4) (zk4 kX5_copied_0) (v := nI n) ha1 rfl ?_
      refine z_icmp_ge (pc := 5) (zk5 kX5_copied_0) (tgt := 20) (by decide) (fun c => ?_) (fun c => ?_)
      · have hie : i = n := nI_ge_yes (a := n) (by omega) (by omega) hi c
        refine z_altI (g := f) hb1 (fun j hj => if_pos (by omega)) ?_
        rw [e2, zup_zup]
        exact z_vret (pc := 20) (zk14 kX5_copied_0) rfl (Nat.zero_le _) (Nat.zero_le _) ⟨rfl, rfl, rfl⟩
      · have hlt : i < n := nI_ge_not (a := n) (by omega) (by omega) c
        refine z_aload_n (pc := 8) (zk6 kX5_copied_0) rfl ?_
        refine z_iload_n (pc := 9) (zk7 kX5_copied_0) rfl ?_
        refine z_aload_n (pc := 10) (zk8 kX5_copied_0) rfl ?_
        refine z_iload_n (pc := 11) (zk9 kX5_copied_0) rfl ?_
        refine z_iald (pc := 12) (zk10 kX5_copied_0) (n := n) ha1 (vp_in_nI hlt (by omega)) ?_
        rw [nI_clamp (by omega)]
        refine z_iast (pc := 13) (zk11 kX5_copied_0) hb1 hB (vp_in_nI hlt (by omega)) ?_
        rw [nI_clamp (by omega)]
        refine z_iinc (pc := 14) (zk12 kX5_copied_0) (v := nI (i + 1)) rfl zinc rfl rfl ?_
        show Z D B xX5_copied _ _ _ 17 [some (.ref a), some (.ref b), some (.int (nI (i + 1)))] _ _ _
        refine z_goto (pc := 17) (zk13 kX5_copied_0) (tgt := 2) (by decide) ?_
        refine ih (i + 1) _ (by omega) (by omega) ?_
        rw [e2, zup_zup]
        refine congrArg (fun z => zup h b (zI n z)) ?_
        funext j
        by_cases q : j = i
        · subst q; simp [upd]
        · have : j < i + 1 ↔ j < i := by omega
          simp [upd, q, this]
  refine lp _ 0 h (Nat.lt_succ_self _) (Nat.zero_le _) ?_
  rw [show (fun j => if j < 0 then f j else g j) = g from by funext j; simp, zup_id hb]
theorem MoAt.c17 {h : zH} {p : Nat} {f : Nat → Int32} {σ : Ln} {τ : Ln} {ω : Ln} {ε : El} {mv : Nat → Int64} {kp : Option Nat} {tr : Option Nat} (H : MoAt h p σ τ ω ε mv kp tr) : MoAt (zup h (p + 17) (zI 12 f)) p (upF σ 1 f) τ ω ε mv kp tr := ⟨(zup_n (by omega)).trans H.1, (zup_n (by omega)).trans H.2.1, (zup_n (by omega)).trans H.2.2.1, (zup_n (by omega)).trans H.2.2.2.1, (zup_n (by omega)).trans H.2.2.2.2.1, fun s hs => (zup_n (by omega)).trans (H.2.2.2.2.2.1 s hs), (zup_n (by omega)).trans H.2.2.2.2.2.2.1, (zup_n (by omega)).trans H.2.2.2.2.2.2.2.1, (zup_n (by omega)).trans H.2.2.2.2.2.2.2.2.1, (zup_n (by omega)).trans H.2.2.2.2.2.2.2.2.2.1, zup_s, (zup_n (by omega)).trans H.2.2.2.2.2.2.2.2.2.2.2.1, (zup_n (by omega)).trans H.2.2.2.2.2.2.2.2.2.2.2.2.1, (zup_n (by omega)).trans H.2.2.2.2.2.2.2.2.2.2.2.2.2.1, (zup_n (by omega)).trans H.2.2.2.2.2.2.2.2.2.2.2.2.2.2.1, (zup_n (by omega)).trans H.2.2.2.2.2.2.2.2.2.2.2.2.2.2.2.1, (zup_n (by omega)).trans H.2.2.2.2.2.2.2.2.2.2.2.2.2.2.2.2.1, (zup_n (by omega)).trans H.2.2.2.2.2.2.2.2.2.2.2.2.2.2.2.2.2.1, (zup_n (by omega)).trans H.2.2.2.2.2.2.2.2.2.2.2.2.2.2.2.2.2.2.1, (zup_n (by omega)).trans H.2.2.2.2.2.2.2.2.2.2.2.2.2.2.2.2.2.2.2.1, (zup_n (by omega)).trans H.2.2.2.2.2.2.2.2.2.2.2.2.2.2.2.2.2.2.2.2.1, (zup_n (by omega)).trans H.2.2.2.2.2.2.2.2.2.2.2.2.2.2.2.2.2.2.2.2.2⟩
theorem MoAt.c18 {h : zH} {p : Nat} {f : Nat → Int32} {σ : Ln} {τ : Ln} {ω : Ln} {ε : El} {mv : Nat → Int64} {kp : Option Nat} {tr : Option Nat} (H : MoAt h p σ τ ω ε mv kp tr) : MoAt (zup h (p + 18) (zI 12 f)) p (upF σ 2 f) τ ω ε mv kp tr := ⟨(zup_n (by omega)).trans H.1, (zup_n (by omega)).trans H.2.1, (zup_n (by omega)).trans H.2.2.1, (zup_n (by omega)).trans H.2.2.2.1, (zup_n (by omega)).trans H.2.2.2.2.1, fun s hs => (zup_n (by omega)).trans (H.2.2.2.2.2.1 s hs), (zup_n (by omega)).trans H.2.2.2.2.2.2.1, (zup_n (by omega)).trans H.2.2.2.2.2.2.2.1, (zup_n (by omega)).trans H.2.2.2.2.2.2.2.2.1, (zup_n (by omega)).trans H.2.2.2.2.2.2.2.2.2.1, (zup_n (by omega)).trans H.2.2.2.2.2.2.2.2.2.2.1, zup_s, (zup_n (by omega)).trans H.2.2.2.2.2.2.2.2.2.2.2.2.1, (zup_n (by omega)).trans H.2.2.2.2.2.2.2.2.2.2.2.2.2.1, (zup_n (by omega)).trans H.2.2.2.2.2.2.2.2.2.2.2.2.2.2.1, (zup_n (by omega)).trans H.2.2.2.2.2.2.2.2.2.2.2.2.2.2.2.1, (zup_n (by omega)).trans H.2.2.2.2.2.2.2.2.2.2.2.2.2.2.2.2.1, (zup_n (by omega)).trans H.2.2.2.2.2.2.2.2.2.2.2.2.2.2.2.2.2.1, (zup_n (by omega)).trans H.2.2.2.2.2.2.2.2.2.2.2.2.2.2.2.2.2.2.1, (zup_n (by omega)).trans H.2.2.2.2.2.2.2.2.2.2.2.2.2.2.2.2.2.2.2.1, (zup_n (by omega)).trans H.2.2.2.2.2.2.2.2.2.2.2.2.2.2.2.2.2.2.2.2.1, (zup_n (by omega)).trans H.2.2.2.2.2.2.2.2.2.2.2.2.2.2.2.2.2.2.2.2.2⟩
theorem MoAt.c19 {h : zH} {p : Nat} {f : Nat → Int32} {σ : Ln} {τ : Ln} {ω : Ln} {ε : El} {mv : Nat → Int64} {kp : Option Nat} {tr : Option Nat} (H : MoAt h p σ τ ω ε mv kp tr) : MoAt (zup h (p + 19) (zI 12 f)) p (upF σ 3 f) τ ω ε mv kp tr := ⟨(zup_n (by omega)).trans H.1, (zup_n (by omega)).trans H.2.1, (zup_n (by omega)).trans H.2.2.1, (zup_n (by omega)).trans H.2.2.2.1, (zup_n (by omega)).trans H.2.2.2.2.1, fun s hs => (zup_n (by omega)).trans (H.2.2.2.2.2.1 s hs), (zup_n (by omega)).trans H.2.2.2.2.2.2.1, (zup_n (by omega)).trans H.2.2.2.2.2.2.2.1, (zup_n (by omega)).trans H.2.2.2.2.2.2.2.2.1, (zup_n (by omega)).trans H.2.2.2.2.2.2.2.2.2.1, (zup_n (by omega)).trans H.2.2.2.2.2.2.2.2.2.2.1, (zup_n (by omega)).trans H.2.2.2.2.2.2.2.2.2.2.2.1, zup_s, (zup_n (by omega)).trans H.2.2.2.2.2.2.2.2.2.2.2.2.2.1, (zup_n (by omega)).trans H.2.2.2.2.2.2.2.2.2.2.2.2.2.2.1, (zup_n (by omega)).trans H.2.2.2.2.2.2.2.2.2.2.2.2.2.2.2.1, (zup_n (by omega)).trans H.2.2.2.2.2.2.2.2.2.2.2.2.2.2.2.2.1, (zup_n (by omega)).trans H.2.2.2.2.2.2.2.2.2.2.2.2.2.2.2.2.2.1, (zup_n (by omega)).trans H.2.2.2.2.2.2.2.2.2.2.2.2.2.2.2.2.2.2.1, (zup_n (by omega)).trans H.2.2.2.2.2.2.2.2.2.2.2.2.2.2.2.2.2.2.2.1, (zup_n (by omega)).trans H.2.2.2.2.2.2.2.2.2.2.2.2.2.2.2.2.2.2.2.2.1, (zup_n (by omega)).trans H.2.2.2.2.2.2.2.2.2.2.2.2.2.2.2.2.2.2.2.2.2⟩
theorem MoAt.c20 {h : zH} {p : Nat} {f : Nat → Int32} {σ : Ln} {τ : Ln} {ω : Ln} {ε : El} {mv : Nat → Int64} {kp : Option Nat} {tr : Option Nat} (H : MoAt h p σ τ ω ε mv kp tr) : MoAt (zup h (p + 20) (zI 12 f)) p (upF σ 4 f) τ ω ε mv kp tr := ⟨(zup_n (by omega)).trans H.1, (zup_n (by omega)).trans H.2.1, (zup_n (by omega)).trans H.2.2.1, (zup_n (by omega)).trans H.2.2.2.1, (zup_n (by omega)).trans H.2.2.2.2.1, fun s hs => (zup_n (by omega)).trans (H.2.2.2.2.2.1 s hs), (zup_n (by omega)).trans H.2.2.2.2.2.2.1, (zup_n (by omega)).trans H.2.2.2.2.2.2.2.1, (zup_n (by omega)).trans H.2.2.2.2.2.2.2.2.1, (zup_n (by omega)).trans H.2.2.2.2.2.2.2.2.2.1, (zup_n (by omega)).trans H.2.2.2.2.2.2.2.2.2.2.1, (zup_n (by omega)).trans H.2.2.2.2.2.2.2.2.2.2.2.1, (zup_n (by omega)).trans H.2.2.2.2.2.2.2.2.2.2.2.2.1, zup_s, (zup_n (by omega)).trans H.2.2.2.2.2.2.2.2.2.2.2.2.2.2.1, (zup_n (by omega)).trans H.2.2.2.2.2.2.2.2.2.2.2.2.2.2.2.1, (zup_n (by omega)).trans H.2.2.2.2.2.2.2.2.2.2.2.2.2.2.2.2.1, (zup_n (by omega)).trans H.2.2.2.2.2.2.2.2.2.2.2.2.2.2.2.2.2.1, (zup_n (by omega)).trans H.2.2.2.2.2.2.2.2.2.2.2.2.2.2.2.2.2.2.1, (zup_n (by omega)).trans H.2.2.2.2.2.2.2.2.2.2.2.2.2.2.2.2.2.2.2.1, (zup_n (by omega)).trans H.2.2.2.2.2.2.2.2.2.2.2.2.2.2.2.2.2.2.2.2.1, (zup_n (by omega)).trans H.2.2.2.2.2.2.2.2.2.2.2.2.2.2.2.2.2.2.2.2.2⟩
theorem MoAt.c21 {h : zH} {p : Nat} {f : Nat → Int32} {σ : Ln} {τ : Ln} {ω : Ln} {ε : El} {mv : Nat → Int64} {kp : Option Nat} {tr : Option Nat} (H : MoAt h p σ τ ω ε mv kp tr) : MoAt (zup h (p + 21) (zI 8 f)) p (upF σ 10 f) τ ω ε mv kp tr := ⟨(zup_n (by omega)).trans H.1, (zup_n (by omega)).trans H.2.1, (zup_n (by omega)).trans H.2.2.1, (zup_n (by omega)).trans H.2.2.2.1, (zup_n (by omega)).trans H.2.2.2.2.1, fun s hs => (zup_n (by omega)).trans (H.2.2.2.2.2.1 s hs), (zup_n (by omega)).trans H.2.2.2.2.2.2.1, (zup_n (by omega)).trans H.2.2.2.2.2.2.2.1, (zup_n (by omega)).trans H.2.2.2.2.2.2.2.2.1, (zup_n (by omega)).trans H.2.2.2.2.2.2.2.2.2.1, (zup_n (by omega)).trans H.2.2.2.2.2.2.2.2.2.2.1, (zup_n (by omega)).trans H.2.2.2.2.2.2.2.2.2.2.2.1, (zup_n (by omega)).trans H.2.2.2.2.2.2.2.2.2.2.2.2.1, (zup_n (by omega)).trans H.2.2.2.2.2.2.2.2.2.2.2.2.2.1, zup_s, (zup_n (by omega)).trans H.2.2.2.2.2.2.2.2.2.2.2.2.2.2.2.1, (zup_n (by omega)).trans H.2.2.2.2.2.2.2.2.2.2.2.2.2.2.2.2.1, (zup_n (by omega)).trans H.2.2.2.2.2.2.2.2.2.2.2.2.2.2.2.2.2.1, (zup_n (by omega)).trans H.2.2.2.2.2.2.2.2.2.2.2.2.2.2.2.2.2.2.1, (zup_n (by omega)).trans H.2.2.2.2.2.2.2.2.2.2.2.2.2.2.2.2.2.2.2.1, (zup_n (by omega)).trans H.2.2.2.2.2.2.2.2.2.2.2.2.2.2.2.2.2.2.2.2.1, (zup_n (by omega)).trans H.2.2.2.2.2.2.2.2.2.2.2.2.2.2.2.2.2.2.2.2.2⟩
theorem MoAt.c22 {h : zH} {p : Nat} {f : Nat → Int32} {σ : Ln} {τ : Ln} {ω : Ln} {ε : El} {mv : Nat → Int64} {kp : Option Nat} {tr : Option Nat} (H : MoAt h p σ τ ω ε mv kp tr) : MoAt (zup h (p + 22) (zI 8 f)) p (upF σ 11 f) τ ω ε mv kp tr := ⟨(zup_n (by omega)).trans H.1, (zup_n (by omega)).trans H.2.1, (zup_n (by omega)).trans H.2.2.1, (zup_n (by omega)).trans H.2.2.2.1, (zup_n (by omega)).trans H.2.2.2.2.1, fun s hs => (zup_n (by omega)).trans (H.2.2.2.2.2.1 s hs), (zup_n (by omega)).trans H.2.2.2.2.2.2.1, (zup_n (by omega)).trans H.2.2.2.2.2.2.2.1, (zup_n (by omega)).trans H.2.2.2.2.2.2.2.2.1, (zup_n (by omega)).trans H.2.2.2.2.2.2.2.2.2.1, (zup_n (by omega)).trans H.2.2.2.2.2.2.2.2.2.2.1, (zup_n (by omega)).trans H.2.2.2.2.2.2.2.2.2.2.2.1, (zup_n (by omega)).trans H.2.2.2.2.2.2.2.2.2.2.2.2.1, (zup_n (by omega)).trans H.2.2.2.2.2.2.2.2.2.2.2.2.2.1, (zup_n (by omega)).trans H.2.2.2.2.2.2.2.2.2.2.2.2.2.2.1, zup_s, (zup_n (by omega)).trans H.2.2.2.2.2.2.2.2.2.2.2.2.2.2.2.2.1, (zup_n (by omega)).trans H.2.2.2.2.2.2.2.2.2.2.2.2.2.2.2.2.2.1, (zup_n (by omega)).trans H.2.2.2.2.2.2.2.2.2.2.2.2.2.2.2.2.2.2.1, (zup_n (by omega)).trans H.2.2.2.2.2.2.2.2.2.2.2.2.2.2.2.2.2.2.2.1, (zup_n (by omega)).trans H.2.2.2.2.2.2.2.2.2.2.2.2.2.2.2.2.2.2.2.2.1, (zup_n (by omega)).trans H.2.2.2.2.2.2.2.2.2.2.2.2.2.2.2.2.2.2.2.2.2⟩
theorem MoAt.c23 {h : zH} {p : Nat} {f : Nat → Int32} {σ : Ln} {τ : Ln} {ω : Ln} {ε : El} {mv : Nat → Int64} {kp : Option Nat} {tr : Option Nat} (H : MoAt h p σ τ ω ε mv kp tr) : MoAt (zup h (p + 23) (zI 8 f)) p (upF σ 12 f) τ ω ε mv kp tr := ⟨(zup_n (by omega)).trans H.1, (zup_n (by omega)).trans H.2.1, (zup_n (by omega)).trans H.2.2.1, (zup_n (by omega)).trans H.2.2.2.1, (zup_n (by omega)).trans H.2.2.2.2.1, fun s hs => (zup_n (by omega)).trans (H.2.2.2.2.2.1 s hs), (zup_n (by omega)).trans H.2.2.2.2.2.2.1, (zup_n (by omega)).trans H.2.2.2.2.2.2.2.1, (zup_n (by omega)).trans H.2.2.2.2.2.2.2.2.1, (zup_n (by omega)).trans H.2.2.2.2.2.2.2.2.2.1, (zup_n (by omega)).trans H.2.2.2.2.2.2.2.2.2.2.1, (zup_n (by omega)).trans H.2.2.2.2.2.2.2.2.2.2.2.1, (zup_n (by omega)).trans H.2.2.2.2.2.2.2.2.2.2.2.2.1, (zup_n (by omega)).trans H.2.2.2.2.2.2.2.2.2.2.2.2.2.1, (zup_n (by omega)).trans H.2.2.2.2.2.2.2.2.2.2.2.2.2.2.1, (zup_n (by omega)).trans H.2.2.2.2.2.2.2.2.2.2.2.2.2.2.2.1, zup_s, (zup_n (by omega)).trans H.2.2.2.2.2.2.2.2.2.2.2.2.2.2.2.2.2.1, (zup_n (by omega)).trans H.2.2.2.2.2.2.2.2.2.2.2.2.2.2.2.2.2.2.1, (zup_n (by omega)).trans H.2.2.2.2.2.2.2.2.2.2.2.2.2.2.2.2.2.2.2.1, (zup_n (by omega)).trans H.2.2.2.2.2.2.2.2.2.2.2.2.2.2.2.2.2.2.2.2.1, (zup_n (by omega)).trans H.2.2.2.2.2.2.2.2.2.2.2.2.2.2.2.2.2.2.2.2.2⟩
theorem MoAt.c24 {h : zH} {p : Nat} {f : Nat → Int32} {σ : Ln} {τ : Ln} {ω : Ln} {ε : El} {mv : Nat → Int64} {kp : Option Nat} {tr : Option Nat} (H : MoAt h p σ τ ω ε mv kp tr) : MoAt (zup h (p + 24) (zI 8 f)) p (upF σ 13 f) τ ω ε mv kp tr := ⟨(zup_n (by omega)).trans H.1, (zup_n (by omega)).trans H.2.1, (zup_n (by omega)).trans H.2.2.1, (zup_n (by omega)).trans H.2.2.2.1, (zup_n (by omega)).trans H.2.2.2.2.1, fun s hs => (zup_n (by omega)).trans (H.2.2.2.2.2.1 s hs), (zup_n (by omega)).trans H.2.2.2.2.2.2.1, (zup_n (by omega)).trans H.2.2.2.2.2.2.2.1, (zup_n (by omega)).trans H.2.2.2.2.2.2.2.2.1, (zup_n (by omega)).trans H.2.2.2.2.2.2.2.2.2.1, (zup_n (by omega)).trans H.2.2.2.2.2.2.2.2.2.2.1, (zup_n (by omega)).trans H.2.2.2.2.2.2.2.2.2.2.2.1, (zup_n (by omega)).trans H.2.2.2.2.2.2.2.2.2.2.2.2.1, (zup_n (by omega)).trans H.2.2.2.2.2.2.2.2.2.2.2.2.2.1, (zup_n (by omega)).trans H.2.2.2.2.2.2.2.2.2.2.2.2.2.2.1, (zup_n (by omega)).trans H.2.2.2.2.2.2.2.2.2.2.2.2.2.2.2.1, (zup_n (by omega)).trans H.2.2.2.2.2.2.2.2.2.2.2.2.2.2.2.2.1, zup_s, (zup_n (by omega)).trans H.2.2.2.2.2.2.2.2.2.2.2.2.2.2.2.2.2.2.1, (zup_n (by omega)).trans H.2.2.2.2.2.2.2.2.2.2.2.2.2.2.2.2.2.2.2.1, (zup_n (by omega)).trans H.2.2.2.2.2.2.2.2.2.2.2.2.2.2.2.2.2.2.2.2.1, (zup_n (by omega)).trans H.2.2.2.2.2.2.2.2.2.2.2.2.2.2.2.2.2.2.2.2.2⟩
set_option maxRecDepth 20000 in
theorem c_mtake {D : zD} {B : Nat} {h : zH} {sz : Nat} {p : Nat} {σ τ ω : Ln} {ε : El} {mv : Nat → Int64} {kp tr : Option Nat} {q : Nat} {κ τ2 ω2 : Ln} {ε2 : El} {mv2 : Nat → Int64} {kp2 tr2 : Option Nat} (hM : MoAt h p σ τ ω ε mv kp tr) (hO : MoAt h q κ τ2 ω2 ε2 mv2 kp2 tr2) (hB : B ≤ p) (hd : p + 29 ≤ q ∨ q + 29 ≤ p) (hbk : κ 6 0 = 0 ∨ κ 6 0 = 1) : zM D B xX5_takeFrom [.ref p, .ref q] h sz (fun r h1 z1 => r = none ∧ MoAt h1 p κ τ ω ε mv kp tr ∧ Upd h h1 p 29 ∧ z1 = sz) := by
  have hU : Upd h h p 29 := Upd.rf
  refine zM.of (by decide) rfl (n := 0) ?_
  show Z D B xX5_takeFrom 0 0 _ 0 [some (.ref p), some (.ref q)] [] h sz
  refine z_aload_n (pc := 0) (zk0 kX5_takeFrom_0) rfl ?_
  refine z_aload_n (pc := 1) (zk1 kX5_takeFrom_0) rfl ?_
  refine z_getf (pc := 2) (zk2 kX5_takeFrom_0) flX5_37 hO.1 (v := .int (κ 0 0)) rfl ?_
  refine z_Mo_w9 (pc := 5) (zk3 kX5_takeFrom_0) flX5_37 hM (by omega) (fun h_1 hR hU_2 => ?_)
  replace hO := MoAt.fr hO hU_2 (by omega)
  replace hU := hU.tr hU_2 (by omega) (by omega)
  replace hM := hR; clear hR
  refine z_aload_n (pc := 8) (zk4 kX5_takeFrom_0) rfl ?_
  refine z_getf (pc := 9) (zk5 kX5_takeFrom_0) flX5_41 hO.1 gMo_10 ?_
  refine z_aload_n (pc := 12) (zk6 kX5_takeFrom_0) rfl ?_
  refine z_getf (pc := 13) (zk7 kX5_takeFrom_0) flX5_41 hM.1 gMo_10 ?_
  refine z_efS (pc := 16) (zk8 kX5_takeFrom_0) (st := []) lkX5_340 isX5_copied (c_copied hO.2.2.2.2.2.2.2.2.2.2.1 hM.2.2.2.2.2.2.2.2.2.2.1 (by omega) (by omega) (by decide)) rfl ⟨rfl, rfl⟩ rfl rfl (fun r_ h_4 z_ q_3 => ?_) rfl
  obtain ⟨er_, eh_, ez_⟩ := q_3
  rw [er_, ez_]
  clear er_ ez_
  have hU_5 : Upd h_1 h_4 (p + 17) 1 := by rw [eh_]; exact Upd.one
  have hR := MoAt.c17 (f := κ 1) hM
  rw [← eh_] at hR
  clear eh_
  replace hO := MoAt.fr hO hU_5 (by omega)
  replace hU := hU.tr hU_5 (by omega) (by omega)
  replace hM := hR; clear hR
  show Z D B xX5_takeFrom _ _ _ 19 _ [] _ _
  refine z_aload_n (pc := 19) (zk9 kX5_takeFrom_0) rfl ?_
  refine z_getf (pc := 20) (zk10 kX5_takeFrom_0) flX5_44 hO.1 gMo_11 ?_
  refine z_aload_n (pc := 23) (zk11 kX5_takeFrom_0) rfl ?_
  refine z_getf (pc := 24) (zk12 kX5_takeFrom_0) flX5_44 hM.1 gMo_11 ?_
  refine z_efS (pc := 27) (zk13 kX5_takeFrom_0) (st := []) lkX5_340 isX5_copied (c_copied hO.2.2.2.2.2.2.2.2.2.2.2.1 hM.2.2.2.2.2.2.2.2.2.2.2.1 (by omega) (by omega) (by decide)) rfl ⟨rfl, rfl⟩ rfl rfl (fun r_ h_7 z_ q_6 => ?_) rfl
  obtain ⟨er_, eh_, ez_⟩ := q_6
  rw [er_, ez_]
  clear er_ ez_
  have hU_8 : Upd h_4 h_7 (p + 18) 1 := by rw [eh_]; exact Upd.one
  have hR := MoAt.c18 (f := κ 2) hM
  rw [← eh_] at hR
  clear eh_
  replace hO := MoAt.fr hO hU_8 (by omega)
  replace hU := hU.tr hU_8 (by omega) (by omega)
  replace hM := hR; clear hR
  show Z D B xX5_takeFrom _ _ _ 30 _ [] _ _
  refine z_aload_n (pc := 30) (zk14 kX5_takeFrom_0) rfl ?_
  refine z_getf (pc := 31) (zk15 kX5_takeFrom_0) flX5_47 hO.1 gMo_12 ?_
  refine z_aload_n (pc := 34) (zk0 kX5_takeFrom_1) rfl ?_
  refine z_getf (pc := 35) (zk1 kX5_takeFrom_1) flX5_47 hM.1 gMo_12 ?_
  refine z_efS (pc := 38) (zk2 kX5_takeFrom_1) (st := []) lkX5_340 isX5_copied (c_copied hO.2.2.2.2.2.2.2.2.2.2.2.2.1 hM.2.2.2.2.2.2.2.2.2.2.2.2.1 (by omega) (by omega) (by decide)) rfl ⟨rfl, rfl⟩ rfl rfl (fun r_ h_10 z_ q_9 => ?_) rfl
  obtain ⟨er_, eh_, ez_⟩ := q_9
  rw [er_, ez_]
  clear er_ ez_
  have hU_11 : Upd h_7 h_10 (p + 19) 1 := by rw [eh_]; exact Upd.one
  have hR := MoAt.c19 (f := κ 3) hM
  rw [← eh_] at hR
  clear eh_
  replace hO := MoAt.fr hO hU_11 (by omega)
  replace hU := hU.tr hU_11 (by omega) (by omega)
  replace hM := hR; clear hR
  show Z D B xX5_takeFrom _ _ _ 41 _ [] _ _
  refine z_aload_n (pc := 41) (zk3 kX5_takeFrom_1) rfl ?_
  refine z_getf (pc := 42) (zk4 kX5_takeFrom_1) flX5_50 hO.1 gMo_13 ?_
  refine z_aload_n (pc := 45) (zk5 kX5_takeFrom_1) rfl ?_
  refine z_getf (pc := 46) (zk6 kX5_takeFrom_1) flX5_50 hM.1 gMo_13 ?_
  refine z_efS (pc := 49) (zk7 kX5_takeFrom_1) (st := []) lkX5_340 isX5_copied (c_copied hO.2.2.2.2.2.2.2.2.2.2.2.2.2.1 hM.2.2.2.2.2.2.2.2.2.2.2.2.2.1 (by omega) (by omega) (by decide)) rfl ⟨rfl, rfl⟩ rfl rfl (fun r_ h_13 z_ q_12 => ?_) rfl
  obtain ⟨er_, eh_, ez_⟩ := q_12
  rw [er_, ez_]
  clear er_ ez_
  have hU_14 : Upd h_10 h_13 (p + 20) 1 := by rw [eh_]; exact Upd.one
  have hR := MoAt.c20 (f := κ 4) hM
  rw [← eh_] at hR
  clear eh_
  replace hO := MoAt.fr hO hU_14 (by omega)
  replace hU := hU.tr hU_14 (by omega) (by omega)
  replace hM := hR; clear hR
  show Z D B xX5_takeFrom _ _ _ 52 _ [] _ _
  refine z_aload_n (pc := 52) (zk8 kX5_takeFrom_1) rfl ?_
  refine z_aload_n (pc := 53) (zk9 kX5_takeFrom_1) rfl ?_
  refine z_getf (pc := 54) (zk10 kX5_takeFrom_1) flX5_135 hO.1 (v := .int (κ 5 0)) rfl ?_
  refine z_Mo_w14 (pc := 57) (zk11 kX5_takeFrom_1) flX5_135 hM (by omega) (fun h_15 hR hU_16 => ?_)
  replace hO := MoAt.fr hO hU_16 (by omega)
  replace hU := hU.tr hU_16 (by omega) (by omega)
  replace hM := hR; clear hR
  refine z_aload_n (pc := 60) (zk12 kX5_takeFrom_1) rfl ?_
  refine z_aload_n (pc := 61) (zk13 kX5_takeFrom_1) rfl ?_
  refine z_getf (pc := 62) (zk14 kX5_takeFrom_1) flX5_138 hO.1 (v := .int (κ 6 0)) rfl ?_
  refine z_Mo_w15 (pc := 65) (zk15 kX5_takeFrom_1) flX5_138 hM (by omega) (by assumption) (fun h_17 hR hU_18 => ?_)
  replace hO := MoAt.fr hO hU_18 (by omega)
  replace hU := hU.tr hU_18 (by omega) (by omega)
  replace hM := hR; clear hR
  refine z_aload_n (pc := 68) (zk0 kX5_takeFrom_2) rfl ?_
  refine z_aload_n (pc := 69) (zk1 kX5_takeFrom_2) rfl ?_
  refine z_getf (pc := 70) (zk2 kX5_takeFrom_2) flX5_322 hO.1 (v := .int (κ 7 0)) rfl ?_
  refine z_Mo_w16 (pc := 73) (zk3 kX5_takeFrom_2) flX5_322 hM (by omega) (fun h_19 hR hU_20 => ?_)
  replace hO := MoAt.fr hO hU_20 (by omega)
  replace hU := hU.tr hU_20 (by omega) (by omega)
  replace hM := hR; clear hR
  refine z_aload_n (pc := 76) (zk4 kX5_takeFrom_2) rfl ?_
  refine z_aload_n (pc := 77) (zk5 kX5_takeFrom_2) rfl ?_
  refine z_getf (pc := 78) (zk6 kX5_takeFrom_2) flX5_85 hO.1 (v := .int (κ 9 0)) rfl ?_
  refine z_Mo_w17 (pc := 81) (zk7 kX5_takeFrom_2) flX5_85 hM (by omega) (fun h_21 hR hU_22 => ?_)
  replace hO := MoAt.fr hO hU_22 (by omega)
  replace hU := hU.tr hU_22 (by omega) (by omega)
  replace hM := hR; clear hR
  refine z_aload_n (pc := 84) (zk8 kX5_takeFrom_2) rfl ?_
  refine z_getf (pc := 85) (zk9 kX5_takeFrom_2) flX5_53 hO.1 gMo_18 ?_
  refine z_aload_n (pc := 88) (zk10 kX5_takeFrom_2) rfl ?_
  refine z_getf (pc := 89) (zk11 kX5_takeFrom_2) flX5_53 hM.1 gMo_18 ?_
  refine z_efS (pc := 92) (zk12 kX5_takeFrom_2) (st := []) lkX5_340 isX5_copied (c_copied hO.2.2.2.2.2.2.2.2.2.2.2.2.2.2.1 hM.2.2.2.2.2.2.2.2.2.2.2.2.2.2.1 (by omega) (by omega) (by decide)) rfl ⟨rfl, rfl⟩ rfl rfl (fun r_ h_24 z_ q_23 => ?_) rfl
  obtain ⟨er_, eh_, ez_⟩ := q_23
  rw [er_, ez_]
  clear er_ ez_
  have hU_25 : Upd h_21 h_24 (p + 21) 1 := by rw [eh_]; exact Upd.one
  have hR := MoAt.c21 (f := κ 10) hM
  rw [← eh_] at hR
  clear eh_
  replace hO := MoAt.fr hO hU_25 (by omega)
  replace hU := hU.tr hU_25 (by omega) (by omega)
  replace hM := hR; clear hR
  show Z D B xX5_takeFrom _ _ _ 95 _ [] _ _
  refine z_aload_n (pc := 95) (zk13 kX5_takeFrom_2) rfl ?_
  refine z_getf (pc := 96) (zk14 kX5_takeFrom_2) flX5_56 hO.1 gMo_19 ?_
  refine z_aload_n (pc := 99) (zk15 kX5_takeFrom_2) rfl ?_
  refine z_getf (pc := 100) (zk0 kX5_takeFrom_3) flX5_56 hM.1 gMo_19 ?_
  refine z_efS (pc := 103) (zk1 kX5_takeFrom_3) (st := []) lkX5_340 isX5_copied (c_copied hO.2.2.2.2.2.2.2.2.2.2.2.2.2.2.2.1 hM.2.2.2.2.2.2.2.2.2.2.2.2.2.2.2.1 (by omega) (by omega) (by decide)) rfl ⟨rfl, rfl⟩ rfl rfl (fun r_ h_27 z_ q_26 => ?_) rfl
  obtain ⟨er_, eh_, ez_⟩ := q_26
  rw [er_, ez_]
  clear er_ ez_
  have hU_28 : Upd h_24 h_27 (p + 22) 1 := by rw [eh_]; exact Upd.one
  have hR := MoAt.c22 (f := κ 11) hM
  rw [← eh_] at hR
  clear eh_
  replace hO := MoAt.fr hO hU_28 (by omega)
  replace hU := hU.tr hU_28 (by omega) (by omega)
  replace hM := hR; clear hR
  show Z D B xX5_takeFrom _ _ _ 106 _ [] _ _
  refine z_aload_n (pc := 106) (zk2 kX5_takeFrom_3) rfl ?_
  refine z_getf (pc := 107) (zk3 kX5_takeFrom_3) flX5_59 hO.1 gMo_20 ?_
  refine z_aload_n (pc := 110) (zk4 kX5_takeFrom_3) rfl ?_
  refine z_getf (pc := 111) (zk5 kX5_takeFrom_3) flX5_59 hM.1 gMo_20 ?_
  refine z_efS (pc := 114) (zk6 kX5_takeFrom_3) (st := []) lkX5_340 isX5_copied (c_copied hO.2.2.2.2.2.2.2.2.2.2.2.2.2.2.2.2.1 hM.2.2.2.2.2.2.2.2.2.2.2.2.2.2.2.2.1 (by omega) (by omega) (by decide)) rfl ⟨rfl, rfl⟩ rfl rfl (fun r_ h_30 z_ q_29 => ?_) rfl
  obtain ⟨er_, eh_, ez_⟩ := q_29
  rw [er_, ez_]
  clear er_ ez_
  have hU_31 : Upd h_27 h_30 (p + 23) 1 := by rw [eh_]; exact Upd.one
  have hR := MoAt.c23 (f := κ 12) hM
  rw [← eh_] at hR
  clear eh_
  replace hO := MoAt.fr hO hU_31 (by omega)
  replace hU := hU.tr hU_31 (by omega) (by omega)
  replace hM := hR; clear hR
  show Z D B xX5_takeFrom _ _ _ 117 _ [] _ _
  refine z_aload_n (pc := 117) (zk7 kX5_takeFrom_3) rfl ?_
  refine z_getf (pc := 118) (zk8 kX5_takeFrom_3) flX5_62 hO.1 gMo_21 ?_
  refine z_aload_n (pc := 121) (zk9 kX5_takeFrom_3) rfl ?_
  refine z_getf (pc := 122) (zk10 kX5_takeFrom_3) flX5_62 hM.1 gMo_21 ?_
  refine z_efS (pc := 125) (zk11 kX5_takeFrom_3) (st := []) lkX5_340 isX5_copied (c_copied hO.2.2.2.2.2.2.2.2.2.2.2.2.2.2.2.2.2.1 hM.2.2.2.2.2.2.2.2.2.2.2.2.2.2.2.2.2.1 (by omega) (by omega) (by decide)) rfl ⟨rfl, rfl⟩ rfl rfl (fun r_ h_33 z_ q_32 => ?_) rfl
  obtain ⟨er_, eh_, ez_⟩ := q_32
  rw [er_, ez_]
  clear er_ ez_
  have hU_34 : Upd h_30 h_33 (p + 24) 1 := by rw [eh_]; exact Upd.one
  have hR := MoAt.c24 (f := κ 13) hM
  rw [← eh_] at hR
  clear eh_
  replace hO := MoAt.fr hO hU_34 (by omega)
  replace hU := hU.tr hU_34 (by omega) (by omega)
  replace hM := hR; clear hR
  show Z D B xX5_takeFrom _ _ _ 128 _ [] _ _
  refine z_aload_n (pc := 128) (zk12 kX5_takeFrom_3) rfl ?_
  refine z_aload_n (pc := 129) (zk13 kX5_takeFrom_3) rfl ?_
  refine z_getf (pc := 130) (zk14 kX5_takeFrom_3) flX5_65 hO.1 (v := .int (κ 8 0)) rfl ?_
  refine z_Mo_w22 (pc := 133) (zk15 kX5_takeFrom_3) flX5_65 hM (by omega) (fun h_35 hR hU_36 => ?_)
  replace hO := MoAt.fr hO hU_36 (by omega)
  replace hU := hU.tr hU_36 (by omega) (by omega)
  replace hM := hR; clear hR
  exact z_vret (pc := 136) (zk0 kX5_takeFrom_4) rfl (Nat.zero_le _) (Nat.zero_le _) ⟨rfl, hM, hU, rfl⟩
