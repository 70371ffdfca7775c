def lwB (x : Int32) : Bool := decide (97 ≤ x) && decide (x ≤ 122)
def dgB (x : Int32) : Bool := decide (48 ≤ x) && decide (x ≤ 57)
theorem lw_1 {f : Nat → Int32} {N a : Nat} (h : a < N) : lwB (f a) = true ↔ tkS f N a = 1 := by
  unfold lwB tkS
  rw [if_neg (Nat.not_le.mpr h)]
  by_cases c : 97 ≤ f a ∧ f a ≤ 122
  · rw [if_pos c, decide_eq_true c.1, decide_eq_true c.2]; decide
  · rw [if_neg c]
    constructor
    · intro q
      obtain ⟨q1, q2⟩ := Bool.and_eq_true_iff.mp q
      exact absurd ⟨of_decide_eq_true q1, of_decide_eq_true q2⟩ c
    · intro q
      split at q
      · exact absurd q (by decide)
      · split at q <;> exact absurd q (by decide)
theorem dg_2 {f : Nat → Int32} {N a : Nat} (h : a < N) : dgB (f a) = true ↔ tkS f N a = 2 := by
  unfold dgB tkS
  rw [if_neg (Nat.not_le.mpr h)]
  by_cases c : 97 ≤ f a ∧ f a ≤ 122
  · rw [if_pos c]
    constructor
    · intro q
      obtain ⟨_, q2⟩ := Bool.and_eq_true_iff.mp q
      exact absurd (Int32.le_trans c.1 (of_decide_eq_true q2)) (by decide)
    · intro q; exact absurd q (by decide)
  · rw [if_neg c]
    by_cases d : 48 ≤ f a ∧ f a ≤ 57
    · rw [if_pos d, decide_eq_true d.1, decide_eq_true d.2]; decide
    · rw [if_neg d]
      constructor
      · intro q
        obtain ⟨q1, q2⟩ := Bool.and_eq_true_iff.mp q
        exact absurd ⟨of_decide_eq_true q1, of_decide_eq_true q2⟩ d
      · intro q
        split at q <;> exact absurd q (by decide)
theorem tk_34 {f : Nat → Int32} {N a : Nat} (h : a < N) (h1 : ¬ tkS f N a = 1) (h2 : ¬ tkS f N a = 2) : tkS f N a = if f a = 59 then 3 else 4 := by
  unfold tkS at h1 h2 ⊢
  rw [if_neg (Nat.not_le.mpr h)] at h1 h2 ⊢
  by_cases c : 97 ≤ f a ∧ f a ≤ 122
  · rw [if_pos c] at h1; exact absurd rfl h1
  · rw [if_neg c] at h2 ⊢
    by_cases d : 48 ≤ f a ∧ f a ≤ 57
    · rw [if_pos d] at h2; exact absurd rfl h2
    · rw [if_neg d]
/-- the token from a on has been looked at -/
def LK (f : Nat → Int32) (N : Nat) (ω : Ln) (a : Nat) : Prop := ω 8 0 = nI (tkE f N (skp f N a)) ∧ ω 9 0 = nI (tkS f N (skp f N a)) ∧ ω 10 0 = nI (skp f N a) ∧ ω 11 0 = fgF f N (skp f N a)
/-- figures behind e less s digits -/
def fgJ (f : Nat → Int32) (s e : Nat) : Int32 := if e - s ≤ 2 then nuV f s (e - s) else 1000
theorem fgJ_a {f : Nat → Int32} {s e : Nat} (h : s ≤ e) (c : e - s < 2) : fgJ f s e * 10 + f e - 48 = fgJ f s (e + 1) := by
  rw [fgJ, fgJ, if_pos (by omega), if_pos (by omega), show e + 1 - s = (e - s) + 1 by omega, nuV, show s + (e - s) = e by omega]
theorem fgJ_b {f : Nat → Int32} {s e : Nat} (h : s ≤ e) (c : ¬ e - s < 2) : 1000 = fgJ f s (e + 1) := by
  rw [fgJ, if_neg (by omega)]
set_option maxRecDepth 20000 in
theorem c_isLower {D : zD} {B : Nat} {h : zH} {sz : Nat} {x : Int32}  : zRd D B xX5_isLower [.int x] h sz (.int (oI (lwB x))) := by
  refine zM.of (by decide) rfl (n := 0) ?_
  show Z D B xX5_isLower 0 0 _ 0 [some (.int x)] [] h sz
  refine z_iload_n (pc := 0) (zk0 kX5_isLower_0) rfl ?_
  refine z_bipush (pc := 1) (zk1 kX5_isLower_0) (v := 97) (by decide) ?_
  refine z_icmp_lt (pc := 3) (zk2 kX5_isLower_0) (tgt := 16) (by decide) (fun c_1 => ?_) (fun c_1 => ?_)
  · refine z_iconst (pc := 16) (zk8 kX5_isLower_0) (v := 0) (by decide) ?_
    exact z_zret (pc := 17) (zk9 kX5_isLower_0) rfl (Nat.zero_le _) (Nat.zero_le _) (by decide) ⟨by simp [lwB, oI, c_1, Int32.not_le.mpr c_1], rfl, rfl⟩
  · refine z_iload_n (pc := 6) (zk3 kX5_isLower_0) rfl ?_
    refine z_bipush (pc := 7) (zk4 kX5_isLower_0) (v := 122) (by decide) ?_
    refine z_icmp_gt (pc := 9) (zk5 kX5_isLower_0) (tgt := 16) (by decide) (fun c_2 => ?_) (fun c_2 => ?_)
    · refine z_iconst (pc := 16) (zk8 kX5_isLower_0) (v := 0) (by decide) ?_
      exact z_zret (pc := 17) (zk9 kX5_isLower_0) rfl (Nat.zero_le _) (Nat.zero_le _) (by decide) ⟨by simp [lwB, oI, c_1, Int32.not_lt.mp c_1, c_2, Int32.not_le.mpr c_2], rfl, rfl⟩
    · refine z_iconst (pc := 12) (zk6 kX5_isLower_0) (v := 1) (by decide) ?_
      refine z_goto (pc := 13) (zk7 kX5_isLower_0) (tgt := 17) (by decide) ?_
      exact z_zret (pc := 17) (zk9 kX5_isLower_0) rfl (Nat.zero_le _) (Nat.zero_le _) (by decide) ⟨by simp [lwB, oI, c_1, Int32.not_lt.mp c_1, c_2, Int32.not_lt.mp c_2], rfl, rfl⟩
set_option maxRecDepth 20000 in
theorem c_isDigit {D : zD} {B : Nat} {h : zH} {sz : Nat} {x : Int32}  : zRd D B xX5_isDigit [.int x] h sz (.int (oI (dgB x))) := by
  refine zM.of (by decide) rfl (n := 0) ?_
  show Z D B xX5_isDigit 0 0 _ 0 [some (.int x)] [] h sz
  refine z_iload_n (pc := 0) (zk0 kX5_isDigit_0) rfl ?_
  refine z_bipush (pc := 1) (zk1 kX5_isDigit_0) (v := 48) (by decide) ?_
  refine z_icmp_lt (pc := 3) (zk2 kX5_isDigit_0) (tgt := 16) (by decide) (fun c_1 => ?_) (fun c_1 => ?_)
  · refine z_iconst (pc := 16) (zk8 kX5_isDigit_0) (v := 0) (by decide) ?_
    exact z_zret (pc := 17) (zk9 kX5_isDigit_0) rfl (Nat.zero_le _) (Nat.zero_le _) (by decide) ⟨by simp [dgB, oI, c_1, Int32.not_le.mpr c_1], rfl, rfl⟩
  · refine z_iload_n (pc := 6) (zk3 kX5_isDigit_0) rfl ?_
    refine z_bipush (pc := 7) (zk4 kX5_isDigit_0) (v := 57) (by decide) ?_
    refine z_icmp_gt (pc := 9) (zk5 kX5_isDigit_0) (tgt := 16) (by decide) (fun c_2 => ?_) (fun c_2 => ?_)
    · refine z_iconst (pc := 16) (zk8 kX5_isDigit_0) (v := 0) (by decide) ?_
      exact z_zret (pc := 17) (zk9 kX5_isDigit_0) rfl (Nat.zero_le _) (Nat.zero_le _) (by decide) ⟨by simp [dgB, oI, c_1, Int32.not_lt.mp c_1, c_2, Int32.not_le.mpr c_2], rfl, rfl⟩
    · refine z_iconst (pc := 12) (zk6 kX5_isDigit_0) (v := 1) (by decide) ?_
      refine z_goto (pc := 13) (zk7 kX5_isDigit_0) (tgt := 17) (by decide) ?_
      exact z_zret (pc := 17) (zk9 kX5_isDigit_0) rfl (Nat.zero_le _) (Nat.zero_le _) (by decide) ⟨by simp [dgB, oI, c_1, Int32.not_lt.mp c_1, c_2, Int32.not_lt.mp c_2], rfl, rfl⟩
set_option maxRecDepth 20000 in
theorem c_look {D : zD} {B : Nat} {h : zH} {sz : Nat} {p : Nat} {σ τ ω : Ln} {ε : El} {mv : Nat → Int64} {kp tr : Option Nat} {N a : Nat} (hM : MoAt h p σ τ ω ε mv kp tr) (hN : τ 6 0 = nI N) (hN2 : N ≤ 250) (ha : ω 8 0 = nI a) (ha2 : a ≤ N) (hB : B ≤ p) : zM D B xX5_look [.ref p] h sz (fun r h1 z1 => ∃ ω1 : Ln, r = none ∧ MoAt h1 p σ τ ω1 ε mv kp tr ∧ LK (τ 5) N ω1 a ∧ ω1 12 0 = ω 12 0 ∧ ω1 13 = ω 13 ∧ ω1 14 0 = ω 14 0 ∧ Upd h h1 p 29 ∧ z1 = sz) := by
  have hU : Upd h h p 29 := Upd.rf
  refine zM.of (by decide) rfl (n := 0) ?_
  show Z D B xX5_look 0 0 _ 0 [some (.ref p)] [] h sz
  have lp0 : ∀ (n_ : Nat) (g : zH) (w1 : Ln) (s : Nat), N - s < n_ → (MoAt g p σ τ w1 ε mv kp tr) → (w1 8 0 = nI s) → (w1 12 0 = ω 12 0) → (w1 13 = ω 13) → (w1 14 0 = ω 14 0) → (s ≤ N) → (skp (τ 5) N s = skp (τ 5) N a) → (Upd h g p 29) → Z D B xX5_look 0 0 (fun r h1 z1 => ∃ ω1 : Ln, r = none ∧ MoAt h1 p σ τ ω1 ε mv kp tr ∧ LK (τ 5) N ω1 a ∧ ω1 12 0 = ω 12 0 ∧ ω1 13 = ω 13 ∧ ω1 14 0 = ω 14 0 ∧ Upd h h1 p 29 ∧ z1 = sz) 0 [some (.ref p)] [] g sz := by
    intro n_
    induction n_ with
    | zero => intro g w1 s hm_; exact absurd hm_ (Nat.not_lt_zero _)
    | succ n_ ih0 =>
      intro g w1 s hm_ hM h8 h12 h13 h14 hs hk hU
      refine z_aload_n (pc := 0) (zk0 kX5_look_0) rfl ?_
      refine z_getf (pc := 1) (zk1 kX5_look_0) flX5_147 hM.1 (v := .int (nI s)) (by rw [← h8]; rfl) ?_
      refine z_aload_n (pc := 4) (zk2 kX5_look_0) rfl ?_
      refine z_getf (pc := 5) (zk3 kX5_look_0) flX5_144 hM.1 (v := .int (nI N)) (by rw [← hN]; rfl) ?_
      refine z_icmp_ge (pc := 8) (zk4 kX5_look_0) (tgt := 38) (by decide) (fun c_1 => ?_) (fun c_1 => ?_)
      · have hsk : skp (τ 5) N a = s := by rw [← hk]; exact skp_e ((nI_le_iff (by omega) (by omega)).mp c_1)
        refine z_aload_n (pc := 38) (zk3 kX5_look_1) rfl ?_
        refine z_aload_n (pc := 39) (zk4 kX5_look_1) rfl ?_
        refine z_getf (pc := 40) (zk5 kX5_look_1) flX5_147 hM.1 (v := .int (nI s)) (by rw [← h8]; rfl) ?_
        refine z_Mo_w27 (pc := 43) (zk6 kX5_look_1) flX5_150 hM (by omega) (fun h_2 hR hU_3 => ?_)
        replace hU := hU.tr hU_3 (by omega) (by omega)
        replace hM := hR; clear hR
        refine z_aload_n (pc := 46) (zk7 kX5_look_1) rfl ?_
        refine z_iconst (pc := 47) (zk8 kX5_look_1) (v := 0) (by decide) ?_
        refine z_Mo_w28 (pc := 48) (zk9 kX5_look_1) flX5_153 hM (by omega) (fun h_4 hR hU_5 => ?_)
        replace hU := hU.tr hU_5 (by omega) (by omega)
        replace hM := hR; clear hR
        refine z_aload_n (pc := 51) (zk10 kX5_look_1) rfl ?_
        refine z_getf (pc := 52) (zk11 kX5_look_1) flX5_147 hM.1 (v := .int (nI s)) (by rw [← h8]; rfl) ?_
        refine z_aload_n (pc := 55) (zk12 kX5_look_1) rfl ?_
        refine z_getf (pc := 56) (zk13 kX5_look_1) flX5_144 hM.1 (v := .int (nI N)) (by rw [← hN]; rfl) ?_
        refine z_icmp_ne (pc := 59) (zk14 kX5_look_1) (tgt := 70) (by decide) (fun c_6 => ?_) (fun c_6 => ?_)
        · have hlt2 : s < N := by
            have : ¬ s = N := fun q => c_6 ((nI_eqI (a := s) (b := N) (by omega) (by omega)).mpr q)
            omega
          refine z_aload_n (pc := 70) (zk3 kX5_look_2) rfl ?_
          refine z_getf (pc := 71) (zk4 kX5_look_2) flX5_31 hM.1 gMo_6 ?_
          refine z_aload_n (pc := 74) (zk5 kX5_look_2) rfl ?_
          refine z_getf (pc := 75) (zk6 kX5_look_2) flX5_147 hM.1 (v := .int (nI s)) (by rw [← h8]; rfl) ?_
          refine z_ialdN (pc := 78) (zk7 kX5_look_2) (f := τ 5) (j := s) hM.2.2.2.2.2.2.2.2.1 (show s < 250 by omega) rfl ?_
          refine z_rdS (pc := 79) (zk8 kX5_look_2) (st := []) lkX5_159 isX5_isLower (c_isLower) rfl ⟨rfl, rfl⟩ rfl rfl ?_ rfl
          refine z_oif_eq (pc := 82) (zk9 kX5_look_2) (tgt := 129) (by decide) (fun c_7 => ?_) (fun c_7 => ?_)
          · refine z_aload_n (pc := 129) (zk0 kX5_look_4) rfl ?_
            refine z_getf (pc := 130) (zk1 kX5_look_4) flX5_31 hM.1 gMo_6 ?_
            refine z_aload_n (pc := 133) (zk2 kX5_look_4) rfl ?_
            refine z_getf (pc := 134) (zk3 kX5_look_4) flX5_147 hM.1 (v := .int (nI s)) (by rw [← h8]; rfl) ?_
            refine z_ialdN (pc := 137) (zk4 kX5_look_4) (f := τ 5) (j := s) hM.2.2.2.2.2.2.2.2.1 (show s < 250 by omega) rfl ?_
            refine z_rdS (pc := 138) (zk5 kX5_look_4) (st := []) lkX5_162 isX5_isDigit (c_isDigit) rfl ⟨rfl, rfl⟩ rfl rfl ?_ rfl
            refine z_oif_eq (pc := 141) (zk6 kX5_look_4) (tgt := 231) (by decide) (fun c_8 => ?_) (fun c_8 => ?_)
            · refine z_aload_n (pc := 231) (zk4 kX5_look_7) rfl ?_
              refine z_aload_n (pc := 232) (zk5 kX5_look_7) rfl ?_
              refine z_getf (pc := 233) (zk6 kX5_look_7) flX5_31 hM.1 gMo_6 ?_
              refine z_aload_n (pc := 236) (zk7 kX5_look_7) rfl ?_
              refine z_getf (pc := 237) (zk8 kX5_look_7) flX5_147 hM.1 (v := .int (nI s)) (by rw [← h8]; rfl) ?_
              refine z_ialdN (pc := 240) (zk9 kX5_look_7) (f := τ 5) (j := s) hM.2.2.2.2.2.2.2.2.1 (show s < 250 by omega) rfl ?_
              refine z_bipush (pc := 241) (zk10 kX5_look_7) (v := 59) (by decide) ?_
              refine z_icmp_ne (pc := 243) (zk11 kX5_look_7) (tgt := 250) (by decide) (fun c_9 => ?_) (fun c_9 => ?_)
              · refine z_iconst (pc := 250) (zk14 kX5_look_7) (v := 4) (by decide) ?_
                refine z_Mo_w26 (pc := 251) (zk15 kX5_look_7) flX5_156 hM (by omega) (fun h_10 hR hU_11 => ?_)
                replace hU := hU.tr hU_11 (by omega) (by omega)
                replace hM := hR; clear hR
                refine z_aload_n (pc := 254) (zk0 kX5_look_8) rfl ?_
                refine z_dup (pc := 255) (zk1 kX5_look_8) rfl ?_
                refine z_getf (pc := 256) (zk2 kX5_look_8) flX5_147 hM.1 (v := .int (nI s)) (by rw [← h8]; rfl) ?_
                refine z_iconst (pc := 259) (zk3 kX5_look_8) (v := 1) (by decide) ?_
                refine z_iadd (pc := 260) (zk4 kX5_look_8) ?_
                refine z_top (congrArg Value.int (nI_1 s)) ?_
                refine z_Mo_w25 (pc := 261) (zk5 kX5_look_8) flX5_147 hM (by omega) (fun h_12 hR hU_13 => ?_)
                replace hU := hU.tr hU_13 (by omega) (by omega)
                replace hM := hR; clear hR
                exact z_vret (pc := 264) (zk6 kX5_look_8) rfl (Nat.zero_le _) (Nat.zero_le _) ⟨_, rfl, hM, by unfold LK; rw [hsk]; exact ⟨by rw [tkE_1 (fun q => by have := (lw_1 (f := τ 5) hlt2).mpr q; rw [c_7] at this; cases this) (fun q => by have := (dg_2 (f := τ 5) hlt2).mpr q; rw [c_8] at this; cases this) (by rw [(tk_34 (f := τ 5) hlt2 (fun q => by have := (lw_1 (f := τ 5) hlt2).mpr q; rw [c_7] at this; cases this) (fun q => by have := (dg_2 (f := τ 5) hlt2).mpr q; rw [c_8] at this; cases this)).trans (if_neg c_9)]; decide)]; rfl, by rw [(tk_34 (f := τ 5) hlt2 (fun q => by have := (lw_1 (f := τ 5) hlt2).mpr q; rw [c_7] at this; cases this) (fun q => by have := (dg_2 (f := τ 5) hlt2).mpr q; rw [c_8] at this; cases this)).trans (if_neg c_9)]; rfl, rfl, by rw [fgF, if_neg (fun q => by have := (dg_2 (f := τ 5) hlt2).mpr q; rw [c_8] at this; cases this)]; rfl⟩, h12, h13, h14, hU, rfl⟩
              · refine z_iconst (pc := 246) (zk12 kX5_look_7) (v := 3) (by decide) ?_
                refine z_goto (pc := 247) (zk13 kX5_look_7) (tgt := 251) (by decide) ?_
                refine z_Mo_w26 (pc := 251) (zk15 kX5_look_7) flX5_156 hM (by omega) (fun h_14 hR hU_15 => ?_)
                replace hU := hU.tr hU_15 (by omega) (by omega)
                replace hM := hR; clear hR
                refine z_aload_n (pc := 254) (zk0 kX5_look_8) rfl ?_
                refine z_dup (pc := 255) (zk1 kX5_look_8) rfl ?_
                refine z_getf (pc := 256) (zk2 kX5_look_8) flX5_147 hM.1 (v := .int (nI s)) (by rw [← h8]; rfl) ?_
                refine z_iconst (pc := 259) (zk3 kX5_look_8) (v := 1) (by decide) ?_
                refine z_iadd (pc := 260) (zk4 kX5_look_8) ?_
                refine z_top (congrArg Value.int (nI_1 s)) ?_
                refine z_Mo_w25 (pc := 261) (zk5 kX5_look_8) flX5_147 hM (by omega) (fun h_16 hR hU_17 => ?_)
                replace hU := hU.tr hU_17 (by omega) (by omega)
                replace hM := hR; clear hR
                exact z_vret (pc := 264) (zk6 kX5_look_8) rfl (Nat.zero_le _) (Nat.zero_le _) ⟨_, rfl, hM, by unfold LK; rw [hsk]; exact ⟨by rw [tkE_1 (fun q => by have := (lw_1 (f := τ 5) hlt2).mpr q; rw [c_7] at this; cases this) (fun q => by have := (dg_2 (f := τ 5) hlt2).mpr q; rw [c_8] at this; cases this) (by rw [(tk_34 (f := τ 5) hlt2 (fun q => by have := (lw_1 (f := τ 5) hlt2).mpr q; rw [c_7] at this; cases this) (fun q => by have := (dg_2 (f := τ 5) hlt2).mpr q; rw [c_8] at this; cases this)).trans (if_pos c_9)]; decide)]; rfl, by rw [(tk_34 (f := τ 5) hlt2 (fun q => by have := (lw_1 (f := τ 5) hlt2).mpr q; rw [c_7] at this; cases this) (fun q => by have := (dg_2 (f := τ 5) hlt2).mpr q; rw [c_8] at this; cases this)).trans (if_pos c_9)]; rfl, rfl, by rw [fgF, if_neg (fun q => by have := (dg_2 (f := τ 5) hlt2).mpr q; rw [c_8] at this; cases this)]; rfl⟩, h12, h13, h14, hU, rfl⟩
            · refine z_aload_n (pc := 144) (zk7 kX5_look_4) rfl ?_
              refine z_iconst (pc := 145) (zk8 kX5_look_4) (v := 2) (by decide) ?_
              refine z_Mo_w26 (pc := 146) (zk9 kX5_look_4) flX5_156 hM (by omega) (fun h_18 hR hU_19 => ?_)
              replace hU := hU.tr hU_19 (by omega) (by omega)
              replace hM := hR; clear hR
              have lp149 : ∀ (n_ : Nat) (g2 : zH) (w2 : Ln) (e : Nat), N - e < n_ → (MoAt g2 p σ τ w2 ε mv kp tr) → (w2 9 0 = nI 2) → (w2 10 0 = nI s) → (w2 8 0 = nI e) → (w2 11 0 = fgJ (τ 5) s e) → (w2 12 0 = ω 12 0) → (w2 13 = ω 13) → (w2 14 0 = ω 14 0) → (s ≤ e ∧ e ≤ N) → (ruN (τ 5) N 2 (N - e) e = tkE (τ 5) N s) → (Upd h g2 p 29) → Z D B xX5_look 0 0 (fun r h1 z1 => ∃ ω1 : Ln, r = none ∧ MoAt h1 p σ τ ω1 ε mv kp tr ∧ LK (τ 5) N ω1 a ∧ ω1 12 0 = ω 12 0 ∧ ω1 13 = ω 13 ∧ ω1 14 0 = ω 14 0 ∧ Upd h h1 p 29 ∧ z1 = sz) 149 [some (.ref p)] [] g2 sz := by
                intro n_
                induction n_ with
                | zero => intro g2 w2 e hm_; exact absurd hm_ (Nat.not_lt_zero _)
                | succ n_ ih149 =>
                  intro g2 w2 e hm_ hM f9 f10 f8 f11 g12 g13 g14 he hr hU
                  refine z_aload_n (pc := 149) (zk10 kX5_look_4) rfl ?_
                  refine z_getf (pc := 150) (zk11 kX5_look_4) flX5_147 hM.1 (v := .int (nI e)) (by rw [← f8]; rfl) ?_
                  refine z_aload_n (pc := 153) (zk12 kX5_look_4) rfl ?_
                  refine z_getf (pc := 154) (zk13 kX5_look_4) flX5_144 hM.1 (v := .int (nI N)) (by rw [← hN]; rfl) ?_
                  refine z_icmp_ge (pc := 157) (zk14 kX5_look_4) (tgt := 264) (by decide) (fun c_20 => ?_) (fun c_20 => ?_)
                  · exact z_vret (pc := 264) (zk6 kX5_look_8) rfl (Nat.zero_le _) (Nat.zero_le _) ⟨_, rfl, hM, by unfold LK; rw [hsk]; exact ⟨f8.trans (congrArg nI ((ruN_e ((nI_le_iff (by omega) (by omega)).mp c_20)).symm.trans hr)), by rw [((dg_2 hlt2).mp c_8)]; exact f9, f10, by rw [fgF, if_pos ((dg_2 hlt2).mp c_8), ← hr, (ruN_e ((nI_le_iff (by omega) (by omega)).mp c_20))]; exact f11⟩, g12, g13, g14, hU, rfl⟩
                  · have hlt3 : e < N := nI_ge_not (a := N) (by omega) (by omega) c_20
                    refine z_aload_n (pc := 160) (zk15 kX5_look_4) rfl ?_
                    refine z_getf (pc := 161) (zk0 kX5_look_5) flX5_31 hM.1 gMo_6 ?_
                    refine z_aload_n (pc := 164) (zk1 kX5_look_5) rfl ?_
                    refine z_getf (pc := 165) (zk2 kX5_look_5) flX5_147 hM.1 (v := .int (nI e)) (by rw [← f8]; rfl) ?_
                    refine z_ialdN (pc := 168) (zk3 kX5_look_5) (f := τ 5) (j := e) hM.2.2.2.2.2.2.2.2.1 (show e < 250 by omega) rfl ?_
                    refine z_rdS (pc := 169) (zk4 kX5_look_5) (st := []) lkX5_162 isX5_isDigit (c_isDigit) rfl ⟨rfl, rfl⟩ rfl rfl ?_ rfl
                    refine z_oif_eq (pc := 172) (zk5 kX5_look_5) (tgt := 264) (by decide) (fun c_21 => ?_) (fun c_21 => ?_)
                    · exact z_vret (pc := 264) (zk6 kX5_look_8) rfl (Nat.zero_le _) (Nat.zero_le _) ⟨_, rfl, hM, by unfold LK; rw [hsk]; exact ⟨f8.trans (congrArg nI ((ruN_h (fun q => by have := (dg_2 (f := τ 5) hlt3).mpr q; rw [c_21] at this; cases this)).symm.trans hr)), by rw [((dg_2 hlt2).mp c_8)]; exact f9, f10, by rw [fgF, if_pos ((dg_2 hlt2).mp c_8), ← hr, (ruN_h (fun q => by have := (dg_2 (f := τ 5) hlt3).mpr q; rw [c_21] at this; cases this))]; exact f11⟩, g12, g13, g14, hU, rfl⟩
                    · refine z_aload_n (pc := 175) (zk6 kX5_look_5) rfl ?_
                      refine z_aload_n (pc := 176) (zk7 kX5_look_5) rfl ?_
                      refine z_getf (pc := 177) (zk8 kX5_look_5) flX5_147 hM.1 (v := .int (nI e)) (by rw [← f8]; rfl) ?_
                      refine z_aload_n (pc := 180) (zk9 kX5_look_5) rfl ?_
                      refine z_getf (pc := 181) (zk10 kX5_look_5) flX5_150 hM.1 (v := .int (nI s)) (by rw [← f10]; rfl) ?_
                      refine z_isub (pc := 184) (zk11 kX5_look_5) ?_
                      refine z_top (congrArg Value.int (nI_sub1 he.1)) ?_
                      refine z_iconst (pc := 185) (zk12 kX5_look_5) (v := 2) (by decide) ?_
                      refine z_icmp_ge (pc := 186) (zk13 kX5_look_5) (tgt := 212) (by decide) (fun c_22 => ?_) (fun c_22 => ?_)
                      · have hd2 : ¬ e - s < 2 := by
                          have := (nI_le_iff (a := 2) (by omega) (by omega)).mp c_22
                          omega
                        refine z_sipush (pc := 212) (zk11 kX5_look_6) (v := 1000) (by decide) ?_
                        refine z_Mo_w28 (pc := 215) (zk12 kX5_look_6) flX5_153 hM (by omega) (fun h_23 hR hU_24 => ?_)
                        replace hU := hU.tr hU_24 (by omega) (by omega)
                        replace hM := hR; clear hR
                        refine z_aload_n (pc := 218) (zk13 kX5_look_6) rfl ?_
                        refine z_dup (pc := 219) (zk14 kX5_look_6) rfl ?_
                        refine z_getf (pc := 220) (zk15 kX5_look_6) flX5_147 hM.1 (v := .int (nI e)) (by rw [← f8]; rfl) ?_
                        refine z_iconst (pc := 223) (zk0 kX5_look_7) (v := 1) (by decide) ?_
                        refine z_iadd (pc := 224) (zk1 kX5_look_7) ?_
                        refine z_top (congrArg Value.int (nI_1 e)) ?_
                        refine z_Mo_w25 (pc := 225) (zk2 kX5_look_7) flX5_147 hM (by omega) (fun h_25 hR hU_26 => ?_)
                        replace hU := hU.tr hU_26 (by omega) (by omega)
                        replace hM := hR; clear hR
                        refine z_goto (pc := 228) (zk3 kX5_look_7) (tgt := 149) (by decide) ?_
                        exact ih149 h_25 (up2 (up2 w2 11 0 1000) 8 0 (nI (e + 1))) (e + 1) (by omega) hM f9 f10 rfl (by rw [← fgJ_b (f := τ 5) he.1 hd2]; rfl) g12 g13 g14 (by omega) (by rw [← hr]; exact (ruN_s hlt3 ((dg_2 hlt3).mp c_21)).symm) hU
                      · have hd2 : e - s < 2 := by
                          have : ¬ 2 ≤ e - s := fun q => c_22 ((nI_le_iff (a := 2) (by omega) (by omega)).mpr q)
                          omega
                        refine z_aload_n (pc := 189) (zk14 kX5_look_5) rfl ?_
                        refine z_getf (pc := 190) (zk15 kX5_look_5) flX5_153 hM.1 (v := .int (w2 11 0)) rfl ?_
                        refine z_bipush (pc := 193) (zk0 kX5_look_6) (v := 10) (by decide) ?_
                        refine z_imul (pc := 195) (zk1 kX5_look_6) ?_
                        refine z_aload_n (pc := 196) (zk2 kX5_look_6) rfl ?_
                        refine z_getf (pc := 197) (zk3 kX5_look_6) flX5_31 hM.1 gMo_6 ?_
                        refine z_aload_n (pc := 200) (zk4 kX5_look_6) rfl ?_
                        refine z_getf (pc := 201) (zk5 kX5_look_6) flX5_147 hM.1 (v := .int (nI e)) (by rw [← f8]; rfl) ?_
                        refine z_ialdN (pc := 204) (zk6 kX5_look_6) (f := τ 5) (j := e) hM.2.2.2.2.2.2.2.2.1 (show e < 250 by omega) rfl ?_
                        refine z_iadd (pc := 205) (zk7 kX5_look_6) ?_
                        refine z_bipush (pc := 206) (zk8 kX5_look_6) (v := 48) (by decide) ?_
                        refine z_isub (pc := 208) (zk9 kX5_look_6) ?_
                        refine z_goto (pc := 209) (zk10 kX5_look_6) (tgt := 215) (by decide) ?_
                        refine z_Mo_w28 (pc := 215) (zk12 kX5_look_6) flX5_153 hM (by omega) (fun h_27 hR hU_28 => ?_)
                        replace hU := hU.tr hU_28 (by omega) (by omega)
                        replace hM := hR; clear hR
                        refine z_aload_n (pc := 218) (zk13 kX5_look_6) rfl ?_
                        refine z_dup (pc := 219) (zk14 kX5_look_6) rfl ?_
                        refine z_getf (pc := 220) (zk15 kX5_look_6) flX5_147 hM.1 (v := .int (nI e)) (by rw [← f8]; rfl) ?_
                        refine z_iconst (pc := 223) (zk0 kX5_look_7) (v := 1) (by decide) ?_
                        refine z_iadd (pc := 224) (zk1 kX5_look_7) ?_
                        refine z_top (congrArg Value.int (nI_1 e)) ?_
                        refine z_Mo_w25 (pc := 225) (zk2 kX5_look_7) flX5_147 hM (by omega) (fun h_29 hR hU_30 => ?_)
                        replace hU := hU.tr hU_30 (by omega) (by omega)
                        replace hM := hR; clear hR
                        refine z_goto (pc := 228) (zk3 kX5_look_7) (tgt := 149) (by decide) ?_
                        exact ih149 h_29 (up2 (up2 w2 11 0 ((((w2 11 0) * 10) + (τ 5 e)) - 48)) 8 0 (nI (e + 1))) (e + 1) (by omega) hM f9 f10 rfl (by rw [← fgJ_a he.1 hd2, ← f11]; rfl) g12 g13 g14 (by omega) (by rw [← hr]; exact (ruN_s hlt3 ((dg_2 hlt3).mp c_21)).symm) hU
              exact lp149 _ h_18 (up2 (up2 (up2 w1 10 0 (nI s)) 11 0 0) 9 0 2) s (Nat.lt_succ_self _) hM rfl rfl h8 (by rw [fgJ, Nat.sub_self]; rfl) h12 h13 h14 (by omega) (by rw [tkE_run (Or.inr ((dg_2 hlt2).mp c_8)), ((dg_2 hlt2).mp c_8)]) hU
          · refine z_aload_n (pc := 85) (zk10 kX5_look_2) rfl ?_
            refine z_iconst (pc := 86) (zk11 kX5_look_2) (v := 1) (by decide) ?_
            refine z_Mo_w26 (pc := 87) (zk12 kX5_look_2) flX5_156 hM (by omega) (fun h_31 hR hU_32 => ?_)
            replace hU := hU.tr hU_32 (by omega) (by omega)
            replace hM := hR; clear hR
            have lp90 : ∀ (n_ : Nat) (g2 : zH) (w2 : Ln) (e : Nat), N - e < n_ → (MoAt g2 p σ τ w2 ε mv kp tr) → (w2 9 0 = nI 1) → (w2 10 0 = nI s) → (w2 8 0 = nI e) → (w2 11 0 = 0) → (w2 12 0 = ω 12 0) → (w2 13 = ω 13) → (w2 14 0 = ω 14 0) → (s ≤ e ∧ e ≤ N) → (ruN (τ 5) N 1 (N - e) e = tkE (τ 5) N s) → (Upd h g2 p 29) → Z D B xX5_look 0 0 (fun r h1 z1 => ∃ ω1 : Ln, r = none ∧ MoAt h1 p σ τ ω1 ε mv kp tr ∧ LK (τ 5) N ω1 a ∧ ω1 12 0 = ω 12 0 ∧ ω1 13 = ω 13 ∧ ω1 14 0 = ω 14 0 ∧ Upd h h1 p 29 ∧ z1 = sz) 90 [some (.ref p)] [] g2 sz := by
              intro n_
              induction n_ with
              | zero => intro g2 w2 e hm_; exact absurd hm_ (Nat.not_lt_zero _)
              | succ n_ ih90 =>
                intro g2 w2 e hm_ hM f9 f10 f8 f11 g12 g13 g14 he hr hU
                refine z_aload_n (pc := 90) (zk13 kX5_look_2) rfl ?_
                refine z_getf (pc := 91) (zk14 kX5_look_2) flX5_147 hM.1 (v := .int (nI e)) (by rw [← f8]; rfl) ?_
                refine z_aload_n (pc := 94) (zk15 kX5_look_2) rfl ?_
                refine z_getf (pc := 95) (zk0 kX5_look_3) flX5_144 hM.1 (v := .int (nI N)) (by rw [← hN]; rfl) ?_
                refine z_icmp_ge (pc := 98) (zk1 kX5_look_3) (tgt := 264) (by decide) (fun c_33 => ?_) (fun c_33 => ?_)
                · exact z_vret (pc := 264) (zk6 kX5_look_8) rfl (Nat.zero_le _) (Nat.zero_le _) ⟨_, rfl, hM, by unfold LK; rw [hsk]; exact ⟨f8.trans (congrArg nI ((ruN_e ((nI_le_iff (by omega) (by omega)).mp c_33)).symm.trans hr)), by rw [((lw_1 hlt2).mp c_7)]; exact f9, f10, by rw [fgF, if_neg (by rw [((lw_1 hlt2).mp c_7)]; decide)]; exact f11⟩, g12, g13, g14, hU, rfl⟩
                · have hlt3 : e < N := nI_ge_not (a := N) (by omega) (by omega) c_33
                  refine z_aload_n (pc := 101) (zk2 kX5_look_3) rfl ?_
                  refine z_getf (pc := 102) (zk3 kX5_look_3) flX5_31 hM.1 gMo_6 ?_
                  refine z_aload_n (pc := 105) (zk4 kX5_look_3) rfl ?_
                  refine z_getf (pc := 106) (zk5 kX5_look_3) flX5_147 hM.1 (v := .int (nI e)) (by rw [← f8]; rfl) ?_
                  refine z_ialdN (pc := 109) (zk6 kX5_look_3) (f := τ 5) (j := e) hM.2.2.2.2.2.2.2.2.1 (show e < 250 by omega) rfl ?_
                  refine z_rdS (pc := 110) (zk7 kX5_look_3) (st := []) lkX5_159 isX5_isLower (c_isLower) rfl ⟨rfl, rfl⟩ rfl rfl ?_ rfl
                  refine z_oif_eq (pc := 113) (zk8 kX5_look_3) (tgt := 264) (by decide) (fun c_34 => ?_) (fun c_34 => ?_)
                  · exact z_vret (pc := 264) (zk6 kX5_look_8) rfl (Nat.zero_le _) (Nat.zero_le _) ⟨_, rfl, hM, by unfold LK; rw [hsk]; exact ⟨f8.trans (congrArg nI ((ruN_h (fun q => by have := (lw_1 (f := τ 5) hlt3).mpr q; rw [c_34] at this; cases this)).symm.trans hr)), by rw [((lw_1 hlt2).mp c_7)]; exact f9, f10, by rw [fgF, if_neg (by rw [((lw_1 hlt2).mp c_7)]; decide)]; exact f11⟩, g12, g13, g14, hU, rfl⟩
                  · refine z_aload_n (pc := 116) (zk9 kX5_look_3) rfl ?_
                    refine z_dup (pc := 117) (zk10 kX5_look_3) rfl ?_
                    refine z_getf (pc := 118) (zk11 kX5_look_3) flX5_147 hM.1 (v := .int (nI e)) (by rw [← f8]; rfl) ?_
                    refine z_iconst (pc := 121) (zk12 kX5_look_3) (v := 1) (by decide) ?_
                    refine z_iadd (pc := 122) (zk13 kX5_look_3) ?_
                    refine z_top (congrArg Value.int (nI_1 e)) ?_
                    refine z_Mo_w25 (pc := 123) (zk14 kX5_look_3) flX5_147 hM (by omega) (fun h_35 hR hU_36 => ?_)
                    replace hU := hU.tr hU_36 (by omega) (by omega)
                    replace hM := hR; clear hR
                    refine z_goto (pc := 126) (zk15 kX5_look_3) (tgt := 90) (by decide) ?_
                    exact ih90 h_35 (up2 w2 8 0 (nI (e + 1))) (e + 1) (by omega) hM f9 f10 rfl f11 g12 g13 g14 (by omega) (by rw [← hr]; exact (ruN_s hlt3 ((lw_1 hlt3).mp c_34)).symm) hU
            exact lp90 _ h_31 (up2 (up2 (up2 w1 10 0 (nI s)) 11 0 0) 9 0 1) s (Nat.lt_succ_self _) hM rfl rfl h8 rfl h12 h13 h14 (by omega) (by rw [tkE_run (Or.inl ((lw_1 hlt2).mp c_7)), ((lw_1 hlt2).mp c_7)]) hU
        · refine z_aload_n (pc := 62) (zk15 kX5_look_1) rfl ?_
          refine z_iconst (pc := 63) (zk0 kX5_look_2) (v := 0) (by decide) ?_
          refine z_Mo_w26 (pc := 64) (zk1 kX5_look_2) flX5_156 hM (by omega) (fun h_37 hR hU_38 => ?_)
          replace hU := hU.tr hU_38 (by omega) (by omega)
          replace hM := hR; clear hR
          refine z_goto (pc := 67) (zk2 kX5_look_2) (tgt := 264) (by decide) ?_
          exact z_vret (pc := 264) (zk6 kX5_look_8) rfl (Nat.zero_le _) (Nat.zero_le _) ⟨_, rfl, hM, by unfold LK; rw [hsk]; exact ⟨by rw [tkE_0 (tkS_0 (f := τ 5) (Nat.le_of_eq ((nI_eqI (a := s) (b := N) (by omega) (by omega)).mp c_6).symm))]; exact h8, by rw [(tkS_0 (f := τ 5) (Nat.le_of_eq ((nI_eqI (a := s) (b := N) (by omega) (by omega)).mp c_6).symm))]; rfl, rfl, by rw [fgF, if_neg (by rw [(tkS_0 (f := τ 5) (Nat.le_of_eq ((nI_eqI (a := s) (b := N) (by omega) (by omega)).mp c_6).symm))]; decide)]; rfl⟩, h12, h13, h14, hU, rfl⟩
      · have hlt : s < N := nI_ge_not (a := N) (by omega) (by omega) c_1
        refine z_aload_n (pc := 11) (zk5 kX5_look_0) rfl ?_
        refine z_getf (pc := 12) (zk6 kX5_look_0) flX5_31 hM.1 gMo_6 ?_
        refine z_aload_n (pc := 15) (zk7 kX5_look_0) rfl ?_
        refine z_getf (pc := 16) (zk8 kX5_look_0) flX5_147 hM.1 (v := .int (nI s)) (by rw [← h8]; rfl) ?_
        refine z_ialdN (pc := 19) (zk9 kX5_look_0) (f := τ 5) (j := s) hM.2.2.2.2.2.2.2.2.1 (show s < 250 by omega) rfl ?_
        refine z_bipush (pc := 20) (zk10 kX5_look_0) (v := 32) (by decide) ?_
        refine z_icmp_ne (pc := 22) (zk11 kX5_look_0) (tgt := 38) (by decide) (fun c_39 => ?_) (fun c_39 => ?_)
        · have hsk : skp (τ 5) N a = s := by rw [← hk]; exact skp_h c_39
          refine z_aload_n (pc := 38) (zk3 kX5_look_1) rfl ?_
          refine z_aload_n (pc := 39) (zk4 kX5_look_1) rfl ?_
          refine z_getf (pc := 40) (zk5 kX5_look_1) flX5_147 hM.1 (v := .int (nI s)) (by rw [← h8]; rfl) ?_
          refine z_Mo_w27 (pc := 43) (zk6 kX5_look_1) flX5_150 hM (by omega) (fun h_40 hR hU_41 => ?_)
          replace hU := hU.tr hU_41 (by omega) (by omega)
          replace hM := hR; clear hR
          refine z_aload_n (pc := 46) (zk7 kX5_look_1) rfl ?_
          refine z_iconst (pc := 47) (zk8 kX5_look_1) (v := 0) (by decide) ?_
          refine z_Mo_w28 (pc := 48) (zk9 kX5_look_1) flX5_153 hM (by omega) (fun h_42 hR hU_43 => ?_)
          replace hU := hU.tr hU_43 (by omega) (by omega)
          replace hM := hR; clear hR
          refine z_aload_n (pc := 51) (zk10 kX5_look_1) rfl ?_
          refine z_getf (pc := 52) (zk11 kX5_look_1) flX5_147 hM.1 (v := .int (nI s)) (by rw [← h8]; rfl) ?_
          refine z_aload_n (pc := 55) (zk12 kX5_look_1) rfl ?_
          refine z_getf (pc := 56) (zk13 kX5_look_1) flX5_144 hM.1 (v := .int (nI N)) (by rw [← hN]; rfl) ?_
          refine z_icmp_ne (pc := 59) (zk14 kX5_look_1) (tgt := 70) (by decide) (fun c_44 => ?_) (fun c_44 => ?_)
          · have hlt2 : s < N := by
              have : ¬ s = N := fun q => c_44 ((nI_eqI (a := s) (b := N) (by omega) (by omega)).mpr q)
              omega
            refine z_aload_n (pc := 70) (zk3 kX5_look_2) rfl ?_
            refine z_getf (pc := 71) (zk4 kX5_look_2) flX5_31 hM.1 gMo_6 ?_
            refine z_aload_n (pc := 74) (zk5 kX5_look_2) rfl ?_
            refine z_getf (pc := 75) (zk6 kX5_look_2) flX5_147 hM.1 (v := .int (nI s)) (by rw [← h8]; rfl) ?_
            refine z_ialdN (pc := 78) (zk7 kX5_look_2) (f := τ 5) (j := s) hM.2.2.2.2.2.2.2.2.1 (show s < 250 by omega) rfl ?_
            refine z_rdS (pc := 79) (zk8 kX5_look_2) (st := []) lkX5_159 isX5_isLower (c_isLower) rfl ⟨rfl, rfl⟩ rfl rfl ?_ rfl
            refine z_oif_eq (pc := 82) (zk9 kX5_look_2) (tgt := 129) (by decide) (fun c_45 => ?_) (fun c_45 => ?_)
            · refine z_aload_n (pc := 129) (zk0 kX5_look_4) rfl ?_
              refine z_getf (pc := 130) (zk1 kX5_look_4) flX5_31 hM.1 gMo_6 ?_
              refine z_aload_n (pc := 133) (zk2 kX5_look_4) rfl ?_
              refine z_getf (pc := 134) (zk3 kX5_look_4) flX5_147 hM.1 (v := .int (nI s)) (by rw [← h8]; rfl) ?_
              refine z_ialdN (pc := 137) (zk4 kX5_look_4) (f := τ 5) (j := s) hM.2.2.2.2.2.2.2.2.1 (show s < 250 by omega) rfl ?_
              refine z_rdS (pc := 138) (zk5 kX5_look_4) (st := []) lkX5_162 isX5_isDigit (c_isDigit) rfl ⟨rfl, rfl⟩ rfl rfl ?_ rfl
              refine z_oif_eq (pc := 141) (zk6 kX5_look_4) (tgt := 231) (by decide) (fun c_46 => ?_) (fun c_46 => ?_)
              · refine z_aload_n (pc := 231) (zk4 kX5_look_7) rfl ?_
                refine z_aload_n (pc := 232) (zk5 kX5_look_7) rfl ?_
                refine z_getf (pc := 233) (zk6 kX5_look_7) flX5_31 hM.1 gMo_6 ?_
                refine z_aload_n (pc := 236) (zk7 kX5_look_7) rfl ?_
                refine z_getf (pc := 237) (zk8 kX5_look_7) flX5_147 hM.1 (v := .int (nI s)) (by rw [← h8]; rfl) ?_
                refine z_ialdN (pc := 240) (zk9 kX5_look_7) (f := τ 5) (j := s) hM.2.2.2.2.2.2.2.2.1 (show s < 250 by omega) rfl ?_
                refine z_bipush (pc := 241) (zk10 kX5_look_7) (v := 59) (by decide) ?_
                refine z_icmp_ne (pc := 243) (zk11 kX5_look_7) (tgt := 250) (by decide) (fun c_47 => ?_) (fun c_47 => ?_)
                · refine z_iconst (pc := 250) (zk14 kX5_look_7) (v := 4) (by decide) ?_
                  refine z_Mo_w26 (pc := 251) (zk15 kX5_look_7) flX5_156 hM (by omega) (fun h_48 hR hU_49 => ?_)
                  replace hU := hU.tr hU_49 (by omega) (by omega)
                  replace hM := hR; clear hR
                  refine z_aload_n (pc := 254) (zk0 kX5_look_8) rfl ?_
                  refine z_dup (pc := 255) (zk1 kX5_look_8) rfl ?_
                  refine z_getf (pc := 256) (zk2 kX5_look_8) flX5_147 hM.1 (v := .int (nI s)) (by rw [← h8]; rfl) ?_
                  refine z_iconst (pc := 259) (zk3 kX5_look_8) (v := 1) (by decide) ?_
                  refine z_iadd (pc := 260) (zk4 kX5_look_8) ?_
                  refine z_top (congrArg Value.int (nI_1 s)) ?_
                  refine z_Mo_w25 (pc := 261) (zk5 kX5_look_8) flX5_147 hM (by omega) (fun h_50 hR hU_51 => ?_)
                  replace hU := hU.tr hU_51 (by omega) (by omega)
                  replace hM := hR; clear hR
                  exact z_vret (pc := 264) (zk6 kX5_look_8) rfl (Nat.zero_le _) (Nat.zero_le _) ⟨_, rfl, hM, by unfold LK; rw [hsk]; exact ⟨by rw [tkE_1 (fun q => by have := (lw_1 (f := τ 5) hlt2).mpr q; rw [c_45] at this; cases this) (fun q => by have := (dg_2 (f := τ 5) hlt2).mpr q; rw [c_46] at this; cases this) (by rw [(tk_34 (f := τ 5) hlt2 (fun q => by have := (lw_1 (f := τ 5) hlt2).mpr q; rw [c_45] at this; cases this) (fun q => by have := (dg_2 (f := τ 5) hlt2).mpr q; rw [c_46] at this; cases this)).trans (if_neg c_47)]; decide)]; rfl, by rw [(tk_34 (f := τ 5) hlt2 (fun q => by have := (lw_1 (f := τ 5) hlt2).mpr q; rw [c_45] at this; cases this) (fun q => by have := (dg_2 (f := τ 5) hlt2).mpr q; rw [c_46] at this; cases this)).trans (if_neg c_47)]; rfl, rfl, by rw [fgF, if_neg (fun q => by have := (dg_2 (f := τ 5) hlt2).mpr q; rw [c_46] at this; cases this)]; rfl⟩, h12, h13, h14, hU, rfl⟩
                · refine z_iconst (pc := 246) (zk12 kX5_look_7) (v := 3) (by decide) ?_
                  refine z_goto (pc := 247) (zk13 kX5_look_7) (tgt := 251) (by decide) ?_
                  refine z_Mo_w26 (pc := 251) (zk15 kX5_look_7) flX5_156 hM (by omega) (fun h_52 hR hU_53 => ?_)
                  replace hU := hU.tr hU_53 (by omega) (by omega)
                  replace hM := hR; clear hR
                  refine z_aload_n (pc := 254) (zk0 kX5_look_8) rfl ?_
                  refine z_dup (pc := 255) (zk1 kX5_look_8) rfl ?_
                  refine z_getf (pc := 256) (zk2 kX5_look_8) flX5_147 hM.1 (v := .int (nI s)) (by rw [← h8]; rfl) ?_
                  refine z_iconst (pc := 259) (zk3 kX5_look_8) (v := 1) (by decide) ?_
                  refine z_iadd (pc := 260) (zk4 kX5_look_8) ?_
                  refine z_top (congrArg Value.int (nI_1 s)) ?_
                  refine z_Mo_w25 (pc := 261) (zk5 kX5_look_8) flX5_147 hM (by omega) (fun h_54 hR hU_55 => ?_)
                  replace hU := hU.tr hU_55 (by omega) (by omega)
                  replace hM := hR; clear hR
                  exact z_vret (pc := 264) (zk6 kX5_look_8) rfl (Nat.zero_le _) (Nat.zero_le _) ⟨_, rfl, hM, by unfold LK; rw [hsk]; exact ⟨by rw [tkE_1 (fun q => by have := (lw_1 (f := τ 5) hlt2).mpr q; rw [c_45] at this; cases this) (fun q => by have := (dg_2 (f := τ 5) hlt2).mpr q; rw [c_46] at this; cases this) (by rw [(tk_34 (f := τ 5) hlt2 (fun q => by have := (lw_1 (f := τ 5) hlt2).mpr q; rw [c_45] at this; cases this) (fun q => by have := (dg_2 (f := τ 5) hlt2).mpr q; rw [c_46] at this; cases this)).trans (if_pos c_47)]; decide)]; rfl, by rw [(tk_34 (f := τ 5) hlt2 (fun q => by have := (lw_1 (f := τ 5) hlt2).mpr q; rw [c_45] at this; cases this) (fun q => by have := (dg_2 (f := τ 5) hlt2).mpr q; rw [c_46] at this; cases this)).trans (if_pos c_47)]; rfl, rfl, by rw [fgF, if_neg (fun q => by have := (dg_2 (f := τ 5) hlt2).mpr q; rw [c_46] at this; cases this)]; rfl⟩, h12, h13, h14, hU, rfl⟩
              · refine z_aload_n (pc := 144) (zk7 kX5_look_4) rfl ?_
                refine z_iconst (pc := 145) (zk8 kX5_look_4) (v := 2) (by decide) ?_
                refine z_Mo_w26 (pc := 146) (zk9 kX5_look_4) flX5_156 hM (by omega) (fun h_56 hR hU_57 => ?_)
                replace hU := hU.tr hU_57 (by omega) (by omega)
                replace hM := hR; clear hR
                have lp149 : ∀ (n_ : Nat) (g2 : zH) (w2 : Ln) (e : Nat), N - e < n_ → (MoAt g2 p σ τ w2 ε mv kp tr) → (w2 9 0 = nI 2) → (w2 10 0 = nI s) → (w2 8 0 = nI e) → (w2 11 0 = fgJ (τ 5) s e) → (w2 12 0 = ω 12 0) → (w2 13 = ω 13) → (w2 14 0 = ω 14 0) → (s ≤ e ∧ e ≤ N) → (ruN (τ 5) N 2 (N - e) e = tkE (τ 5) N s) → (Upd h g2 p 29) → Z D B xX5_look 0 0 (fun r h1 z1 => ∃ ω1 : Ln, r = none ∧ MoAt h1 p σ τ ω1 ε mv kp tr ∧ LK (τ 5) N ω1 a ∧ ω1 12 0 = ω 12 0 ∧ ω1 13 = ω 13 ∧ ω1 14 0 = ω 14 0 ∧ Upd h h1 p 29 ∧ z1 = sz) 149 [some (.ref p)] [] g2 sz := by
                  intro n_
                  induction n_ with
                  | zero => intro g2 w2 e hm_; exact absurd hm_ (Nat.not_lt_zero _)
                  | succ n_ ih149 =>
                    intro g2 w2 e hm_ hM f9 f10 f8 f11 g12 g13 g14 he hr hU
                    refine z_aload_n (pc := 149) (zk10 kX5_look_4) rfl ?_
                    refine z_getf (pc := 150) (zk11 kX5_look_4) flX5_147 hM.1 (v := .int (nI e)) (by rw [← f8]; rfl) ?_
                    refine z_aload_n (pc := 153) (zk12 kX5_look_4) rfl ?_
                    refine z_getf (pc := 154) (zk13 kX5_look_4) flX5_144 hM.1 (v := .int (nI N)) (by rw [← hN]; rfl) ?_
                    refine z_icmp_ge (pc := 157) (zk14 kX5_look_4) (tgt := 264) (by decide) (fun c_58 => ?_) (fun c_58 => ?_)
                    · exact z_vret (pc := 264) (zk6 kX5_look_8) rfl (Nat.zero_le _) (Nat.zero_le _) ⟨_, rfl, hM, by unfold LK; rw [hsk]; exact ⟨f8.trans (congrArg nI ((ruN_e ((nI_le_iff (by omega) (by omega)).mp c_58)).symm.trans hr)), by rw [((dg_2 hlt2).mp c_46)]; exact f9, f10, by rw [fgF, if_pos ((dg_2 hlt2).mp c_46), ← hr, (ruN_e ((nI_le_iff (by omega) (by omega)).mp c_58))]; exact f11⟩, g12, g13, g14, hU, rfl⟩
                    · have hlt3 : e < N := nI_ge_not (a := N) (by omega) (by omega) c_58
                      refine z_aload_n (pc := 160) (zk15 kX5_look_4) rfl ?_
                      refine z_getf (pc := 161) (zk0 kX5_look_5) flX5_31 hM.1 gMo_6 ?_
                      refine z_aload_n (pc := 164) (zk1 kX5_look_5) rfl ?_
                      refine z_getf (pc := 165) (zk2 kX5_look_5) flX5_147 hM.1 (v := .int (nI e)) (by rw [← f8]; rfl) ?_
                      refine z_ialdN (pc := 168) (zk3 kX5_look_5) (f := τ 5) (j := e) hM.2.2.2.2.2.2.2.2.1 (show e < 250 by omega) rfl ?_
                      refine z_rdS (pc := 169) (zk4 kX5_look_5) (st := []) lkX5_162 isX5_isDigit (c_isDigit) rfl ⟨rfl, rfl⟩ rfl rfl ?_ rfl
                      refine z_oif_eq (pc := 172) (zk5 kX5_look_5) (tgt := 264) (by decide) (fun c_59 => ?_) (fun c_59 => ?_)
                      · exact z_vret (pc := 264) (zk6 kX5_look_8) rfl (Nat.zero_le _) (Nat.zero_le _) ⟨_, rfl, hM, by unfold LK; rw [hsk]; exact ⟨f8.trans (congrArg nI ((ruN_h (fun q => by have := (dg_2 (f := τ 5) hlt3).mpr q; rw [c_59] at this; cases this)).symm.trans hr)), by rw [((dg_2 hlt2).mp c_46)]; exact f9, f10, by rw [fgF, if_pos ((dg_2 hlt2).mp c_46), ← hr, (ruN_h (fun q => by have := (dg_2 (f := τ 5) hlt3).mpr q; rw [c_59] at this; cases this))]; exact f11⟩, g12, g13, g14, hU, rfl⟩
                      · refine z_aload_n (pc := 175) (zk6 kX5_look_5) rfl ?_
                        refine z_aload_n (pc := 176) (zk7 kX5_look_5) rfl ?_
                        refine z_getf (pc := 177) (zk8 kX5_look_5) flX5_147 hM.1 (v := .int (nI e)) (by rw [← f8]; rfl) ?_
                        refine z_aload_n (pc := 180) (zk9 kX5_look_5) rfl ?_
                        refine z_getf (pc := 181) (zk10 kX5_look_5) flX5_150 hM.1 (v := .int (nI s)) (by rw [← f10]; rfl) ?_
                        refine z_isub (pc := 184) (zk11 kX5_look_5) ?_
                        refine z_top (congrArg Value.int (nI_sub1 he.1)) ?_
                        refine z_iconst (pc := 185) (zk12 kX5_look_5) (v := 2) (by decide) ?_
                        refine z_icmp_ge (pc := 186) (zk13 kX5_look_5) (tgt := 212) (by decide) (fun c_60 => ?_) (fun c_60 => ?_)
                        · have hd2 : ¬ e - s < 2 := by
                            have := (nI_le_iff (a := 2) (by omega) (by omega)).mp c_60
                            omega
                          refine z_sipush (pc := 212) (zk11 kX5_look_6) (v := 1000) (by decide) ?_
                          refine z_Mo_w28 (pc := 215) (zk12 kX5_look_6) flX5_153 hM (by omega) (fun h_61 hR hU_62 => ?_)
                          replace hU := hU.tr hU_62 (by omega) (by omega)
                          replace hM := hR; clear hR
                          refine z_aload_n (pc := 218) (zk13 kX5_look_6) rfl ?_
                          refine z_dup (pc := 219) (zk14 kX5_look_6) rfl ?_
                          refine z_getf (pc := 220) (zk15 kX5_look_6) flX5_147 hM.1 (v := .int (nI e)) (by rw [← f8]; rfl) ?_
                          refine z_iconst (pc := 223) (zk0 kX5_look_7) (v := 1) (by decide) ?_
                          refine z_iadd (pc := 224) (zk1 kX5_look_7) ?_
                          refine z_top (congrArg Value.int (nI_1 e)) ?_
                          refine z_Mo_w25 (pc := 225) (zk2 kX5_look_7) flX5_147 hM (by omega) (fun h_63 hR hU_64 => ?_)
                          replace hU := hU.tr hU_64 (by omega) (by omega)
                          replace hM := hR; clear hR
                          refine z_goto (pc := 228) (zk3 kX5_look_7) (tgt := 149) (by decide) ?_
                          exact ih149 h_63 (up2 (up2 w2 11 0 1000) 8 0 (nI (e + 1))) (e + 1) (by omega) hM f9 f10 rfl (by rw [← fgJ_b (f := τ 5) he.1 hd2]; rfl) g12 g13 g14 (by omega) (by rw [← hr]; exact (ruN_s hlt3 ((dg_2 hlt3).mp c_59)).symm) hU
                        · have hd2 : e - s < 2 := by
                            have : ¬ 2 ≤ e - s := fun q => c_60 ((nI_le_iff (a := 2) (by omega) (by omega)).mpr q)
                            omega
                          refine z_aload_n (pc := 189) (zk14 kX5_look_5) rfl ?_
                          refine z_getf (pc := 190) (zk15 kX5_look_5) flX5_153 hM.1 (v := .int (w2 11 0)) rfl ?_
                          refine z_bipush (pc := 193) (zk0 kX5_look_6) (v := 10) (by decide) ?_
                          refine z_imul (pc := 195) (zk1 kX5_look_6) ?_
                          refine z_aload_n (pc := 196) (zk2 kX5_look_6) rfl ?_
                          refine z_getf (pc := 197) (zk3 kX5_look_6) flX5_31 hM.1 gMo_6 ?_
                          refine z_aload_n (pc := 200) (zk4 kX5_look_6) rfl ?_
                          refine z_getf (pc := 201) (zk5 kX5_look_6) flX5_147 hM.1 (v := .int (nI e)) (by rw [← f8]; rfl) ?_
                          refine z_ialdN (pc := 204) (zk6 kX5_look_6) (f := τ 5) (j := e) hM.2.2.2.2.2.2.2.2.1 (show e < 250 by omega) rfl ?_
                          refine z_iadd (pc := 205) (zk7 kX5_look_6) ?_
                          refine z_bipush (pc := 206) (zk8 kX5_look_6) (v := 48) (by decide) ?_
                          refine z_isub (pc := 208) (zk9 kX5_look_6) ?_
                          refine z_goto (pc := 209) (zk10 kX5_look_6) (tgt := 215) (by decide) ?_
                          refine z_Mo_w28 (pc := 215) (zk12 kX5_look_6) flX5_153 hM (by omega) (fun h_65 hR hU_66 => ?_)
                          replace hU := hU.tr hU_66 (by omega) (by omega)
                          replace hM := hR; clear hR
                          refine z_aload_n (pc := 218) (zk13 kX5_look_6) rfl ?_
                          refine z_dup (pc := 219) (zk14 kX5_look_6) rfl ?_
                          refine z_getf (pc := 220) (zk15 kX5_look_6) flX5_147 hM.1 (v := .int (nI e)) (by rw [← f8]; rfl) ?_
                          refine z_iconst (pc := 223) (zk0 kX5_look_7) (v := 1) (by decide) ?_
                          refine z_iadd (pc := 224) (zk1 kX5_look_7) ?_
                          refine z_top (congrArg Value.int (nI_1 e)) ?_
                          refine z_Mo_w25 (pc := 225) (zk2 kX5_look_7) flX5_147 hM (by omega) (fun h_67 hR hU_68 => ?_)
                          replace hU := hU.tr hU_68 (by omega) (by omega)
                          replace hM := hR; clear hR
                          refine z_goto (pc := 228) (zk3 kX5_look_7) (tgt := 149) (by decide) ?_
                          exact ih149 h_67 (up2 (up2 w2 11 0 ((((w2 11 0) * 10) + (τ 5 e)) - 48)) 8 0 (nI (e + 1))) (e + 1) (by omega) hM f9 f10 rfl (by rw [← fgJ_a he.1 hd2, ← f11]; rfl) g12 g13 g14 (by omega) (by rw [← hr]; exact (ruN_s hlt3 ((dg_2 hlt3).mp c_59)).symm) hU
                exact lp149 _ h_56 (up2 (up2 (up2 w1 10 0 (nI s)) 11 0 0) 9 0 2) s (Nat.lt_succ_self _) hM rfl rfl h8 (by rw [fgJ, Nat.sub_self]; rfl) h12 h13 h14 (by omega) (by rw [tkE_run (Or.inr ((dg_2 hlt2).mp c_46)), ((dg_2 hlt2).mp c_46)]) hU
            · refine z_aload_n (pc := 85) (zk10 kX5_look_2) rfl ?_
              refine z_iconst (pc := 86) (zk11 kX5_look_2) (v := 1) (by decide) ?_
              refine z_Mo_w26 (pc := 87) (zk12 kX5_look_2) flX5_156 hM (by omega) (fun h_69 hR hU_70 => ?_)
              replace hU := hU.tr hU_70 (by omega) (by omega)
              replace hM := hR; clear hR
              have lp90 : ∀ (n_ : Nat) (g2 : zH) (w2 : Ln) (e : Nat), N - e < n_ → (MoAt g2 p σ τ w2 ε mv kp tr) → (w2 9 0 = nI 1) → (w2 10 0 = nI s) → (w2 8 0 = nI e) → (w2 11 0 = 0) → (w2 12 0 = ω 12 0) → (w2 13 = ω 13) → (w2 14 0 = ω 14 0) → (s ≤ e ∧ e ≤ N) → (ruN (τ 5) N 1 (N - e) e = tkE (τ 5) N s) → (Upd h g2 p 29) → Z D B xX5_look 0 0 (fun r h1 z1 => ∃ ω1 : Ln, r = none ∧ MoAt h1 p σ τ ω1 ε mv kp tr ∧ LK (τ 5) N ω1 a ∧ ω1 12 0 = ω 12 0 ∧ ω1 13 = ω 13 ∧ ω1 14 0 = ω 14 0 ∧ Upd h h1 p 29 ∧ z1 = sz) 90 [some (.ref p)] [] g2 sz := by
                intro n_
                induction n_ with
                | zero => intro g2 w2 e hm_; exact absurd hm_ (Nat.not_lt_zero _)
                | succ n_ ih90 =>
                  intro g2 w2 e hm_ hM f9 f10 f8 f11 g12 g13 g14 he hr hU
                  refine z_aload_n (pc := 90) (zk13 kX5_look_2) rfl ?_
                  refine z_getf (pc := 91) (zk14 kX5_look_2) flX5_147 hM.1 (v := .int (nI e)) (by rw [← f8]; rfl) ?_
                  refine z_aload_n (pc := 94) (zk15 kX5_look_2) rfl ?_
                  refine z_getf (pc := 95) (zk0 kX5_look_3) flX5_144 hM.1 (v := .int (nI N)) (by rw [← hN]; rfl) ?_
                  refine z_icmp_ge (pc := 98) (zk1 kX5_look_3) (tgt := 264) (by decide) (fun c_71 => ?_) (fun c_71 => ?_)
                  · exact z_vret (pc := 264) (zk6 kX5_look_8) rfl (Nat.zero_le _) (Nat.zero_le _) ⟨_, rfl, hM, by unfold LK; rw [hsk]; exact ⟨f8.trans (congrArg nI ((ruN_e ((nI_le_iff (by omega) (by omega)).mp c_71)).symm.trans hr)), by rw [((lw_1 hlt2).mp c_45)]; exact f9, f10, by rw [fgF, if_neg (by rw [((lw_1 hlt2).mp c_45)]; decide)]; exact f11⟩, g12, g13, g14, hU, rfl⟩
                  · have hlt3 : e < N := nI_ge_not (a := N) (by omega) (by omega) c_71
                    refine z_aload_n (pc := 101) (zk2 kX5_look_3) rfl ?_
                    refine z_getf (pc := 102) (zk3 kX5_look_3) flX5_31 hM.1 gMo_6 ?_
                    refine z_aload_n (pc := 105) (zk4 kX5_look_3) rfl ?_
                    refine z_getf (pc := 106) (zk5 kX5_look_3) flX5_147 hM.1 (v := .int (nI e)) (by rw [← f8]; rfl) ?_
                    refine z_ialdN (pc := 109) (zk6 kX5_look_3) (f := τ 5) (j := e) hM.2.2.2.2.2.2.2.2.1 (show e < 250 by omega) rfl ?_
                    refine z_rdS (pc := 110) (zk7 kX5_look_3) (st := []) lkX5_159 isX5_isLower (c_isLower) rfl ⟨rfl, rfl⟩ rfl rfl ?_ rfl
                    refine z_oif_eq (pc := 113) (zk8 kX5_look_3) (tgt := 264) (by decide) (fun c_72 => ?_) (fun c_72 => ?_)
                    · exact z_vret (pc := 264) (zk6 kX5_look_8) rfl (Nat.zero_le _) (Nat.zero_le _) ⟨_, rfl, hM, by unfold LK; rw [hsk]; exact ⟨f8.trans (congrArg nI ((ruN_h (fun q => by have := (lw_1 (f := τ 5) hlt3).mpr q; rw [c_72] at this; cases this)).symm.trans hr)), by rw [((lw_1 hlt2).mp c_45)]; exact f9, f10, by rw [fgF, if_neg (by rw [((lw_1 hlt2).mp c_45)]; decide)]; exact f11⟩, g12, g13, g14, hU, rfl⟩
                    · refine z_aload_n (pc := 116) (zk9 kX5_look_3) rfl ?_
                      refine z_dup (pc := 117) (zk10 kX5_look_3) rfl ?_
                      refine z_getf (pc := 118) (zk11 kX5_look_3) flX5_147 hM.1 (v := .int (nI e)) (by rw [← f8]; rfl) ?_
                      refine z_iconst (pc := 121) (zk12 kX5_look_3) (v := 1) (by decide) ?_
                      refine z_iadd (pc := 122) (zk13 kX5_look_3) ?_
                      refine z_top (congrArg Value.int (nI_1 e)) ?_
                      refine z_Mo_w25 (pc := 123) (zk14 kX5_look_3) flX5_147 hM (by omega) (fun h_73 hR hU_74 => ?_)
                      replace hU := hU.tr hU_74 (by omega) (by omega)
                      replace hM := hR; clear hR
                      refine z_goto (pc := 126) (zk15 kX5_look_3) (tgt := 90) (by decide) ?_
                      exact ih90 h_73 (up2 w2 8 0 (nI (e + 1))) (e + 1) (by omega) hM f9 f10 rfl f11 g12 g13 g14 (by omega) (by rw [← hr]; exact (ruN_s hlt3 ((lw_1 hlt3).mp c_72)).symm) hU
              exact lp90 _ h_69 (up2 (up2 (up2 w1 10 0 (nI s)) 11 0 0) 9 0 1) s (Nat.lt_succ_self _) hM rfl rfl h8 rfl h12 h13 h14 (by omega) (by rw [tkE_run (Or.inl ((lw_1 hlt2).mp c_45)), ((lw_1 hlt2).mp c_45)]) hU
          · refine z_aload_n (pc := 62) (zk15 kX5_look_1) rfl ?_
            refine z_iconst (pc := 63) (zk0 kX5_look_2) (v := 0) (by decide) ?_
            refine z_Mo_w26 (pc := 64) (zk1 kX5_look_2) flX5_156 hM (by omega) (fun h_75 hR hU_76 => ?_)
            replace hU := hU.tr hU_76 (by omega) (by omega)
            replace hM := hR; clear hR
            refine z_goto (pc := 67) (zk2 kX5_look_2) (tgt := 264) (by decide) ?_
            exact z_vret (pc := 264) (zk6 kX5_look_8) rfl (Nat.zero_le _) (Nat.zero_le _) ⟨_, rfl, hM, by unfold LK; rw [hsk]; exact ⟨by rw [tkE_0 (tkS_0 (f := τ 5) (Nat.le_of_eq ((nI_eqI (a := s) (b := N) (by omega) (by omega)).mp c_44).symm))]; exact h8, by rw [(tkS_0 (f := τ 5) (Nat.le_of_eq ((nI_eqI (a := s) (b := N) (by omega) (by omega)).mp c_44).symm))]; rfl, rfl, by rw [fgF, if_neg (by rw [(tkS_0 (f := τ 5) (Nat.le_of_eq ((nI_eqI (a := s) (b := N) (by omega) (by omega)).mp c_44).symm))]; decide)]; rfl⟩, h12, h13, h14, hU, rfl⟩
        · refine z_aload_n (pc := 25) (zk12 kX5_look_0) rfl ?_
          refine z_dup (pc := 26) (zk13 kX5_look_0) rfl ?_
          refine z_getf (pc := 27) (zk14 kX5_look_0) flX5_147 hM.1 (v := .int (nI s)) (by rw [← h8]; rfl) ?_
          refine z_iconst (pc := 30) (zk15 kX5_look_0) (v := 1) (by decide) ?_
          refine z_iadd (pc := 31) (zk0 kX5_look_1) ?_
          refine z_top (congrArg Value.int (nI_1 s)) ?_
          refine z_Mo_w25 (pc := 32) (zk1 kX5_look_1) flX5_147 hM (by omega) (fun h_77 hR hU_78 => ?_)
          replace hU := hU.tr hU_78 (by omega) (by omega)
          replace hM := hR; clear hR
          refine z_goto (pc := 35) (zk2 kX5_look_1) (tgt := 0) (by decide) ?_
          exact ih0 h_77 (up2 w1 8 0 (nI (s + 1))) (s + 1) (by omega) hM rfl h12 h13 h14 (by omega) (by rw [← hk]; exact (skp_s hlt c_39).symm) hU
  exact lp0 _ h ω a (Nat.lt_succ_self _) hM ha rfl rfl rfl ha2 rfl hU
