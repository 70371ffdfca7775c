theorem near_eq {σ : Ln} {l k : Nat} (ht : ToOk σ l) (hk : k < 12) : okR (σ 12 l - 1) (σ 12 l + 1) (nI k) = nearB σ l k := by
  obtain ⟨t, h1, h2⟩ := ht
  rw [nearB, h2]
  have : ∀ t, t < 12 → ∀ k, k < 12 → okR (nI t - 1) (nI t + 1) (nI k) = decide (absI (nI t - nI k) ≤ 1) := by decide +kernel
  exact this t h1 k hk
set_option maxRecDepth 20000 in
theorem c_in {D : zD} {B : Nat} {h : zH} {sz : Nat} {v a b : Int64}  : zRd D B xX5_in [.long v, .long a, .long b] h sz (.int (oI (decide (a ≤ v) && decide (v ≤ b)))) := by
  refine zM.of (by decide) rfl (n := 0) ?_
  show Z D B xX5_in 0 0 _ 0 [some (.long v), none, some (.long a), none, some (.long b), none] [] h sz
  refine z_lload_n (pc := 0) (zk0 kX5_in_0) rfl ?_
  refine z_lload_n (pc := 1) (zk1 kX5_in_0) rfl ?_
  refine z_lcmp (pc := 2) (zk2 kX5_in_0) ?_
  refine z_lif_lt (pc := 3) (zk3 kX5_in_0) (tgt := 17) (by decide) (fun c_1 => ?_) (fun c_1 => ?_)
  · refine z_iconst (pc := 17) (zk10 kX5_in_0) (v := 0) (by decide) ?_
    exact z_zret (pc := 18) (zk11 kX5_in_0) rfl (Nat.zero_le _) (Nat.zero_le _) (by decide) ⟨by simp [oI, c_1, Int64.not_le.mpr c_1], rfl, rfl⟩
  · refine z_lload_n (pc := 6) (zk4 kX5_in_0) rfl ?_
    refine z_lload (pc := 7) (zk5 kX5_in_0) rfl ?_
    refine z_lcmp (pc := 9) (zk6 kX5_in_0) ?_
    refine z_lif_gt (pc := 10) (zk7 kX5_in_0) (tgt := 17) (by decide) (fun c_2 => ?_) (fun c_2 => ?_)
    · refine z_iconst (pc := 17) (zk10 kX5_in_0) (v := 0) (by decide) ?_
      exact z_zret (pc := 18) (zk11 kX5_in_0) rfl (Nat.zero_le _) (Nat.zero_le _) (by decide) ⟨by simp [oI, c_1, Int64.not_lt.mp c_1, c_2, Int64.not_le.mpr c_2], rfl, rfl⟩
    · refine z_iconst (pc := 13) (zk8 kX5_in_0) (v := 1) (by decide) ?_
      refine z_goto (pc := 14) (zk9 kX5_in_0) (tgt := 18) (by decide) ?_
      exact z_zret (pc := 18) (zk11 kX5_in_0) rfl (Nat.zero_le _) (Nat.zero_le _) (by decide) ⟨by simp [oI, c_1, Int64.not_lt.mp c_1, c_2, Int64.not_lt.mp c_2], rfl, rfl⟩
theorem c_inI {D : zD} {B : Nat} {h : zH} {sz : Nat} {x a b : Int32} {la lb : Int64} (ha : la = a.toInt64) (hb : lb = b.toInt64) : zRd D B xX5_in [.long x.toInt64, .long la, .long lb] h sz (.int (oI (okR a b x))) := by
  subst ha
  subst hb
  have e : okR a b x = (decide (a.toInt64 ≤ x.toInt64) && decide (x.toInt64 ≤ b.toInt64)) := by
    unfold okR
    rw [decide_eq_decide.mpr (fa_wide_le a x), decide_eq_decide.mpr (fa_wide_le x b)]
  rw [e]
  exact c_in
set_option maxRecDepth 20000 in
theorem c_isHouse {D : zD} {B : Nat} {h : zH} {sz : Nat} {p : Nat} {σ τ ω : Ln} {ε : El} {mv : Nat → Int64} {kp tr : Option Nat} {x : Int32} (hM : MoAt h p σ τ ω ε mv kp tr) : zRd D B xX5_isHouse [.ref p, .int x] h sz (.int (oI (okR 0 (σ 0 0 - 1) x))) := by
  refine zM.of (by decide) rfl (n := 0) ?_
  show Z D B xX5_isHouse 0 0 _ 0 [some (.ref p), some (.int x)] [] h sz
  refine z_iload_n (pc := 0) (zk0 kX5_isHouse_0) rfl ?_
  refine z_i2l (pc := 1) (zk1 kX5_isHouse_0) ?_
  refine z_lconst (pc := 2) (zk2 kX5_isHouse_0) (v := 0) (by decide) ?_
  refine z_aload_n (pc := 3) (zk3 kX5_isHouse_0) rfl ?_
  refine z_getf (pc := 4) (zk4 kX5_isHouse_0) flX5_37 hM.1 (v := .int (σ 0 0)) rfl ?_
  refine z_iconst (pc := 7) (zk5 kX5_isHouse_0) (v := 1) (by decide) ?_
  refine z_isub (pc := 8) (zk6 kX5_isHouse_0) ?_
  refine z_i2l (pc := 9) (zk7 kX5_isHouse_0) ?_
  refine z_rdS (pc := 10) (zk8 kX5_isHouse_0) (st := []) lkX5_81 isX5_in (c_inI (x := x) (a := 0) (b := (σ 0 0) - 1) (by decide) rfl) rfl ⟨rfl, rfl⟩ rfl rfl ?_ rfl
  exact z_zret (pc := 13) (zk9 kX5_isHouse_0) rfl (Nat.zero_le _) (Nat.zero_le _) (oI_01 _) ⟨rfl, rfl, rfl⟩
set_option maxRecDepth 20000 in
theorem c_isLetter {D : zD} {B : Nat} {h : zH} {sz : Nat} {p : Nat} {σ τ ω : Ln} {ε : El} {mv : Nat → Int64} {kp tr : Option Nat} {x : Int32} (hM : MoAt h p σ τ ω ε mv kp tr) : zRd D B xX5_isLetter [.ref p, .long x.toInt64] h sz (.int (oI (okR 0 (σ 9 0 - 1) x))) := by
  refine zM.of (by decide) rfl (n := 0) ?_
  show Z D B xX5_isLetter 0 0 _ 0 [some (.ref p), some (.long x.toInt64), none] [] h sz
  refine z_lload_n (pc := 0) (zk0 kX5_isLetter_0) rfl ?_
  refine z_lconst (pc := 1) (zk1 kX5_isLetter_0) (v := 0) (by decide) ?_
  refine z_aload_n (pc := 2) (zk2 kX5_isLetter_0) rfl ?_
  refine z_getf (pc := 3) (zk3 kX5_isLetter_0) flX5_85 hM.1 (v := .int (σ 9 0)) rfl ?_
  refine z_iconst (pc := 6) (zk4 kX5_isLetter_0) (v := 1) (by decide) ?_
  refine z_isub (pc := 7) (zk5 kX5_isLetter_0) ?_
  refine z_i2l (pc := 8) (zk6 kX5_isLetter_0) ?_
  refine z_rdS (pc := 9) (zk7 kX5_isLetter_0) (st := []) lkX5_81 isX5_in (c_inI (x := x) (a := 0) (b := (σ 9 0) - 1) (by decide) rfl) rfl ⟨rfl, rfl⟩ rfl rfl ?_ rfl
  exact z_zret (pc := 12) (zk8 kX5_isLetter_0) rfl (Nat.zero_le _) (Nat.zero_le _) (oI_01 _) ⟨rfl, rfl, rfl⟩
set_option maxRecDepth 20000 in
theorem c_areBoth {D : zD} {B : Nat} {h : zH} {sz : Nat} {p : Nat} {σ τ ω : Ln} {ε : El} {mv : Nat → Int64} {kp tr : Option Nat} {x y : Int32} (hM : MoAt h p σ τ ω ε mv kp tr) : zRd D B xX5_areBoth [.ref p, .int x, .int y] h sz (.int (oI (okR 0 (σ 9 0 - 1) x && okR 0 (σ 0 0 - 1) y))) := by
  refine zM.of (by decide) rfl (n := 0) ?_
  show Z D B xX5_areBoth 0 0 _ 0 [some (.ref p), some (.int x), some (.int y)] [] h sz
  refine z_aload_n (pc := 0) (zk0 kX5_areBoth_0) rfl ?_
  refine z_iload_n (pc := 1) (zk1 kX5_areBoth_0) rfl ?_
  refine z_i2l (pc := 2) (zk2 kX5_areBoth_0) ?_
  refine z_rdV (pc := 3) (zk3 kX5_areBoth_0) (st := []) lkX5_105 ivX5_isLetter hM.1 rfl rfl (c_isLetter hM) rfl ⟨rfl, rfl⟩ rfl rfl ?_ rfl
  refine z_oif_eq (pc := 6) (zk4 kX5_areBoth_0) (tgt := 21) (by decide) (fun c_1 => ?_) (fun c_1 => ?_)
  · refine z_iconst (pc := 21) (zk11 kX5_areBoth_0) (v := 0) (by decide) ?_
    exact z_zret (pc := 22) (zk12 kX5_areBoth_0) rfl (Nat.zero_le _) (Nat.zero_le _) (by decide) ⟨by simp [oI, c_1], rfl, rfl⟩
  · refine z_aload_n (pc := 9) (zk5 kX5_areBoth_0) rfl ?_
    refine z_iload_n (pc := 10) (zk6 kX5_areBoth_0) rfl ?_
    refine z_rdV (pc := 11) (zk7 kX5_areBoth_0) (st := []) lkX5_123 ivX5_isHouse hM.1 rfl rfl (c_isHouse hM) rfl ⟨rfl, rfl⟩ rfl rfl ?_ rfl
    refine z_oif_eq (pc := 14) (zk8 kX5_areBoth_0) (tgt := 21) (by decide) (fun c_2 => ?_) (fun c_2 => ?_)
    · refine z_iconst (pc := 21) (zk11 kX5_areBoth_0) (v := 0) (by decide) ?_
      exact z_zret (pc := 22) (zk12 kX5_areBoth_0) rfl (Nat.zero_le _) (Nat.zero_le _) (by decide) ⟨by simp [oI, c_1, c_2], rfl, rfl⟩
    · refine z_iconst (pc := 17) (zk9 kX5_areBoth_0) (v := 1) (by decide) ?_
      refine z_goto (pc := 18) (zk10 kX5_areBoth_0) (tgt := 22) (by decide) ?_
      exact z_zret (pc := 22) (zk12 kX5_areBoth_0) rfl (Nat.zero_le _) (Nat.zero_le _) (by decide) ⟨by simp [oI, c_1, c_2], rfl, rfl⟩
set_option maxRecDepth 20000 in
theorem c_isSet {D : zD} {B : Nat} {h : zH} {sz : Nat} {p : Nat} {σ τ ω : Ln} {ε : El} {mv : Nat → Int64} {kp tr : Option Nat} {x : Int32} (hM : MoAt h p σ τ ω ε mv kp tr) : zRd D B xX5_isSet [.ref p, .int x] h sz (.int (oI (okR 0 (1 <<< (σ 0 0 &&& 31) - 1) x))) := by
  refine zM.of (by decide) rfl (n := 0) ?_
  show Z D B xX5_isSet 0 0 _ 0 [some (.ref p), some (.int x)] [] h sz
  refine z_iload_n (pc := 0) (zk0 kX5_isSet_0) rfl ?_
  refine z_i2l (pc := 1) (zk1 kX5_isSet_0) ?_
  refine z_lconst (pc := 2) (zk2 kX5_isSet_0) (v := 0) (by decide) ?_
  refine z_iconst (pc := 3) (zk3 kX5_isSet_0) (v := 1) (by decide) ?_
  refine z_aload_n (pc := 4) (zk4 kX5_isSet_0) rfl ?_
  refine z_getf (pc := 5) (zk5 kX5_isSet_0) flX5_37 hM.1 (v := .int (σ 0 0)) rfl ?_
  refine z_ishl (pc := 8) (zk6 kX5_isSet_0) ?_
  refine z_iconst (pc := 9) (zk7 kX5_isSet_0) (v := 1) (by decide) ?_
  refine z_isub (pc := 10) (zk8 kX5_isSet_0) ?_
  refine z_i2l (pc := 11) (zk9 kX5_isSet_0) ?_
  refine z_rdS (pc := 12) (zk10 kX5_isSet_0) (st := []) lkX5_81 isX5_in (c_inI (x := x) (a := 0) (b := (1 <<< ((σ 0 0) &&& 31)) - 1) (by decide) rfl) rfl ⟨rfl, rfl⟩ rfl rfl ?_ rfl
  exact z_zret (pc := 15) (zk11 kX5_isSet_0) rfl (Nat.zero_le _) (Nat.zero_le _) (oI_01 _) ⟨rfl, rfl, rfl⟩
set_option maxRecDepth 20000 in
theorem c_refuse {D : zD} {B : Nat} {h : zH} {sz : Nat} {p : Nat} {σ τ ω : Ln} {ε : El} {mv : Nat → Int64} {kp tr : Option Nat} {j : Nat} {w : Int32} (hM : MoAt h p σ τ ω ε mv kp tr) (hB : B ≤ p) (hw : -w = nI j) (hj : j < 8) : zM D B xX5_refuse [.ref p, .int w] h sz (fun r h1 z1 => r = some (.int w) ∧ MoAt h1 p σ (rfN τ j) ω ε mv kp tr ∧ Upd h h1 p 29 ∧ z1 = sz) := by
  have hU : Upd h h p 29 := Upd.rf
  refine zM.of (by decide) rfl (n := 0) ?_
  show Z D B xX5_refuse 0 0 _ 0 [some (.ref p), some (.int w)] [] h sz
  refine z_aload_n (pc := 0) (zk0 kX5_refuse_0) rfl ?_
  refine z_getf (pc := 1) (zk1 kX5_refuse_0) flX5_34 hM.1 gMo_8 ?_
  refine z_iload_n (pc := 4) (zk2 kX5_refuse_0) rfl ?_
  refine z_ineg (pc := 5) (zk3 kX5_refuse_0) ?_
  refine z_top (congrArg Value.int hw) ?_
  refine z_dup2 (pc := 6) (zk4 kX5_refuse_0) rfl rfl ?_
  refine z_ialdN (pc := 7) (zk5 kX5_refuse_0) (f := τ 7) (j := j) hM.2.2.2.2.2.2.2.2.2.1 (by omega) rfl ?_
  refine z_iconst (pc := 8) (zk6 kX5_refuse_0) (v := 1) (by decide) ?_
  refine z_iadd (pc := 9) (zk7 kX5_refuse_0) ?_
  refine z_Mo_s16 (pc := 10) (zk8 kX5_refuse_0) (j := j) hM (by omega) (by omega) (fun h_1 hR hU_2 => ?_)
  replace hU := hU.tr hU_2 (by omega) (by omega)
  replace hM := hR; clear hR
  refine z_iload_n (pc := 11) (zk9 kX5_refuse_0) rfl ?_
  exact z_iret (pc := 12) (zk10 kX5_refuse_0) rfl (Nat.zero_le _) (Nat.zero_le _) ⟨rfl, hM, hU, rfl⟩
set_option maxRecDepth 20000 in
theorem c_mreadAt {D : zD} {B : Nat} {h : zH} {sz : Nat} {p : Nat} {σ τ ω : Ln} {ε : El} {mv : Nat → Int64} {kp tr : Option Nat} {l k : Nat} (hM : MoAt h p σ τ ω ε mv kp tr) (hl : l < 8) : zRd D B xX5_readAt [.ref p, .int (nI l), .int (nI k)] h sz (.int (oI (readB σ l k))) := by
  refine zM.of (by decide) rfl (n := 0) ?_
  show Z D B xX5_readAt 0 0 _ 0 [some (.ref p), some (.int (nI l)), some (.int (nI k))] [] h sz
  refine z_aload_n (pc := 0) (zk0 kX5_readAt_0) rfl ?_
  refine z_getf (pc := 1) (zk1 kX5_readAt_0) flX5_138 hM.1 (v := .int (σ 6 0)) rfl ?_
  refine z_if_eq (pc := 4) (zk2 kX5_readAt_0) (tgt := 25) (by decide) (fun c_1 => ?_) (fun c_1 => ?_)
  · refine z_iload_n (pc := 25) (zk13 kX5_readAt_0) rfl ?_
    refine z_aload_n (pc := 26) (zk14 kX5_readAt_0) rfl ?_
    refine z_getf (pc := 27) (zk15 kX5_readAt_0) flX5_59 hM.1 gMo_20 ?_
    refine z_iload_n (pc := 30) (zk0 kX5_readAt_1) rfl ?_
    refine z_ialdN (pc := 31) (zk1 kX5_readAt_1) (f := σ 12) (j := l) hM.2.2.2.2.2.2.2.2.2.2.2.2.2.2.2.2.1 (by omega) rfl ?_
    refine z_icmp_gt (pc := 32) (zk2 kX5_readAt_1) (tgt := 39) (by decide) (fun c_2 => ?_) (fun c_2 => ?_)
    · refine z_iconst (pc := 39) (zk5 kX5_readAt_1) (v := 0) (by decide) ?_
      exact z_zret (pc := 40) (zk6 kX5_readAt_1) rfl (Nat.zero_le _) (Nat.zero_le _) (by decide) ⟨by simp [readB, oI, c_1, c_2, Int32.not_le.mpr c_2], rfl, rfl⟩
    · refine z_iconst (pc := 35) (zk3 kX5_readAt_1) (v := 1) (by decide) ?_
      refine z_goto (pc := 36) (zk4 kX5_readAt_1) (tgt := 40) (by decide) ?_
      exact z_zret (pc := 40) (zk6 kX5_readAt_1) rfl (Nat.zero_le _) (Nat.zero_le _) (by decide) ⟨by simp [readB, oI, c_1, c_2, Int32.not_lt.mp c_2], rfl, rfl⟩
  · refine z_iload_n (pc := 7) (zk3 kX5_readAt_0) rfl ?_
    refine z_aload_n (pc := 8) (zk4 kX5_readAt_0) rfl ?_
    refine z_getf (pc := 9) (zk5 kX5_readAt_0) flX5_59 hM.1 gMo_20 ?_
    refine z_iload_n (pc := 12) (zk6 kX5_readAt_0) rfl ?_
    refine z_ialdN (pc := 13) (zk7 kX5_readAt_0) (f := σ 12) (j := l) hM.2.2.2.2.2.2.2.2.2.2.2.2.2.2.2.2.1 (by omega) rfl ?_
    refine z_icmp_lt (pc := 14) (zk8 kX5_readAt_0) (tgt := 21) (by decide) (fun c_3 => ?_) (fun c_3 => ?_)
    · refine z_iconst (pc := 21) (zk11 kX5_readAt_0) (v := 0) (by decide) ?_
      refine z_goto (pc := 22) (zk12 kX5_readAt_0) (tgt := 40) (by decide) ?_
      exact z_zret (pc := 40) (zk6 kX5_readAt_1) rfl (Nat.zero_le _) (Nat.zero_le _) (by decide) ⟨by simp [readB, oI, c_1, c_3, Int32.not_le.mpr c_3], rfl, rfl⟩
    · refine z_iconst (pc := 17) (zk9 kX5_readAt_0) (v := 1) (by decide) ?_
      refine z_goto (pc := 18) (zk10 kX5_readAt_0) (tgt := 40) (by decide) ?_
      exact z_zret (pc := 40) (zk6 kX5_readAt_1) rfl (Nat.zero_le _) (Nat.zero_le _) (by decide) ⟨by simp [readB, oI, c_1, c_3, Int32.not_lt.mp c_3], rfl, rfl⟩
set_option maxRecDepth 20000 in
theorem c_held {D : zD} {B : Nat} {h : zH} {sz : Nat} {p : Nat} {σ τ ω : Ln} {ε : El} {mv : Nat → Int64} {kp tr : Option Nat} {l : Nat} {v : Int32} (hM : MoAt h p σ τ ω ε mv kp tr) (hl : l < 8) : zRd D B xX5_held [.ref p, .int (nI l), .int v] h sz (.int (wthn v (σ 13 l))) := by
  refine zM.of (by decide) rfl (n := 0) ?_
  show Z D B xX5_held 0 0 _ 0 [some (.ref p), some (.int (nI l)), some (.int v)] [] h sz
  refine z_iload_n (pc := 0) (zk0 kX5_held_0) rfl ?_
  refine z_if_ge (pc := 1) (zk1 kX5_held_0) (tgt := 8) (by decide) (fun c_1 => ?_) (fun c_1 => ?_)
  · refine z_iload_n (pc := 8) (zk4 kX5_held_0) rfl ?_
    refine z_aload_n (pc := 9) (zk5 kX5_held_0) rfl ?_
    refine z_getf (pc := 10) (zk6 kX5_held_0) flX5_62 hM.1 gMo_21 ?_
    refine z_iload_n (pc := 13) (zk7 kX5_held_0) rfl ?_
    refine z_ialdN (pc := 14) (zk8 kX5_held_0) (f := σ 13) (j := l) hM.2.2.2.2.2.2.2.2.2.2.2.2.2.2.2.2.2.1 (by omega) rfl ?_
    refine z_icmp_le (pc := 15) (zk9 kX5_held_0) (tgt := 27) (by decide) (fun c_2 => ?_) (fun c_2 => ?_)
    · refine z_iload_n (pc := 27) (zk15 kX5_held_0) rfl ?_
      exact z_iret (pc := 28) (zk0 kX5_held_1) rfl (Nat.zero_le _) (Nat.zero_le _) ⟨by simp [wthn, c_1, Int32.not_lt.mpr c_1, c_2, Int32.not_lt.mpr c_2], rfl, rfl⟩
    · refine z_aload_n (pc := 18) (zk10 kX5_held_0) rfl ?_
      refine z_getf (pc := 19) (zk11 kX5_held_0) flX5_62 hM.1 gMo_21 ?_
      refine z_iload_n (pc := 22) (zk12 kX5_held_0) rfl ?_
      refine z_ialdN (pc := 23) (zk13 kX5_held_0) (f := σ 13) (j := l) hM.2.2.2.2.2.2.2.2.2.2.2.2.2.2.2.2.2.1 (by omega) rfl ?_
      refine z_goto (pc := 24) (zk14 kX5_held_0) (tgt := 28) (by decide) ?_
      exact z_iret (pc := 28) (zk0 kX5_held_1) rfl (Nat.zero_le _) (Nat.zero_le _) ⟨by simp [wthn, c_1, Int32.not_lt.mpr c_1, c_2, Int32.not_le.mp c_2], rfl, rfl⟩
  · refine z_iconst (pc := 4) (zk2 kX5_held_0) (v := 0) (by decide) ?_
    refine z_goto (pc := 5) (zk3 kX5_held_0) (tgt := 28) (by decide) ?_
    exact z_iret (pc := 28) (zk0 kX5_held_1) rfl (Nat.zero_le _) (Nat.zero_le _) ⟨by simp [wthn, c_1, Int32.not_le.mp c_1], rfl, rfl⟩
def tipT (σ : Ln) (k g : Nat) : Int32 := if σ 6 0 = 0 then (if nI g < nI k then σ 2 g else 0) else (if nI k < nI g then σ 2 g else 0)
theorem tipT_sum {σ : Ln} {n k : Nat} (hn : σ 0 0 = nI n) (h12 : n ≤ 12) (hk : k < n) : sum0 (tipT σ k) n = tipsy σ k := by
  by_cases hb : σ 6 0 = 0
  · have h1 : ∀ d, d ≤ n → sum0 (tipT σ k) d = sum0 (σ 2) (if d ≤ k then d else k) := by
      intro d
      induction d with
      | zero => intro _; rw [if_pos (by omega)]; rfl
      | succ d ih =>
        intro hd
        rw [sum0, ih (by omega), tipT, if_pos hb]
        by_cases q : d < k
        · rw [if_pos ((nI_ltI (by omega) (by omega)).mpr q), if_pos (by omega), if_pos (by omega)]; rfl
        · rw [if_neg (fun c => q ((nI_ltI (by omega) (by omega)).mp c)), Int32.add_zero]
          by_cases r : d = k
          · rw [if_pos (by omega), if_neg (by omega), r]
          · rw [if_neg (by omega), if_neg (by omega)]
    rw [h1 n (Nat.le_refl _), if_neg (by omega), tipsy, if_pos hb]
  · have h1 : ∀ d, d ≤ n → sum0 (tipT σ k) d = sum0 (fun j => σ 2 (k + 1 + j)) (d - (k + 1)) := by
      intro d
      induction d with
      | zero => intro _; rw [Nat.zero_sub]; rfl
      | succ d ih =>
        intro hd
        rw [sum0, ih (by omega), tipT, if_neg hb]
        by_cases q : k < d
        · rw [if_pos ((nI_ltI (by omega) (by omega)).mpr q), show d + 1 - (k + 1) = (d - (k + 1)) + 1 by omega, sum0, show k + 1 + (d - (k + 1)) = d by omega]
        · rw [if_neg (fun c => q ((nI_ltI (by omega) (by omega)).mp c)), Int32.add_zero, show d + 1 - (k + 1) = d - (k + 1) by omega]
    rw [h1 n (Nat.le_refl _), tipsy, if_neg hb, hsN_eq hn h12]
set_option maxRecDepth 20000 in
theorem c_mtipsy {D : zD} {B : Nat} {h : zH} {sz : Nat} {p : Nat} {σ τ ω : Ln} {ε : El} {mv : Nat → Int64} {kp tr : Option Nat} {n k : Nat} (hM : MoAt h p σ τ ω ε mv kp tr) (hn : σ 0 0 = nI n) (h12 : n ≤ 12) (hk : k < n) : zRd D B xX5_tipsy [.ref p, .int (nI k)] h sz (.int (tipsy σ k)) := by
  refine zM.of (by decide) rfl (n := 2) ?_
  show Z D B xX5_tipsy 0 0 _ 0 [some (.ref p), some (.int (nI k)), none, none] [] h sz
  refine z_iconst (pc := 0) (zk0 kX5_tipsy_0) (v := 0) (by decide) ?_
  refine z_istore_n (pc := 1) (zk1 kX5_tipsy_0) rfl rfl ?_
  show Z D B xX5_tipsy _ _ _ 2 [some (.ref p), some (.int (nI k)), some (.int 0), none] _ _ _
  refine z_iconst (pc := 2) (zk2 kX5_tipsy_0) (v := 0) (by decide) ?_
  refine z_istore_n (pc := 3) (zk3 kX5_tipsy_0) rfl rfl ?_
  show Z D B xX5_tipsy _ _ _ 4 [some (.ref p), some (.int (nI k)), some (.int 0), some (.int 0)] _ _ _
  have lp4 : ∀ (n_ : Nat) (t : Int32) (i : Nat), n - i < n_ → (i ≤ n) → (t = sum0 (tipT σ k) i) → Z D B xX5_tipsy 0 0 (fun r h1 z1 => r = some (.int (tipsy σ k)) ∧ h1 = h ∧ z1 = sz) 4 [some (.ref p), some (.int (nI k)), some (.int t), some (.int (nI i))] [] h sz := by
    intro n_
    induction n_ with
    | zero => intro t i hm_; exact absurd hm_ (Nat.not_lt_zero _)
    | succ n_ ih4 =>
      intro t i hm_ hi_i ht
      refine z_iload_n (pc := 4) (zk4 kX5_tipsy_0) rfl ?_
      refine z_aload_n (pc := 5) (zk5 kX5_tipsy_0) rfl ?_
      refine z_getf (pc := 6) (zk6 kX5_tipsy_0) flX5_37 hM.1 (v := .int (nI n)) (by rw [← hn]; rfl) ?_
      refine z_icmp_ge (pc := 9) (zk7 kX5_tipsy_0) (tgt := 51) (by decide) (fun c_1 => ?_) (fun c_1 => ?_)
      · have hie_i : i = n := nI_ge_yes (a := n) (by omega) (by omega) (by omega) c_1
        refine z_iload_n (pc := 51) (zk13 kX5_tipsy_1) rfl ?_
        exact z_iret (pc := 52) (zk14 kX5_tipsy_1) rfl (Nat.zero_le _) (Nat.zero_le _) ⟨by rw [ht, hie_i, tipT_sum hn h12 hk], rfl, rfl⟩
      · have hlt_i : i < n := nI_ge_not (a := n) (by omega) (by omega) c_1
        refine z_iload_n (pc := 12) (zk8 kX5_tipsy_0) rfl ?_
        suffices hJ : Z D B xX5_tipsy 0 0 (fun r h1 z1 => r = some (.int (tipsy σ k)) ∧ h1 = h ∧ z1 = sz) 43 [some (.ref p), some (.int (nI k)), some (.int t), some (.int (nI i))] [.int (tipT σ k i), .int t] h sz from by
          refine z_aload_n (pc := 13) (zk9 kX5_tipsy_0) rfl ?_
          refine z_getf (pc := 14) (zk10 kX5_tipsy_0) flX5_138 hM.1 (v := .int (σ 6 0)) rfl ?_
          refine z_if_eq (pc := 17) (zk11 kX5_tipsy_0) (tgt := 28) (by decide) (fun c_2 => ?_) (fun c_2 => ?_)
          · refine z_iload_n (pc := 28) (zk0 kX5_tipsy_1) rfl ?_
            refine z_iload_n (pc := 29) (zk1 kX5_tipsy_1) rfl ?_
            refine z_icmp_ge (pc := 30) (zk2 kX5_tipsy_1) (tgt := 42) (by decide) (fun c_3 => ?_) (fun c_3 => ?_)
            · refine z_iconst (pc := 42) (zk8 kX5_tipsy_1) (v := 0) (by decide) ?_
              exact z_top (congrArg Value.int (by simp [tipT, c_1, Int32.not_le.mp c_1, c_2, c_3, Int32.not_lt.mpr c_3])) hJ
            · refine z_aload_n (pc := 33) (zk3 kX5_tipsy_1) rfl ?_
              refine z_getf (pc := 34) (zk4 kX5_tipsy_1) flX5_44 hM.1 gMo_11 ?_
              refine z_iload_n (pc := 37) (zk5 kX5_tipsy_1) rfl ?_
              refine z_ialdN (pc := 38) (zk6 kX5_tipsy_1) (f := σ 2) (j := i) hM.2.2.2.2.2.2.2.2.2.2.2.1 (by omega) rfl ?_
              refine z_goto (pc := 39) (zk7 kX5_tipsy_1) (tgt := 43) (by decide) ?_
              exact z_top (congrArg Value.int (by simp [tipT, c_1, Int32.not_le.mp c_1, c_2, c_3, Int32.not_le.mp c_3])) hJ
          · refine z_iload_n (pc := 20) (zk12 kX5_tipsy_0) rfl ?_
            refine z_iload_n (pc := 21) (zk13 kX5_tipsy_0) rfl ?_
            refine z_icmp_le (pc := 22) (zk14 kX5_tipsy_0) (tgt := 42) (by decide) (fun c_4 => ?_) (fun c_4 => ?_)
            · refine z_iconst (pc := 42) (zk8 kX5_tipsy_1) (v := 0) (by decide) ?_
              exact z_top (congrArg Value.int (by simp [tipT, c_1, Int32.not_le.mp c_1, c_2, c_4, Int32.not_lt.mpr c_4])) hJ
            · refine z_goto (pc := 25) (zk15 kX5_tipsy_0) (tgt := 33) (by decide) ?_
              refine z_aload_n (pc := 33) (zk3 kX5_tipsy_1) rfl ?_
              refine z_getf (pc := 34) (zk4 kX5_tipsy_1) flX5_44 hM.1 gMo_11 ?_
              refine z_iload_n (pc := 37) (zk5 kX5_tipsy_1) rfl ?_
              refine z_ialdN (pc := 38) (zk6 kX5_tipsy_1) (f := σ 2) (j := i) hM.2.2.2.2.2.2.2.2.2.2.2.1 (by omega) rfl ?_
              refine z_goto (pc := 39) (zk7 kX5_tipsy_1) (tgt := 43) (by decide) ?_
              exact z_top (congrArg Value.int (by simp [tipT, c_1, Int32.not_le.mp c_1, c_2, c_4, Int32.not_le.mp c_4])) hJ
        refine z_iadd (pc := 43) (zk9 kX5_tipsy_1) ?_
        refine z_istore_n (pc := 44) (zk10 kX5_tipsy_1) rfl rfl ?_
        show Z D B xX5_tipsy _ _ _ 45 [some (.ref p), some (.int (nI k)), some (.int (t + (tipT σ k i))), some (.int (nI i))] _ _ _
        refine z_iinc (pc := 45) (zk11 kX5_tipsy_1) (v := nI (i + 1)) rfl zinc rfl rfl ?_
        show Z D B xX5_tipsy _ _ _ 48 [some (.ref p), some (.int (nI k)), some (.int (t + (tipT σ k i))), some (.int (nI (i + 1)))] _ _ _
        refine z_goto (pc := 48) (zk12 kX5_tipsy_1) (tgt := 4) (by decide) ?_
        exact ih4 (t + (tipT σ k i)) (i + 1) (by omega) (by omega) (by rw [ht]; rfl)
  exact lp4 _ 0 0 (Nat.lt_succ_self _) (by omega) rfl
set_option maxRecDepth 20000 in
theorem c_mleftOut {D : zD} {B : Nat} {h : zH} {sz : Nat} {p : Nat} {σ τ ω : Ln} {ε : El} {mv : Nat → Int64} {kp tr : Option Nat} {n k : Nat} (hM : MoAt h p σ τ ω ε mv kp tr) (hn : σ 0 0 = nI n) (h12 : n ≤ 12) (hk : k < n) : zRd D B xX5_leftOut [.ref p, .int (nI k)] h sz (.int (lout σ (tipsy σ k))) := by
  refine zM.of (by decide) rfl (n := 0) ?_
  show Z D B xX5_leftOut 0 0 _ 0 [some (.ref p), some (.int (nI k))] [] h sz
  refine z_aload_n (pc := 0) (zk0 kX5_leftOut_0) rfl ?_
  refine z_iload_n (pc := 1) (zk1 kX5_leftOut_0) rfl ?_
  refine z_rdV (pc := 2) (zk2 kX5_leftOut_0) (st := []) lkX5_233 ivX5_tipsy hM.1 rfl rfl (c_mtipsy hM hn h12 (by omega)) rfl ⟨rfl, rfl⟩ rfl rfl ?_ rfl
  refine z_iconst (pc := 5) (zk3 kX5_leftOut_0) (v := 4) (by decide) ?_
  refine z_idiv (pc := 6) (zk4 kX5_leftOut_0) (by decide) ?_
  refine z_aload_n (pc := 7) (zk5 kX5_leftOut_0) rfl ?_
  refine z_getf (pc := 8) (zk6 kX5_leftOut_0) flX5_135 hM.1 (v := .int (σ 5 0)) rfl ?_
  refine z_iconst (pc := 11) (zk7 kX5_leftOut_0) (v := 3) (by decide) ?_
  refine z_idiv (pc := 12) (zk8 kX5_leftOut_0) (by decide) ?_
  refine z_iadd (pc := 13) (zk9 kX5_leftOut_0) ?_
  exact z_iret (pc := 14) (zk10 kX5_leftOut_0) rfl (Nat.zero_le _) (Nat.zero_le _) ⟨rfl, rfl, rfl⟩
set_option maxRecDepth 20000 in
theorem c_mheardAt {D : zD} {B : Nat} {h : zH} {sz : Nat} {p : Nat} {σ τ ω : Ln} {ε : El} {mv : Nat → Int64} {kp tr : Option Nat} {n l k : Nat} (hM : MoAt h p σ τ ω ε mv kp tr) (hn : σ 0 0 = nI n) (h12 : n ≤ 12) (hl : l < 8) (hk : k < n) (hto : ToOk σ l) : zRd D B xX5_heardAt [.ref p, .int (nI l), .int (nI k)] h sz (.int (heardF σ l k)) := by
  refine zM.of (by decide) rfl (n := 4) ?_
  show Z D B xX5_heardAt 0 0 _ 0 [some (.ref p), some (.int (nI l)), some (.int (nI k)), none, none, none, none] [] h sz
  refine z_aload_n (pc := 0) (zk0 kX5_heardAt_0) rfl ?_
  refine z_iload_n (pc := 1) (zk1 kX5_heardAt_0) rfl ?_
  refine z_iload_n (pc := 2) (zk2 kX5_heardAt_0) rfl ?_
  refine z_rdV (pc := 3) (zk3 kX5_heardAt_0) (st := []) lkX5_236 ivX5_readAt hM.1 rfl rfl (c_mreadAt hM (by omega)) rfl ⟨rfl, rfl⟩ rfl rfl ?_ rfl
  refine z_oif_ne (pc := 6) (zk4 kX5_heardAt_0) (tgt := 11) (by decide) (fun c_1 => ?_) (fun c_1 => ?_)
  · refine z_aload_n (pc := 11) (zk7 kX5_heardAt_0) rfl ?_
    refine z_getf (pc := 12) (zk8 kX5_heardAt_0) flX5_62 hM.1 gMo_21 ?_
    refine z_iload_n (pc := 15) (zk9 kX5_heardAt_0) rfl ?_
    refine z_ialdN (pc := 16) (zk10 kX5_heardAt_0) (f := σ 13) (j := l) hM.2.2.2.2.2.2.2.2.2.2.2.2.2.2.2.2.2.1 (by omega) rfl ?_
    refine z_aload_n (pc := 17) (zk11 kX5_heardAt_0) rfl ?_
    refine z_getf (pc := 18) (zk12 kX5_heardAt_0) flX5_41 hM.1 gMo_10 ?_
    refine z_iload_n (pc := 21) (zk13 kX5_heardAt_0) rfl ?_
    refine z_ialdN (pc := 22) (zk14 kX5_heardAt_0) (f := σ 1) (j := k) hM.2.2.2.2.2.2.2.2.2.2.1 (by omega) rfl ?_
    refine z_isub (pc := 23) (zk15 kX5_heardAt_0) ?_
    refine z_aload_n (pc := 24) (zk0 kX5_heardAt_1) rfl ?_
    refine z_iload_n (pc := 25) (zk1 kX5_heardAt_1) rfl ?_
    refine z_rdV (pc := 26) (zk2 kX5_heardAt_1) (st := [.int ((σ 13 l) - (σ 1 k))]) lkX5_239 ivX5_leftOut hM.1 rfl rfl (c_mleftOut hM hn h12 (by omega)) rfl ⟨rfl, rfl⟩ rfl rfl ?_ rfl
    refine z_isub (pc := 29) (zk3 kX5_heardAt_1) ?_
    refine z_istore_n (pc := 30) (zk4 kX5_heardAt_1) rfl rfl ?_
    show Z D B xX5_heardAt _ _ _ 31 [some (.ref p), some (.int (nI l)), some (.int (nI k)), some (.int (((σ 13 l) - (σ 1 k)) - (lout σ (tipsy σ k)))), none, none, none] _ _ _
    refine z_aload_n (pc := 31) (zk5 kX5_heardAt_1) rfl ?_
    refine z_getf (pc := 32) (zk6 kX5_heardAt_1) flX5_62 hM.1 gMo_21 ?_
    refine z_iload_n (pc := 35) (zk7 kX5_heardAt_1) rfl ?_
    refine z_ialdN (pc := 36) (zk8 kX5_heardAt_1) (f := σ 13) (j := l) hM.2.2.2.2.2.2.2.2.2.2.2.2.2.2.2.2.2.1 (by omega) rfl ?_
    refine z_aload_n (pc := 37) (zk9 kX5_heardAt_1) rfl ?_
    refine z_getf (pc := 38) (zk10 kX5_heardAt_1) flX5_41 hM.1 gMo_10 ?_
    refine z_iload_n (pc := 41) (zk11 kX5_heardAt_1) rfl ?_
    refine z_ialdN (pc := 42) (zk12 kX5_heardAt_1) (f := σ 1) (j := k) hM.2.2.2.2.2.2.2.2.2.2.1 (by omega) rfl ?_
    refine z_iconst (pc := 43) (zk13 kX5_heardAt_1) (v := 2) (by decide) ?_
    refine z_idiv (pc := 44) (zk14 kX5_heardAt_1) (by decide) ?_
    refine z_isub (pc := 45) (zk15 kX5_heardAt_1) ?_
    refine z_aload_n (pc := 46) (zk0 kX5_heardAt_2) rfl ?_
    refine z_iload_n (pc := 47) (zk1 kX5_heardAt_2) rfl ?_
    refine z_rdV (pc := 48) (zk2 kX5_heardAt_2) (st := [.int ((σ 13 l) - ((σ 1 k) / 2))]) lkX5_239 ivX5_leftOut hM.1 rfl rfl (c_mleftOut hM hn h12 (by omega)) rfl ⟨rfl, rfl⟩ rfl rfl ?_ rfl
    refine z_isub (pc := 51) (zk3 kX5_heardAt_2) ?_
    refine z_istore (pc := 52) (zk4 kX5_heardAt_2) rfl rfl ?_
    show Z D B xX5_heardAt _ _ _ 54 [some (.ref p), some (.int (nI l)), some (.int (nI k)), some (.int (((σ 13 l) - (σ 1 k)) - (lout σ (tipsy σ k)))), some (.int (((σ 13 l) - ((σ 1 k) / 2)) - (lout σ (tipsy σ k)))), none, none] _ _ _
    suffices hJ : Z D B xX5_heardAt 0 0 (fun r h1 z1 => r = some (.int (heardF σ l k)) ∧ h1 = h ∧ z1 = sz) 88 [some (.ref p), some (.int (nI l)), some (.int (nI k)), some (.int (((σ 13 l) - (σ 1 k)) - (lout σ (tipsy σ k)))), some (.int (((σ 13 l) - ((σ 1 k) / 2)) - (lout σ (tipsy σ k)))), none, none] [.int (oI (undB σ l k))] h sz from by
      refine z_iload_n (pc := 54) (zk5 kX5_heardAt_2) rfl ?_
      refine z_aload_n (pc := 55) (zk6 kX5_heardAt_2) rfl ?_
      refine z_getf (pc := 56) (zk7 kX5_heardAt_2) flX5_59 hM.1 gMo_20 ?_
      refine z_iload_n (pc := 59) (zk8 kX5_heardAt_2) rfl ?_
      refine z_ialdN (pc := 60) (zk9 kX5_heardAt_2) (f := σ 12) (j := l) hM.2.2.2.2.2.2.2.2.2.2.2.2.2.2.2.2.1 (by omega) rfl ?_
      refine z_icmp_eq (pc := 61) (zk10 kX5_heardAt_2) (tgt := 83) (by decide) (fun c_2 => ?_) (fun c_2 => ?_)
      · refine z_iconst (pc := 83) (zk8 kX5_heardAt_3) (v := 1) (by decide) ?_
        refine z_goto (pc := 84) (zk9 kX5_heardAt_3) (tgt := 88) (by decide) ?_
        exact z_top (congrArg Value.int (by simp [undB, oI, c_1, c_2])) hJ
      · refine z_aload_n (pc := 64) (zk11 kX5_heardAt_2) rfl ?_
        refine z_getf (pc := 65) (zk12 kX5_heardAt_2) flX5_47 hM.1 gMo_12 ?_
        refine z_iload_n (pc := 68) (zk13 kX5_heardAt_2) rfl ?_
        refine z_ialdN (pc := 69) (zk14 kX5_heardAt_2) (f := σ 3) (j := k) hM.2.2.2.2.2.2.2.2.2.2.2.2.1 (by omega) rfl ?_
        refine z_aload_n (pc := 70) (zk15 kX5_heardAt_2) rfl ?_
        refine z_getf (pc := 71) (zk0 kX5_heardAt_3) flX5_56 hM.1 gMo_19 ?_
        refine z_iload_n (pc := 74) (zk1 kX5_heardAt_3) rfl ?_
        refine z_ialdN (pc := 75) (zk2 kX5_heardAt_3) (f := σ 11) (j := l) hM.2.2.2.2.2.2.2.2.2.2.2.2.2.2.2.1 (by omega) rfl ?_
        refine z_ishr (pc := 76) (zk3 kX5_heardAt_3) ?_
        refine z_iconst (pc := 77) (zk4 kX5_heardAt_3) (v := 1) (by decide) ?_
        refine z_iand (pc := 78) (zk5 kX5_heardAt_3) ?_
        refine z_iconst (pc := 79) (zk6 kX5_heardAt_3) (v := 1) (by decide) ?_
        refine z_icmp_ne (pc := 80) (zk7 kX5_heardAt_3) (tgt := 87) (by decide) (fun c_3 => ?_) (fun c_3 => ?_)
        · refine z_iconst (pc := 87) (zk10 kX5_heardAt_3) (v := 0) (by decide) ?_
          exact z_top (congrArg Value.int (by simp [undB, oI, c_1, c_2, c_3])) hJ
        · refine z_iconst (pc := 83) (zk8 kX5_heardAt_3) (v := 1) (by decide) ?_
          refine z_goto (pc := 84) (zk9 kX5_heardAt_3) (tgt := 88) (by decide) ?_
          exact z_top (congrArg Value.int (by simp [undB, oI, c_1, c_2, c_3])) hJ
    refine z_istore (pc := 88) (zk11 kX5_heardAt_3) rfl rfl ?_
    show Z D B xX5_heardAt _ _ _ 90 [some (.ref p), some (.int (nI l)), some (.int (nI k)), some (.int (((σ 13 l) - (σ 1 k)) - (lout σ (tipsy σ k)))), some (.int (((σ 13 l) - ((σ 1 k) / 2)) - (lout σ (tipsy σ k)))), some (.int (oI (undB σ l k))), none] _ _ _
    refine z_iload_n (pc := 90) (zk12 kX5_heardAt_3) rfl ?_
    refine z_i2l (pc := 91) (zk13 kX5_heardAt_3) ?_
    refine z_aload_n (pc := 92) (zk14 kX5_heardAt_3) rfl ?_
    refine z_getf (pc := 93) (zk15 kX5_heardAt_3) flX5_59 hM.1 gMo_20 ?_
    refine z_iload_n (pc := 96) (zk0 kX5_heardAt_4) rfl ?_
    refine z_ialdN (pc := 97) (zk1 kX5_heardAt_4) (f := σ 12) (j := l) hM.2.2.2.2.2.2.2.2.2.2.2.2.2.2.2.2.1 (by omega) rfl ?_
    refine z_iconst (pc := 98) (zk2 kX5_heardAt_4) (v := 1) (by decide) ?_
    refine z_isub (pc := 99) (zk3 kX5_heardAt_4) ?_
    refine z_i2l (pc := 100) (zk4 kX5_heardAt_4) ?_
    refine z_aload_n (pc := 101) (zk5 kX5_heardAt_4) rfl ?_
    refine z_getf (pc := 102) (zk6 kX5_heardAt_4) flX5_59 hM.1 gMo_20 ?_
    refine z_iload_n (pc := 105) (zk7 kX5_heardAt_4) rfl ?_
    refine z_ialdN (pc := 106) (zk8 kX5_heardAt_4) (f := σ 12) (j := l) hM.2.2.2.2.2.2.2.2.2.2.2.2.2.2.2.2.1 (by omega) rfl ?_
    refine z_iconst (pc := 107) (zk9 kX5_heardAt_4) (v := 1) (by decide) ?_
    refine z_iadd (pc := 108) (zk10 kX5_heardAt_4) ?_
    refine z_i2l (pc := 109) (zk11 kX5_heardAt_4) ?_
    refine z_rdS (pc := 110) (zk12 kX5_heardAt_4) (st := []) lkX5_81 isX5_in (c_inI (x := nI k) (a := (σ 12 l) - 1) (b := (σ 12 l) + 1) rfl rfl) rfl ⟨rfl, rfl⟩ rfl rfl ?_ rfl
    rw [near_eq hto (by omega)]
    refine z_istore (pc := 113) (zk13 kX5_heardAt_4) rfl rfl ?_
    show Z D B xX5_heardAt _ _ _ 115 [some (.ref p), some (.int (nI l)), some (.int (nI k)), some (.int (((σ 13 l) - (σ 1 k)) - (lout σ (tipsy σ k)))), some (.int (((σ 13 l) - ((σ 1 k) / 2)) - (lout σ (tipsy σ k)))), some (.int (oI (undB σ l k))), some (.int (oI (nearB σ l k)))] _ _ _
    refine z_aload_n (pc := 115) (zk14 kX5_heardAt_4) rfl ?_
    refine z_getf (pc := 116) (zk15 kX5_heardAt_4) flX5_53 hM.1 gMo_18 ?_
    refine z_iload_n (pc := 119) (zk0 kX5_heardAt_5) rfl ?_
    refine z_ialdN (pc := 120) (zk1 kX5_heardAt_5) (f := σ 10) (j := l) hM.2.2.2.2.2.2.2.2.2.2.2.2.2.2.1 (by omega) rfl ?_
    by_cases c_4 : σ 10 l = 1
    · refine z_tableIn (pc := 121) (zk2 kX5_heardAt_5) (off := 35) (tgt := 156) (by rw [c_4]; decide) (by rw [c_4]; decide) (by rw [c_4]; rfl) (by decide) ?_
      refine z_aload_n (pc := 156) (zk3 kX5_heardAt_5) rfl ?_
      refine z_iload_n (pc := 157) (zk4 kX5_heardAt_5) rfl ?_
      refine z_iload (pc := 158) (zk5 kX5_heardAt_5) rfl ?_
      refine z_rdV (pc := 160) (zk6 kX5_heardAt_5) (st := []) lkX5_242 ivX5_held hM.1 rfl rfl (c_held hM (by omega)) rfl ⟨rfl, rfl⟩ rfl rfl ?_ rfl
      exact z_iret (pc := 163) (zk7 kX5_heardAt_5) rfl (Nat.zero_le _) (Nat.zero_le _) ⟨by simp [heardF, heardW, c_1, c_4], rfl, rfl⟩
    by_cases c_5 : σ 10 l = 2
    · refine z_tableIn (pc := 121) (zk2 kX5_heardAt_5) (off := 63) (tgt := 184) (by rw [c_5]; decide) (by rw [c_5]; decide) (by rw [c_5]; rfl) (by decide) ?_
      refine z_iload (pc := 184) (zk5 kX5_heardAt_6) rfl ?_
      refine z_oif_eq (pc := 186) (zk6 kX5_heardAt_6) (tgt := 198) (by decide) (fun c_6 => ?_) (fun c_6 => ?_)
      · refine z_iconst (pc := 198) (zk12 kX5_heardAt_6) (v := 0) (by decide) ?_
        exact z_iret (pc := 199) (zk13 kX5_heardAt_6) rfl (Nat.zero_le _) (Nat.zero_le _) ⟨by simp [heardF, heardW, c_1, c_4, c_5, c_6], rfl, rfl⟩
      · refine z_aload_n (pc := 189) (zk7 kX5_heardAt_6) rfl ?_
        refine z_iload_n (pc := 190) (zk8 kX5_heardAt_6) rfl ?_
        refine z_iload_n (pc := 191) (zk9 kX5_heardAt_6) rfl ?_
        refine z_rdV (pc := 192) (zk10 kX5_heardAt_6) (st := []) lkX5_242 ivX5_held hM.1 rfl rfl (c_held hM (by omega)) rfl ⟨rfl, rfl⟩ rfl rfl ?_ rfl
        refine z_goto (pc := 195) (zk11 kX5_heardAt_6) (tgt := 199) (by decide) ?_
        exact z_iret (pc := 199) (zk13 kX5_heardAt_6) rfl (Nat.zero_le _) (Nat.zero_le _) ⟨by simp [heardF, heardW, c_1, c_4, c_5, c_6], rfl, rfl⟩
    by_cases c_7 : σ 10 l = 3
    · refine z_tableIn (pc := 121) (zk2 kX5_heardAt_5) (off := 43) (tgt := 164) (by rw [c_7]; decide) (by rw [c_7]; decide) (by rw [c_7]; rfl) (by decide) ?_
      refine z_aload_n (pc := 164) (zk8 kX5_heardAt_5) rfl ?_
      refine z_iload_n (pc := 165) (zk9 kX5_heardAt_5) rfl ?_
      refine z_aload_n (pc := 166) (zk10 kX5_heardAt_5) rfl ?_
      refine z_iload_n (pc := 167) (zk11 kX5_heardAt_5) rfl ?_
      refine z_iload (pc := 168) (zk12 kX5_heardAt_5) rfl ?_
      refine z_rdV (pc := 170) (zk13 kX5_heardAt_5) (st := [.int (nI l), .ref p]) lkX5_242 ivX5_held hM.1 rfl rfl (c_held hM (by omega)) rfl ⟨rfl, rfl⟩ rfl rfl ?_ rfl
      refine z_aload_n (pc := 173) (zk14 kX5_heardAt_5) rfl ?_
      refine z_getf (pc := 174) (zk15 kX5_heardAt_5) flX5_56 hM.1 gMo_19 ?_
      refine z_iload_n (pc := 177) (zk0 kX5_heardAt_6) rfl ?_
      refine z_ialdN (pc := 178) (zk1 kX5_heardAt_6) (f := σ 11) (j := l) hM.2.2.2.2.2.2.2.2.2.2.2.2.2.2.2.1 (by omega) rfl ?_
      refine z_iadd (pc := 179) (zk2 kX5_heardAt_6) ?_
      refine z_rdV (pc := 180) (zk3 kX5_heardAt_6) (st := []) lkX5_242 ivX5_held hM.1 rfl rfl (c_held hM (by omega)) rfl ⟨rfl, rfl⟩ rfl rfl ?_ rfl
      exact z_iret (pc := 183) (zk4 kX5_heardAt_6) rfl (Nat.zero_le _) (Nat.zero_le _) ⟨by simp [heardF, heardW, c_1, c_4, c_5, c_7], rfl, rfl⟩
    by_cases c_8 : σ 10 l = 4
    · refine z_tableIn (pc := 121) (zk2 kX5_heardAt_5) (off := 79) (tgt := 200) (by rw [c_8]; decide) (by rw [c_8]; decide) (by rw [c_8]; rfl) (by decide) ?_
      refine z_iload (pc := 200) (zk14 kX5_heardAt_6) rfl ?_
      refine z_oif_eq (pc := 202) (zk15 kX5_heardAt_6) (tgt := 219) (by decide) (fun c_9 => ?_) (fun c_9 => ?_)
      · refine z_iconst (pc := 219) (zk7 kX5_heardAt_7) (v := 0) (by decide) ?_
        exact z_iret (pc := 220) (zk8 kX5_heardAt_7) rfl (Nat.zero_le _) (Nat.zero_le _) ⟨by simp [heardF, heardW, c_1, c_4, c_5, c_7, c_8, c_9], rfl, rfl⟩
      · refine z_iload (pc := 205) (zk0 kX5_heardAt_7) rfl ?_
        refine z_oif_eq (pc := 207) (zk1 kX5_heardAt_7) (tgt := 219) (by decide) (fun c_10 => ?_) (fun c_10 => ?_)
        · refine z_iconst (pc := 219) (zk7 kX5_heardAt_7) (v := 0) (by decide) ?_
          exact z_iret (pc := 220) (zk8 kX5_heardAt_7) rfl (Nat.zero_le _) (Nat.zero_le _) ⟨by simp [heardF, heardW, c_1, c_4, c_5, c_7, c_8, c_9, c_10], rfl, rfl⟩
        · refine z_aload_n (pc := 210) (zk2 kX5_heardAt_7) rfl ?_
          refine z_iload_n (pc := 211) (zk3 kX5_heardAt_7) rfl ?_
          refine z_iload_n (pc := 212) (zk4 kX5_heardAt_7) rfl ?_
          refine z_rdV (pc := 213) (zk5 kX5_heardAt_7) (st := []) lkX5_242 ivX5_held hM.1 rfl rfl (c_held hM (by omega)) rfl ⟨rfl, rfl⟩ rfl rfl ?_ rfl
          refine z_goto (pc := 216) (zk6 kX5_heardAt_7) (tgt := 220) (by decide) ?_
          exact z_iret (pc := 220) (zk8 kX5_heardAt_7) rfl (Nat.zero_le _) (Nat.zero_le _) ⟨by simp [heardF, heardW, c_1, c_4, c_5, c_7, c_8, c_9, c_10], rfl, rfl⟩
    by_cases c_11 : σ 10 l = 5
    · refine z_tableIn (pc := 121) (zk2 kX5_heardAt_5) (off := 100) (tgt := 221) (by rw [c_11]; decide) (by rw [c_11]; decide) (by rw [c_11]; rfl) (by decide) ?_
      refine z_iload_n (pc := 221) (zk9 kX5_heardAt_7) rfl ?_
      refine z_aload_n (pc := 222) (zk10 kX5_heardAt_7) rfl ?_
      refine z_getf (pc := 223) (zk11 kX5_heardAt_7) flX5_59 hM.1 gMo_20 ?_
      refine z_iload_n (pc := 226) (zk12 kX5_heardAt_7) rfl ?_
      refine z_ialdN (pc := 227) (zk13 kX5_heardAt_7) (f := σ 12) (j := l) hM.2.2.2.2.2.2.2.2.2.2.2.2.2.2.2.2.1 (by omega) rfl ?_
      refine z_icmp_ne (pc := 228) (zk14 kX5_heardAt_7) (tgt := 240) (by decide) (fun c_12 => ?_) (fun c_12 => ?_)
      · refine z_iconst (pc := 240) (zk4 kX5_heardAt_8) (v := 0) (by decide) ?_
        exact z_iret (pc := 241) (zk5 kX5_heardAt_8) rfl (Nat.zero_le _) (Nat.zero_le _) ⟨by simp [heardF, heardW, c_1, c_4, c_5, c_7, c_8, c_11, c_12], rfl, rfl⟩
      · refine z_aload_n (pc := 231) (zk15 kX5_heardAt_7) rfl ?_
        refine z_getf (pc := 232) (zk0 kX5_heardAt_8) flX5_62 hM.1 gMo_21 ?_
        refine z_iload_n (pc := 235) (zk1 kX5_heardAt_8) rfl ?_
        refine z_ialdN (pc := 236) (zk2 kX5_heardAt_8) (f := σ 13) (j := l) hM.2.2.2.2.2.2.2.2.2.2.2.2.2.2.2.2.2.1 (by omega) rfl ?_
        refine z_goto (pc := 237) (zk3 kX5_heardAt_8) (tgt := 241) (by decide) ?_
        exact z_iret (pc := 241) (zk5 kX5_heardAt_8) rfl (Nat.zero_le _) (Nat.zero_le _) ⟨by simp [heardF, heardW, c_1, c_4, c_5, c_7, c_8, c_11, c_12], rfl, rfl⟩
    refine z_tableOut (pc := 121) (zk2 kX5_heardAt_5) (tgt := 242) (zOut1_5 c_4 c_5 c_7 c_8 c_11) (by decide) ?_
    refine z_aload_n (pc := 242) (zk6 kX5_heardAt_8) rfl ?_
    refine z_iload_n (pc := 243) (zk7 kX5_heardAt_8) rfl ?_
    refine z_iload_n (pc := 244) (zk8 kX5_heardAt_8) rfl ?_
    refine z_rdV (pc := 245) (zk9 kX5_heardAt_8) (st := []) lkX5_242 ivX5_held hM.1 rfl rfl (c_held hM (by omega)) rfl ⟨rfl, rfl⟩ rfl rfl ?_ rfl
    exact z_iret (pc := 248) (zk10 kX5_heardAt_8) rfl (Nat.zero_le _) (Nat.zero_le _) ⟨by simp [heardF, heardW, c_1, c_4, c_5, c_7, c_8, c_11], rfl, rfl⟩
  · refine z_iconst (pc := 9) (zk5 kX5_heardAt_0) (v := 0) (by decide) ?_
    exact z_iret (pc := 10) (zk6 kX5_heardAt_0) rfl (Nat.zero_le _) (Nat.zero_le _) ⟨by simp [heardF, heardW, c_1], rfl, rfl⟩
set_option maxRecDepth 20000 in
theorem c_knowsOf {D : zD} {B : Nat} {h : zH} {sz : Nat} {p : Nat} {σ τ ω : Ln} {ε : El} {mv : Nat → Int64} {kp tr : Option Nat} {n l k : Nat} (hM : MoAt h p σ τ ω ε mv kp tr) (hn : σ 0 0 = nI n) (h12 : n ≤ 12) (hl : l < 8) (hk : k < n) (hto : ToOk σ l) : zRd D B xX5_knowsOf [.ref p, .int (nI l), .int (nI k)] h sz (.int (oI (knowB σ l k))) := by
  refine zM.of (by decide) rfl (n := 0) ?_
  show Z D B xX5_knowsOf 0 0 _ 0 [some (.ref p), some (.int (nI l)), some (.int (nI k))] [] h sz
  refine z_iconst (pc := 0) (zk0 kX5_knowsOf_0) (v := 2) (by decide) ?_
  refine z_aload_n (pc := 1) (zk1 kX5_knowsOf_0) rfl ?_
  refine z_iload_n (pc := 2) (zk2 kX5_knowsOf_0) rfl ?_
  refine z_iload_n (pc := 3) (zk3 kX5_knowsOf_0) rfl ?_
  refine z_rdV (pc := 4) (zk4 kX5_knowsOf_0) (st := [.int 2]) lkX5_115 ivX5_heardAt hM.1 rfl rfl (c_mheardAt hM hn h12 (by omega) (by omega) hto) rfl ⟨rfl, rfl⟩ rfl rfl ?_ rfl
  refine z_imul (pc := 7) (zk5 kX5_knowsOf_0) ?_
  refine z_aload_n (pc := 8) (zk6 kX5_knowsOf_0) rfl ?_
  refine z_getf (pc := 9) (zk7 kX5_knowsOf_0) flX5_62 hM.1 gMo_21 ?_
  refine z_iload_n (pc := 12) (zk8 kX5_knowsOf_0) rfl ?_
  refine z_ialdN (pc := 13) (zk9 kX5_knowsOf_0) (f := σ 13) (j := l) hM.2.2.2.2.2.2.2.2.2.2.2.2.2.2.2.2.2.1 (by omega) rfl ?_
  refine z_icmp_lt (pc := 14) (zk10 kX5_knowsOf_0) (tgt := 21) (by decide) (fun c_1 => ?_) (fun c_1 => ?_)
  · refine z_iconst (pc := 21) (zk13 kX5_knowsOf_0) (v := 0) (by decide) ?_
    exact z_zret (pc := 22) (zk14 kX5_knowsOf_0) rfl (Nat.zero_le _) (Nat.zero_le _) (by decide) ⟨by simp [knowB, oI, c_1, Int32.not_le.mpr c_1], rfl, rfl⟩
  · refine z_iconst (pc := 17) (zk11 kX5_knowsOf_0) (v := 1) (by decide) ?_
    refine z_goto (pc := 18) (zk12 kX5_knowsOf_0) (tgt := 22) (by decide) ?_
    exact z_zret (pc := 22) (zk14 kX5_knowsOf_0) rfl (Nat.zero_le _) (Nat.zero_le _) (by decide) ⟨by simp [knowB, oI, c_1, Int32.not_lt.mp c_1], rfl, rfl⟩
theorem bitsI_s (p : Nat → Bool) (n : Nat) : bitsI p n ||| (if p n = true then 1 <<< (nI n &&& 31) else 0) = bitsI p (n + 1) := by
  rw [bitsI]
  by_cases h : p n = true
  · rw [if_pos h, if_pos h]
  · rw [if_neg h, if_neg h, Int32.or_zero]
set_option maxRecDepth 20000 in
theorem c_mknowers {D : zD} {B : Nat} {h : zH} {sz : Nat} {p : Nat} {σ τ ω : Ln} {ε : El} {mv : Nat → Int64} {kp tr : Option Nat} {n l : Nat} (hM : MoAt h p σ τ ω ε mv kp tr) (hn : σ 0 0 = nI n) (h12 : n ≤ 12) (hl : l < 8) (hto : ToOk σ l) : zRd D B xX5_knowers [.ref p, .int (nI l)] h sz (.int (knowersF σ l)) := by
  refine zM.of (by decide) rfl (n := 2) ?_
  show Z D B xX5_knowers 0 0 _ 0 [some (.ref p), some (.int (nI l)), none, none] [] h sz
  refine z_iconst (pc := 0) (zk0 kX5_knowers_0) (v := 0) (by decide) ?_
  refine z_istore_n (pc := 1) (zk1 kX5_knowers_0) rfl rfl ?_
  show Z D B xX5_knowers _ _ _ 2 [some (.ref p), some (.int (nI l)), some (.int 0), none] _ _ _
  refine z_iconst (pc := 2) (zk2 kX5_knowers_0) (v := 0) (by decide) ?_
  refine z_istore_n (pc := 3) (zk3 kX5_knowers_0) rfl rfl ?_
  show Z D B xX5_knowers _ _ _ 4 [some (.ref p), some (.int (nI l)), some (.int 0), some (.int 0)] _ _ _
  have lp4 : ∀ (n_ : Nat) (b : Int32) (i : Nat), n - i < n_ → (i ≤ n) → (b = bitsI (fun k => knowB σ l k) i) → Z D B xX5_knowers 0 0 (fun r h1 z1 => r = some (.int (knowersF σ l)) ∧ h1 = h ∧ z1 = sz) 4 [some (.ref p), some (.int (nI l)), some (.int b), some (.int (nI i))] [] h sz := by
    intro n_
    induction n_ with
    | zero => intro b i hm_; exact absurd hm_ (Nat.not_lt_zero _)
    | succ n_ ih4 =>
      intro b i hm_ hi_i hb_
      refine z_iload_n (pc := 4) (zk4 kX5_knowers_0) rfl ?_
      refine z_aload_n (pc := 5) (zk5 kX5_knowers_0) rfl ?_
      refine z_getf (pc := 6) (zk6 kX5_knowers_0) flX5_37 hM.1 (v := .int (nI n)) (by rw [← hn]; rfl) ?_
      refine z_icmp_ge (pc := 9) (zk7 kX5_knowers_0) (tgt := 37) (by decide) (fun c_1 => ?_) (fun c_1 => ?_)
      · have hie_i : i = n := nI_ge_yes (a := n) (by omega) (by omega) (by omega) c_1
        refine z_iload_n (pc := 37) (zk7 kX5_knowers_1) rfl ?_
        exact z_iret (pc := 38) (zk8 kX5_knowers_1) rfl (Nat.zero_le _) (Nat.zero_le _) ⟨by rw [hb_, hie_i, knowersF, hsN_eq hn h12], rfl, rfl⟩
      · have hlt_i : i < n := nI_ge_not (a := n) (by omega) (by omega) c_1
        refine z_iload_n (pc := 12) (zk8 kX5_knowers_0) rfl ?_
        suffices hJ : Z D B xX5_knowers 0 0 (fun r h1 z1 => r = some (.int (knowersF σ l)) ∧ h1 = h ∧ z1 = sz) 29 [some (.ref p), some (.int (nI l)), some (.int b), some (.int (nI i))] [.int (if knowB σ l i = true then 1 <<< (nI i &&& 31) else 0), .int b] h sz from by
          refine z_aload_n (pc := 13) (zk9 kX5_knowers_0) rfl ?_
          refine z_iload_n (pc := 14) (zk10 kX5_knowers_0) rfl ?_
          refine z_iload_n (pc := 15) (zk11 kX5_knowers_0) rfl ?_
          refine z_rdV (pc := 16) (zk12 kX5_knowers_0) (st := [.int b]) lkX5_245 ivX5_knowsOf hM.1 rfl rfl (c_knowsOf hM hn h12 (by omega) (by omega) hto) rfl ⟨rfl, rfl⟩ rfl rfl ?_ rfl
          refine z_oif_eq (pc := 19) (zk13 kX5_knowers_0) (tgt := 28) (by decide) (fun c_2 => ?_) (fun c_2 => ?_)
          · refine z_iconst (pc := 28) (zk2 kX5_knowers_1) (v := 0) (by decide) ?_
            exact z_top (congrArg Value.int (by simp [c_1, Int32.not_le.mp c_1, c_2])) hJ
          · refine z_iconst (pc := 22) (zk14 kX5_knowers_0) (v := 1) (by decide) ?_
            refine z_iload_n (pc := 23) (zk15 kX5_knowers_0) rfl ?_
            refine z_ishl (pc := 24) (zk0 kX5_knowers_1) ?_
            refine z_goto (pc := 25) (zk1 kX5_knowers_1) (tgt := 29) (by decide) ?_
            exact z_top (congrArg Value.int (by simp [c_1, Int32.not_le.mp c_1, c_2])) hJ
        refine z_ior (pc := 29) (zk3 kX5_knowers_1) ?_
        refine z_istore_n (pc := 30) (zk4 kX5_knowers_1) rfl rfl ?_
        show Z D B xX5_knowers _ _ _ 31 [some (.ref p), some (.int (nI l)), some (.int (b ||| (if knowB σ l i = true then 1 <<< (nI i &&& 31) else 0))), some (.int (nI i))] _ _ _
        refine z_iinc (pc := 31) (zk5 kX5_knowers_1) (v := nI (i + 1)) rfl zinc rfl rfl ?_
        show Z D B xX5_knowers _ _ _ 34 [some (.ref p), some (.int (nI l)), some (.int (b ||| (if knowB σ l i = true then 1 <<< (nI i &&& 31) else 0))), some (.int (nI (i + 1)))] _ _ _
        refine z_goto (pc := 34) (zk6 kX5_knowers_1) (tgt := 4) (by decide) ?_
        exact ih4 (b ||| (if knowB σ l i = true then 1 <<< (nI i &&& 31) else 0)) (i + 1) (by omega) (by omega) (by rw [hb_]; exact bitsI_s (fun k => knowB σ l k) i)
  exact lp4 _ 0 0 (Nat.lt_succ_self _) (by omega) rfl
set_option maxRecDepth 20000 in
theorem c_mknownAt {D : zD} {B : Nat} {h : zH} {sz : Nat} {p : Nat} {σ τ ω : Ln} {ε : El} {mv : Nat → Int64} {kp tr : Option Nat} {n m k : Nat} (hM : MoAt h p σ τ ω ε mv kp tr) (hn : σ 0 0 = nI n) (h12 : n ≤ 12) (hm : σ 9 0 = nI m) (h8 : m ≤ 8) (hk : k < n) (hto : ∀ l, l < m → ToOk σ l) : zRd D B xX5_knownAt [.ref p, .int (nI k)] h sz (.int (knownF σ k)) := by
  refine zM.of (by decide) rfl (n := 2) ?_
  show Z D B xX5_knownAt 0 0 _ 0 [some (.ref p), some (.int (nI k)), none, none] [] h sz
  refine z_iconst (pc := 0) (zk0 kX5_knownAt_0) (v := 0) (by decide) ?_
  refine z_istore_n (pc := 1) (zk1 kX5_knownAt_0) rfl rfl ?_
  show Z D B xX5_knownAt _ _ _ 2 [some (.ref p), some (.int (nI k)), some (.int 0), none] _ _ _
  refine z_iconst (pc := 2) (zk2 kX5_knownAt_0) (v := 0) (by decide) ?_
  refine z_istore_n (pc := 3) (zk3 kX5_knownAt_0) rfl rfl ?_
  show Z D B xX5_knownAt _ _ _ 4 [some (.ref p), some (.int (nI k)), some (.int 0), some (.int 0)] _ _ _
  have lp4 : ∀ (n_ : Nat) (b : Int32) (i : Nat), m - i < n_ → (i ≤ m) → (b = bitsI (fun l => knowB σ l k) i) → Z D B xX5_knownAt 0 0 (fun r h1 z1 => r = some (.int (knownF σ k)) ∧ h1 = h ∧ z1 = sz) 4 [some (.ref p), some (.int (nI k)), some (.int b), some (.int (nI i))] [] h sz := by
    intro n_
    induction n_ with
    | zero => intro b i hm_; exact absurd hm_ (Nat.not_lt_zero _)
    | succ n_ ih4 =>
      intro b i hm_ hi_i hb_
      refine z_iload_n (pc := 4) (zk4 kX5_knownAt_0) rfl ?_
      refine z_aload_n (pc := 5) (zk5 kX5_knownAt_0) rfl ?_
      refine z_getf (pc := 6) (zk6 kX5_knownAt_0) flX5_85 hM.1 (v := .int (nI m)) (by rw [← hm]; rfl) ?_
      refine z_icmp_ge (pc := 9) (zk7 kX5_knownAt_0) (tgt := 37) (by decide) (fun c_1 => ?_) (fun c_1 => ?_)
      · have hie_i : i = m := nI_ge_yes (a := m) (by omega) (by omega) (by omega) c_1
        refine z_iload_n (pc := 37) (zk7 kX5_knownAt_1) rfl ?_
        exact z_iret (pc := 38) (zk8 kX5_knownAt_1) rfl (Nat.zero_le _) (Nat.zero_le _) ⟨by rw [hb_, hie_i, knownF, lsN_eq hm h8], rfl, rfl⟩
      · have hlt_i : i < m := nI_ge_not (a := m) (by omega) (by omega) c_1
        refine z_iload_n (pc := 12) (zk8 kX5_knownAt_0) rfl ?_
        suffices hJ : Z D B xX5_knownAt 0 0 (fun r h1 z1 => r = some (.int (knownF σ k)) ∧ h1 = h ∧ z1 = sz) 29 [some (.ref p), some (.int (nI k)), some (.int b), some (.int (nI i))] [.int (if knowB σ i k = true then 1 <<< (nI i &&& 31) else 0), .int b] h sz from by
          refine z_aload_n (pc := 13) (zk9 kX5_knownAt_0) rfl ?_
          refine z_iload_n (pc := 14) (zk10 kX5_knownAt_0) rfl ?_
          refine z_iload_n (pc := 15) (zk11 kX5_knownAt_0) rfl ?_
          refine z_rdV (pc := 16) (zk12 kX5_knownAt_0) (st := [.int b]) lkX5_245 ivX5_knowsOf hM.1 rfl rfl (c_knowsOf hM hn h12 (by omega) (by omega) (hto _ (by omega))) rfl ⟨rfl, rfl⟩ rfl rfl ?_ rfl
          refine z_oif_eq (pc := 19) (zk13 kX5_knownAt_0) (tgt := 28) (by decide) (fun c_2 => ?_) (fun c_2 => ?_)
          · refine z_iconst (pc := 28) (zk2 kX5_knownAt_1) (v := 0) (by decide) ?_
            exact z_top (congrArg Value.int (by simp [c_1, Int32.not_le.mp c_1, c_2])) hJ
          · refine z_iconst (pc := 22) (zk14 kX5_knownAt_0) (v := 1) (by decide) ?_
            refine z_iload_n (pc := 23) (zk15 kX5_knownAt_0) rfl ?_
            refine z_ishl (pc := 24) (zk0 kX5_knownAt_1) ?_
            refine z_goto (pc := 25) (zk1 kX5_knownAt_1) (tgt := 29) (by decide) ?_
            exact z_top (congrArg Value.int (by simp [c_1, Int32.not_le.mp c_1, c_2])) hJ
        refine z_ior (pc := 29) (zk3 kX5_knownAt_1) ?_
        refine z_istore_n (pc := 30) (zk4 kX5_knownAt_1) rfl rfl ?_
        show Z D B xX5_knownAt _ _ _ 31 [some (.ref p), some (.int (nI k)), some (.int (b ||| (if knowB σ i k = true then 1 <<< (nI i &&& 31) else 0))), some (.int (nI i))] _ _ _
        refine z_iinc (pc := 31) (zk5 kX5_knownAt_1) (v := nI (i + 1)) rfl zinc rfl rfl ?_
        show Z D B xX5_knownAt _ _ _ 34 [some (.ref p), some (.int (nI k)), some (.int (b ||| (if knowB σ i k = true then 1 <<< (nI i &&& 31) else 0))), some (.int (nI (i + 1)))] _ _ _
        refine z_goto (pc := 34) (zk6 kX5_knownAt_1) (tgt := 4) (by decide) ?_
        exact ih4 (b ||| (if knowB σ i k = true then 1 <<< (nI i &&& 31) else 0)) (i + 1) (by omega) (by omega) (by rw [hb_]; exact bitsI_s (fun l => knowB σ l k) i)
  exact lp4 _ 0 0 (Nat.lt_succ_self _) (by omega) rfl
set_option maxRecDepth 20000 in
theorem c_mwordsAt {D : zD} {B : Nat} {h : zH} {sz : Nat} {p : Nat} {σ τ ω : Ln} {ε : El} {mv : Nat → Int64} {kp tr : Option Nat} {n m k : Nat} (hM : MoAt h p σ τ ω ε mv kp tr) (hn : σ 0 0 = nI n) (h12 : n ≤ 12) (hm : σ 9 0 = nI m) (h8 : m ≤ 8) (hk : k < n) (hto : ∀ l, l < m → ToOk σ l) : zRd D B xX5_wordsAt [.ref p, .int (nI k)] h sz (.int (wordsF σ k)) := by
  refine zM.of (by decide) rfl (n := 2) ?_
  show Z D B xX5_wordsAt 0 0 _ 0 [some (.ref p), some (.int (nI k)), none, none] [] h sz
  refine z_iconst (pc := 0) (zk0 kX5_wordsAt_0) (v := 0) (by decide) ?_
  refine z_istore_n (pc := 1) (zk1 kX5_wordsAt_0) rfl rfl ?_
  show Z D B xX5_wordsAt _ _ _ 2 [some (.ref p), some (.int (nI k)), some (.int 0), none] _ _ _
  refine z_iconst (pc := 2) (zk2 kX5_wordsAt_0) (v := 0) (by decide) ?_
  refine z_istore_n (pc := 3) (zk3 kX5_wordsAt_0) rfl rfl ?_
  show Z D B xX5_wordsAt _ _ _ 4 [some (.ref p), some (.int (nI k)), some (.int 0), some (.int 0)] _ _ _
  have lp4 : ∀ (n_ : Nat) (t : Int32) (i : Nat), m - i < n_ → (i ≤ m) → (t = sum0 (fun l => heardF σ l k) i) → Z D B xX5_wordsAt 0 0 (fun r h1 z1 => r = some (.int (wordsF σ k)) ∧ h1 = h ∧ z1 = sz) 4 [some (.ref p), some (.int (nI k)), some (.int t), some (.int (nI i))] [] h sz := by
    intro n_
    induction n_ with
    | zero => intro t i hm_; exact absurd hm_ (Nat.not_lt_zero _)
    | succ n_ ih4 =>
      intro t i hm_ hi_i ht
      refine z_iload_n (pc := 4) (zk4 kX5_wordsAt_0) rfl ?_
      refine z_aload_n (pc := 5) (zk5 kX5_wordsAt_0) rfl ?_
      refine z_getf (pc := 6) (zk6 kX5_wordsAt_0) flX5_85 hM.1 (v := .int (nI m)) (by rw [← hm]; rfl) ?_
      refine z_icmp_ge (pc := 9) (zk7 kX5_wordsAt_0) (tgt := 27) (by decide) (fun c_1 => ?_) (fun c_1 => ?_)
      · have hie_i : i = m := nI_ge_yes (a := m) (by omega) (by omega) (by omega) c_1
        refine z_iload_n (pc := 27) (zk1 kX5_wordsAt_1) rfl ?_
        exact z_iret (pc := 28) (zk2 kX5_wordsAt_1) rfl (Nat.zero_le _) (Nat.zero_le _) ⟨by rw [ht, hie_i, wordsF, lsN_eq hm h8], rfl, rfl⟩
      · have hlt_i : i < m := nI_ge_not (a := m) (by omega) (by omega) c_1
        refine z_iload_n (pc := 12) (zk8 kX5_wordsAt_0) rfl ?_
        refine z_aload_n (pc := 13) (zk9 kX5_wordsAt_0) rfl ?_
        refine z_iload_n (pc := 14) (zk10 kX5_wordsAt_0) rfl ?_
        refine z_iload_n (pc := 15) (zk11 kX5_wordsAt_0) rfl ?_
        refine z_rdV (pc := 16) (zk12 kX5_wordsAt_0) (st := [.int t]) lkX5_115 ivX5_heardAt hM.1 rfl rfl (c_mheardAt hM hn h12 (by omega) (by omega) (hto _ (by omega))) rfl ⟨rfl, rfl⟩ rfl rfl ?_ rfl
        refine z_iadd (pc := 19) (zk13 kX5_wordsAt_0) ?_
        refine z_istore_n (pc := 20) (zk14 kX5_wordsAt_0) rfl rfl ?_
        show Z D B xX5_wordsAt _ _ _ 21 [some (.ref p), some (.int (nI k)), some (.int (t + (heardF σ i k))), some (.int (nI i))] _ _ _
        refine z_iinc (pc := 21) (zk15 kX5_wordsAt_0) (v := nI (i + 1)) rfl zinc rfl rfl ?_
        show Z D B xX5_wordsAt _ _ _ 24 [some (.ref p), some (.int (nI k)), some (.int (t + (heardF σ i k))), some (.int (nI (i + 1)))] _ _ _
        refine z_goto (pc := 24) (zk0 kX5_wordsAt_1) (tgt := 4) (by decide) ?_
        exact ih4 (t + (heardF σ i k)) (i + 1) (by omega) (by omega) (by rw [ht]; rfl)
  exact lp4 _ 0 0 (Nat.lt_succ_self _) (by omega) rfl
