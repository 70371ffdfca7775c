theorem pop_s0 : ∀ a, a < 64 → ∀ b, b < 64 → 0 < 64 * a + b → popN ((64 * a + b) &&& (64 * a + b - 1)) + 1 = popN (64 * a + b) := by decide +kernel
theorem pop_s {v : Nat} (h : v < 4096) (h0 : 0 < v) : popN (v &&& (v - 1)) + 1 = popN v := by
  have := pop_s0 (v / 64) (by omega) (v % 64) (by omega) (by omega)
  rwa [show 64 * (v / 64) + v % 64 = v by omega] at this
theorem nI_z {v : Nat} (h : v < 4096) (q : nI v = 0) : v = 0 := by
  rcases Nat.eq_zero_or_pos v with e | e
  · exact e
  · exact absurd q (nI_ne0 e (by omega))
set_option maxRecDepth 20000 in
theorem c_bitsN {D : zD} {B : Nat} {h : zH} {sz : Nat} {a : Nat} (ha : a < 4096) : zRd D B xX5_bits [.int (nI a)] h sz (.int (nI (popN a))) := by
  refine zM.of (by decide) rfl (n := 2) ?_
  show Z D B xX5_bits 0 0 _ 0 [some (.int (nI a)), none, none] [] h sz
  refine z_iconst (pc := 0) (zk0 kX5_bits_0) (v := 0) (by decide) ?_
  refine z_istore_n (pc := 1) (zk1 kX5_bits_0) rfl rfl ?_
  show Z D B xX5_bits _ _ _ 2 [some (.int (nI a)), some (.int 0), none] _ _ _
  refine z_iload_n (pc := 2) (zk2 kX5_bits_0) rfl ?_
  refine z_istore_n (pc := 3) (zk3 kX5_bits_0) rfl rfl ?_
  show Z D B xX5_bits _ _ _ 4 [some (.int (nI a)), some (.int 0), some (.int (nI a))] _ _ _
  have lp4 : ∀ (n_ : Nat) (v : Nat) (c : Nat), v < n_ → (v < 4096) → (c + popN v = popN a) → Z D B xX5_bits 0 0 (fun r h1 z1 => r = some (.int (nI (popN a))) ∧ h1 = h ∧ z1 = sz) 4 [some (.int (nI a)), some (.int (nI c)), some (.int (nI v))] [] h sz := by
    intro n_
    induction n_ with
    | zero => intro v c hm_; exact absurd hm_ (Nat.not_lt_zero _)
    | succ n_ ih4 =>
      intro v c hm_ hv hc
      refine z_iload_n (pc := 4) (zk4 kX5_bits_0) rfl ?_
      refine z_if_eq (pc := 5) (zk5 kX5_bits_0) (tgt := 20) (by decide) (fun c_1 => ?_) (fun c_1 => ?_)
      · refine z_iload_n (pc := 20) (zk14 kX5_bits_0) rfl ?_
        exact z_iret (pc := 21) (zk15 kX5_bits_0) rfl (Nat.zero_le _) (Nat.zero_le _) ⟨by rw [← hc, nI_z hv c_1]; rfl, rfl, rfl⟩
      · have hp : 0 < v := Nat.pos_of_ne_zero (fun q => c_1 (by rw [q]; rfl))
        refine z_iinc (pc := 8) (zk6 kX5_bits_0) (v := nI (c + 1)) rfl zinc rfl rfl ?_
        show Z D B xX5_bits _ _ _ 11 [some (.int (nI a)), some (.int (nI (c + 1))), some (.int (nI v))] _ _ _
        refine z_iload_n (pc := 11) (zk7 kX5_bits_0) rfl ?_
        refine z_iload_n (pc := 12) (zk8 kX5_bits_0) rfl ?_
        refine z_iconst (pc := 13) (zk9 kX5_bits_0) (v := 1) (by decide) ?_
        refine z_isub (pc := 14) (zk10 kX5_bits_0) ?_
        refine z_top (congrArg Value.int (nI_dec (n := v) hp)) ?_
        refine z_iand (pc := 15) (zk11 kX5_bits_0) ?_
        refine z_top (congrArg Value.int (bx_and _ _)) ?_
        refine z_istore_n (pc := 16) (zk12 kX5_bits_0) rfl rfl ?_
        show Z D B xX5_bits _ _ _ 17 [some (.int (nI a)), some (.int (nI (c + 1))), some (.int (nI (v &&& (v - 1))))] _ _ _
        refine z_goto (pc := 17) (zk13 kX5_bits_0) (tgt := 4) (by decide) ?_
        exact ih4 (v &&& (v - 1)) (c + 1) (by have := @Nat.and_le_right v (v - 1); omega) (Nat.lt_of_le_of_lt Nat.and_le_left hv) (by have := pop_s hv hp; omega)
  exact lp4 _ a 0 (Nat.lt_succ_self _) ha (Nat.zero_add _)
theorem c_mbits {D : zD} {B : Nat} {h : zH} {sz : Nat} {x : Int32} (hx : ∃ v, v < 4096 ∧ x = nI v) : zRd D B xX5_bits [.int x] h sz (.int (popI x)) := by
  obtain ⟨v, hv, rfl⟩ := hx
  rw [popI_nI hv]
  exact c_bitsN hv
set_option maxRecDepth 20000 in
theorem c_maddLetter {D : zD} {B : Nat} {h : zH} {sz : Nat} {p : Nat} {σ τ ω : Ln} {ε : El} {mv : Nat → Int64} {kp tr : Option Nat} {m : Nat} {k a t g : Int32} (hM : MoAt h p σ τ ω ε mv kp tr) (hB : B ≤ p) (hm : σ 9 0 = nI m) (h8 : m < 8) : zM D B xX5_addLetter [.ref p, .int k, .int a, .int t, .int g] h sz (fun r h1 z1 => r = none ∧ MoAt h1 p (addF σ m k a t g) τ ω ε mv kp tr ∧ Upd h h1 p 29 ∧ z1 = sz) := by
  have hU : Upd h h p 29 := Upd.rf
  refine zM.of (by decide) rfl (n := 0) ?_
  show Z D B xX5_addLetter 0 0 _ 0 [some (.ref p), some (.int k), some (.int a), some (.int t), some (.int g)] [] h sz
  refine z_aload_n (pc := 0) (zk0 kX5_addLetter_0) rfl ?_
  refine z_getf (pc := 1) (zk1 kX5_addLetter_0) flX5_53 hM.1 gMo_18 ?_
  refine z_aload_n (pc := 4) (zk2 kX5_addLetter_0) rfl ?_
  refine z_getf (pc := 5) (zk3 kX5_addLetter_0) flX5_85 hM.1 (v := .int (nI m)) (by rw [← hm]; rfl) ?_
  refine z_iload_n (pc := 8) (zk4 kX5_addLetter_0) rfl ?_
  refine z_Mo_s21 (pc := 9) (zk5 kX5_addLetter_0) (j := m) hM (by omega) (show m < 8 by omega) (fun h_1 hR hU_2 => ?_)
  replace hU := hU.tr hU_2 (by omega) (by omega)
  replace hM := hR; clear hR
  refine z_aload_n (pc := 10) (zk6 kX5_addLetter_0) rfl ?_
  refine z_getf (pc := 11) (zk7 kX5_addLetter_0) flX5_56 hM.1 gMo_19 ?_
  refine z_aload_n (pc := 14) (zk8 kX5_addLetter_0) rfl ?_
  refine z_getf (pc := 15) (zk9 kX5_addLetter_0) flX5_85 hM.1 (v := .int (nI m)) (by rw [← hm]; rfl) ?_
  refine z_iload_n (pc := 18) (zk10 kX5_addLetter_0) rfl ?_
  refine z_Mo_s22 (pc := 19) (zk11 kX5_addLetter_0) (j := m) hM (by omega) (show m < 8 by omega) (fun h_3 hR hU_4 => ?_)
  replace hU := hU.tr hU_4 (by omega) (by omega)
  replace hM := hR; clear hR
  refine z_aload_n (pc := 20) (zk12 kX5_addLetter_0) rfl ?_
  refine z_getf (pc := 21) (zk13 kX5_addLetter_0) flX5_59 hM.1 gMo_20 ?_
  refine z_aload_n (pc := 24) (zk14 kX5_addLetter_0) rfl ?_
  refine z_getf (pc := 25) (zk15 kX5_addLetter_0) flX5_85 hM.1 (v := .int (nI m)) (by rw [← hm]; rfl) ?_
  refine z_iload_n (pc := 28) (zk0 kX5_addLetter_1) rfl ?_
  refine z_Mo_s23 (pc := 29) (zk1 kX5_addLetter_1) (j := m) hM (by omega) (show m < 8 by omega) (fun h_5 hR hU_6 => ?_)
  replace hU := hU.tr hU_6 (by omega) (by omega)
  replace hM := hR; clear hR
  refine z_aload_n (pc := 30) (zk2 kX5_addLetter_1) rfl ?_
  refine z_getf (pc := 31) (zk3 kX5_addLetter_1) flX5_62 hM.1 gMo_21 ?_
  refine z_aload_n (pc := 34) (zk4 kX5_addLetter_1) rfl ?_
  refine z_getf (pc := 35) (zk5 kX5_addLetter_1) flX5_85 hM.1 (v := .int (nI m)) (by rw [← hm]; rfl) ?_
  refine z_iload (pc := 38) (zk6 kX5_addLetter_1) rfl ?_
  refine z_Mo_s24 (pc := 40) (zk7 kX5_addLetter_1) (j := m) hM (by omega) (show m < 8 by omega) (fun h_7 hR hU_8 => ?_)
  replace hU := hU.tr hU_8 (by omega) (by omega)
  replace hM := hR; clear hR
  refine z_aload_n (pc := 41) (zk8 kX5_addLetter_1) rfl ?_
  refine z_dup (pc := 42) (zk9 kX5_addLetter_1) rfl ?_
  refine z_getf (pc := 43) (zk10 kX5_addLetter_1) flX5_85 hM.1 (v := .int (nI m)) (by rw [← hm]; rfl) ?_
  refine z_iconst (pc := 46) (zk11 kX5_addLetter_1) (v := 1) (by decide) ?_
  refine z_iadd (pc := 47) (zk12 kX5_addLetter_1) ?_
  refine z_top (congrArg Value.int (nI_1 m)) ?_
  refine z_Mo_w17 (pc := 48) (zk13 kX5_addLetter_1) flX5_85 hM (by omega) (fun h_9 hR hU_10 => ?_)
  replace hU := hU.tr hU_10 (by omega) (by omega)
  replace hM := hR; clear hR
  exact z_vret (pc := 51) (zk14 kX5_addLetter_1) rfl (Nat.zero_le _) (Nat.zero_le _) ⟨rfl, hM, hU, rfl⟩
set_option maxRecDepth 20000 in
theorem c_setCode {D : zD} {B : Nat} {h : zH} {sz : Nat} {p : Nat} {σ τ ω : Ln} {ε : El} {mv : Nat → Int64} {kp tr : Option Nat} {k : Nat} {c : Int32} {b : Bool} (hM : MoAt h p σ τ ω ε mv kp tr) (hB : B ≤ p) (hk : k < 12) : zM D B xX5_setCode [.ref p, .int (nI k), .int c, .int (oI b)] h sz (fun r h1 z1 => r = none ∧ MoAt h1 p (setC σ k c b) τ ω ε mv kp tr ∧ Upd h h1 p 29 ∧ z1 = sz) := by
  have hU : Upd h h p 29 := Upd.rf
  refine zM.of (by decide) rfl (n := 0) ?_
  show Z D B xX5_setCode 0 0 _ 0 [some (.ref p), some (.int (nI k)), some (.int c), some (.int (oI b))] [] h sz
  refine z_aload_n (pc := 0) (zk0 kX5_setCode_0) rfl ?_
  refine z_getf (pc := 1) (zk1 kX5_setCode_0) flX5_47 hM.1 gMo_12 ?_
  refine z_iload_n (pc := 4) (zk2 kX5_setCode_0) rfl ?_
  refine z_iload_n (pc := 5) (zk3 kX5_setCode_0) rfl ?_
  refine z_oif_eq (pc := 6) (zk4 kX5_setCode_0) (tgt := 22) (by decide) (fun c_1 => ?_) (fun c_1 => ?_)
  · refine z_aload_n (pc := 22) (zk14 kX5_setCode_0) rfl ?_
    refine z_getf (pc := 23) (zk15 kX5_setCode_0) flX5_47 hM.1 gMo_12 ?_
    refine z_iload_n (pc := 26) (zk0 kX5_setCode_1) rfl ?_
    refine z_ialdN (pc := 27) (zk1 kX5_setCode_1) (f := σ 3) (j := k) hM.2.2.2.2.2.2.2.2.2.2.2.2.1 (show k < 12 by omega) rfl ?_
    refine z_iconst (pc := 28) (zk2 kX5_setCode_1) (v := 1) (by decide) ?_
    refine z_iload_n (pc := 29) (zk3 kX5_setCode_1) rfl ?_
    refine z_ishl (pc := 30) (zk4 kX5_setCode_1) ?_
    refine z_iconst (pc := 31) (zk5 kX5_setCode_1) (v := (-1)) (by decide) ?_
    refine z_ixor (pc := 32) (zk6 kX5_setCode_1) ?_
    refine z_iand (pc := 33) (zk7 kX5_setCode_1) ?_
    refine z_Mo_s19 (pc := 34) (zk8 kX5_setCode_1) (j := k) hM (by omega) (show k < 12 by omega) (fun h_2 hR hU_3 => ?_)
    replace hU := hU.tr hU_3 (by omega) (by omega)
    replace hM := hR; clear hR
    exact z_vret (pc := 35) (zk9 kX5_setCode_1) rfl (Nat.zero_le _) (Nat.zero_le _) ⟨rfl, by rw [setC, c_1]; exact hM, hU, rfl⟩
  · refine z_aload_n (pc := 9) (zk5 kX5_setCode_0) rfl ?_
    refine z_getf (pc := 10) (zk6 kX5_setCode_0) flX5_47 hM.1 gMo_12 ?_
    refine z_iload_n (pc := 13) (zk7 kX5_setCode_0) rfl ?_
    refine z_ialdN (pc := 14) (zk8 kX5_setCode_0) (f := σ 3) (j := k) hM.2.2.2.2.2.2.2.2.2.2.2.2.1 (show k < 12 by omega) rfl ?_
    refine z_iconst (pc := 15) (zk9 kX5_setCode_0) (v := 1) (by decide) ?_
    refine z_iload_n (pc := 16) (zk10 kX5_setCode_0) rfl ?_
    refine z_ishl (pc := 17) (zk11 kX5_setCode_0) ?_
    refine z_ior (pc := 18) (zk12 kX5_setCode_0) ?_
    refine z_goto (pc := 19) (zk13 kX5_setCode_0) (tgt := 34) (by decide) ?_
    refine z_Mo_s19 (pc := 34) (zk8 kX5_setCode_1) (j := k) hM (by omega) (show k < 12 by omega) (fun h_4 hR hU_5 => ?_)
    replace hU := hU.tr hU_5 (by omega) (by omega)
    replace hM := hR; clear hR
    exact z_vret (pc := 35) (zk9 kX5_setCode_1) rfl (Nat.zero_le _) (Nat.zero_le _) ⟨rfl, by rw [setC, c_1]; exact hM, hU, rfl⟩
set_option maxRecDepth 20000 in
theorem c_fit {D : zD} {B : Nat} {h : zH} {sz : Nat} {x : Int32} {v : Int64}  : zRd D B xX5_fit [.int x, .long v] h sz (.long (fitF x v)) := by
  refine zM.of (by decide) rfl (n := 0) ?_
  show Z D B xX5_fit 0 0 _ 0 [some (.int x), some (.long v), none] [] h sz
  refine z_iload_n (pc := 0) (zk0 kX5_fit_0) rfl ?_
  by_cases c_1 : x = 0
  · refine z_tableIn (pc := 1) (zk1 kX5_fit_0) (off := 31) (tgt := 32) (by rw [c_1]; decide) (by rw [c_1]; decide) (by rw [c_1]; rfl) (by decide) ?_
    subst c_1
    refine z_lload_n (pc := 32) (zk2 kX5_fit_0) rfl ?_
    refine z_l2i (pc := 33) (zk3 kX5_fit_0) ?_
    refine z_i2b (pc := 34) (zk4 kX5_fit_0) ?_
    refine z_i2l (pc := 35) (zk5 kX5_fit_0) ?_
    exact z_lret (pc := 36) (zk6 kX5_fit_0) rfl (Nat.zero_le _) (Nat.zero_le _) ⟨by simp [fitF], rfl, rfl⟩
  by_cases c_2 : x = 1
  · refine z_tableIn (pc := 1) (zk1 kX5_fit_0) (off := 36) (tgt := 37) (by rw [c_2]; decide) (by rw [c_2]; decide) (by rw [c_2]; rfl) (by decide) ?_
    subst c_2
    refine z_lload_n (pc := 37) (zk7 kX5_fit_0) rfl ?_
    refine z_l2i (pc := 38) (zk8 kX5_fit_0) ?_
    refine z_i2s (pc := 39) (zk9 kX5_fit_0) ?_
    refine z_i2l (pc := 40) (zk10 kX5_fit_0) ?_
    exact z_lret (pc := 41) (zk11 kX5_fit_0) rfl (Nat.zero_le _) (Nat.zero_le _) ⟨by simp [fitF, c_1], rfl, rfl⟩
  by_cases c_3 : x = 2
  · refine z_tableIn (pc := 1) (zk1 kX5_fit_0) (off := 41) (tgt := 42) (by rw [c_3]; decide) (by rw [c_3]; decide) (by rw [c_3]; rfl) (by decide) ?_
    subst c_3
    refine z_lload_n (pc := 42) (zk12 kX5_fit_0) rfl ?_
    refine z_l2i (pc := 43) (zk13 kX5_fit_0) ?_
    refine z_i2l (pc := 44) (zk14 kX5_fit_0) ?_
    exact z_lret (pc := 45) (zk15 kX5_fit_0) rfl (Nat.zero_le _) (Nat.zero_le _) ⟨by simp [fitF, c_1, c_2], rfl, rfl⟩
  by_cases c_4 : x = 3
  · refine z_tableIn (pc := 1) (zk1 kX5_fit_0) (off := 45) (tgt := 46) (by rw [c_4]; decide) (by rw [c_4]; decide) (by rw [c_4]; rfl) (by decide) ?_
    subst c_4
    refine z_lload_n (pc := 46) (zk0 kX5_fit_1) rfl ?_
    exact z_lret (pc := 47) (zk1 kX5_fit_1) rfl (Nat.zero_le _) (Nat.zero_le _) ⟨by simp [fitF, c_1, c_2, c_3], rfl, rfl⟩
  refine z_tableOut (pc := 1) (zk1 kX5_fit_0) (tgt := 48) (zOut0_3 c_1 c_2 c_3 c_4) (by decide) ?_
  refine z_lload_n (pc := 48) (zk2 kX5_fit_1) rfl ?_
  refine z_lconst (pc := 49) (zk3 kX5_fit_1) (v := 0) (by decide) ?_
  refine z_lcmp (pc := 50) (zk4 kX5_fit_1) ?_
  refine z_lif_eq (pc := 51) (zk5 kX5_fit_1) (tgt := 58) (by decide) (fun c_5 => ?_) (fun c_5 => ?_)
  · refine z_lconst (pc := 58) (zk8 kX5_fit_1) (v := 0) (by decide) ?_
    exact z_lret (pc := 59) (zk9 kX5_fit_1) rfl (Nat.zero_le _) (Nat.zero_le _) ⟨by simp [fitF, c_1, c_2, c_3, c_4, c_5], rfl, rfl⟩
  · refine z_lconst (pc := 54) (zk6 kX5_fit_1) (v := 1) (by decide) ?_
    refine z_goto (pc := 55) (zk7 kX5_fit_1) (tgt := 59) (by decide) ?_
    exact z_lret (pc := 59) (zk9 kX5_fit_1) rfl (Nat.zero_le _) (Nat.zero_le _) ⟨by simp [fitF, c_1, c_2, c_3, c_4, c_5], rfl, rfl⟩
set_option maxRecDepth 20000 in
theorem c_isUnder {D : zD} {B : Nat} {h : zH} {sz : Nat} {x y : Int32}  : zRd D B xX5_isUnder [.int x, .int y] h sz (.int (oI (undK x y))) := by
  refine zM.of (by decide) rfl (n := 0) ?_
  show Z D B xX5_isUnder 0 0 _ 0 [some (.int x), some (.int y)] [] h sz
  refine z_iload_n (pc := 0) (zk0 kX5_isUnder_0) rfl ?_
  refine z_if_eq (pc := 1) (zk1 kX5_isUnder_0) (tgt := 29) (by decide) (fun c_1 => ?_) (fun c_1 => ?_)
  · refine z_iconst (pc := 29) (zk1 kX5_isUnder_1) (v := 1) (by decide) ?_
    refine z_goto (pc := 30) (zk2 kX5_isUnder_1) (tgt := 34) (by decide) ?_
    exact z_zret (pc := 34) (zk4 kX5_isUnder_1) rfl (Nat.zero_le _) (Nat.zero_le _) (by decide) ⟨by simp_all [undK, oI], rfl, rfl⟩
  · refine z_iload_n (pc := 4) (zk2 kX5_isUnder_0) rfl ?_
    refine z_iload_n (pc := 5) (zk3 kX5_isUnder_0) rfl ?_
    refine z_icmp_eq (pc := 6) (zk4 kX5_isUnder_0) (tgt := 29) (by decide) (fun c_2 => ?_) (fun c_2 => ?_)
    · refine z_iconst (pc := 29) (zk1 kX5_isUnder_1) (v := 1) (by decide) ?_
      refine z_goto (pc := 30) (zk2 kX5_isUnder_1) (tgt := 34) (by decide) ?_
      exact z_zret (pc := 34) (zk4 kX5_isUnder_1) rfl (Nat.zero_le _) (Nat.zero_le _) (by decide) ⟨by simp_all [undK, oI], rfl, rfl⟩
    · refine z_iload_n (pc := 9) (zk5 kX5_isUnder_0) rfl ?_
      refine z_iconst (pc := 10) (zk6 kX5_isUnder_0) (v := 1) (by decide) ?_
      refine z_icmp_ne (pc := 11) (zk7 kX5_isUnder_0) (tgt := 19) (by decide) (fun c_3 => ?_) (fun c_3 => ?_)
      · refine z_iload_n (pc := 19) (zk11 kX5_isUnder_0) rfl ?_
        refine z_iconst (pc := 20) (zk12 kX5_isUnder_0) (v := 2) (by decide) ?_
        refine z_icmp_ne (pc := 21) (zk13 kX5_isUnder_0) (tgt := 33) (by decide) (fun c_4 => ?_) (fun c_4 => ?_)
        · refine z_iconst (pc := 33) (zk3 kX5_isUnder_1) (v := 0) (by decide) ?_
          exact z_zret (pc := 34) (zk4 kX5_isUnder_1) rfl (Nat.zero_le _) (Nat.zero_le _) (by decide) ⟨by simp_all [undK, oI], rfl, rfl⟩
        · refine z_iload_n (pc := 24) (zk14 kX5_isUnder_0) rfl ?_
          refine z_iconst (pc := 25) (zk15 kX5_isUnder_0) (v := 4) (by decide) ?_
          refine z_icmp_ne (pc := 26) (zk0 kX5_isUnder_1) (tgt := 33) (by decide) (fun c_5 => ?_) (fun c_5 => ?_)
          · refine z_iconst (pc := 33) (zk3 kX5_isUnder_1) (v := 0) (by decide) ?_
            exact z_zret (pc := 34) (zk4 kX5_isUnder_1) rfl (Nat.zero_le _) (Nat.zero_le _) (by decide) ⟨by simp_all [undK, oI], rfl, rfl⟩
          · refine z_iconst (pc := 29) (zk1 kX5_isUnder_1) (v := 1) (by decide) ?_
            refine z_goto (pc := 30) (zk2 kX5_isUnder_1) (tgt := 34) (by decide) ?_
            exact z_zret (pc := 34) (zk4 kX5_isUnder_1) rfl (Nat.zero_le _) (Nat.zero_le _) (by decide) ⟨by simp_all [undK, oI], rfl, rfl⟩
      · refine z_iload_n (pc := 14) (zk8 kX5_isUnder_0) rfl ?_
        refine z_iconst (pc := 15) (zk9 kX5_isUnder_0) (v := 3) (by decide) ?_
        refine z_icmp_eq (pc := 16) (zk10 kX5_isUnder_0) (tgt := 29) (by decide) (fun c_6 => ?_) (fun c_6 => ?_)
        · refine z_iconst (pc := 29) (zk1 kX5_isUnder_1) (v := 1) (by decide) ?_
          refine z_goto (pc := 30) (zk2 kX5_isUnder_1) (tgt := 34) (by decide) ?_
          exact z_zret (pc := 34) (zk4 kX5_isUnder_1) rfl (Nat.zero_le _) (Nat.zero_le _) (by decide) ⟨by simp_all [undK, oI], rfl, rfl⟩
        · refine z_iload_n (pc := 19) (zk11 kX5_isUnder_0) rfl ?_
          refine z_iconst (pc := 20) (zk12 kX5_isUnder_0) (v := 2) (by decide) ?_
          refine z_icmp_ne (pc := 21) (zk13 kX5_isUnder_0) (tgt := 33) (by decide) (fun _ => ?_) (fun q => absurd q (by rw [c_3]; decide))
          refine z_iconst (pc := 33) (zk3 kX5_isUnder_1) (v := 0) (by decide) ?_
          exact z_zret (pc := 34) (zk4 kX5_isUnder_1) rfl (Nat.zero_le _) (Nat.zero_le _) (by decide) ⟨by simp_all [undK, oI], rfl, rfl⟩
set_option maxRecDepth 20000 in
theorem c_mears {D : zD} {B : Nat} {h : zH} {sz : Nat} {p : Nat} {σ τ ω : Ln} {ε : El} {mv : Nat → Int64} {kp tr : Option Nat} {n : Nat} (hM : MoAt h p σ τ ω ε mv kp tr) (hn : σ 0 0 = nI n) (h12 : n ≤ 12) : zRd D B xX5_earsTogether [.ref p] h sz (.int (earsF σ)) := by
  refine zM.of (by decide) rfl (n := 2) ?_
  show Z D B xX5_earsTogether 0 0 _ 0 [some (.ref p), none, none] [] h sz
  refine z_iconst (pc := 0) (zk0 kX5_earsTogether_0) (v := 0) (by decide) ?_
  refine z_istore_n (pc := 1) (zk1 kX5_earsTogether_0) rfl rfl ?_
  show Z D B xX5_earsTogether _ _ _ 2 [some (.ref p), some (.int 0), none] _ _ _
  refine z_iconst (pc := 2) (zk2 kX5_earsTogether_0) (v := 0) (by decide) ?_
  refine z_istore_n (pc := 3) (zk3 kX5_earsTogether_0) rfl rfl ?_
  show Z D B xX5_earsTogether _ _ _ 4 [some (.ref p), some (.int 0), some (.int 0)] _ _ _
  have lp4 : ∀ (n_ : Nat) (t : Int32) (i : Nat), n - i < n_ → (i ≤ n) → (t = sum0 (σ 4) i) → Z D B xX5_earsTogether 0 0 (fun r h1 z1 => r = some (.int (earsF σ)) ∧ h1 = h ∧ z1 = sz) 4 [some (.ref p), some (.int t), some (.int (nI i))] [] h sz := by
    intro n_
    induction n_ with
    | zero => intro t i hm_; exact absurd hm_ (Nat.not_lt_zero _)
    | succ n_ ih4 =>
      intro t i hm_ hi_i ht
      refine z_iload_n (pc := 4) (zk4 kX5_earsTogether_0) rfl ?_
      refine z_aload_n (pc := 5) (zk5 kX5_earsTogether_0) rfl ?_
      refine z_getf (pc := 6) (zk6 kX5_earsTogether_0) flX5_37 hM.1 (v := .int (nI n)) (by rw [← hn]; rfl) ?_
      refine z_icmp_ge (pc := 9) (zk7 kX5_earsTogether_0) (tgt := 27) (by decide) (fun c_1 => ?_) (fun c_1 => ?_)
      · have hie_i : i = n := nI_ge_yes (a := n) (by omega) (by omega) (by omega) c_1
        refine z_iload_n (pc := 27) (zk1 kX5_earsTogether_1) rfl ?_
        exact z_iret (pc := 28) (zk2 kX5_earsTogether_1) rfl (Nat.zero_le _) (Nat.zero_le _) ⟨by rw [ht, hie_i, earsF, hsN_eq hn h12], rfl, rfl⟩
      · have hlt_i : i < n := nI_ge_not (a := n) (by omega) (by omega) c_1
        refine z_iload_n (pc := 12) (zk8 kX5_earsTogether_0) rfl ?_
        refine z_aload_n (pc := 13) (zk9 kX5_earsTogether_0) rfl ?_
        refine z_getf (pc := 14) (zk10 kX5_earsTogether_0) flX5_50 hM.1 gMo_13 ?_
        refine z_iload_n (pc := 17) (zk11 kX5_earsTogether_0) rfl ?_
        refine z_ialdN (pc := 18) (zk12 kX5_earsTogether_0) (f := σ 4) (j := i) hM.2.2.2.2.2.2.2.2.2.2.2.2.2.1 (show i < 12 by omega) rfl ?_
        refine z_iadd (pc := 19) (zk13 kX5_earsTogether_0) ?_
        refine z_istore_n (pc := 20) (zk14 kX5_earsTogether_0) rfl rfl ?_
        show Z D B xX5_earsTogether _ _ _ 21 [some (.ref p), some (.int (t + (σ 4 i))), some (.int (nI i))] _ _ _
        refine z_iinc (pc := 21) (zk15 kX5_earsTogether_0) (v := nI (i + 1)) rfl zinc rfl rfl ?_
        show Z D B xX5_earsTogether _ _ _ 24 [some (.ref p), some (.int (t + (σ 4 i))), some (.int (nI (i + 1)))] _ _ _
        refine z_goto (pc := 24) (zk0 kX5_earsTogether_1) (tgt := 4) (by decide) ?_
        exact ih4 (t + (σ 4 i)) (i + 1) (by omega) (by omega) (by rw [ht]; rfl)
  exact lp4 _ 0 0 (Nat.lt_succ_self _) (by omega) rfl
set_option maxRecDepth 20000 in
theorem c_mallKn {D : zD} {B : Nat} {h : zH} {sz : Nat} {p : Nat} {σ τ ω : Ln} {ε : El} {mv : Nat → Int64} {kp tr : Option Nat} {n m : Nat} (hM : MoAt h p σ τ ω ε mv kp tr) (hn : σ 0 0 = nI n) (h12 : n ≤ 12) (hm : σ 9 0 = nI m) (h8 : m ≤ 8) (hto : ∀ l, l < m → ToOk σ l) : zRd D B xX5_knowersTogether [.ref p] h sz (.int (allKnF σ)) := by
  refine zM.of (by decide) rfl (n := 2) ?_
  show Z D B xX5_knowersTogether 0 0 _ 0 [some (.ref p), none, none] [] h sz
  refine z_iconst (pc := 0) (zk0 kX5_knowersTogether_0) (v := 0) (by decide) ?_
  refine z_istore_n (pc := 1) (zk1 kX5_knowersTogether_0) rfl rfl ?_
  show Z D B xX5_knowersTogether _ _ _ 2 [some (.ref p), some (.int 0), none] _ _ _
  refine z_iconst (pc := 2) (zk2 kX5_knowersTogether_0) (v := 0) (by decide) ?_
  refine z_istore_n (pc := 3) (zk3 kX5_knowersTogether_0) rfl rfl ?_
  show Z D B xX5_knowersTogether _ _ _ 4 [some (.ref p), some (.int 0), some (.int 0)] _ _ _
  have lp4 : ∀ (n_ : Nat) (t : Int32) (i : Nat), m - i < n_ → (i ≤ m) → (t = sum0 (fun l => popI (knowersF σ l)) i) → Z D B xX5_knowersTogether 0 0 (fun r h1 z1 => r = some (.int (allKnF σ)) ∧ h1 = h ∧ z1 = sz) 4 [some (.ref p), some (.int t), some (.int (nI i))] [] h sz := by
    intro n_
    induction n_ with
    | zero => intro t i hm_; exact absurd hm_ (Nat.not_lt_zero _)
    | succ n_ ih4 =>
      intro t i hm_ hi_i ht
      refine z_iload_n (pc := 4) (zk4 kX5_knowersTogether_0) rfl ?_
      refine z_aload_n (pc := 5) (zk5 kX5_knowersTogether_0) rfl ?_
      refine z_getf (pc := 6) (zk6 kX5_knowersTogether_0) flX5_85 hM.1 (v := .int (nI m)) (by rw [← hm]; rfl) ?_
      refine z_icmp_ge (pc := 9) (zk7 kX5_knowersTogether_0) (tgt := 29) (by decide) (fun c_1 => ?_) (fun c_1 => ?_)
      · have hie_i : i = m := nI_ge_yes (a := m) (by omega) (by omega) (by omega) c_1
        refine z_iload_n (pc := 29) (zk1 kX5_knowersTogether_1) rfl ?_
        exact z_iret (pc := 30) (zk2 kX5_knowersTogether_1) rfl (Nat.zero_le _) (Nat.zero_le _) ⟨by rw [ht, hie_i, allKnF, lsN_eq hm h8], rfl, rfl⟩
      · have hlt_i : i < m := nI_ge_not (a := m) (by omega) (by omega) c_1
        refine z_iload_n (pc := 12) (zk8 kX5_knowersTogether_0) rfl ?_
        refine z_aload_n (pc := 13) (zk9 kX5_knowersTogether_0) rfl ?_
        refine z_iload_n (pc := 14) (zk10 kX5_knowersTogether_0) rfl ?_
        refine z_rdV (pc := 15) (zk11 kX5_knowersTogether_0) (st := [.int t]) lkX5_251 ivX5_knowers hM.1 rfl rfl (c_mknowers hM hn h12 (show i < 8 by omega) (hto _ (by omega))) rfl ⟨rfl, rfl⟩ rfl rfl ?_ rfl
        refine z_rdS (pc := 18) (zk12 kX5_knowersTogether_0) (st := [.int t]) lkX5_262 isX5_bits (c_mbits (knowersF_eq _ _ (by rw [hsN_eq hn h12]; exact h12))) rfl ⟨rfl, rfl⟩ rfl rfl ?_ rfl
        refine z_iadd (pc := 21) (zk13 kX5_knowersTogether_0) ?_
        refine z_istore_n (pc := 22) (zk14 kX5_knowersTogether_0) rfl rfl ?_
        show Z D B xX5_knowersTogether _ _ _ 23 [some (.ref p), some (.int (t + (popI (knowersF σ i)))), some (.int (nI i))] _ _ _
        refine z_iinc (pc := 23) (zk15 kX5_knowersTogether_0) (v := nI (i + 1)) rfl zinc rfl rfl ?_
        show Z D B xX5_knowersTogether _ _ _ 26 [some (.ref p), some (.int (t + (popI (knowersF σ i)))), some (.int (nI (i + 1)))] _ _ _
        refine z_goto (pc := 26) (zk0 kX5_knowersTogether_1) (tgt := 4) (by decide) ?_
        exact ih4 (t + (popI (knowersF σ i))) (i + 1) (by omega) (by omega) (by rw [ht]; rfl)
  exact lp4 _ 0 0 (Nat.lt_succ_self _) (by omega) rfl
set_option maxRecDepth 20000 in
theorem c_mround {D : zD} {B : Nat} {h : zH} {sz : Nat} {p : Nat} {σ τ ω : Ln} {ε : El} {mv : Nat → Int64} {kp tr : Option Nat} {n m : Nat} (hM : MoAt h p σ τ ω ε mv kp tr) (hn : σ 0 0 = nI n) (h12 : n ≤ 12) (hm : σ 9 0 = nI m) (h8 : m ≤ 8) (hto : ∀ l, l < m → ToOk σ l) (hB : B ≤ p) : zM D B xX5_goesRound [.ref p] h sz (fun r h1 z1 => r = none ∧ MoAt h1 p (roundF σ) τ ω ε mv kp tr ∧ Upd h h1 p 29 ∧ z1 = sz) := by
  have hU : Upd h h p 29 := Upd.rf
  refine zM.of (by decide) rfl (n := 1) ?_
  show Z D B xX5_goesRound 0 0 _ 0 [some (.ref p), none] [] h sz
  refine z_iconst (pc := 0) (zk0 kX5_goesRound_0) (v := 0) (by decide) ?_
  refine z_istore_n (pc := 1) (zk1 kX5_goesRound_0) rfl rfl ?_
  show Z D B xX5_goesRound _ _ _ 2 [some (.ref p), some (.int 0)] _ _ _
  have lp2 : ∀ (n_ : Nat) (g : zH) (i : Nat), n - i < n_ → (i ≤ n) → (MoAt g p (eUp σ i) τ ω ε mv kp tr) → (Upd h g p 29) → Z D B xX5_goesRound 0 0 (fun r h1 z1 => r = none ∧ MoAt h1 p (roundF σ) τ ω ε mv kp tr ∧ Upd h h1 p 29 ∧ z1 = sz) 2 [some (.ref p), some (.int (nI i))] [] g sz := by
    intro n_
    induction n_ with
    | zero => intro g i hm_; exact absurd hm_ (Nat.not_lt_zero _)
    | succ n_ ih2 =>
      intro g i hm_ hi_i hM hU
      refine z_iload_n (pc := 2) (zk2 kX5_goesRound_0) rfl ?_
      refine z_aload_n (pc := 3) (zk3 kX5_goesRound_0) rfl ?_
      refine z_getf (pc := 4) (zk4 kX5_goesRound_0) flX5_37 hM.1 (v := .int (nI n)) (by rw [← hn]; rfl) ?_
      refine z_icmp_ge (pc := 7) (zk5 kX5_goesRound_0) (tgt := 30) (by decide) (fun c_1 => ?_) (fun c_1 => ?_)
      · have hie_i : i = n := nI_ge_yes (a := n) (by omega) (by omega) (by omega) c_1
        refine z_aload_n (pc := 30) (zk2 kX5_goesRound_1) rfl ?_
        refine z_dup (pc := 31) (zk3 kX5_goesRound_1) rfl ?_
        refine z_getf (pc := 32) (zk4 kX5_goesRound_1) flX5_322 hM.1 (v := .int ((eUp σ i) 7 0)) rfl ?_
        refine z_iconst (pc := 35) (zk5 kX5_goesRound_1) (v := 1) (by decide) ?_
        refine z_iadd (pc := 36) (zk6 kX5_goesRound_1) ?_
        refine z_Mo_w16 (pc := 37) (zk7 kX5_goesRound_1) flX5_322 hM (by omega) (fun h_2 hR hU_3 => ?_)
        replace hU := hU.tr hU_3 (by omega) (by omega)
        replace hM := hR; clear hR
        exact z_vret (pc := 40) (zk8 kX5_goesRound_1) rfl (Nat.zero_le _) (Nat.zero_le _) ⟨rfl, by rw [roundF, hsN_eq hn h12, ← hie_i]; exact hM, hU, rfl⟩
      · have hlt_i : i < n := nI_ge_not (a := n) (by omega) (by omega) c_1
        refine z_aload_n (pc := 10) (zk6 kX5_goesRound_0) rfl ?_
        refine z_getf (pc := 11) (zk7 kX5_goesRound_0) flX5_50 hM.1 gMo_13 ?_
        refine z_iload_n (pc := 14) (zk8 kX5_goesRound_0) rfl ?_
        refine z_dup2 (pc := 15) (zk9 kX5_goesRound_0) rfl rfl ?_
        refine z_ialdN (pc := 16) (zk10 kX5_goesRound_0) (f := (eUp σ i) 4) (j := i) hM.2.2.2.2.2.2.2.2.2.2.2.2.2.1 (show i < 12 by omega) rfl ?_
        refine z_aload_n (pc := 17) (zk11 kX5_goesRound_0) rfl ?_
        refine z_iload_n (pc := 18) (zk12 kX5_goesRound_0) rfl ?_
        refine z_rdV (pc := 19) (zk13 kX5_goesRound_0) (st := [.int ((eUp σ i) 4 i), .int (nI i), .ref (p + 20)]) lkX5_257 ivX5_wordsAt hM.1 rfl rfl (c_mwordsAt hM hn h12 hm h8 (show i < n by omega) hto) rfl ⟨rfl, rfl⟩ rfl rfl ?_ rfl
        refine z_iadd (pc := 22) (zk14 kX5_goesRound_0) ?_
        refine z_Mo_s20 (pc := 23) (zk15 kX5_goesRound_0) (j := i) hM (by omega) (show i < 12 by omega) (fun h_4 hR hU_5 => ?_)
        replace hU := hU.tr hU_5 (by omega) (by omega)
        replace hM := hR; clear hR
        refine z_iinc (pc := 24) (zk0 kX5_goesRound_1) (v := nI (i + 1)) rfl zinc rfl rfl ?_
        show Z D B xX5_goesRound _ _ _ 27 [some (.ref p), some (.int (nI (i + 1)))] _ _ _
        refine z_goto (pc := 27) (zk1 kX5_goesRound_1) (tgt := 2) (by decide) ?_
        exact ih2 h_4 (i + 1) (by omega) (by omega) (by rw [← eUp_s]; exact hM) hU
  exact lp2 _ h 0 (Nat.lt_succ_self _) (by omega) (by rw [eUp_0]; exact hM) hU
theorem flwT_0 (τ : Ln) (m : Int32) : flwT τ m 0 = τ := by
  funext f
  by_cases h : f = 1
  · subst h; funext s; simp [flwT]
  · simp [flwT, h]
theorem flwT_y {τ : Ln} {m : Int32} {i : Nat} (h1 : flwT τ m i 1 i = 2) (h2 : ¬ flwT τ m i 4 i < m) : up2 (flwT τ m i) 1 i 0 = flwT τ m (i + 1) := by
  have h1 : τ 1 i = 2 := by simpa [flwT] using h1
  have h2 : m ≤ τ 4 i := by simpa [flwT] using h2
  funext f
  by_cases h : f = 1
  · subst h; funext s
    by_cases e : s = i
    · subst e; simp [up2, upd, flwT, h1, h2]
    · have : s < i + 1 ↔ s < i := by omega
      simp [up2, upd, flwT, e, this]
  · simp [up2, flwT, h]
theorem flwT_n {τ : Ln} {m : Int32} {i : Nat} (hh : flwT τ m i 1 i = 2 → flwT τ m i 4 i < m) : flwT τ m i = flwT τ m (i + 1) := by
  have hh : τ 1 i = 2 → τ 4 i < m := by simpa [flwT] using hh
  funext f
  by_cases h : f = 1
  · subst h; funext s
    by_cases e : s = i
    · subst e
      have : ¬ (τ 1 s = 2 ∧ m ≤ τ 4 s) := fun q => absurd (hh q.1) (Int32.not_lt.mpr q.2)
      simp [flwT]
      intro a b; exact absurd ⟨a, b⟩ this
    · have : s < i + 1 ↔ s < i := by omega
      simp [flwT, this]
  · simp [flwT, h]
set_option maxRecDepth 20000 in
theorem c_follow {D : zD} {B : Nat} {h : zH} {sz : Nat} {p : Nat} {σ τ ω : Ln} {ε : El} {mv : Nat → Int64} {kp tr : Option Nat}  (hM : MoAt h p σ τ ω ε mv kp tr) (hB : B ≤ p) : zM D B xX5_shelvesFollow [.ref p] h sz (fun r h1 z1 => r = none ∧ MoAt h1 p σ (flwT τ (σ 9 0) 8) ω ε mv kp tr ∧ Upd h h1 p 29 ∧ z1 = sz) := by
  have hU : Upd h h p 29 := Upd.rf
  refine zM.of (by decide) rfl (n := 1) ?_
  show Z D B xX5_shelvesFollow 0 0 _ 0 [some (.ref p), none] [] h sz
  refine z_iconst (pc := 0) (zk0 kX5_shelvesFollow_0) (v := 0) (by decide) ?_
  refine z_istore_n (pc := 1) (zk1 kX5_shelvesFollow_0) rfl rfl ?_
  show Z D B xX5_shelvesFollow _ _ _ 2 [some (.ref p), some (.int 0)] _ _ _
  have lp2 : ∀ (n_ : Nat) (g : zH) (i : Nat), 8 - i < n_ → (i ≤ 8) → (MoAt g p σ (flwT τ (σ 9 0) i) ω ε mv kp tr) → (Upd h g p 29) → Z D B xX5_shelvesFollow 0 0 (fun r h1 z1 => r = none ∧ MoAt h1 p σ (flwT τ (σ 9 0) 8) ω ε mv kp tr ∧ Upd h h1 p 29 ∧ z1 = sz) 2 [some (.ref p), some (.int (nI i))] [] g sz := by
    intro n_
    induction n_ with
    | zero => intro g i hm_; exact absurd hm_ (Nat.not_lt_zero _)
    | succ n_ ih2 =>
      intro g i hm_ hi_i hM hU
      refine z_iload_n (pc := 2) (zk2 kX5_shelvesFollow_0) rfl ?_
      refine z_bipush (pc := 3) (zk3 kX5_shelvesFollow_0) (v := 8) (by decide) ?_
      refine z_icmp_ge (pc := 5) (zk4 kX5_shelvesFollow_0) (tgt := 44) (by decide) (fun c_1 => ?_) (fun c_1 => ?_)
      · have hie_i : i = 8 := nI_ge_yes (a := 8) (by omega) (by omega) (by omega) c_1
        exact z_vret (pc := 44) (zk9 kX5_shelvesFollow_1) rfl (Nat.zero_le _) (Nat.zero_le _) ⟨rfl, by rw [← hie_i]; exact hM, hU, rfl⟩
      · have hlt_i : i < 8 := nI_ge_not (a := 8) (by omega) (by omega) c_1
        refine z_aload_n (pc := 8) (zk5 kX5_shelvesFollow_0) rfl ?_
        refine z_getf (pc := 9) (zk6 kX5_shelvesFollow_0) flX5_7 hM.1 gMo_0 ?_
        refine z_iload_n (pc := 12) (zk7 kX5_shelvesFollow_0) rfl ?_
        refine z_ialdN (pc := 13) (zk8 kX5_shelvesFollow_0) (f := (flwT τ (σ 9 0) i) 1) (j := i) hM.2.1 (show i < 8 by omega) rfl ?_
        refine z_iconst (pc := 14) (zk9 kX5_shelvesFollow_0) (v := 2) (by decide) ?_
        refine z_icmp_ne (pc := 15) (zk10 kX5_shelvesFollow_0) (tgt := 38) (by decide) (fun c_2 => ?_) (fun c_2 => ?_)
        · refine z_iinc (pc := 38) (zk7 kX5_shelvesFollow_1) (v := nI (i + 1)) rfl zinc rfl rfl ?_
          show Z D B xX5_shelvesFollow _ _ _ 41 [some (.ref p), some (.int (nI (i + 1)))] _ _ _
          refine z_goto (pc := 41) (zk8 kX5_shelvesFollow_1) (tgt := 2) (by decide) ?_
          exact ih2 g (i + 1) (by omega) (by omega) (by rw [← flwT_n (fun q => absurd q c_2)]; exact hM) hU
        · refine z_aload_n (pc := 18) (zk11 kX5_shelvesFollow_0) rfl ?_
          refine z_getf (pc := 19) (zk12 kX5_shelvesFollow_0) flX5_28 hM.1 gMo_5 ?_
          refine z_iload_n (pc := 22) (zk13 kX5_shelvesFollow_0) rfl ?_
          refine z_ialdN (pc := 23) (zk14 kX5_shelvesFollow_0) (f := (flwT τ (σ 9 0) i) 4) (j := i) hM.2.2.2.2.2.2.2.1 (show i < 8 by omega) rfl ?_
          refine z_aload_n (pc := 24) (zk15 kX5_shelvesFollow_0) rfl ?_
          refine z_getf (pc := 25) (zk0 kX5_shelvesFollow_1) flX5_85 hM.1 (v := .int (σ 9 0)) rfl ?_
          refine z_icmp_lt (pc := 28) (zk1 kX5_shelvesFollow_1) (tgt := 38) (by decide) (fun c_3 => ?_) (fun c_3 => ?_)
          · refine z_iinc (pc := 38) (zk7 kX5_shelvesFollow_1) (v := nI (i + 1)) rfl zinc rfl rfl ?_
            show Z D B xX5_shelvesFollow _ _ _ 41 [some (.ref p), some (.int (nI (i + 1)))] _ _ _
            refine z_goto (pc := 41) (zk8 kX5_shelvesFollow_1) (tgt := 2) (by decide) ?_
            exact ih2 g (i + 1) (by omega) (by omega) (by rw [← flwT_n (fun _ => c_3)]; exact hM) hU
          · refine z_aload_n (pc := 31) (zk2 kX5_shelvesFollow_1) rfl ?_
            refine z_getf (pc := 32) (zk3 kX5_shelvesFollow_1) flX5_7 hM.1 gMo_0 ?_
            refine z_iload_n (pc := 35) (zk4 kX5_shelvesFollow_1) rfl ?_
            refine z_iconst (pc := 36) (zk5 kX5_shelvesFollow_1) (v := 0) (by decide) ?_
            refine z_Mo_s1 (pc := 37) (zk6 kX5_shelvesFollow_1) (j := i) hM (by omega) (show i < 8 by omega) (fun h_4 hR hU_5 => ?_)
            replace hU := hU.tr hU_5 (by omega) (by omega)
            replace hM := hR; clear hR
            refine z_iinc (pc := 38) (zk7 kX5_shelvesFollow_1) (v := nI (i + 1)) rfl zinc rfl rfl ?_
            show Z D B xX5_shelvesFollow _ _ _ 41 [some (.ref p), some (.int (nI (i + 1)))] _ _ _
            refine z_goto (pc := 41) (zk8 kX5_shelvesFollow_1) (tgt := 2) (by decide) ?_
            exact ih2 h_4 (i + 1) (by omega) (by omega) (by rw [← flwT_y c_2 c_3]; exact hM) hU
  exact lp2 _ h 0 (Nat.lt_succ_self _) (by omega) (by rw [flwT_0]; exact hM) hU
set_option maxRecDepth 20000 in
theorem c_below {D : zD} {B : Nat} {h : zH} {sz : Nat} {p : Nat} {σ τ ω : Ln} {ε : El} {mv : Nat → Int64} {kp tr : Option Nat} {b : Nat} (hM : MoAt h p σ τ ω ε mv kp tr) (hB : B ≤ p) (h0 : 0 < b) (hb : b ≤ 1000) : zM D B xX5_below [.ref p, .int (nI b)] h sz (fun r h1 z1 => r = some (.int (nI (drwN (nextS (σ 8 0)) b))) ∧ MoAt h1 p (up2 σ 8 0 (nextS (σ 8 0))) τ ω ε mv kp tr ∧ Upd h h1 p 29 ∧ z1 = sz) := by
  have hU : Upd h h p 29 := Upd.rf
  refine zM.of (by decide) rfl (n := 0) ?_
  show Z D B xX5_below 0 0 _ 0 [some (.ref p), some (.int (nI b))] [] h sz
  refine z_aload_n (pc := 0) (zk0 kX5_below_0) rfl ?_
  refine z_aload_n (pc := 1) (zk1 kX5_below_0) rfl ?_
  refine z_getf (pc := 2) (zk2 kX5_below_0) flX5_65 hM.1 (v := .int (σ 8 0)) rfl ?_
  refine z_ldcw (pc := 5) (zk3 kX5_below_0) kcX5_334 ?_
  refine z_imul (pc := 8) (zk4 kX5_below_0) ?_
  refine z_sipush (pc := 9) (zk5 kX5_below_0) (v := 12345) (by decide) ?_
  refine z_iadd (pc := 12) (zk6 kX5_below_0) ?_
  refine z_Mo_w22 (pc := 13) (zk7 kX5_below_0) flX5_65 hM (by omega) (fun h_1 hR hU_2 => ?_)
  replace hU := hU.tr hU_2 (by omega) (by omega)
  replace hM := hR; clear hR
  refine z_aload_n (pc := 16) (zk8 kX5_below_0) rfl ?_
  refine z_getf (pc := 17) (zk9 kX5_below_0) flX5_65 hM.1 (v := .int (((σ 8 0) * 1103515245) + 12345)) rfl ?_
  refine z_bipush (pc := 20) (zk10 kX5_below_0) (v := 16) (by decide) ?_
  refine z_iushr (pc := 22) (zk11 kX5_below_0) ?_
  refine z_iload_n (pc := 23) (zk12 kX5_below_0) rfl ?_
  refine z_irem (pc := 24) (zk13 kX5_below_0) (nI_ne0 h0 (by omega)) ?_
  exact z_iret (pc := 25) (zk14 kX5_below_0) rfl (Nat.zero_le _) (Nat.zero_le _) ⟨congrArg (fun z => some (Value.int z)) (drw_eq (nextS (σ 8 0)) h0 hb), hM, hU, rfl⟩
set_option maxRecDepth 20000 in
theorem c_noRow {D : zD} {B : Nat} {h : zH} {sz : Nat} {p : Nat} {σ τ ω : Ln} {ε : El} {mv : Nat → Int64} {kp tr : Option Nat} {x : Int32} (hM : MoAt h p σ τ ω ε mv kp tr) (hB : B ≤ p) : zM D B xX5_noRow [.ref p, .int x] h sz (fun r h1 z1 => (okR 0 7 x = false ∧ r = some (.int (-2)) ∧ MoAt h1 p σ (rfN τ 2) ω ε mv kp tr ∧ Upd h h1 p 29 ∧ z1 = sz) ∨ ((okR 0 7 x = true ∧ τ 1 (ix x) = 2) ∧ r = some (.int (-3)) ∧ MoAt h1 p σ (rfN τ 3) ω ε mv kp tr ∧ Upd h h1 p 29 ∧ z1 = sz) ∨ ((okR 0 7 x = true ∧ ¬ τ 1 (ix x) = 2 ∧ τ 1 (ix x) = 0) ∧ r = some (.int (-4)) ∧ MoAt h1 p σ (rfN τ 4) ω ε mv kp tr ∧ Upd h h1 p 29 ∧ z1 = sz) ∨ ((okR 0 7 x = true ∧ ¬ τ 1 (ix x) = 2 ∧ ¬ τ 1 (ix x) = 0) ∧ r = some (.int 0) ∧ MoAt h1 p σ τ ω ε mv kp tr ∧ Upd h h1 p 29 ∧ z1 = sz)) := by
  have hU : Upd h h p 29 := Upd.rf
  refine zM.of (by decide) rfl (n := 0) ?_
  show Z D B xX5_noRow 0 0 _ 0 [some (.ref p), some (.int x)] [] h sz
  refine z_iload_n (pc := 0) (zk0 kX5_noRow_0) rfl ?_
  refine z_i2l (pc := 1) (zk1 kX5_noRow_0) ?_
  refine z_lconst (pc := 2) (zk2 kX5_noRow_0) (v := 0) (by decide) ?_
  refine z_ldc2 (pc := 3) (zk3 kX5_noRow_0) klX5_88 ?_
  refine z_rdS (pc := 6) (zk4 kX5_noRow_0) (st := []) lkX5_81 isX5_in (c_inI (x := x) (a := 0) (b := 7) (by decide) (by decide)) rfl ⟨rfl, rfl⟩ rfl rfl ?_ rfl
  refine z_oif_ne (pc := 9) (zk5 kX5_noRow_0) (tgt := 19) (by decide) (fun c_1 => ?_) (fun c_1 => ?_)
  · have ok_ := c_1
    refine z_aload_n (pc := 19) (zk10 kX5_noRow_0) rfl ?_
    refine z_getf (pc := 20) (zk11 kX5_noRow_0) flX5_7 hM.1 gMo_0 ?_
    refine z_iload_n (pc := 23) (zk12 kX5_noRow_0) rfl ?_
    obtain ⟨kx, hkx, rfl⟩ := okR_c (c := 7) (by decide) c_1
    refine z_ialdN (pc := 24) (zk13 kX5_noRow_0) (f := τ 1) (j := kx) hM.2.1 (show kx < 8 by omega) rfl ?_
    refine z_iconst (pc := 25) (zk14 kX5_noRow_0) (v := 2) (by decide) ?_
    refine z_icmp_ne (pc := 26) (zk15 kX5_noRow_0) (tgt := 36) (by decide) (fun c_2 => ?_) (fun c_2 => ?_)
    · refine z_aload_n (pc := 36) (zk4 kX5_noRow_1) rfl ?_
      refine z_getf (pc := 37) (zk5 kX5_noRow_1) flX5_7 hM.1 gMo_0 ?_
      refine z_iload_n (pc := 40) (zk6 kX5_noRow_1) rfl ?_
      refine z_ialdN (pc := 41) (zk7 kX5_noRow_1) (f := τ 1) (j := kx) hM.2.1 (show kx < 8 by omega) rfl ?_
      refine z_if_ne (pc := 42) (zk8 kX5_noRow_1) (tgt := 54) (by decide) (fun c_3 => ?_) (fun c_3 => ?_)
      · refine z_iconst (pc := 54) (zk13 kX5_noRow_1) (v := 0) (by decide) ?_
        exact z_iret (pc := 55) (zk14 kX5_noRow_1) rfl (Nat.zero_le _) (Nat.zero_le _) (Or.inr (Or.inr (Or.inr ⟨⟨by first | exact c_1 | exact ok_, by rw [ix_nI (by omega)]; assumption, by rw [ix_nI (by omega)]; assumption⟩, rfl, hM, hU, rfl⟩)))
      · refine z_aload_n (pc := 45) (zk9 kX5_noRow_1) rfl ?_
        refine z_bipush (pc := 46) (zk10 kX5_noRow_1) (v := (-4)) (by decide) ?_
        refine z_efV (pc := 48) (zk11 kX5_noRow_1) (st := []) lkX5_94 ivX5_refuse hM.1 rfl rfl (c_refuse hM (by omega) (j := 4) (by decide) (by decide)) rfl ⟨rfl, rfl⟩ rfl rfl (fun r_ h_5 z_ q_4 => ?_) rfl
        obtain ⟨er_, hR, hU_6, ez_⟩ := q_4
        rw [er_, ez_]
        clear er_ ez_
        replace hU := hU.tr hU_6 (by omega) (by omega)
        replace hM := hR; clear hR
        show Z D B xX5_noRow _ _ _ 51 _ [.int (-4)] _ _
        refine z_goto (pc := 51) (zk12 kX5_noRow_1) (tgt := 55) (by decide) ?_
        exact z_iret (pc := 55) (zk14 kX5_noRow_1) rfl (Nat.zero_le _) (Nat.zero_le _) (Or.inr (Or.inr (Or.inl ⟨⟨by first | exact c_1 | exact ok_, by rw [ix_nI (by omega)]; assumption, by rw [ix_nI (by omega)]; assumption⟩, rfl, hM, hU, rfl⟩)))
    · refine z_aload_n (pc := 29) (zk0 kX5_noRow_1) rfl ?_
      refine z_bipush (pc := 30) (zk1 kX5_noRow_1) (v := (-3)) (by decide) ?_
      refine z_efV (pc := 32) (zk2 kX5_noRow_1) (st := []) lkX5_94 ivX5_refuse hM.1 rfl rfl (c_refuse hM (by omega) (j := 3) (by decide) (by decide)) rfl ⟨rfl, rfl⟩ rfl rfl (fun r_ h_8 z_ q_7 => ?_) rfl
      obtain ⟨er_, hR, hU_9, ez_⟩ := q_7
      rw [er_, ez_]
      clear er_ ez_
      replace hU := hU.tr hU_9 (by omega) (by omega)
      replace hM := hR; clear hR
      show Z D B xX5_noRow _ _ _ 35 _ [.int (-3)] _ _
      exact z_iret (pc := 35) (zk3 kX5_noRow_1) rfl (Nat.zero_le _) (Nat.zero_le _) (Or.inr (Or.inl ⟨⟨by first | exact c_1 | exact ok_, by rw [ix_nI (by omega)]; assumption⟩, rfl, hM, hU, rfl⟩))
  · refine z_aload_n (pc := 12) (zk6 kX5_noRow_0) rfl ?_
    refine z_bipush (pc := 13) (zk7 kX5_noRow_0) (v := (-2)) (by decide) ?_
    refine z_efV (pc := 15) (zk8 kX5_noRow_0) (st := []) lkX5_94 ivX5_refuse hM.1 rfl rfl (c_refuse hM (by omega) (j := 2) (by decide) (by decide)) rfl ⟨rfl, rfl⟩ rfl rfl (fun r_ h_11 z_ q_10 => ?_) rfl
    obtain ⟨er_, hR, hU_12, ez_⟩ := q_10
    rw [er_, ez_]
    clear er_ ez_
    replace hU := hU.tr hU_12 (by omega) (by omega)
    replace hM := hR; clear hR
    show Z D B xX5_noRow _ _ _ 18 _ [.int (-2)] _ _
    exact z_iret (pc := 18) (zk9 kX5_noRow_0) rfl (Nat.zero_le _) (Nat.zero_le _) (Or.inl ⟨by simpa using c_1, rfl, hM, hU, rfl⟩)
