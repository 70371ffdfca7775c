def mdQ (h : zH) (p sz N : Nat) (τ ω : Ln) (ε : El) (mv : Nat → Int64) (kp tr : Option Nat) (R : Except Nat (Ln × Nat)) : zQ := fun r h1 z1 => (∃ ω1 : Ln, ((∃ σ1 e, R = .ok (σ1, e) ∧ r = some (.int 1) ∧ MoAt h1 p σ1 τ ω1 ε mv kp tr ∧ LK (τ 5) N ω1 e) ∨ (∃ x γ, R = .error x ∧ r = some (.int 0) ∧ MoAt h1 p γ τ ω1 ε mv kp tr ∧ ω1 12 0 = nI x)) ∧ ω1 14 0 = ω 14 0) ∧ Upd h h1 p 29 ∧ z1 = sz
theorem wrd_24 {f : Nat → Int32} {s e : Nat} (h2 : wrd f s e 2 = true) (h4 : wrd f s e 4 = true) : False := by
  have a := wrB_at (Bool.and_eq_true_iff.mp h2).2 0 (by decide)
  have b := wrB_at (Bool.and_eq_true_iff.mp h4).2 0 (by decide)
  rw [a] at b
  exact absurd b (by decide)
theorem wrd_2n {f : Nat → Int32} {s e : Nat} (h2 : wrd f s e 2 = true) : wrd f s e 4 = false := by
  cases q : wrd f s e 4 with
  | false => rfl
  | true => exact (wrd_24 h2 q).elim
theorem wrd_4n {f : Nat → Int32} {s e : Nat} (h4 : wrd f s e 4 = true) : wrd f s e 2 = false := by
  cases q : wrd f s e 2 with
  | false => rfl
  | true => exact (wrd_24 q h4).elim
set_option maxRecDepth 20000 in
theorem c_wrong {D : zD} {B : Nat} {h : zH} {sz : Nat} {p : Nat} {σ τ ω : Ln} {ε : El} {mv : Nat → Int64} {kp tr : Option Nat} {x : Int32} (hM : MoAt h p σ τ ω ε mv kp tr) (hx : ω 10 0 = x) (hB : B ≤ p) : zM D B xX5_wrong [.ref p] h sz (fun r h1 z1 => r = some (.int 0) ∧ MoAt h1 p σ τ (up2 ω 12 0 x) ε mv kp tr ∧ Upd h h1 p 29 ∧ z1 = sz) := by
  have hU : Upd h h p 29 := Upd.rf
  refine zM.of (by decide) rfl (n := 0) ?_
  show Z D B xX5_wrong 0 0 _ 0 [some (.ref p)] [] h sz
  refine z_aload_n (pc := 0) (zk0 kX5_wrong_0) rfl ?_
  refine z_aload_n (pc := 1) (zk1 kX5_wrong_0) rfl ?_
  refine z_getf (pc := 2) (zk2 kX5_wrong_0) flX5_150 hM.1 (v := .int x) (by rw [← hx]; rfl) ?_
  refine z_Mo_w29 (pc := 5) (zk3 kX5_wrong_0) flX5_165 hM (by omega) (fun h_1 hR hU_2 => ?_)
  replace hU := hU.tr hU_2 (by omega) (by omega)
  replace hM := hR; clear hR
  refine z_iconst (pc := 8) (zk4 kX5_wrong_0) (v := 0) (by decide) ?_
  exact z_zret (pc := 9) (zk5 kX5_wrong_0) rfl (Nat.zero_le _) (Nat.zero_le _) (by decide) ⟨rfl, hM, hU, rfl⟩
set_option maxRecDepth 20000 in
theorem c_misW {D : zD} {B : Nat} {h : zH} {sz : Nat} {p : Nat} {σ τ ω : Ln} {ε : El} {mv : Nat → Int64} {kp tr : Option Nat} {s e i : Nat} (hM : MoAt h p σ τ ω ε mv kp tr) (h9 : ω 9 0 = nI 1) (h10 : ω 10 0 = nI s) (h8 : ω 8 0 = nI e) (hse : s ≤ e ∧ e ≤ 250) (hi : i < 8) : zRd D B xX5_isWord [.ref p, .ref (D.2.2.2.1 i)] h sz (.int (oI (wrd (τ 5) s e i))) := by
  refine zM.of (by decide) rfl (n := 1) ?_
  show Z D B xX5_isWord 0 0 _ 0 [some (.ref p), some (.ref (D.2.2.2.1 i)), none] [] h sz
  refine z_aload_n (pc := 0) (zk0 kX5_isWord_0) rfl ?_
  refine z_getf (pc := 1) (zk1 kX5_isWord_0) flX5_156 hM.1 (v := .int (nI 1)) (by rw [← h9]; rfl) ?_
  refine z_iconst (pc := 4) (zk2 kX5_isWord_0) (v := 1) (by decide) ?_
  refine z_icmp_ne (pc := 5) (zk3 kX5_isWord_0) (tgt := 24) (by decide) (fun q => absurd rfl q) (fun _ => ?_)
  refine z_aload_n (pc := 8) (zk4 kX5_isWord_0) rfl ?_
  refine z_getf (pc := 9) (zk5 kX5_isWord_0) flX5_147 hM.1 (v := .int (nI e)) (by rw [← h8]; rfl) ?_
  refine z_aload_n (pc := 12) (zk6 kX5_isWord_0) rfl ?_
  refine z_getf (pc := 13) (zk7 kX5_isWord_0) flX5_150 hM.1 (v := .int (nI s)) (by rw [← h10]; rfl) ?_
  refine z_isub (pc := 16) (zk8 kX5_isWord_0) ?_
  refine z_top (congrArg Value.int (nI_sub1 (show s ≤ e by omega))) ?_
  refine z_aload_n (pc := 17) (zk9 kX5_isWord_0) rfl ?_
  refine z_rdT (pc := 18) (zk10 kX5_isWord_0) (st := [.int (nI (e - s))]) lkX5_168 ivJ0_length_8abf5 rfl hi (c_txLen hi) rfl ⟨rfl, rfl⟩ rfl rfl ?_ rfl
  refine z_icmp_eq (pc := 21) (zk11 kX5_isWord_0) (tgt := 26) (by decide) (fun c_1 => ?_) (fun c_1 => ?_)
  · have htx := tx_le i hi
    have hel : e - s = zLen.getD i 0 := (nI_eqI (by omega) (by omega)).mp c_1
    refine z_iconst (pc := 26) (zk14 kX5_isWord_0) (v := 0) (by decide) ?_
    refine z_istore_n (pc := 27) (zk15 kX5_isWord_0) rfl rfl ?_
    show Z D B xX5_isWord _ _ _ 28 [some (.ref p), some (.ref (D.2.2.2.1 i)), some (.int 0)] _ _ _
    have lp28 : ∀ (n_ : Nat) (j : Nat), (zLen.getD i 0) - j < n_ → (j ≤ (zLen.getD i 0)) → (wrB (τ 5) s i j = true) → Z D B xX5_isWord 0 0 (fun r h1 z1 => r = some (.int (oI (wrd (τ 5) s e i))) ∧ h1 = h ∧ z1 = sz) 28 [some (.ref p), some (.ref (D.2.2.2.1 i)), some (.int (nI j))] [] h sz := by
      intro n_
      induction n_ with
      | zero => intro j hm_; exact absurd hm_ (Nat.not_lt_zero _)
      | succ n_ ih28 =>
        intro j hm_ hi_j hw_
        refine z_iload_n (pc := 28) (zk0 kX5_isWord_1) rfl ?_
        refine z_aload_n (pc := 29) (zk1 kX5_isWord_1) rfl ?_
        refine z_rdT (pc := 30) (zk2 kX5_isWord_1) (st := [.int (nI j)]) lkX5_168 ivJ0_length_8abf5 rfl hi (c_txLen hi) rfl ⟨rfl, rfl⟩ rfl rfl ?_ rfl
        refine z_icmp_ge (pc := 33) (zk3 kX5_isWord_1) (tgt := 63) (by decide) (fun c_2 => ?_) (fun c_2 => ?_)
        · have hie_j : j = (zLen.getD i 0) := nI_ge_yes (a := (zLen.getD i 0)) (by omega) (by omega) (by omega) c_2
          refine z_iconst (pc := 63) (zk3 kX5_isWord_2) (v := 1) (by decide) ?_
          exact z_zret (pc := 64) (zk4 kX5_isWord_2) rfl (Nat.zero_le _) (Nat.zero_le _) (by decide) ⟨by rw [wrd, hel, decide_eq_true rfl, ← hie_j, hw_]; rfl, rfl, rfl⟩
        · have hlt_j : j < (zLen.getD i 0) := nI_ge_not (a := (zLen.getD i 0)) (by omega) (by omega) c_2
          refine z_aload_n (pc := 36) (zk4 kX5_isWord_1) rfl ?_
          refine z_getf (pc := 37) (zk5 kX5_isWord_1) flX5_31 hM.1 gMo_6 ?_
          refine z_aload_n (pc := 40) (zk6 kX5_isWord_1) rfl ?_
          refine z_getf (pc := 41) (zk7 kX5_isWord_1) flX5_150 hM.1 (v := .int (nI s)) (by rw [← h10]; rfl) ?_
          refine z_iload_n (pc := 44) (zk8 kX5_isWord_1) rfl ?_
          refine z_iadd (pc := 45) (zk9 kX5_isWord_1) ?_
          refine z_top (congrArg Value.int (nI_add _ _)) ?_
          refine z_ialdN (pc := 46) (zk10 kX5_isWord_1) (f := τ 5) (j := s + j) hM.2.2.2.2.2.2.2.2.1 (show s + j < 250 by omega) rfl ?_
          refine z_aload_n (pc := 47) (zk11 kX5_isWord_1) rfl ?_
          refine z_iload_n (pc := 48) (zk12 kX5_isWord_1) rfl ?_
          refine z_rdT (pc := 49) (zk13 kX5_isWord_1) (st := [.int (τ 5 (s + j))]) lkX5_173 ivJ0_charAt_5068e rfl hi (c_chr hi hlt_j (by omega)) rfl ⟨rfl, rfl⟩ rfl rfl ?_ rfl
          refine z_icmp_eq (pc := 52) (zk14 kX5_isWord_1) (tgt := 57) (by decide) (fun c_3 => ?_) (fun c_3 => ?_)
          · refine z_iinc (pc := 57) (zk1 kX5_isWord_2) (v := nI (j + 1)) rfl zinc rfl rfl ?_
            show Z D B xX5_isWord _ _ _ 60 [some (.ref p), some (.ref (D.2.2.2.1 i)), some (.int (nI (j + 1)))] _ _ _
            refine z_goto (pc := 60) (zk2 kX5_isWord_2) (tgt := 28) (by decide) ?_
            exact ih28 (j + 1) (by omega) (by omega) (by rw [wrB, hw_, decide_eq_true c_3]; rfl)
          · refine z_iconst (pc := 55) (zk15 kX5_isWord_1) (v := 0) (by decide) ?_
            exact z_zret (pc := 56) (zk0 kX5_isWord_2) rfl (Nat.zero_le _) (Nat.zero_le _) (by decide) ⟨by rw [wrd, hel, decide_eq_true rfl, wrB_f (j := j) c_3 hlt_j]; rfl, rfl, rfl⟩
    exact lp28 _ 0 (Nat.lt_succ_self _) (by omega) rfl
  · refine z_iconst (pc := 24) (zk12 kX5_isWord_0) (v := 0) (by decide) ?_
    exact z_zret (pc := 25) (zk13 kX5_isWord_0) rfl (Nat.zero_le _) (Nat.zero_le _) (by decide) ⟨by rw [wrd, decide_eq_false (fun q => c_1 (congrArg nI q))]; rfl, rfl, rfl⟩
set_option maxRecDepth 20000 in
theorem c_misN {D : zD} {B : Nat} {h : zH} {sz : Nat} {p : Nat} {σ τ ω : Ln} {ε : El} {mv : Nat → Int64} {kp tr : Option Nat} {i : Nat} {x : Int32} (hM : MoAt h p σ τ ω ε mv kp tr) (h9 : ¬ ω 9 0 = 1) (hi : i < 8) : zRd D B xX5_isWord [.ref p, .ref (D.2.2.2.1 i)] h sz (.int 0) := by
  refine zM.of (by decide) rfl (n := 1) ?_
  show Z D B xX5_isWord 0 0 _ 0 [some (.ref p), some (.ref (D.2.2.2.1 i)), none] [] h sz
  refine z_aload_n (pc := 0) (zk0 kX5_isWord_0) rfl ?_
  refine z_getf (pc := 1) (zk1 kX5_isWord_0) flX5_156 hM.1 (v := .int (ω 9 0)) rfl ?_
  refine z_iconst (pc := 4) (zk2 kX5_isWord_0) (v := 1) (by decide) ?_
  refine z_icmp_ne (pc := 5) (zk3 kX5_isWord_0) (tgt := 24) (by decide) (fun _ => ?_) (fun q => absurd q h9)
  refine z_iconst (pc := 24) (zk12 kX5_isWord_0) (v := 0) (by decide) ?_
  exact z_zret (pc := 25) (zk13 kX5_isWord_0) rfl (Nat.zero_le _) (Nat.zero_le _) (by decide) ⟨rfl, rfl, rfl⟩
set_option maxRecDepth 20000 in
theorem c_number {D : zD} {B : Nat} {h : zH} {sz : Nat} {p : Nat} {σ τ ω : Ln} {ε : El} {mv : Nat → Int64} {kp tr : Option Nat} {N a j : Nat} {lo hi : Int32} (hM : MoAt h p σ τ ω ε mv kp tr) (hN : τ 6 0 = nI N) (hN2 : N ≤ 250) (hLK : LK (τ 5) N ω a) (ha2 : a ≤ N) (hj : j < 4) (hB : B ≤ p) : zM D B xX5_number [.ref p, .int (nI j), .int lo, .int hi] h sz (fun r h1 z1 => ((∃ (v : Int32) (e : Nat) (ω1 : Ln), numR (τ 5) N lo hi a = .ok (v, e) ∧ r = some (.int 1) ∧ MoAt h1 p σ τ ω1 ε mv kp tr ∧ LK (τ 5) N ω1 e ∧ ω1 13 = upd (ω 13) j v ∧ ω1 14 0 = ω 14 0) ∨ ∃ (x : Nat) (ω1 : Ln), numR (τ 5) N lo hi a = .error x ∧ r = some (.int 0) ∧ MoAt h1 p σ τ ω1 ε mv kp tr ∧ ω1 12 0 = nI x ∧ ω1 14 0 = ω 14 0) ∧ Upd h h1 p 29 ∧ z1 = sz) := by
  have hU : Upd h h p 29 := Upd.rf
  obtain ⟨s_0, es_0⟩ : ∃ s_, s_ = skp (τ 5) N a := ⟨_, rfl⟩
  obtain ⟨l8_0, l9_0, l10_0, l11_0⟩ := id hLK
  rw [← es_0] at l8_0 l9_0 l10_0 l11_0
  have hs_0 := skp_ge (f := τ 5) (N := N) (a := a) (by omega)
  rw [← es_0] at hs_0
  have ht_0 := tkE_le (f := τ 5) (N := N) (s := s_0) hs_0.2
  have hk_0 := tkS_le (τ 5) N s_0
  refine zM.of (by decide) rfl (n := 0) ?_
  show Z D B xX5_number 0 0 _ 0 [some (.ref p), some (.int (nI j)), some (.int lo), some (.int hi)] [] h sz
  refine z_aload_n (pc := 0) (zk0 kX5_number_0) rfl ?_
  refine z_getf (pc := 1) (zk1 kX5_number_0) flX5_156 hM.1 (v := .int (nI (tkS (τ 5) N s_0))) (by rw [← l9_0]; rfl) ?_
  refine z_iconst (pc := 4) (zk2 kX5_number_0) (v := 2) (by decide) ?_
  refine z_icmp_ne (pc := 5) (zk3 kX5_number_0) (tgt := 23) (by decide) (fun c_1 => ?_) (fun c_1 => ?_)
  · refine z_aload_n (pc := 23) (zk13 kX5_number_0) rfl ?_
    refine z_efV (pc := 24) (zk14 kX5_number_0) (st := []) lkX5_177 ivX5_wrong hM.1 rfl rfl (c_wrong hM l10_0 (by omega)) rfl ⟨rfl, rfl⟩ rfl rfl (fun r_ h_3 z_ q_2 => ?_) rfl
    obtain ⟨er_, hR, hU_4, ez_⟩ := q_2
    rw [er_, ez_]
    clear er_ ez_
    replace hU := hU.tr hU_4 (by omega) (by omega)
    replace hM := hR; clear hR
    show Z D B xX5_number _ _ _ 27 _ [.int 0] _ _
    exact z_zret (pc := 27) (zk15 kX5_number_0) rfl (Nat.zero_le _) (Nat.zero_le _) (by decide) ⟨Or.inr ⟨_, _, numR_n (fun q => by rw [← es_0] at q; exact c_1 (congrArg nI q.1)), rfl, hM, by rw [← es_0]; rfl, rfl⟩, hU, rfl⟩
  · refine z_aload_n (pc := 8) (zk4 kX5_number_0) rfl ?_
    refine z_getf (pc := 9) (zk5 kX5_number_0) flX5_153 hM.1 (v := .int (fgF (τ 5) N s_0)) (by rw [← l11_0]; rfl) ?_
    refine z_i2l (pc := 12) (zk6 kX5_number_0) ?_
    refine z_iload_n (pc := 13) (zk7 kX5_number_0) rfl ?_
    refine z_i2l (pc := 14) (zk8 kX5_number_0) ?_
    refine z_iload_n (pc := 15) (zk9 kX5_number_0) rfl ?_
    refine z_i2l (pc := 16) (zk10 kX5_number_0) ?_
    refine z_rdS (pc := 17) (zk11 kX5_number_0) (st := []) lkX5_81 isX5_in (c_inI (x := fgF (τ 5) N s_0) (a := lo) (b := hi) rfl rfl) rfl ⟨rfl, rfl⟩ rfl rfl ?_ rfl
    refine z_oif_ne (pc := 20) (zk12 kX5_number_0) (tgt := 28) (by decide) (fun c_5 => ?_) (fun c_5 => ?_)
    · refine z_aload_n (pc := 28) (zk0 kX5_number_1) rfl ?_
      refine z_getf (pc := 29) (zk1 kX5_number_1) flX5_68 hM.1 gMo_30 ?_
      refine z_iload_n (pc := 32) (zk2 kX5_number_1) rfl ?_
      refine z_aload_n (pc := 33) (zk3 kX5_number_1) rfl ?_
      refine z_getf (pc := 34) (zk4 kX5_number_1) flX5_153 hM.1 (v := .int (fgF (τ 5) N s_0)) (by rw [← l11_0]; rfl) ?_
      refine z_Mo_s25 (pc := 37) (zk5 kX5_number_1) (j := j) hM (by omega) (show j < 4 by omega) (fun h_6 hR hU_7 => ?_)
      replace hU := hU.tr hU_7 (by omega) (by omega)
      replace hM := hR; clear hR
      refine z_aload_n (pc := 38) (zk6 kX5_number_1) rfl ?_
      refine z_efV (pc := 39) (zk7 kX5_number_1) (st := []) lkX5_181 ivX5_look hM.1 rfl rfl (c_look (a := tkE (τ 5) N s_0) hM hN hN2 l8_0 (by omega) (by omega)) rfl ⟨rfl, rfl⟩ rfl rfl (fun r_ h_9 z_ q_8 => ?_) rfl
      obtain ⟨w_k_11, er_, hR, hLK_k_11, e12_k_11, e13_k_11, e14_k_11, hU_10, ez_⟩ := q_8
      rw [er_, ez_]
      clear er_ ez_
      replace hU := hU.tr hU_10 (by omega) (by omega)
      replace hM := hR; clear hR
      obtain ⟨s_k_11, es_k_11⟩ : ∃ s_, s_ = skp (τ 5) N (tkE (τ 5) N s_0) := ⟨_, rfl⟩
      obtain ⟨l8_k_11, l9_k_11, l10_k_11, l11_k_11⟩ := id hLK_k_11
      rw [← es_k_11] at l8_k_11 l9_k_11 l10_k_11 l11_k_11
      have hs_k_11 := skp_ge (f := τ 5) (N := N) (a := tkE (τ 5) N s_0) (by omega)
      rw [← es_k_11] at hs_k_11
      have ht_k_11 := tkE_le (f := τ 5) (N := N) (s := s_k_11) hs_k_11.2
      have hk_k_11 := tkS_le (τ 5) N s_k_11
      show Z D B xX5_number _ _ _ 42 _ [] _ _
      refine z_iconst (pc := 42) (zk8 kX5_number_1) (v := 1) (by decide) ?_
      exact z_zret (pc := 43) (zk9 kX5_number_1) rfl (Nat.zero_le _) (Nat.zero_le _) (by decide) ⟨Or.inl ⟨_, _, _, numR_y (by rw [← es_0]; exact (nI_eqI (b := 2) (by omega) (by omega)).mp c_1) (by rw [← es_0]; exact c_5), rfl, hM, by rw [← es_0]; exact hLK_k_11, by rw [← es_0]; exact e13_k_11, e14_k_11⟩, hU, rfl⟩
    · refine z_aload_n (pc := 23) (zk13 kX5_number_0) rfl ?_
      refine z_efV (pc := 24) (zk14 kX5_number_0) (st := []) lkX5_177 ivX5_wrong hM.1 rfl rfl (c_wrong hM l10_0 (by omega)) rfl ⟨rfl, rfl⟩ rfl rfl (fun r_ h_13 z_ q_12 => ?_) rfl
      obtain ⟨er_, hR, hU_14, ez_⟩ := q_12
      rw [er_, ez_]
      clear er_ ez_
      replace hU := hU.tr hU_14 (by omega) (by omega)
      replace hM := hR; clear hR
      show Z D B xX5_number _ _ _ 27 _ [.int 0] _ _
      exact z_zret (pc := 27) (zk15 kX5_number_0) rfl (Nat.zero_le _) (Nat.zero_le _) (by decide) ⟨Or.inr ⟨_, _, numR_n (fun q => by rw [← es_0, c_5] at q; exact absurd q.2 (by decide)), rfl, hM, by rw [← es_0]; rfl, rfl⟩, hU, rfl⟩
set_option maxRecDepth 20000 in
theorem c_tells {D : zD} {B : Nat} {h : zH} {sz : Nat} {p : Nat} {σ τ ω : Ln} {ε : El} {mv : Nat → Int64} {kp tr : Option Nat} {N a : Nat} {lo hi : Int32} (hM : MoAt h p σ τ ω ε mv kp tr) (hN : τ 6 0 = nI N) (hN2 : N ≤ 250) (ha : ω 8 0 = nI a) (ha2 : a ≤ N) (hB : B ≤ p) : zM D B xX5_tells [.ref p, .int lo, .int hi] h sz (fun r h1 z1 => ((∃ (v : Int32) (e : Nat) (ω1 : Ln), numR (τ 5) N lo hi a = .ok (v, e) ∧ r = some (.int 1) ∧ MoAt h1 p σ τ ω1 ε mv kp tr ∧ LK (τ 5) N ω1 e ∧ ω1 13 = upd (ω 13) 0 v ∧ ω1 14 0 = ω 14 0) ∨ ∃ (x : Nat) (ω1 : Ln), numR (τ 5) N lo hi a = .error x ∧ r = some (.int 0) ∧ MoAt h1 p σ τ ω1 ε mv kp tr ∧ ω1 12 0 = nI x ∧ ω1 14 0 = ω 14 0) ∧ Upd h h1 p 29 ∧ z1 = sz) := by
  have hU : Upd h h p 29 := Upd.rf
  refine zM.of (by decide) rfl (n := 0) ?_
  show Z D B xX5_tells 0 0 _ 0 [some (.ref p), some (.int lo), some (.int hi)] [] h sz
  refine z_aload_n (pc := 0) (zk0 kX5_tells_0) rfl ?_
  refine z_efV (pc := 1) (zk1 kX5_tells_0) (st := []) lkX5_181 ivX5_look hM.1 rfl rfl (c_look (a := a) hM hN hN2 ha (by omega) (by omega)) rfl ⟨rfl, rfl⟩ rfl rfl (fun r_ h_2 z_ q_1 => ?_) rfl
  obtain ⟨w_k_4, er_, hR, hLK_k_4, e12_k_4, e13_k_4, e14_k_4, hU_3, ez_⟩ := q_1
  rw [er_, ez_]
  clear er_ ez_
  replace hU := hU.tr hU_3 (by omega) (by omega)
  replace hM := hR; clear hR
  obtain ⟨s_k_4, es_k_4⟩ : ∃ s_, s_ = skp (τ 5) N a := ⟨_, rfl⟩
  obtain ⟨l8_k_4, l9_k_4, l10_k_4, l11_k_4⟩ := id hLK_k_4
  rw [← es_k_4] at l8_k_4 l9_k_4 l10_k_4 l11_k_4
  have hs_k_4 := skp_ge (f := τ 5) (N := N) (a := a) (by omega)
  rw [← es_k_4] at hs_k_4
  have ht_k_4 := tkE_le (f := τ 5) (N := N) (s := s_k_4) hs_k_4.2
  have hk_k_4 := tkS_le (τ 5) N s_k_4
  show Z D B xX5_tells _ _ _ 4 _ [] _ _
  refine z_aload_n (pc := 4) (zk2 kX5_tells_0) rfl ?_
  refine z_iconst (pc := 5) (zk3 kX5_tells_0) (v := 0) (by decide) ?_
  refine z_iload_n (pc := 6) (zk4 kX5_tells_0) rfl ?_
  refine z_iload_n (pc := 7) (zk5 kX5_tells_0) rfl ?_
  refine z_efV (pc := 8) (zk6 kX5_tells_0) (st := []) lkX5_184 ivX5_number hM.1 rfl rfl (c_number (j := 0) hM hN hN2 hLK_k_4 (by omega) (by decide) (by omega)) rfl ⟨rfl, rfl⟩ rfl rfl (fun r_ h_6 z_ q_5 => ?_) rfl
  obtain ⟨q_, hU_8, ez_⟩ := q_5
  rw [ez_]
  clear ez_
  rcases q_ with ⟨v_k_7, e_k_7, w_k_7, en_k_7, er_, hR, hLK_k_7, et_k_7, e14_k_7⟩ | ⟨x_k_7, w_k_7, en_k_7, er_, hR, ef_k_7, e14_k_7⟩
  · rw [er_]
    clear er_
    replace hU := hU.tr hU_8 (by omega) (by omega)
    replace hM := hR; clear hR
    have ho_k_7 := numR_ok (by omega) en_k_7
    show Z D B xX5_tells _ _ _ 11 _ [.int 1] _ _
    exact z_zret (pc := 11) (zk7 kX5_tells_0) rfl (Nat.zero_le _) (Nat.zero_le _) (by decide) ⟨Or.inl ⟨_, _, _, en_k_7, rfl, hM, hLK_k_7, by rw [et_k_7, e13_k_4], e14_k_7.trans e14_k_4⟩, hU, rfl⟩
  · rw [er_]
    clear er_
    replace hU := hU.tr hU_8 (by omega) (by omega)
    replace hM := hR; clear hR
    show Z D B xX5_tells _ _ _ 11 _ [.int 0] _ _
    exact z_zret (pc := 11) (zk7 kX5_tells_0) rfl (Nat.zero_le _) (Nat.zero_le _) (by decide) ⟨Or.inr ⟨_, _, en_k_7, rfl, hM, ef_k_7, e14_k_7.trans e14_k_4⟩, hU, rfl⟩
set_option maxRecDepth 20000 in
theorem c_tellsLetter {D : zD} {B : Nat} {h : zH} {sz : Nat} {p : Nat} {σ τ ω : Ln} {ε : El} {mv : Nat → Int64} {kp tr : Option Nat} {N a n m : Nat} (hM : MoAt h p σ τ ω ε mv kp tr) (hN : τ 6 0 = nI N) (hN2 : N ≤ 250) (ha : ω 8 0 = nI a) (ha2 : a ≤ N) (hB : B ≤ p) (hm : σ 9 0 = nI m) (hm8 : m < 8) : zM D B xX5_tellsLetter [.ref p] h sz (mdQ h p sz N τ ω ε mv kp tr (st_letter (τ 5) N σ a)) := by
  have hU : Upd h h p 29 := Upd.rf
  refine zM.of (by decide) rfl (n := 1) ?_
  show Z D B xX5_tellsLetter 0 0 _ 0 [some (.ref p), none] [] h sz
  refine z_aload_n (pc := 0) (zk0 kX5_tellsLetter_0) rfl ?_
  refine z_iconst (pc := 1) (zk1 kX5_tellsLetter_0) (v := 0) (by decide) ?_
  refine z_iconst (pc := 2) (zk2 kX5_tellsLetter_0) (v := 5) (by decide) ?_
  refine z_efV (pc := 3) (zk3 kX5_tellsLetter_0) (st := []) lkX5_188 ivX5_tells hM.1 rfl rfl (c_tells hM hN hN2 ha (by omega) (by omega)) rfl ⟨rfl, rfl⟩ rfl rfl (fun r_ h_2 z_ q_1 => ?_) rfl
  obtain ⟨q_, hU_4, ez_⟩ := q_1
  rw [ez_]
  clear ez_
  rcases q_ with ⟨v_k_3, e_k_3, w_k_3, en_k_3, er_, hR, hLK_k_3, et_k_3, e14_k_3⟩ | ⟨x_k_3, w_k_3, en_k_3, er_, hR, ef_k_3, e14_k_3⟩
  · rw [er_]
    clear er_
    replace hU := hU.tr hU_4 (by omega) (by omega)
    replace hM := hR; clear hR
    have ho_k_3 := numR_ok (by omega) en_k_3
    show Z D B xX5_tellsLetter _ _ _ 6 _ [.int 1] _ _
    refine z_if_eq (pc := 6) (zk4 kX5_tellsLetter_0) (tgt := 50) (by decide) (fun q => absurd q (by decide)) (fun _ => ?_)
    refine z_aload_n (pc := 9) (zk5 kX5_tellsLetter_0) rfl ?_
    refine z_iconst (pc := 10) (zk6 kX5_tellsLetter_0) (v := 1) (by decide) ?_
    refine z_iconst (pc := 11) (zk7 kX5_tellsLetter_0) (v := 0) (by decide) ?_
    refine z_bipush (pc := 12) (zk8 kX5_tellsLetter_0) (v := 9) (by decide) ?_
    refine z_efV (pc := 14) (zk9 kX5_tellsLetter_0) (st := []) lkX5_184 ivX5_number hM.1 rfl rfl (c_number (j := 1) hM hN hN2 hLK_k_3 (by omega) (by decide) (by omega)) rfl ⟨rfl, rfl⟩ rfl rfl (fun r_ h_6 z_ q_5 => ?_) rfl
    obtain ⟨q_, hU_8, ez_⟩ := q_5
    rw [ez_]
    clear ez_
    rcases q_ with ⟨v_k_7, e_k_7, w_k_7, en_k_7, er_, hR, hLK_k_7, et_k_7, e14_k_7⟩ | ⟨x_k_7, w_k_7, en_k_7, er_, hR, ef_k_7, e14_k_7⟩
    · rw [er_]
      clear er_
      replace hU := hU.tr hU_8 (by omega) (by omega)
      replace hM := hR; clear hR
      have ho_k_7 := numR_ok (by omega) en_k_7
      show Z D B xX5_tellsLetter _ _ _ 17 _ [.int 1] _ _
      refine z_if_eq (pc := 17) (zk10 kX5_tellsLetter_0) (tgt := 50) (by decide) (fun q => absurd q (by decide)) (fun _ => ?_)
      refine z_aload_n (pc := 20) (zk11 kX5_tellsLetter_0) rfl ?_
      refine z_iconst (pc := 21) (zk12 kX5_tellsLetter_0) (v := 2) (by decide) ?_
      refine z_iconst (pc := 22) (zk13 kX5_tellsLetter_0) (v := 0) (by decide) ?_
      refine z_aload_n (pc := 23) (zk14 kX5_tellsLetter_0) rfl ?_
      refine z_getf (pc := 24) (zk15 kX5_tellsLetter_0) flX5_37 hM.1 (v := .int (σ 0 0)) rfl ?_
      refine z_iconst (pc := 27) (zk0 kX5_tellsLetter_1) (v := 1) (by decide) ?_
      refine z_isub (pc := 28) (zk1 kX5_tellsLetter_1) ?_
      refine z_efV (pc := 29) (zk2 kX5_tellsLetter_1) (st := []) lkX5_184 ivX5_number hM.1 rfl rfl (c_number (j := 2) hM hN hN2 hLK_k_7 (by omega) (by decide) (by omega)) rfl ⟨rfl, rfl⟩ rfl rfl (fun r_ h_10 z_ q_9 => ?_) rfl
      obtain ⟨q_, hU_12, ez_⟩ := q_9
      rw [ez_]
      clear ez_
      rcases q_ with ⟨v_k_11, e_k_11, w_k_11, en_k_11, er_, hR, hLK_k_11, et_k_11, e14_k_11⟩ | ⟨x_k_11, w_k_11, en_k_11, er_, hR, ef_k_11, e14_k_11⟩
      · rw [er_]
        clear er_
        replace hU := hU.tr hU_12 (by omega) (by omega)
        replace hM := hR; clear hR
        have ho_k_11 := numR_ok (by omega) en_k_11
        show Z D B xX5_tellsLetter _ _ _ 32 _ [.int 1] _ _
        refine z_if_eq (pc := 32) (zk3 kX5_tellsLetter_1) (tgt := 50) (by decide) (fun q => absurd q (by decide)) (fun _ => ?_)
        refine z_aload_n (pc := 35) (zk4 kX5_tellsLetter_1) rfl ?_
        refine z_iconst (pc := 36) (zk5 kX5_tellsLetter_1) (v := 3) (by decide) ?_
        refine z_iconst (pc := 37) (zk6 kX5_tellsLetter_1) (v := 1) (by decide) ?_
        refine z_bipush (pc := 38) (zk7 kX5_tellsLetter_1) (v := 40) (by decide) ?_
        refine z_efV (pc := 40) (zk8 kX5_tellsLetter_1) (st := []) lkX5_184 ivX5_number hM.1 rfl rfl (c_number (j := 3) hM hN hN2 hLK_k_11 (by omega) (by decide) (by omega)) rfl ⟨rfl, rfl⟩ rfl rfl (fun r_ h_14 z_ q_13 => ?_) rfl
        obtain ⟨q_, hU_16, ez_⟩ := q_13
        rw [ez_]
        clear ez_
        rcases q_ with ⟨v_k_15, e_k_15, w_k_15, en_k_15, er_, hR, hLK_k_15, et_k_15, e14_k_15⟩ | ⟨x_k_15, w_k_15, en_k_15, er_, hR, ef_k_15, e14_k_15⟩
        · rw [er_]
          clear er_
          replace hU := hU.tr hU_16 (by omega) (by omega)
          replace hM := hR; clear hR
          have ho_k_15 := numR_ok (by omega) en_k_15
          show Z D B xX5_tellsLetter _ _ _ 43 _ [.int 1] _ _
          refine z_if_eq (pc := 43) (zk9 kX5_tellsLetter_1) (tgt := 50) (by decide) (fun q => absurd q (by decide)) (fun _ => ?_)
          refine z_iconst (pc := 46) (zk10 kX5_tellsLetter_1) (v := 1) (by decide) ?_
          refine z_goto (pc := 47) (zk11 kX5_tellsLetter_1) (tgt := 51) (by decide) ?_
          refine z_istore_n (pc := 51) (zk13 kX5_tellsLetter_1) rfl rfl ?_
          show Z D B xX5_tellsLetter _ _ _ 52 [some (.ref p), some (.int 1)] _ _ _
          refine z_iload_n (pc := 52) (zk14 kX5_tellsLetter_1) rfl ?_
          refine z_if_eq (pc := 53) (zk15 kX5_tellsLetter_1) (tgt := 84) (by decide) (fun q => absurd q (by decide)) (fun _ => ?_)
          refine z_aload_n (pc := 56) (zk0 kX5_tellsLetter_2) rfl ?_
          refine z_aload_n (pc := 57) (zk1 kX5_tellsLetter_2) rfl ?_
          refine z_getf (pc := 58) (zk2 kX5_tellsLetter_2) flX5_68 hM.1 gMo_30 ?_
          refine z_iconst (pc := 61) (zk3 kX5_tellsLetter_2) (v := 0) (by decide) ?_
          refine z_ialdN (pc := 62) (zk4 kX5_tellsLetter_2) (f := w_k_15 13) (j := 0) hM.2.2.2.2.2.2.2.2.2.2.2.2.2.2.2.2.2.2.1 (by decide) rfl ?_
          refine z_top (congrArg Value.int (show w_k_15 13 0 = v_k_3 from by simp [et_k_15, et_k_11, et_k_7, et_k_3, upd])) ?_
          refine z_aload_n (pc := 63) (zk5 kX5_tellsLetter_2) rfl ?_
          refine z_getf (pc := 64) (zk6 kX5_tellsLetter_2) flX5_68 hM.1 gMo_30 ?_
          refine z_iconst (pc := 67) (zk7 kX5_tellsLetter_2) (v := 1) (by decide) ?_
          refine z_ialdN (pc := 68) (zk8 kX5_tellsLetter_2) (f := w_k_15 13) (j := 1) hM.2.2.2.2.2.2.2.2.2.2.2.2.2.2.2.2.2.2.1 (by decide) rfl ?_
          refine z_top (congrArg Value.int (show w_k_15 13 1 = v_k_7 from by simp [et_k_15, et_k_11, et_k_7, et_k_3, upd])) ?_
          refine z_aload_n (pc := 69) (zk9 kX5_tellsLetter_2) rfl ?_
          refine z_getf (pc := 70) (zk10 kX5_tellsLetter_2) flX5_68 hM.1 gMo_30 ?_
          refine z_iconst (pc := 73) (zk11 kX5_tellsLetter_2) (v := 2) (by decide) ?_
          refine z_ialdN (pc := 74) (zk12 kX5_tellsLetter_2) (f := w_k_15 13) (j := 2) hM.2.2.2.2.2.2.2.2.2.2.2.2.2.2.2.2.2.2.1 (by decide) rfl ?_
          refine z_top (congrArg Value.int (show w_k_15 13 2 = v_k_11 from by simp [et_k_15, et_k_11, et_k_7, et_k_3, upd])) ?_
          refine z_aload_n (pc := 75) (zk13 kX5_tellsLetter_2) rfl ?_
          refine z_getf (pc := 76) (zk14 kX5_tellsLetter_2) flX5_68 hM.1 gMo_30 ?_
          refine z_iconst (pc := 79) (zk15 kX5_tellsLetter_2) (v := 3) (by decide) ?_
          refine z_ialdN (pc := 80) (zk0 kX5_tellsLetter_3) (f := w_k_15 13) (j := 3) hM.2.2.2.2.2.2.2.2.2.2.2.2.2.2.2.2.2.2.1 (by decide) rfl ?_
          refine z_top (congrArg Value.int (show w_k_15 13 3 = v_k_15 from by simp [et_k_15, et_k_11, et_k_7, et_k_3, upd])) ?_
          refine z_efV (pc := 81) (zk1 kX5_tellsLetter_3) (st := []) lkX5_127 ivX5_addLetter hM.1 rfl rfl (c_maddLetter hM hB hm hm8) rfl ⟨rfl, rfl⟩ rfl rfl (fun r_ h_18 z_ q_17 => ?_) rfl
          obtain ⟨er_, hR, hU_19, ez_⟩ := q_17
          rw [er_, ez_]
          clear er_ ez_
          replace hU := hU.tr hU_19 (by omega) (by omega)
          replace hM := hR; clear hR
          show Z D B xX5_tellsLetter _ _ _ 84 _ [] _ _
          refine z_iload_n (pc := 84) (zk2 kX5_tellsLetter_3) rfl ?_
          exact z_zret (pc := 85) (zk3 kX5_tellsLetter_3) rfl (Nat.zero_le _) (Nat.zero_le _) (by decide) ⟨⟨_, Or.inl ⟨_, _, by rw [st_letter, stN_y en_k_3, stN_y en_k_7, stN_y en_k_11, stN_y en_k_15, hm, ix_nI (show m ≤ 1000 by omega)], rfl, hM, hLK_k_15⟩, e14_k_15.trans (e14_k_11.trans (e14_k_7.trans (e14_k_3)))⟩, hU, rfl⟩
        · rw [er_]
          clear er_
          replace hU := hU.tr hU_16 (by omega) (by omega)
          replace hM := hR; clear hR
          show Z D B xX5_tellsLetter _ _ _ 43 _ [.int 0] _ _
          refine z_if_eq (pc := 43) (zk9 kX5_tellsLetter_1) (tgt := 50) (by decide) (fun _ => ?_) (fun q => absurd (by decide) q)
          refine z_iconst (pc := 50) (zk12 kX5_tellsLetter_1) (v := 0) (by decide) ?_
          refine z_istore_n (pc := 51) (zk13 kX5_tellsLetter_1) rfl rfl ?_
          show Z D B xX5_tellsLetter _ _ _ 52 [some (.ref p), some (.int 0)] _ _ _
          refine z_iload_n (pc := 52) (zk14 kX5_tellsLetter_1) rfl ?_
          refine z_if_eq (pc := 53) (zk15 kX5_tellsLetter_1) (tgt := 84) (by decide) (fun _ => ?_) (fun q => absurd (by decide) q)
          refine z_iload_n (pc := 84) (zk2 kX5_tellsLetter_3) rfl ?_
          exact z_zret (pc := 85) (zk3 kX5_tellsLetter_3) rfl (Nat.zero_le _) (Nat.zero_le _) (by decide) ⟨⟨_, Or.inr ⟨_, _, by rw [st_letter, stN_y en_k_3, stN_y en_k_7, stN_y en_k_11, stN_n en_k_15], rfl, hM, ef_k_15⟩, e14_k_15.trans (e14_k_11.trans (e14_k_7.trans (e14_k_3)))⟩, hU, rfl⟩
      · rw [er_]
        clear er_
        replace hU := hU.tr hU_12 (by omega) (by omega)
        replace hM := hR; clear hR
        show Z D B xX5_tellsLetter _ _ _ 32 _ [.int 0] _ _
        refine z_if_eq (pc := 32) (zk3 kX5_tellsLetter_1) (tgt := 50) (by decide) (fun _ => ?_) (fun q => absurd (by decide) q)
        refine z_iconst (pc := 50) (zk12 kX5_tellsLetter_1) (v := 0) (by decide) ?_
        refine z_istore_n (pc := 51) (zk13 kX5_tellsLetter_1) rfl rfl ?_
        show Z D B xX5_tellsLetter _ _ _ 52 [some (.ref p), some (.int 0)] _ _ _
        refine z_iload_n (pc := 52) (zk14 kX5_tellsLetter_1) rfl ?_
        refine z_if_eq (pc := 53) (zk15 kX5_tellsLetter_1) (tgt := 84) (by decide) (fun _ => ?_) (fun q => absurd (by decide) q)
        refine z_iload_n (pc := 84) (zk2 kX5_tellsLetter_3) rfl ?_
        exact z_zret (pc := 85) (zk3 kX5_tellsLetter_3) rfl (Nat.zero_le _) (Nat.zero_le _) (by decide) ⟨⟨_, Or.inr ⟨_, _, by rw [st_letter, stN_y en_k_3, stN_y en_k_7, stN_n en_k_11], rfl, hM, ef_k_11⟩, e14_k_11.trans (e14_k_7.trans (e14_k_3))⟩, hU, rfl⟩
    · rw [er_]
      clear er_
      replace hU := hU.tr hU_8 (by omega) (by omega)
      replace hM := hR; clear hR
      show Z D B xX5_tellsLetter _ _ _ 17 _ [.int 0] _ _
      refine z_if_eq (pc := 17) (zk10 kX5_tellsLetter_0) (tgt := 50) (by decide) (fun _ => ?_) (fun q => absurd (by decide) q)
      refine z_iconst (pc := 50) (zk12 kX5_tellsLetter_1) (v := 0) (by decide) ?_
      refine z_istore_n (pc := 51) (zk13 kX5_tellsLetter_1) rfl rfl ?_
      show Z D B xX5_tellsLetter _ _ _ 52 [some (.ref p), some (.int 0)] _ _ _
      refine z_iload_n (pc := 52) (zk14 kX5_tellsLetter_1) rfl ?_
      refine z_if_eq (pc := 53) (zk15 kX5_tellsLetter_1) (tgt := 84) (by decide) (fun _ => ?_) (fun q => absurd (by decide) q)
      refine z_iload_n (pc := 84) (zk2 kX5_tellsLetter_3) rfl ?_
      exact z_zret (pc := 85) (zk3 kX5_tellsLetter_3) rfl (Nat.zero_le _) (Nat.zero_le _) (by decide) ⟨⟨_, Or.inr ⟨_, _, by rw [st_letter, stN_y en_k_3, stN_n en_k_7], rfl, hM, ef_k_7⟩, e14_k_7.trans (e14_k_3)⟩, hU, rfl⟩
  · rw [er_]
    clear er_
    replace hU := hU.tr hU_4 (by omega) (by omega)
    replace hM := hR; clear hR
    show Z D B xX5_tellsLetter _ _ _ 6 _ [.int 0] _ _
    refine z_if_eq (pc := 6) (zk4 kX5_tellsLetter_0) (tgt := 50) (by decide) (fun _ => ?_) (fun q => absurd (by decide) q)
    refine z_iconst (pc := 50) (zk12 kX5_tellsLetter_1) (v := 0) (by decide) ?_
    refine z_istore_n (pc := 51) (zk13 kX5_tellsLetter_1) rfl rfl ?_
    show Z D B xX5_tellsLetter _ _ _ 52 [some (.ref p), some (.int 0)] _ _ _
    refine z_iload_n (pc := 52) (zk14 kX5_tellsLetter_1) rfl ?_
    refine z_if_eq (pc := 53) (zk15 kX5_tellsLetter_1) (tgt := 84) (by decide) (fun _ => ?_) (fun q => absurd (by decide) q)
    refine z_iload_n (pc := 84) (zk2 kX5_tellsLetter_3) rfl ?_
    exact z_zret (pc := 85) (zk3 kX5_tellsLetter_3) rfl (Nat.zero_le _) (Nat.zero_le _) (by decide) ⟨⟨_, Or.inr ⟨_, _, by rw [st_letter, stN_n en_k_3], rfl, hM, ef_k_3⟩, e14_k_3⟩, hU, rfl⟩
set_option maxRecDepth 20000 in
theorem c_tellsH2 {D : zD} {B : Nat} {h : zH} {sz : Nat} {p : Nat} {σ τ ω : Ln} {ε : El} {mv : Nat → Int64} {kp tr : Option Nat} {N a n s : Nat} (hM : MoAt h p σ τ ω ε mv kp tr) (hN : τ 6 0 = nI N) (hN2 : N ≤ 250) (ha : ω 8 0 = nI a) (ha2 : a ≤ N) (hB : B ≤ p) (h9 : ω 9 0 = nI 1) (h10 : ω 10 0 = nI s) (hsa : s ≤ a) (hw : wrd (τ 5) s a 2 = true) (hn : σ 0 0 = nI n) (h12 : n ≤ 12) : zM D B xX5_tellsHouse [.ref p] h sz (mdQ h p sz N τ ω ε mv kp tr (st_house (τ 5) N σ 1 a)) := by
  have hU : Upd h h p 29 := Upd.rf
  refine zM.of (by decide) rfl (n := 3) ?_
  show Z D B xX5_tellsHouse 0 0 _ 0 [some (.ref p), none, none, none] [] h sz
  refine z_aload_n (pc := 0) (zk0 kX5_tellsHouse_0) rfl ?_
  refine z_ldcS (pc := 1) (zk1 kX5_tellsHouse_0) (tx := "wind") (i := 2) (by decide +kernel) ?_
  refine z_rdV (pc := 3) (zk2 kX5_tellsHouse_0) (st := []) lkX5_192 ivX5_isWord hM.1 rfl rfl (c_misW hM h9 h10 ha (by omega) (by decide)) rfl ⟨rfl, rfl⟩ rfl rfl ?_ rfl
  refine z_istore_n (pc := 6) (zk3 kX5_tellsHouse_0) rfl rfl ?_
  show Z D B xX5_tellsHouse _ _ _ 7 [some (.ref p), some (.int (oI (wrd (τ 5) s a 2))), none, none] _ _ _
  refine z_aload_n (pc := 7) (zk4 kX5_tellsHouse_0) rfl ?_
  refine z_ldcS (pc := 8) (zk5 kX5_tellsHouse_0) (tx := "code") (i := 4) (by decide +kernel) ?_
  refine z_rdV (pc := 10) (zk6 kX5_tellsHouse_0) (st := []) lkX5_192 ivX5_isWord hM.1 rfl rfl (c_misW hM h9 h10 ha (by omega) (by decide)) rfl ⟨rfl, rfl⟩ rfl rfl ?_ rfl
  refine z_istore_n (pc := 13) (zk7 kX5_tellsHouse_0) rfl rfl ?_
  show Z D B xX5_tellsHouse _ _ _ 14 [some (.ref p), some (.int (oI (wrd (τ 5) s a 2))), some (.int (oI (wrd (τ 5) s a 4))), none] _ _ _
  refine z_aload_n (pc := 14) (zk8 kX5_tellsHouse_0) rfl ?_
  refine z_iconst (pc := 15) (zk9 kX5_tellsHouse_0) (v := 0) (by decide) ?_
  refine z_aload_n (pc := 16) (zk10 kX5_tellsHouse_0) rfl ?_
  refine z_getf (pc := 17) (zk11 kX5_tellsHouse_0) flX5_37 hM.1 (v := .int (σ 0 0)) rfl ?_
  refine z_iconst (pc := 20) (zk12 kX5_tellsHouse_0) (v := 1) (by decide) ?_
  refine z_isub (pc := 21) (zk13 kX5_tellsHouse_0) ?_
  refine z_efV (pc := 22) (zk14 kX5_tellsHouse_0) (st := []) lkX5_188 ivX5_tells hM.1 rfl rfl (c_tells hM hN hN2 ha (by omega) (by omega)) rfl ⟨rfl, rfl⟩ rfl rfl (fun r_ h_2 z_ q_1 => ?_) rfl
  obtain ⟨q_, hU_4, ez_⟩ := q_1
  rw [ez_]
  clear ez_
  rcases q_ with ⟨v_k_3, e_k_3, w_k_3, en_k_3, er_, hR, hLK_k_3, et_k_3, e14_k_3⟩ | ⟨x_k_3, w_k_3, en_k_3, er_, hR, ef_k_3, e14_k_3⟩
  · rw [er_]
    clear er_
    replace hU := hU.tr hU_4 (by omega) (by omega)
    replace hM := hR; clear hR
    have ho_k_3 := numR_ok (by omega) en_k_3
    show Z D B xX5_tellsHouse _ _ _ 25 _ [.int 1] _ _
    refine z_if_eq (pc := 25) (zk15 kX5_tellsHouse_0) (tgt := 43) (by decide) (fun q => absurd q (by decide)) (fun _ => ?_)
    refine z_aload_n (pc := 28) (zk0 kX5_tellsHouse_1) rfl ?_
    refine z_iconst (pc := 29) (zk1 kX5_tellsHouse_1) (v := 1) (by decide) ?_
    refine z_iconst (pc := 30) (zk2 kX5_tellsHouse_1) (v := 0) (by decide) ?_
    refine z_bipush (pc := 31) (zk3 kX5_tellsHouse_1) (v := 9) (by decide) ?_
    refine z_efV (pc := 33) (zk4 kX5_tellsHouse_1) (st := []) lkX5_184 ivX5_number hM.1 rfl rfl (c_number (j := 1) hM hN hN2 hLK_k_3 (by omega) (by decide) (by omega)) rfl ⟨rfl, rfl⟩ rfl rfl (fun r_ h_6 z_ q_5 => ?_) rfl
    obtain ⟨q_, hU_8, ez_⟩ := q_5
    rw [ez_]
    clear ez_
    rcases q_ with ⟨v_k_7, e_k_7, w_k_7, en_k_7, er_, hR, hLK_k_7, et_k_7, e14_k_7⟩ | ⟨x_k_7, w_k_7, en_k_7, er_, hR, ef_k_7, e14_k_7⟩
    · rw [er_]
      clear er_
      replace hU := hU.tr hU_8 (by omega) (by omega)
      replace hM := hR; clear hR
      have ho_k_7 := numR_ok (by omega) en_k_7
      show Z D B xX5_tellsHouse _ _ _ 36 _ [.int 1] _ _
      refine z_if_eq (pc := 36) (zk5 kX5_tellsHouse_1) (tgt := 43) (by decide) (fun q => absurd q (by decide)) (fun _ => ?_)
      refine z_iconst (pc := 39) (zk6 kX5_tellsHouse_1) (v := 1) (by decide) ?_
      refine z_goto (pc := 40) (zk7 kX5_tellsHouse_1) (tgt := 44) (by decide) ?_
      refine z_istore_n (pc := 44) (zk9 kX5_tellsHouse_1) rfl rfl ?_
      show Z D B xX5_tellsHouse _ _ _ 45 [some (.ref p), some (.int (oI (wrd (τ 5) s a 2))), some (.int (oI (wrd (τ 5) s a 4))), some (.int 1)] _ _ _
      refine z_iload_n (pc := 45) (zk10 kX5_tellsHouse_1) rfl ?_
      refine z_if_eq (pc := 46) (zk11 kX5_tellsHouse_1) (tgt := 73) (by decide) (fun q => absurd q (by decide)) (fun _ => ?_)
      refine z_iload_n (pc := 49) (zk12 kX5_tellsHouse_1) rfl ?_
      refine z_oif_eq (pc := 50) (zk13 kX5_tellsHouse_1) (tgt := 73) (by decide) (fun _ => ?_) (fun q => by rw [(wrd_2n hw)] at q; cases q)
      refine z_iload_n (pc := 73) (zk10 kX5_tellsHouse_2) rfl ?_
      refine z_if_eq (pc := 74) (zk11 kX5_tellsHouse_2) (tgt := 101) (by decide) (fun q => absurd q (by decide)) (fun _ => ?_)
      refine z_iload_n (pc := 77) (zk12 kX5_tellsHouse_2) rfl ?_
      refine z_oif_eq (pc := 78) (zk13 kX5_tellsHouse_2) (tgt := 101) (by decide) (fun q => by rw [hw] at q; cases q) (fun _ => ?_)
      refine z_aload_n (pc := 81) (zk14 kX5_tellsHouse_2) rfl ?_
      refine z_getf (pc := 82) (zk15 kX5_tellsHouse_2) flX5_41 hM.1 gMo_10 ?_
      refine z_aload_n (pc := 85) (zk0 kX5_tellsHouse_3) rfl ?_
      refine z_getf (pc := 86) (zk1 kX5_tellsHouse_3) flX5_68 hM.1 gMo_30 ?_
      refine z_iconst (pc := 89) (zk2 kX5_tellsHouse_3) (v := 0) (by decide) ?_
      refine z_ialdN (pc := 90) (zk3 kX5_tellsHouse_3) (f := w_k_7 13) (j := 0) hM.2.2.2.2.2.2.2.2.2.2.2.2.2.2.2.2.2.2.1 (by decide) rfl ?_
      refine z_top (congrArg Value.int (show w_k_7 13 0 = v_k_3 from by simp [et_k_7, et_k_3, upd])) ?_
      refine z_aload_n (pc := 91) (zk4 kX5_tellsHouse_3) rfl ?_
      refine z_getf (pc := 92) (zk5 kX5_tellsHouse_3) flX5_68 hM.1 gMo_30 ?_
      refine z_iconst (pc := 95) (zk6 kX5_tellsHouse_3) (v := 1) (by decide) ?_
      refine z_ialdN (pc := 96) (zk7 kX5_tellsHouse_3) (f := w_k_7 13) (j := 1) hM.2.2.2.2.2.2.2.2.2.2.2.2.2.2.2.2.2.2.1 (by decide) rfl ?_
      refine z_top (congrArg Value.int (show w_k_7 13 1 = v_k_7 from by simp [et_k_7, et_k_3, upd])) ?_
      obtain ⟨kv_k_3, hkv_k_3, rfl⟩ := okR_nI (n := n) (by omega) (by rw [← hn]; exact ho_k_3.1)
      refine z_Mo_s17 (pc := 97) (zk8 kX5_tellsHouse_3) (j := kv_k_3) hM (by omega) (show kv_k_3 < 12 by omega) (fun h_9 hR hU_10 => ?_)
      replace hU := hU.tr hU_10 (by omega) (by omega)
      replace hM := hR; clear hR
      refine z_goto (pc := 98) (zk9 kX5_tellsHouse_3) (tgt := 122) (by decide) ?_
      refine z_iload_n (pc := 122) (zk7 kX5_tellsHouse_4) rfl ?_
      exact z_zret (pc := 123) (zk8 kX5_tellsHouse_4) rfl (Nat.zero_le _) (Nat.zero_le _) (by decide) ⟨⟨_, Or.inl ⟨_, _, by rw [st_house, stN_y en_k_3, stN_y en_k_7]; simp only [ix_nI (show kv_k_3 ≤ 1000 by omega)], rfl, hM, hLK_k_7⟩, e14_k_7.trans (e14_k_3)⟩, hU, rfl⟩
    · rw [er_]
      clear er_
      replace hU := hU.tr hU_8 (by omega) (by omega)
      replace hM := hR; clear hR
      show Z D B xX5_tellsHouse _ _ _ 36 _ [.int 0] _ _
      refine z_if_eq (pc := 36) (zk5 kX5_tellsHouse_1) (tgt := 43) (by decide) (fun _ => ?_) (fun q => absurd (by decide) q)
      refine z_iconst (pc := 43) (zk8 kX5_tellsHouse_1) (v := 0) (by decide) ?_
      refine z_istore_n (pc := 44) (zk9 kX5_tellsHouse_1) rfl rfl ?_
      show Z D B xX5_tellsHouse _ _ _ 45 [some (.ref p), some (.int (oI (wrd (τ 5) s a 2))), some (.int (oI (wrd (τ 5) s a 4))), some (.int 0)] _ _ _
      refine z_iload_n (pc := 45) (zk10 kX5_tellsHouse_1) rfl ?_
      refine z_if_eq (pc := 46) (zk11 kX5_tellsHouse_1) (tgt := 73) (by decide) (fun _ => ?_) (fun q => absurd (by decide) q)
      refine z_iload_n (pc := 73) (zk10 kX5_tellsHouse_2) rfl ?_
      refine z_if_eq (pc := 74) (zk11 kX5_tellsHouse_2) (tgt := 101) (by decide) (fun _ => ?_) (fun q => absurd (by decide) q)
      refine z_iload_n (pc := 101) (zk10 kX5_tellsHouse_3) rfl ?_
      refine z_if_eq (pc := 102) (zk11 kX5_tellsHouse_3) (tgt := 122) (by decide) (fun _ => ?_) (fun q => absurd (by decide) q)
      refine z_iload_n (pc := 122) (zk7 kX5_tellsHouse_4) rfl ?_
      exact z_zret (pc := 123) (zk8 kX5_tellsHouse_4) rfl (Nat.zero_le _) (Nat.zero_le _) (by decide) ⟨⟨_, Or.inr ⟨_, _, by rw [st_house, stN_y en_k_3, stN_n en_k_7], rfl, hM, ef_k_7⟩, e14_k_7.trans (e14_k_3)⟩, hU, rfl⟩
  · rw [er_]
    clear er_
    replace hU := hU.tr hU_4 (by omega) (by omega)
    replace hM := hR; clear hR
    show Z D B xX5_tellsHouse _ _ _ 25 _ [.int 0] _ _
    refine z_if_eq (pc := 25) (zk15 kX5_tellsHouse_0) (tgt := 43) (by decide) (fun _ => ?_) (fun q => absurd (by decide) q)
    refine z_iconst (pc := 43) (zk8 kX5_tellsHouse_1) (v := 0) (by decide) ?_
    refine z_istore_n (pc := 44) (zk9 kX5_tellsHouse_1) rfl rfl ?_
    show Z D B xX5_tellsHouse _ _ _ 45 [some (.ref p), some (.int (oI (wrd (τ 5) s a 2))), some (.int (oI (wrd (τ 5) s a 4))), some (.int 0)] _ _ _
    refine z_iload_n (pc := 45) (zk10 kX5_tellsHouse_1) rfl ?_
    refine z_if_eq (pc := 46) (zk11 kX5_tellsHouse_1) (tgt := 73) (by decide) (fun _ => ?_) (fun q => absurd (by decide) q)
    refine z_iload_n (pc := 73) (zk10 kX5_tellsHouse_2) rfl ?_
    refine z_if_eq (pc := 74) (zk11 kX5_tellsHouse_2) (tgt := 101) (by decide) (fun _ => ?_) (fun q => absurd (by decide) q)
    refine z_iload_n (pc := 101) (zk10 kX5_tellsHouse_3) rfl ?_
    refine z_if_eq (pc := 102) (zk11 kX5_tellsHouse_3) (tgt := 122) (by decide) (fun _ => ?_) (fun q => absurd (by decide) q)
    refine z_iload_n (pc := 122) (zk7 kX5_tellsHouse_4) rfl ?_
    exact z_zret (pc := 123) (zk8 kX5_tellsHouse_4) rfl (Nat.zero_le _) (Nat.zero_le _) (by decide) ⟨⟨_, Or.inr ⟨_, _, by rw [st_house, stN_n en_k_3], rfl, hM, ef_k_3⟩, e14_k_3⟩, hU, rfl⟩
set_option maxRecDepth 20000 in
theorem c_tellsH3 {D : zD} {B : Nat} {h : zH} {sz : Nat} {p : Nat} {σ τ ω : Ln} {ε : El} {mv : Nat → Int64} {kp tr : Option Nat} {N a n s : Nat} (hM : MoAt h p σ τ ω ε mv kp tr) (hN : τ 6 0 = nI N) (hN2 : N ≤ 250) (ha : ω 8 0 = nI a) (ha2 : a ≤ N) (hB : B ≤ p) (h9 : ω 9 0 = nI 1) (h10 : ω 10 0 = nI s) (hsa : s ≤ a) (hw : wrd (τ 5) s a 3 = true) (hn : σ 0 0 = nI n) (h12 : n ≤ 12) : zM D B xX5_tellsHouse [.ref p] h sz (mdQ h p sz N τ ω ε mv kp tr (st_house (τ 5) N σ 2 a)) := by
  have hU : Upd h h p 29 := Upd.rf
  refine zM.of (by decide) rfl (n := 3) ?_
  show Z D B xX5_tellsHouse 0 0 _ 0 [some (.ref p), none, none, none] [] h sz
  refine z_aload_n (pc := 0) (zk0 kX5_tellsHouse_0) rfl ?_
  refine z_ldcS (pc := 1) (zk1 kX5_tellsHouse_0) (tx := "wind") (i := 2) (by decide +kernel) ?_
  refine z_rdV (pc := 3) (zk2 kX5_tellsHouse_0) (st := []) lkX5_192 ivX5_isWord hM.1 rfl rfl (c_misW hM h9 h10 ha (by omega) (by decide)) rfl ⟨rfl, rfl⟩ rfl rfl ?_ rfl
  refine z_istore_n (pc := 6) (zk3 kX5_tellsHouse_0) rfl rfl ?_
  show Z D B xX5_tellsHouse _ _ _ 7 [some (.ref p), some (.int (oI (wrd (τ 5) s a 2))), none, none] _ _ _
  refine z_aload_n (pc := 7) (zk4 kX5_tellsHouse_0) rfl ?_
  refine z_ldcS (pc := 8) (zk5 kX5_tellsHouse_0) (tx := "code") (i := 4) (by decide +kernel) ?_
  refine z_rdV (pc := 10) (zk6 kX5_tellsHouse_0) (st := []) lkX5_192 ivX5_isWord hM.1 rfl rfl (c_misW hM h9 h10 ha (by omega) (by decide)) rfl ⟨rfl, rfl⟩ rfl rfl ?_ rfl
  refine z_istore_n (pc := 13) (zk7 kX5_tellsHouse_0) rfl rfl ?_
  show Z D B xX5_tellsHouse _ _ _ 14 [some (.ref p), some (.int (oI (wrd (τ 5) s a 2))), some (.int (oI (wrd (τ 5) s a 4))), none] _ _ _
  refine z_aload_n (pc := 14) (zk8 kX5_tellsHouse_0) rfl ?_
  refine z_iconst (pc := 15) (zk9 kX5_tellsHouse_0) (v := 0) (by decide) ?_
  refine z_aload_n (pc := 16) (zk10 kX5_tellsHouse_0) rfl ?_
  refine z_getf (pc := 17) (zk11 kX5_tellsHouse_0) flX5_37 hM.1 (v := .int (σ 0 0)) rfl ?_
  refine z_iconst (pc := 20) (zk12 kX5_tellsHouse_0) (v := 1) (by decide) ?_
  refine z_isub (pc := 21) (zk13 kX5_tellsHouse_0) ?_
  refine z_efV (pc := 22) (zk14 kX5_tellsHouse_0) (st := []) lkX5_188 ivX5_tells hM.1 rfl rfl (c_tells hM hN hN2 ha (by omega) (by omega)) rfl ⟨rfl, rfl⟩ rfl rfl (fun r_ h_2 z_ q_1 => ?_) rfl
  obtain ⟨q_, hU_4, ez_⟩ := q_1
  rw [ez_]
  clear ez_
  rcases q_ with ⟨v_k_3, e_k_3, w_k_3, en_k_3, er_, hR, hLK_k_3, et_k_3, e14_k_3⟩ | ⟨x_k_3, w_k_3, en_k_3, er_, hR, ef_k_3, e14_k_3⟩
  · rw [er_]
    clear er_
    replace hU := hU.tr hU_4 (by omega) (by omega)
    replace hM := hR; clear hR
    have ho_k_3 := numR_ok (by omega) en_k_3
    show Z D B xX5_tellsHouse _ _ _ 25 _ [.int 1] _ _
    refine z_if_eq (pc := 25) (zk15 kX5_tellsHouse_0) (tgt := 43) (by decide) (fun q => absurd q (by decide)) (fun _ => ?_)
    refine z_aload_n (pc := 28) (zk0 kX5_tellsHouse_1) rfl ?_
    refine z_iconst (pc := 29) (zk1 kX5_tellsHouse_1) (v := 1) (by decide) ?_
    refine z_iconst (pc := 30) (zk2 kX5_tellsHouse_1) (v := 0) (by decide) ?_
    refine z_bipush (pc := 31) (zk3 kX5_tellsHouse_1) (v := 9) (by decide) ?_
    refine z_efV (pc := 33) (zk4 kX5_tellsHouse_1) (st := []) lkX5_184 ivX5_number hM.1 rfl rfl (c_number (j := 1) hM hN hN2 hLK_k_3 (by omega) (by decide) (by omega)) rfl ⟨rfl, rfl⟩ rfl rfl (fun r_ h_6 z_ q_5 => ?_) rfl
    obtain ⟨q_, hU_8, ez_⟩ := q_5
    rw [ez_]
    clear ez_
    rcases q_ with ⟨v_k_7, e_k_7, w_k_7, en_k_7, er_, hR, hLK_k_7, et_k_7, e14_k_7⟩ | ⟨x_k_7, w_k_7, en_k_7, er_, hR, ef_k_7, e14_k_7⟩
    · rw [er_]
      clear er_
      replace hU := hU.tr hU_8 (by omega) (by omega)
      replace hM := hR; clear hR
      have ho_k_7 := numR_ok (by omega) en_k_7
      show Z D B xX5_tellsHouse _ _ _ 36 _ [.int 1] _ _
      refine z_if_eq (pc := 36) (zk5 kX5_tellsHouse_1) (tgt := 43) (by decide) (fun q => absurd q (by decide)) (fun _ => ?_)
      refine z_iconst (pc := 39) (zk6 kX5_tellsHouse_1) (v := 1) (by decide) ?_
      refine z_goto (pc := 40) (zk7 kX5_tellsHouse_1) (tgt := 44) (by decide) ?_
      refine z_istore_n (pc := 44) (zk9 kX5_tellsHouse_1) rfl rfl ?_
      show Z D B xX5_tellsHouse _ _ _ 45 [some (.ref p), some (.int (oI (wrd (τ 5) s a 2))), some (.int (oI (wrd (τ 5) s a 4))), some (.int 1)] _ _ _
      refine z_iload_n (pc := 45) (zk10 kX5_tellsHouse_1) rfl ?_
      refine z_if_eq (pc := 46) (zk11 kX5_tellsHouse_1) (tgt := 73) (by decide) (fun q => absurd q (by decide)) (fun _ => ?_)
      refine z_iload_n (pc := 49) (zk12 kX5_tellsHouse_1) rfl ?_
      refine z_oif_eq (pc := 50) (zk13 kX5_tellsHouse_1) (tgt := 73) (by decide) (fun _ => ?_) (fun q => by rw [(wrd_ne hw (by decide))] at q; cases q)
      refine z_iload_n (pc := 73) (zk10 kX5_tellsHouse_2) rfl ?_
      refine z_if_eq (pc := 74) (zk11 kX5_tellsHouse_2) (tgt := 101) (by decide) (fun q => absurd q (by decide)) (fun _ => ?_)
      refine z_iload_n (pc := 77) (zk12 kX5_tellsHouse_2) rfl ?_
      refine z_oif_eq (pc := 78) (zk13 kX5_tellsHouse_2) (tgt := 101) (by decide) (fun _ => ?_) (fun q => by rw [(wrd_ne hw (by decide))] at q; cases q)
      refine z_iload_n (pc := 101) (zk10 kX5_tellsHouse_3) rfl ?_
      refine z_if_eq (pc := 102) (zk11 kX5_tellsHouse_3) (tgt := 122) (by decide) (fun q => absurd q (by decide)) (fun _ => ?_)
      refine z_aload_n (pc := 105) (zk12 kX5_tellsHouse_3) rfl ?_
      refine z_getf (pc := 106) (zk13 kX5_tellsHouse_3) flX5_44 hM.1 gMo_11 ?_
      refine z_aload_n (pc := 109) (zk14 kX5_tellsHouse_3) rfl ?_
      refine z_getf (pc := 110) (zk15 kX5_tellsHouse_3) flX5_68 hM.1 gMo_30 ?_
      refine z_iconst (pc := 113) (zk0 kX5_tellsHouse_4) (v := 0) (by decide) ?_
      refine z_ialdN (pc := 114) (zk1 kX5_tellsHouse_4) (f := w_k_7 13) (j := 0) hM.2.2.2.2.2.2.2.2.2.2.2.2.2.2.2.2.2.2.1 (by decide) rfl ?_
      refine z_top (congrArg Value.int (show w_k_7 13 0 = v_k_3 from by simp [et_k_7, et_k_3, upd])) ?_
      refine z_aload_n (pc := 115) (zk2 kX5_tellsHouse_4) rfl ?_
      refine z_getf (pc := 116) (zk3 kX5_tellsHouse_4) flX5_68 hM.1 gMo_30 ?_
      refine z_iconst (pc := 119) (zk4 kX5_tellsHouse_4) (v := 1) (by decide) ?_
      refine z_ialdN (pc := 120) (zk5 kX5_tellsHouse_4) (f := w_k_7 13) (j := 1) hM.2.2.2.2.2.2.2.2.2.2.2.2.2.2.2.2.2.2.1 (by decide) rfl ?_
      refine z_top (congrArg Value.int (show w_k_7 13 1 = v_k_7 from by simp [et_k_7, et_k_3, upd])) ?_
      obtain ⟨kv_k_3, hkv_k_3, rfl⟩ := okR_nI (n := n) (by omega) (by rw [← hn]; exact ho_k_3.1)
      refine z_Mo_s18 (pc := 121) (zk6 kX5_tellsHouse_4) (j := kv_k_3) hM (by omega) (show kv_k_3 < 12 by omega) (fun h_9 hR hU_10 => ?_)
      replace hU := hU.tr hU_10 (by omega) (by omega)
      replace hM := hR; clear hR
      refine z_iload_n (pc := 122) (zk7 kX5_tellsHouse_4) rfl ?_
      exact z_zret (pc := 123) (zk8 kX5_tellsHouse_4) rfl (Nat.zero_le _) (Nat.zero_le _) (by decide) ⟨⟨_, Or.inl ⟨_, _, by rw [st_house, stN_y en_k_3, stN_y en_k_7]; simp only [ix_nI (show kv_k_3 ≤ 1000 by omega)], rfl, hM, hLK_k_7⟩, e14_k_7.trans (e14_k_3)⟩, hU, rfl⟩
    · rw [er_]
      clear er_
      replace hU := hU.tr hU_8 (by omega) (by omega)
      replace hM := hR; clear hR
      show Z D B xX5_tellsHouse _ _ _ 36 _ [.int 0] _ _
      refine z_if_eq (pc := 36) (zk5 kX5_tellsHouse_1) (tgt := 43) (by decide) (fun _ => ?_) (fun q => absurd (by decide) q)
      refine z_iconst (pc := 43) (zk8 kX5_tellsHouse_1) (v := 0) (by decide) ?_
      refine z_istore_n (pc := 44) (zk9 kX5_tellsHouse_1) rfl rfl ?_
      show Z D B xX5_tellsHouse _ _ _ 45 [some (.ref p), some (.int (oI (wrd (τ 5) s a 2))), some (.int (oI (wrd (τ 5) s a 4))), some (.int 0)] _ _ _
      refine z_iload_n (pc := 45) (zk10 kX5_tellsHouse_1) rfl ?_
      refine z_if_eq (pc := 46) (zk11 kX5_tellsHouse_1) (tgt := 73) (by decide) (fun _ => ?_) (fun q => absurd (by decide) q)
      refine z_iload_n (pc := 73) (zk10 kX5_tellsHouse_2) rfl ?_
      refine z_if_eq (pc := 74) (zk11 kX5_tellsHouse_2) (tgt := 101) (by decide) (fun _ => ?_) (fun q => absurd (by decide) q)
      refine z_iload_n (pc := 101) (zk10 kX5_tellsHouse_3) rfl ?_
      refine z_if_eq (pc := 102) (zk11 kX5_tellsHouse_3) (tgt := 122) (by decide) (fun _ => ?_) (fun q => absurd (by decide) q)
      refine z_iload_n (pc := 122) (zk7 kX5_tellsHouse_4) rfl ?_
      exact z_zret (pc := 123) (zk8 kX5_tellsHouse_4) rfl (Nat.zero_le _) (Nat.zero_le _) (by decide) ⟨⟨_, Or.inr ⟨_, _, by rw [st_house, stN_y en_k_3, stN_n en_k_7], rfl, hM, ef_k_7⟩, e14_k_7.trans (e14_k_3)⟩, hU, rfl⟩
  · rw [er_]
    clear er_
    replace hU := hU.tr hU_4 (by omega) (by omega)
    replace hM := hR; clear hR
    show Z D B xX5_tellsHouse _ _ _ 25 _ [.int 0] _ _
    refine z_if_eq (pc := 25) (zk15 kX5_tellsHouse_0) (tgt := 43) (by decide) (fun _ => ?_) (fun q => absurd (by decide) q)
    refine z_iconst (pc := 43) (zk8 kX5_tellsHouse_1) (v := 0) (by decide) ?_
    refine z_istore_n (pc := 44) (zk9 kX5_tellsHouse_1) rfl rfl ?_
    show Z D B xX5_tellsHouse _ _ _ 45 [some (.ref p), some (.int (oI (wrd (τ 5) s a 2))), some (.int (oI (wrd (τ 5) s a 4))), some (.int 0)] _ _ _
    refine z_iload_n (pc := 45) (zk10 kX5_tellsHouse_1) rfl ?_
    refine z_if_eq (pc := 46) (zk11 kX5_tellsHouse_1) (tgt := 73) (by decide) (fun _ => ?_) (fun q => absurd (by decide) q)
    refine z_iload_n (pc := 73) (zk10 kX5_tellsHouse_2) rfl ?_
    refine z_if_eq (pc := 74) (zk11 kX5_tellsHouse_2) (tgt := 101) (by decide) (fun _ => ?_) (fun q => absurd (by decide) q)
    refine z_iload_n (pc := 101) (zk10 kX5_tellsHouse_3) rfl ?_
    refine z_if_eq (pc := 102) (zk11 kX5_tellsHouse_3) (tgt := 122) (by decide) (fun _ => ?_) (fun q => absurd (by decide) q)
    refine z_iload_n (pc := 122) (zk7 kX5_tellsHouse_4) rfl ?_
    exact z_zret (pc := 123) (zk8 kX5_tellsHouse_4) rfl (Nat.zero_le _) (Nat.zero_le _) (by decide) ⟨⟨_, Or.inr ⟨_, _, by rw [st_house, stN_n en_k_3], rfl, hM, ef_k_3⟩, e14_k_3⟩, hU, rfl⟩
set_option maxRecDepth 20000 in
theorem c_tellsH4 {D : zD} {B : Nat} {h : zH} {sz : Nat} {p : Nat} {σ τ ω : Ln} {ε : El} {mv : Nat → Int64} {kp tr : Option Nat} {N a n s : Nat} (hM : MoAt h p σ τ ω ε mv kp tr) (hN : τ 6 0 = nI N) (hN2 : N ≤ 250) (ha : ω 8 0 = nI a) (ha2 : a ≤ N) (hB : B ≤ p) (h9 : ω 9 0 = nI 1) (h10 : ω 10 0 = nI s) (hsa : s ≤ a) (hw : wrd (τ 5) s a 4 = true) (hn : σ 0 0 = nI n) (h12 : n ≤ 12) : zM D B xX5_tellsHouse [.ref p] h sz (mdQ h p sz N τ ω ε mv kp tr (st_code (τ 5) N σ a)) := by
  have hU : Upd h h p 29 := Upd.rf
  refine zM.of (by decide) rfl (n := 3) ?_
  show Z D B xX5_tellsHouse 0 0 _ 0 [some (.ref p), none, none, none] [] h sz
  refine z_aload_n (pc := 0) (zk0 kX5_tellsHouse_0) rfl ?_
  refine z_ldcS (pc := 1) (zk1 kX5_tellsHouse_0) (tx := "wind") (i := 2) (by decide +kernel) ?_
  refine z_rdV (pc := 3) (zk2 kX5_tellsHouse_0) (st := []) lkX5_192 ivX5_isWord hM.1 rfl rfl (c_misW hM h9 h10 ha (by omega) (by decide)) rfl ⟨rfl, rfl⟩ rfl rfl ?_ rfl
  refine z_istore_n (pc := 6) (zk3 kX5_tellsHouse_0) rfl rfl ?_
  show Z D B xX5_tellsHouse _ _ _ 7 [some (.ref p), some (.int (oI (wrd (τ 5) s a 2))), none, none] _ _ _
  refine z_aload_n (pc := 7) (zk4 kX5_tellsHouse_0) rfl ?_
  refine z_ldcS (pc := 8) (zk5 kX5_tellsHouse_0) (tx := "code") (i := 4) (by decide +kernel) ?_
  refine z_rdV (pc := 10) (zk6 kX5_tellsHouse_0) (st := []) lkX5_192 ivX5_isWord hM.1 rfl rfl (c_misW hM h9 h10 ha (by omega) (by decide)) rfl ⟨rfl, rfl⟩ rfl rfl ?_ rfl
  refine z_istore_n (pc := 13) (zk7 kX5_tellsHouse_0) rfl rfl ?_
  show Z D B xX5_tellsHouse _ _ _ 14 [some (.ref p), some (.int (oI (wrd (τ 5) s a 2))), some (.int (oI (wrd (τ 5) s a 4))), none] _ _ _
  refine z_aload_n (pc := 14) (zk8 kX5_tellsHouse_0) rfl ?_
  refine z_iconst (pc := 15) (zk9 kX5_tellsHouse_0) (v := 0) (by decide) ?_
  refine z_aload_n (pc := 16) (zk10 kX5_tellsHouse_0) rfl ?_
  refine z_getf (pc := 17) (zk11 kX5_tellsHouse_0) flX5_37 hM.1 (v := .int (σ 0 0)) rfl ?_
  refine z_iconst (pc := 20) (zk12 kX5_tellsHouse_0) (v := 1) (by decide) ?_
  refine z_isub (pc := 21) (zk13 kX5_tellsHouse_0) ?_
  refine z_efV (pc := 22) (zk14 kX5_tellsHouse_0) (st := []) lkX5_188 ivX5_tells hM.1 rfl rfl (c_tells hM hN hN2 ha (by omega) (by omega)) rfl ⟨rfl, rfl⟩ rfl rfl (fun r_ h_2 z_ q_1 => ?_) rfl
  obtain ⟨q_, hU_4, ez_⟩ := q_1
  rw [ez_]
  clear ez_
  rcases q_ with ⟨v_k_3, e_k_3, w_k_3, en_k_3, er_, hR, hLK_k_3, et_k_3, e14_k_3⟩ | ⟨x_k_3, w_k_3, en_k_3, er_, hR, ef_k_3, e14_k_3⟩
  · rw [er_]
    clear er_
    replace hU := hU.tr hU_4 (by omega) (by omega)
    replace hM := hR; clear hR
    have ho_k_3 := numR_ok (by omega) en_k_3
    show Z D B xX5_tellsHouse _ _ _ 25 _ [.int 1] _ _
    refine z_if_eq (pc := 25) (zk15 kX5_tellsHouse_0) (tgt := 43) (by decide) (fun q => absurd q (by decide)) (fun _ => ?_)
    refine z_aload_n (pc := 28) (zk0 kX5_tellsHouse_1) rfl ?_
    refine z_iconst (pc := 29) (zk1 kX5_tellsHouse_1) (v := 1) (by decide) ?_
    refine z_iconst (pc := 30) (zk2 kX5_tellsHouse_1) (v := 0) (by decide) ?_
    refine z_bipush (pc := 31) (zk3 kX5_tellsHouse_1) (v := 9) (by decide) ?_
    refine z_efV (pc := 33) (zk4 kX5_tellsHouse_1) (st := []) lkX5_184 ivX5_number hM.1 rfl rfl (c_number (j := 1) hM hN hN2 hLK_k_3 (by omega) (by decide) (by omega)) rfl ⟨rfl, rfl⟩ rfl rfl (fun r_ h_6 z_ q_5 => ?_) rfl
    obtain ⟨q_, hU_8, ez_⟩ := q_5
    rw [ez_]
    clear ez_
    rcases q_ with ⟨v_k_7, e_k_7, w_k_7, en_k_7, er_, hR, hLK_k_7, et_k_7, e14_k_7⟩ | ⟨x_k_7, w_k_7, en_k_7, er_, hR, ef_k_7, e14_k_7⟩
    · rw [er_]
      clear er_
      replace hU := hU.tr hU_8 (by omega) (by omega)
      replace hM := hR; clear hR
      have ho_k_7 := numR_ok (by omega) en_k_7
      show Z D B xX5_tellsHouse _ _ _ 36 _ [.int 1] _ _
      refine z_if_eq (pc := 36) (zk5 kX5_tellsHouse_1) (tgt := 43) (by decide) (fun q => absurd q (by decide)) (fun _ => ?_)
      refine z_iconst (pc := 39) (zk6 kX5_tellsHouse_1) (v := 1) (by decide) ?_
      refine z_goto (pc := 40) (zk7 kX5_tellsHouse_1) (tgt := 44) (by decide) ?_
      refine z_istore_n (pc := 44) (zk9 kX5_tellsHouse_1) rfl rfl ?_
      show Z D B xX5_tellsHouse _ _ _ 45 [some (.ref p), some (.int (oI (wrd (τ 5) s a 2))), some (.int (oI (wrd (τ 5) s a 4))), some (.int 1)] _ _ _
      refine z_iload_n (pc := 45) (zk10 kX5_tellsHouse_1) rfl ?_
      refine z_if_eq (pc := 46) (zk11 kX5_tellsHouse_1) (tgt := 73) (by decide) (fun q => absurd q (by decide)) (fun _ => ?_)
      refine z_iload_n (pc := 49) (zk12 kX5_tellsHouse_1) rfl ?_
      refine z_oif_eq (pc := 50) (zk13 kX5_tellsHouse_1) (tgt := 73) (by decide) (fun q => by rw [hw] at q; cases q) (fun _ => ?_)
      refine z_aload_n (pc := 53) (zk14 kX5_tellsHouse_1) rfl ?_
      refine z_aload_n (pc := 54) (zk15 kX5_tellsHouse_1) rfl ?_
      refine z_getf (pc := 55) (zk0 kX5_tellsHouse_2) flX5_68 hM.1 gMo_30 ?_
      refine z_iconst (pc := 58) (zk1 kX5_tellsHouse_2) (v := 0) (by decide) ?_
      refine z_ialdN (pc := 59) (zk2 kX5_tellsHouse_2) (f := w_k_7 13) (j := 0) hM.2.2.2.2.2.2.2.2.2.2.2.2.2.2.2.2.2.2.1 (by decide) rfl ?_
      refine z_top (congrArg Value.int (show w_k_7 13 0 = v_k_3 from by simp [et_k_7, et_k_3, upd])) ?_
      refine z_aload_n (pc := 60) (zk3 kX5_tellsHouse_2) rfl ?_
      refine z_getf (pc := 61) (zk4 kX5_tellsHouse_2) flX5_68 hM.1 gMo_30 ?_
      refine z_iconst (pc := 64) (zk5 kX5_tellsHouse_2) (v := 1) (by decide) ?_
      refine z_ialdN (pc := 65) (zk6 kX5_tellsHouse_2) (f := w_k_7 13) (j := 1) hM.2.2.2.2.2.2.2.2.2.2.2.2.2.2.2.2.2.2.1 (by decide) rfl ?_
      refine z_top (congrArg Value.int (show w_k_7 13 1 = v_k_7 from by simp [et_k_7, et_k_3, upd])) ?_
      refine z_iconst (pc := 66) (zk7 kX5_tellsHouse_2) (v := 1) (by decide) ?_
      refine z_top (congrArg Value.int oI_t.symm) ?_
      obtain ⟨kv_k_7, hkv_k_7, rfl⟩ := okR_c (c := 9) (by decide) ho_k_7.1
      obtain ⟨kv_k_3, hkv_k_3, rfl⟩ := okR_nI (n := n) (by omega) (by rw [← hn]; exact ho_k_3.1)
      refine z_efV (pc := 67) (zk8 kX5_tellsHouse_2) (st := []) lkX5_131 ivX5_setCode hM.1 rfl rfl (c_setCode hM hB (show kv_k_3 < 12 by omega)) rfl ⟨rfl, rfl⟩ rfl rfl (fun r_ h_10 z_ q_9 => ?_) rfl
      obtain ⟨er_, hR, hU_11, ez_⟩ := q_9
      rw [er_, ez_]
      clear er_ ez_
      replace hU := hU.tr hU_11 (by omega) (by omega)
      replace hM := hR; clear hR
      show Z D B xX5_tellsHouse _ _ _ 70 _ [] _ _
      rw [show setC σ kv_k_3 (nI kv_k_7) true = learnF σ kv_k_3 (nI kv_k_7) from rfl] at hM
      refine z_goto (pc := 70) (zk9 kX5_tellsHouse_2) (tgt := 122) (by decide) ?_
      refine z_iload_n (pc := 122) (zk7 kX5_tellsHouse_4) rfl ?_
      exact z_zret (pc := 123) (zk8 kX5_tellsHouse_4) rfl (Nat.zero_le _) (Nat.zero_le _) (by decide) ⟨⟨_, Or.inl ⟨_, _, by rw [st_code, stN_y en_k_3, stN_y en_k_7]; simp only [ix_nI (show kv_k_7 ≤ 1000 by omega), ix_nI (show kv_k_3 ≤ 1000 by omega)], rfl, hM, hLK_k_7⟩, e14_k_7.trans (e14_k_3)⟩, hU, rfl⟩
    · rw [er_]
      clear er_
      replace hU := hU.tr hU_8 (by omega) (by omega)
      replace hM := hR; clear hR
      show Z D B xX5_tellsHouse _ _ _ 36 _ [.int 0] _ _
      refine z_if_eq (pc := 36) (zk5 kX5_tellsHouse_1) (tgt := 43) (by decide) (fun _ => ?_) (fun q => absurd (by decide) q)
      refine z_iconst (pc := 43) (zk8 kX5_tellsHouse_1) (v := 0) (by decide) ?_
      refine z_istore_n (pc := 44) (zk9 kX5_tellsHouse_1) rfl rfl ?_
      show Z D B xX5_tellsHouse _ _ _ 45 [some (.ref p), some (.int (oI (wrd (τ 5) s a 2))), some (.int (oI (wrd (τ 5) s a 4))), some (.int 0)] _ _ _
      refine z_iload_n (pc := 45) (zk10 kX5_tellsHouse_1) rfl ?_
      refine z_if_eq (pc := 46) (zk11 kX5_tellsHouse_1) (tgt := 73) (by decide) (fun _ => ?_) (fun q => absurd (by decide) q)
      refine z_iload_n (pc := 73) (zk10 kX5_tellsHouse_2) rfl ?_
      refine z_if_eq (pc := 74) (zk11 kX5_tellsHouse_2) (tgt := 101) (by decide) (fun _ => ?_) (fun q => absurd (by decide) q)
      refine z_iload_n (pc := 101) (zk10 kX5_tellsHouse_3) rfl ?_
      refine z_if_eq (pc := 102) (zk11 kX5_tellsHouse_3) (tgt := 122) (by decide) (fun _ => ?_) (fun q => absurd (by decide) q)
      refine z_iload_n (pc := 122) (zk7 kX5_tellsHouse_4) rfl ?_
      exact z_zret (pc := 123) (zk8 kX5_tellsHouse_4) rfl (Nat.zero_le _) (Nat.zero_le _) (by decide) ⟨⟨_, Or.inr ⟨_, _, by rw [st_code, stN_y en_k_3, stN_n en_k_7], rfl, hM, ef_k_7⟩, e14_k_7.trans (e14_k_3)⟩, hU, rfl⟩
  · rw [er_]
    clear er_
    replace hU := hU.tr hU_4 (by omega) (by omega)
    replace hM := hR; clear hR
    show Z D B xX5_tellsHouse _ _ _ 25 _ [.int 0] _ _
    refine z_if_eq (pc := 25) (zk15 kX5_tellsHouse_0) (tgt := 43) (by decide) (fun _ => ?_) (fun q => absurd (by decide) q)
    refine z_iconst (pc := 43) (zk8 kX5_tellsHouse_1) (v := 0) (by decide) ?_
    refine z_istore_n (pc := 44) (zk9 kX5_tellsHouse_1) rfl rfl ?_
    show Z D B xX5_tellsHouse _ _ _ 45 [some (.ref p), some (.int (oI (wrd (τ 5) s a 2))), some (.int (oI (wrd (τ 5) s a 4))), some (.int 0)] _ _ _
    refine z_iload_n (pc := 45) (zk10 kX5_tellsHouse_1) rfl ?_
    refine z_if_eq (pc := 46) (zk11 kX5_tellsHouse_1) (tgt := 73) (by decide) (fun _ => ?_) (fun q => absurd (by decide) q)
    refine z_iload_n (pc := 73) (zk10 kX5_tellsHouse_2) rfl ?_
    refine z_if_eq (pc := 74) (zk11 kX5_tellsHouse_2) (tgt := 101) (by decide) (fun _ => ?_) (fun q => absurd (by decide) q)
    refine z_iload_n (pc := 101) (zk10 kX5_tellsHouse_3) rfl ?_
    refine z_if_eq (pc := 102) (zk11 kX5_tellsHouse_3) (tgt := 122) (by decide) (fun _ => ?_) (fun q => absurd (by decide) q)
    refine z_iload_n (pc := 122) (zk7 kX5_tellsHouse_4) rfl ?_
    exact z_zret (pc := 123) (zk8 kX5_tellsHouse_4) rfl (Nat.zero_le _) (Nat.zero_le _) (by decide) ⟨⟨_, Or.inr ⟨_, _, by rw [st_code, stN_n en_k_3], rfl, hM, ef_k_3⟩, e14_k_3⟩, hU, rfl⟩
