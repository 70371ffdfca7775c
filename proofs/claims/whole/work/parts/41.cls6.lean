theorem zOut0_5 {x : Int32} (h0 : ¬ x = 0) (h1 : ¬ x = 1) (h2 : ¬ x = 2) (h3 : ¬ x = 3) (h4 : ¬ x = 4) (h5 : ¬ x = 5) : x.toInt < 0 ∨ 5 < x.toInt := by
  have := toInt_ne (n := 0) (by omega) h0
  have := toInt_ne (n := 1) (by omega) h1
  have := toInt_ne (n := 2) (by omega) h2
  have := toInt_ne (n := 3) (by omega) h3
  have := toInt_ne (n := 4) (by omega) h4
  have := toInt_ne (n := 5) (by omega) h5
  omega
theorem okR_out {x : Int32} {c : Nat} (hc : c ≤ 900) (h : x.toInt < 0 ∨ (c : Int) < x.toInt) : okR 0 (nI c) x = false := by
  cases q : okR 0 (nI c) x with
  | false => rfl
  | true =>
    obtain ⟨k, hk, e⟩ := okR_c hc q
    rw [e, nI_toInt (by omega)] at h
    omega
theorem bx_xor (a b : Nat) : nI a ^^^ nI b = nI (a ^^^ b) := by
  apply Int32.toBitVec_inj.mp
  show BitVec.ofNat 32 a ^^^ BitVec.ofNat 32 b = BitVec.ofNat 32 (a ^^^ b)
  exact (BitVec.ofNat_xor).symm
theorem and_not (a b : Int32) : a &&& (b ^^^ -1) = a ^^^ (a &&& b) := by
  apply Int32.toBitVec_inj.mp
  rw [Int32.toBitVec_and, Int32.toBitVec_xor, Int32.toBitVec_xor, Int32.toBitVec_and]
  apply BitVec.eq_of_getLsbD_eq
  intro i hi
  have e : (-1 : Int32).toBitVec = BitVec.allOnes 32 := by decide
  rw [e]
  simp only [BitVec.getLsbD_and, BitVec.getLsbD_xor, BitVec.getLsbD_allOnes, hi, decide_true]
  cases a.toBitVec.getLsbD i <;> cases b.toBitVec.getLsbD i <;> rfl
theorem bits_not (p q : Nat → Bool) {n : Nat} (hn : n ≤ 20) : bitsI p n &&& (bitsI q n ^^^ -1) = bitsI (fun j => p j && !q j) n := by
  rw [and_not, bitsI_eq p n hn, bitsI_eq q n hn, bitsI_eq _ n hn, bx_and, bx_xor]
  refine congrArg nI ?_
  apply Nat.eq_of_testBit_eq
  intro j
  rw [Nat.testBit_xor, Nat.testBit_and, bitsN_test, bitsN_test, bitsN_test]
  cases decide (j < n) <;> cases p j <;> cases q j <;> rfl
theorem bits_0 (p : Nat → Bool) {n : Nat} (hn : n ≤ 20) : bitsI p n = 0 ↔ ∀ j, j < n → p j = false := by
  constructor
  · intro h j hj
    cases q : p j with
    | false => rfl
    | true =>
      have := (bitsI_test (p := p) hn hj).mpr q
      rw [h] at this
      have z : ∀ j, j < 20 → ((0 : Int32) >>> (nI j &&& 31)) &&& 1 = 0 := by decide +kernel
      rw [z j (by omega)] at this
      exact absurd this (by decide)
  · intro h
    rw [bitsI_cong (q := fun _ => false) (fun j hj => h j hj)]
    have : ∀ n, bitsI (fun _ => false) n = 0 := fun n => by
      induction n with
      | zero => rfl
      | succ n ih => rw [bitsI_f (p := fun _ => false) rfl, ih]
    exact this n
theorem know_read {σ : Ln} {l k : Nat} (h0 : 0 < σ 13 l) (h : knowB σ l k = true) : readB σ l k = true := by
  cases hr : readB σ l k with
  | true => rfl
  | false =>
    have hh : heardF σ l k = 0 := by rw [heardF, heardW, hr]; rfl
    rw [knowB, hh] at h
    exact absurd (of_decide_eq_true h) (Int32.not_le.mpr h0)
theorem wise_eq {σ : Ln} {m k : Nat} (hm : σ 9 0 = nI m) (h8 : m ≤ 8) (hlen : ∀ l, l < m → ∃ g, 1 ≤ g ∧ g ≤ 40 ∧ σ 13 l = nI g) : (readsF σ k &&& (knownF σ k ^^^ -1) = 0) ↔ knownF σ k = readsF σ k := by
  rw [readsF, knownF, lsN_eq hm h8, bits_not _ _ (by omega), bits_0 _ (by omega)]
  constructor
  · intro h
    refine bitsI_cong (fun j hj => ?_)
    have := h j hj
    cases q : knowB σ j k with
    | true => exact (know_read (len_0 hlen hj) q).symm
    | false =>
      rw [q] at this
      cases r : readB σ j k with
      | true => rw [r] at this; exact absurd this (by decide)
      | false => rfl
  · intro h j hj
    cases q : readB σ j k with
    | false => rfl
    | true =>
      have t := (bitsI_test (p := fun l => readB σ l k) (n := m) (by omega) hj).mpr q
      rw [← h] at t
      rw [(bitsI_test (p := fun l => knowB σ l k) (n := m) (by omega) hj).mp t]; rfl
theorem lack_0 : ∀ g, g < 41 → ∀ w, w < 41 → (if 0 < (nI g + 1) / 2 - nI w then (nI g + 1) / 2 - nI w else 0) = (if nI g - 2 * nI w ≤ 0 then 0 else (nI g - 2 * nI w + 1) / 2) := by decide +kernel
theorem lack_eq {σ : Ln} {m l k : Nat} (hlen : ∀ l, l < m → ∃ g, 1 ≤ g ∧ g ≤ 40 ∧ σ 13 l = nI g) (hl : l < m) : (if 0 < (σ 13 l + 1) / 2 - heardF σ l k then (σ 13 l + 1) / 2 - heardF σ l k else 0) = lackF σ l k := by
  obtain ⟨g, h1, h2, e⟩ := hlen l hl
  obtain ⟨w, hw, e2⟩ := nI_rng (x := heardF σ l k) (g := g) (by omega) (heard_nn (Int32.le_of_lt (len_0 hlen hl))) (by rw [← e]; exact heard_le (Int32.le_of_lt (len_0 hlen hl)))
  rw [lackF, e, e2]
  exact lack_0 g (by omega) w (by omega)
set_option maxRecDepth 20000 in
theorem cX_letterOf {D : zD} {B : Nat} {h : zH} {sz : Nat} {p : Nat} {σ κ τ : Ln} {ε : El} {ik : Int32} {x : Int32} {y : Int32} {n m : Nat} (hX : XoAt h p ik (rfo τ)) (hL : LnAt h (p + 1) σ) (hK : XR h p κ τ ε) (hB : B ≤ p) (hn : σ 0 0 = nI n) (h12 : n ≤ 12) (hm : σ 9 0 = nI m) (h8 : m ≤ 8) (hbk : σ 6 0 = 0 ∨ σ 6 0 = 1) (htn : ∀ l, l < m → ∃ t, t < n ∧ σ 12 l = nI t) (hlen : ∀ l, l < m → ∃ g, 1 ≤ g ∧ g ≤ 40 ∧ σ 13 l = nI g) (h2 : 2 ≤ n) (hS : SW τ m) : zM D B xX4_letterOf [.ref p, .int x, .int y] h sz (xQ h p sz ik κ (sp_letterOf σ τ ε x y)) := by
  have hU : Upd h h p 51 := Upd.rf
  refine zM.of (by decide) rfl (n := 0) ?_
  show Z D B xX4_letterOf 0 0 _ 0 [some (.ref p), some (.int x), some (.int y)] [] h sz
  refine z_aload_n (pc := 0) (zk0 kX4_letterOf_0) rfl ?_
  refine z_iload_n (pc := 1) (zk1 kX4_letterOf_0) rfl ?_
  refine z_rdV (pc := 2) (zk2 kX4_letterOf_0) (st := []) lkX4_99 ivX4_noLetter hX.1 rfl rfl (c_noLetter hX hL) rfl ⟨rfl, rfl⟩ rfl rfl ?_ rfl
  refine z_oif_eq (pc := 5) (zk3 kX4_letterOf_0) (tgt := 15) (by decide) (fun c_1 => ?_) (fun c_1 => ?_)
  · have c_2 : okR 0 (σ 9 0 - 1) x = true := by simpa using c_1
    refine z_iload_n (pc := 15) (zk8 kX4_letterOf_0) rfl ?_
    by_cases c_3 : y = 0
    · refine z_tableIn (pc := 16) (zk9 kX4_letterOf_0) (off := 32) (tgt := 48) (by rw [c_3]; decide) (by rw [c_3]; decide) (by rw [c_3]; rfl) (by decide) ?_
      subst c_3
      refine z_aload_n (pc := 48) (zk10 kX4_letterOf_0) rfl ?_
      refine z_getf (pc := 49) (zk11 kX4_letterOf_0) flX4_10 hX.1 gXo_0 ?_
      refine z_getf (pc := 52) (zk12 kX4_letterOf_0) flX4_116 hL.1 gLn_10 ?_
      refine z_iload_n (pc := 55) (zk13 kX4_letterOf_0) rfl ?_
      obtain ⟨kx, hkx, rfl⟩ := okR_nI (n := m) (by omega) (by rw [← hm]; exact c_2)
      refine z_ialdN (pc := 56) (zk14 kX4_letterOf_0) (f := σ 10) (j := kx) hL.2.2.2.2.2.1 (show kx < 8 by omega) rfl ?_
      exact z_iret (pc := 57) (zk15 kX4_letterOf_0) rfl (Nat.zero_le _) (Nat.zero_le _) (by
                rw [show sp_letterOf σ τ ε (nI kx) 0 = (σ 10 kx, σ, τ, ε) from by simp [sp_letterOf, sBad, okS, okH, okL, okT, okB, sRd, up2_id, up2_id2, oI, sOther, sNone, sFull, c_1, c_2, ix_nI (show kx ≤ 1000 by omega), show okR 0 3 0 = true from by decide]]
                exact ⟨rfl, hX, hL, hK, hU, rfl⟩)
    by_cases c_4 : y = 1
    · refine z_tableIn (pc := 16) (zk9 kX4_letterOf_0) (off := 42) (tgt := 58) (by rw [c_4]; decide) (by rw [c_4]; decide) (by rw [c_4]; rfl) (by decide) ?_
      subst c_4
      refine z_aload_n (pc := 58) (zk0 kX4_letterOf_1) rfl ?_
      refine z_getf (pc := 59) (zk1 kX4_letterOf_1) flX4_10 hX.1 gXo_0 ?_
      refine z_getf (pc := 62) (zk2 kX4_letterOf_1) flX4_122 hL.1 gLn_11 ?_
      refine z_iload_n (pc := 65) (zk3 kX4_letterOf_1) rfl ?_
      obtain ⟨kx, hkx, rfl⟩ := okR_nI (n := m) (by omega) (by rw [← hm]; exact c_2)
      refine z_ialdN (pc := 66) (zk4 kX4_letterOf_1) (f := σ 11) (j := kx) hL.2.2.2.2.2.2.1 (show kx < 8 by omega) rfl ?_
      exact z_iret (pc := 67) (zk5 kX4_letterOf_1) rfl (Nat.zero_le _) (Nat.zero_le _) (by
                rw [show sp_letterOf σ τ ε (nI kx) 1 = (σ 11 kx, σ, τ, ε) from by simp [sp_letterOf, sBad, okS, okH, okL, okT, okB, sRd, up2_id, up2_id2, oI, sOther, sNone, sFull, c_1, c_2, c_3, ix_nI (show kx ≤ 1000 by omega), show okR 0 3 1 = true from by decide]]
                exact ⟨rfl, hX, hL, hK, hU, rfl⟩)
    by_cases c_5 : y = 2
    · refine z_tableIn (pc := 16) (zk9 kX4_letterOf_0) (off := 52) (tgt := 68) (by rw [c_5]; decide) (by rw [c_5]; decide) (by rw [c_5]; rfl) (by decide) ?_
      subst c_5
      refine z_aload_n (pc := 68) (zk6 kX4_letterOf_1) rfl ?_
      refine z_getf (pc := 69) (zk7 kX4_letterOf_1) flX4_10 hX.1 gXo_0 ?_
      refine z_getf (pc := 72) (zk8 kX4_letterOf_1) flX4_142 hL.1 gLn_12 ?_
      refine z_iload_n (pc := 75) (zk9 kX4_letterOf_1) rfl ?_
      obtain ⟨kx, hkx, rfl⟩ := okR_nI (n := m) (by omega) (by rw [← hm]; exact c_2)
      refine z_ialdN (pc := 76) (zk10 kX4_letterOf_1) (f := σ 12) (j := kx) hL.2.2.2.2.2.2.2.1 (show kx < 8 by omega) rfl ?_
      exact z_iret (pc := 77) (zk11 kX4_letterOf_1) rfl (Nat.zero_le _) (Nat.zero_le _) (by
                rw [show sp_letterOf σ τ ε (nI kx) 2 = (σ 12 kx, σ, τ, ε) from by simp [sp_letterOf, sBad, okS, okH, okL, okT, okB, sRd, up2_id, up2_id2, oI, sOther, sNone, sFull, c_1, c_2, c_3, c_4, ix_nI (show kx ≤ 1000 by omega), show okR 0 3 2 = true from by decide]]
                exact ⟨rfl, hX, hL, hK, hU, rfl⟩)
    by_cases c_6 : y = 3
    · refine z_tableIn (pc := 16) (zk9 kX4_letterOf_0) (off := 62) (tgt := 78) (by rw [c_6]; decide) (by rw [c_6]; decide) (by rw [c_6]; rfl) (by decide) ?_
      subst c_6
      refine z_aload_n (pc := 78) (zk12 kX4_letterOf_1) rfl ?_
      refine z_getf (pc := 79) (zk13 kX4_letterOf_1) flX4_10 hX.1 gXo_0 ?_
      refine z_getf (pc := 82) (zk14 kX4_letterOf_1) flX4_145 hL.1 gLn_13 ?_
      refine z_iload_n (pc := 85) (zk15 kX4_letterOf_1) rfl ?_
      obtain ⟨kx, hkx, rfl⟩ := okR_nI (n := m) (by omega) (by rw [← hm]; exact c_2)
      refine z_ialdN (pc := 86) (zk0 kX4_letterOf_2) (f := σ 13) (j := kx) hL.2.2.2.2.2.2.2.2 (show kx < 8 by omega) rfl ?_
      exact z_iret (pc := 87) (zk1 kX4_letterOf_2) rfl (Nat.zero_le _) (Nat.zero_le _) (by
                rw [show sp_letterOf σ τ ε (nI kx) 3 = (σ 13 kx, σ, τ, ε) from by simp [sp_letterOf, sBad, okS, okH, okL, okT, okB, sRd, up2_id, up2_id2, oI, sOther, sNone, sFull, c_1, c_2, c_3, c_4, c_5, ix_nI (show kx ≤ 1000 by omega), show okR 0 3 3 = true from by decide]]
                exact ⟨rfl, hX, hL, hK, hU, rfl⟩)
    refine z_tableOut (pc := 16) (zk9 kX4_letterOf_0) (tgt := 88) (zOut0_3 c_3 c_4 c_5 c_6) (by decide) ?_
    refine z_aload_n (pc := 88) (zk2 kX4_letterOf_2) rfl ?_
    refine z_bipush (pc := 89) (zk3 kX4_letterOf_2) (v := (-2)) (by decide) ?_
    refine z_efV (pc := 91) (zk4 kX4_letterOf_2) (st := []) lkX4_56 ivX4_refuse hX.1 rfl rfl (c_xrefuse (i := 0) hX hB (by decide) (by decide) (by decide)) rfl ⟨rfl, rfl⟩ rfl rfl (fun r_ h_8 z_ q_7 => ?_) rfl
    obtain ⟨er_, hR, hU_9, ez_⟩ := q_7
    rw [er_, ez_]
    clear er_ ez_
    replace hL := LnAt.fr hL hU_9 (by omega)
    replace hU := hU.tr hU_9 (by omega) (by omega)
    replace hK := XR.fr hK hU_9 (by omega)
    replace hX := hR; clear hR
    show Z D B xX4_letterOf _ _ _ 94 _ [.int (-2)] _ _
    exact z_iret (pc := 94) (zk5 kX4_letterOf_2) rfl (Nat.zero_le _) (Nat.zero_le _) (by
            rw [show sp_letterOf σ τ ε x y = ((-2), σ, (rfN τ 2), ε) from by simp [sp_letterOf, sBad, okS, okH, okL, okT, okB, sRd, up2_id, up2_id2, oI, sOther, sNone, sFull, c_1, c_2, show okR 0 3 y = false from okR_out (c := 3) (by decide) (zOut0_3 c_3 c_4 c_5 c_6)]]
            exact ⟨rfl, hX, hL, hK, hU, rfl⟩)
  · have c_10 : okR 0 (σ 9 0 - 1) x = false := by simpa using c_1
    refine z_aload_n (pc := 8) (zk4 kX4_letterOf_0) rfl ?_
    refine z_bipush (pc := 9) (zk5 kX4_letterOf_0) (v := (-2)) (by decide) ?_
    refine z_efV (pc := 11) (zk6 kX4_letterOf_0) (st := []) lkX4_56 ivX4_refuse hX.1 rfl rfl (c_xrefuse (i := 0) hX hB (by decide) (by decide) (by decide)) rfl ⟨rfl, rfl⟩ rfl rfl (fun r_ h_12 z_ q_11 => ?_) rfl
    obtain ⟨er_, hR, hU_13, ez_⟩ := q_11
    rw [er_, ez_]
    clear er_ ez_
    replace hL := LnAt.fr hL hU_13 (by omega)
    replace hU := hU.tr hU_13 (by omega) (by omega)
    replace hK := XR.fr hK hU_13 (by omega)
    replace hX := hR; clear hR
    show Z D B xX4_letterOf _ _ _ 14 _ [.int (-2)] _ _
    exact z_iret (pc := 14) (zk7 kX4_letterOf_0) rfl (Nat.zero_le _) (Nat.zero_le _) (by
            rw [show sp_letterOf σ τ ε x y = ((-2), σ, (rfN τ 2), ε) from by simp [sp_letterOf, sBad, okS, okH, okL, okT, okB, sRd, up2_id, up2_id2, oI, sOther, sNone, sFull, c_1, c_10]]
            exact ⟨rfl, hX, hL, hK, hU, rfl⟩)
set_option maxRecDepth 20000 in
theorem cX_houseOf {D : zD} {B : Nat} {h : zH} {sz : Nat} {p : Nat} {σ κ τ : Ln} {ε : El} {ik : Int32} {x : Int32} {y : Int32} {n m : Nat} (hX : XoAt h p ik (rfo τ)) (hL : LnAt h (p + 1) σ) (hK : XR h p κ τ ε) (hB : B ≤ p) (hn : σ 0 0 = nI n) (h12 : n ≤ 12) (hm : σ 9 0 = nI m) (h8 : m ≤ 8) (hbk : σ 6 0 = 0 ∨ σ 6 0 = 1) (htn : ∀ l, l < m → ∃ t, t < n ∧ σ 12 l = nI t) (hlen : ∀ l, l < m → ∃ g, 1 ≤ g ∧ g ≤ 40 ∧ σ 13 l = nI g) (h2 : 2 ≤ n) (hS : SW τ m) : zM D B xX4_houseOf [.ref p, .int x, .int y] h sz (xQ h p sz ik κ (sp_houseOf σ τ ε x y)) := by
  have hU : Upd h h p 51 := Upd.rf
  refine zM.of (by decide) rfl (n := 0) ?_
  show Z D B xX4_houseOf 0 0 _ 0 [some (.ref p), some (.int x), some (.int y)] [] h sz
  refine z_aload_n (pc := 0) (zk0 kX4_houseOf_0) rfl ?_
  refine z_iload_n (pc := 1) (zk1 kX4_houseOf_0) rfl ?_
  refine z_rdV (pc := 2) (zk2 kX4_houseOf_0) (st := []) lkX4_132 ivX4_noHouse hX.1 rfl rfl (c_noHouse hX hL) rfl ⟨rfl, rfl⟩ rfl rfl ?_ rfl
  refine z_oif_eq (pc := 5) (zk3 kX4_houseOf_0) (tgt := 15) (by decide) (fun c_1 => ?_) (fun c_1 => ?_)
  · have c_2 : okR 0 (σ 0 0 - 1) x = true := by simpa using c_1
    refine z_iload_n (pc := 15) (zk8 kX4_houseOf_0) rfl ?_
    by_cases c_3 : y = 0
    · refine z_tableIn (pc := 16) (zk9 kX4_houseOf_0) (off := 40) (tgt := 56) (by rw [c_3]; decide) (by rw [c_3]; decide) (by rw [c_3]; rfl) (by decide) ?_
      subst c_3
      refine z_aload_n (pc := 56) (zk10 kX4_houseOf_0) rfl ?_
      refine z_getf (pc := 57) (zk11 kX4_houseOf_0) flX4_10 hX.1 gXo_0 ?_
      refine z_getf (pc := 60) (zk12 kX4_houseOf_0) flX4_148 hL.1 gLn_1 ?_
      refine z_iload_n (pc := 63) (zk13 kX4_houseOf_0) rfl ?_
      obtain ⟨kx, hkx, rfl⟩ := okR_nI (n := n) (by omega) (by rw [← hn]; exact c_2)
      refine z_ialdN (pc := 64) (zk14 kX4_houseOf_0) (f := σ 1) (j := kx) hL.2.1 (show kx < 12 by omega) rfl ?_
      exact z_iret (pc := 65) (zk15 kX4_houseOf_0) rfl (Nat.zero_le _) (Nat.zero_le _) (by
                rw [show sp_houseOf σ τ ε (nI kx) 0 = (σ 1 kx, σ, τ, ε) from by simp [sp_houseOf, sBad, okS, okH, okL, okT, okB, sRd, up2_id, up2_id2, oI, sOther, sNone, sFull, c_1, c_2, ix_nI (show kx ≤ 1000 by omega), show okR 0 5 0 = true from by decide]]
                exact ⟨rfl, hX, hL, hK, hU, rfl⟩)
    by_cases c_4 : y = 1
    · refine z_tableIn (pc := 16) (zk9 kX4_houseOf_0) (off := 50) (tgt := 66) (by rw [c_4]; decide) (by rw [c_4]; decide) (by rw [c_4]; rfl) (by decide) ?_
      subst c_4
      refine z_aload_n (pc := 66) (zk0 kX4_houseOf_1) rfl ?_
      refine z_getf (pc := 67) (zk1 kX4_houseOf_1) flX4_10 hX.1 gXo_0 ?_
      refine z_getf (pc := 70) (zk2 kX4_houseOf_1) flX4_151 hL.1 gLn_2 ?_
      refine z_iload_n (pc := 73) (zk3 kX4_houseOf_1) rfl ?_
      obtain ⟨kx, hkx, rfl⟩ := okR_nI (n := n) (by omega) (by rw [← hn]; exact c_2)
      refine z_ialdN (pc := 74) (zk4 kX4_houseOf_1) (f := σ 2) (j := kx) hL.2.2.1 (show kx < 12 by omega) rfl ?_
      exact z_iret (pc := 75) (zk5 kX4_houseOf_1) rfl (Nat.zero_le _) (Nat.zero_le _) (by
                rw [show sp_houseOf σ τ ε (nI kx) 1 = (σ 2 kx, σ, τ, ε) from by simp [sp_houseOf, sBad, okS, okH, okL, okT, okB, sRd, up2_id, up2_id2, oI, sOther, sNone, sFull, c_1, c_2, c_3, ix_nI (show kx ≤ 1000 by omega), show okR 0 5 1 = true from by decide]]
                exact ⟨rfl, hX, hL, hK, hU, rfl⟩)
    by_cases c_5 : y = 2
    · refine z_tableIn (pc := 16) (zk9 kX4_houseOf_0) (off := 60) (tgt := 76) (by rw [c_5]; decide) (by rw [c_5]; decide) (by rw [c_5]; rfl) (by decide) ?_
      subst c_5
      refine z_aload_n (pc := 76) (zk6 kX4_houseOf_1) rfl ?_
      refine z_getf (pc := 77) (zk7 kX4_houseOf_1) flX4_10 hX.1 gXo_0 ?_
      refine z_getf (pc := 80) (zk8 kX4_houseOf_1) flX4_154 hL.1 gLn_3 ?_
      refine z_iload_n (pc := 83) (zk9 kX4_houseOf_1) rfl ?_
      obtain ⟨kx, hkx, rfl⟩ := okR_nI (n := n) (by omega) (by rw [← hn]; exact c_2)
      refine z_ialdN (pc := 84) (zk10 kX4_houseOf_1) (f := σ 3) (j := kx) hL.2.2.2.1 (show kx < 12 by omega) rfl ?_
      exact z_iret (pc := 85) (zk11 kX4_houseOf_1) rfl (Nat.zero_le _) (Nat.zero_le _) (by
                rw [show sp_houseOf σ τ ε (nI kx) 2 = (σ 3 kx, σ, τ, ε) from by simp [sp_houseOf, sBad, okS, okH, okL, okT, okB, sRd, up2_id, up2_id2, oI, sOther, sNone, sFull, c_1, c_2, c_3, c_4, ix_nI (show kx ≤ 1000 by omega), show okR 0 5 2 = true from by decide]]
                exact ⟨rfl, hX, hL, hK, hU, rfl⟩)
    by_cases c_6 : y = 3
    · refine z_tableIn (pc := 16) (zk9 kX4_houseOf_0) (off := 70) (tgt := 86) (by rw [c_6]; decide) (by rw [c_6]; decide) (by rw [c_6]; rfl) (by decide) ?_
      subst c_6
      refine z_aload_n (pc := 86) (zk12 kX4_houseOf_1) rfl ?_
      refine z_getf (pc := 87) (zk13 kX4_houseOf_1) flX4_10 hX.1 gXo_0 ?_
      refine z_getf (pc := 90) (zk14 kX4_houseOf_1) flX4_195 hL.1 gLn_4 ?_
      refine z_iload_n (pc := 93) (zk15 kX4_houseOf_1) rfl ?_
      obtain ⟨kx, hkx, rfl⟩ := okR_nI (n := n) (by omega) (by rw [← hn]; exact c_2)
      refine z_ialdN (pc := 94) (zk0 kX4_houseOf_2) (f := σ 4) (j := kx) hL.2.2.2.2.1 (show kx < 12 by omega) rfl ?_
      exact z_iret (pc := 95) (zk1 kX4_houseOf_2) rfl (Nat.zero_le _) (Nat.zero_le _) (by
                rw [show sp_houseOf σ τ ε (nI kx) 3 = (σ 4 kx, σ, τ, ε) from by simp [sp_houseOf, sBad, okS, okH, okL, okT, okB, sRd, up2_id, up2_id2, oI, sOther, sNone, sFull, c_1, c_2, c_3, c_4, c_5, ix_nI (show kx ≤ 1000 by omega), show okR 0 5 3 = true from by decide]]
                exact ⟨rfl, hX, hL, hK, hU, rfl⟩)
    by_cases c_7 : y = 4
    · refine z_tableIn (pc := 16) (zk9 kX4_houseOf_0) (off := 80) (tgt := 96) (by rw [c_7]; decide) (by rw [c_7]; decide) (by rw [c_7]; rfl) (by decide) ?_
      subst c_7
      refine z_aload_n (pc := 96) (zk2 kX4_houseOf_2) rfl ?_
      refine z_getf (pc := 97) (zk3 kX4_houseOf_2) flX4_10 hX.1 gXo_0 ?_
      refine z_iload_n (pc := 100) (zk4 kX4_houseOf_2) rfl ?_
      obtain ⟨kx, hkx, rfl⟩ := okR_nI (n := n) (by omega) (by rw [← hn]; exact c_2)
      refine z_rdV (pc := 101) (zk5 kX4_houseOf_2) (st := []) lkX4_198 ivX1_tipsyAt hL.1 rfl rfl (c_tipsyAt hL hn h12 (show kx < n by omega)) rfl ⟨rfl, rfl⟩ rfl rfl ?_ rfl
      exact z_iret (pc := 104) (zk6 kX4_houseOf_2) rfl (Nat.zero_le _) (Nat.zero_le _) (by
                rw [show sp_houseOf σ τ ε (nI kx) 4 = (tipsy σ kx, σ, τ, ε) from by simp [sp_houseOf, sBad, okS, okH, okL, okT, okB, sRd, up2_id, up2_id2, oI, sOther, sNone, sFull, c_1, c_2, c_3, c_4, c_5, c_6, ix_nI (show kx ≤ 1000 by omega), show okR 0 5 4 = true from by decide]]
                exact ⟨rfl, hX, hL, hK, hU, rfl⟩)
    by_cases c_8 : y = 5
    · refine z_tableIn (pc := 16) (zk9 kX4_houseOf_0) (off := 89) (tgt := 105) (by rw [c_8]; decide) (by rw [c_8]; decide) (by rw [c_8]; rfl) (by decide) ?_
      subst c_8
      refine z_aload_n (pc := 105) (zk7 kX4_houseOf_2) rfl ?_
      refine z_getf (pc := 106) (zk8 kX4_houseOf_2) flX4_10 hX.1 gXo_0 ?_
      refine z_aload_n (pc := 109) (zk9 kX4_houseOf_2) rfl ?_
      refine z_getf (pc := 110) (zk10 kX4_houseOf_2) flX4_10 hX.1 gXo_0 ?_
      refine z_iload_n (pc := 113) (zk11 kX4_houseOf_2) rfl ?_
      obtain ⟨kx, hkx, rfl⟩ := okR_nI (n := n) (by omega) (by rw [← hn]; exact c_2)
      refine z_rdV (pc := 114) (zk12 kX4_houseOf_2) (st := [.ref (p + 1)]) lkX4_198 ivX1_tipsyAt hL.1 rfl rfl (c_tipsyAt hL hn h12 (show kx < n by omega)) rfl ⟨rfl, rfl⟩ rfl rfl ?_ rfl
      refine z_rdV (pc := 117) (zk13 kX4_houseOf_2) (st := []) lkX4_201 ivX1_leftOutAfter hL.1 rfl rfl (c_leftOut hL) rfl ⟨rfl, rfl⟩ rfl rfl ?_ rfl
      exact z_iret (pc := 120) (zk14 kX4_houseOf_2) rfl (Nat.zero_le _) (Nat.zero_le _) (by
                rw [show sp_houseOf σ τ ε (nI kx) 5 = (lout σ (tipsy σ kx), σ, τ, ε) from by simp [sp_houseOf, sBad, okS, okH, okL, okT, okB, sRd, up2_id, up2_id2, oI, sOther, sNone, sFull, c_1, c_2, c_3, c_4, c_5, c_6, c_7, ix_nI (show kx ≤ 1000 by omega), show okR 0 5 5 = true from by decide]]
                exact ⟨rfl, hX, hL, hK, hU, rfl⟩)
    refine z_tableOut (pc := 16) (zk9 kX4_houseOf_0) (tgt := 121) (zOut0_5 c_3 c_4 c_5 c_6 c_7 c_8) (by decide) ?_
    refine z_aload_n (pc := 121) (zk15 kX4_houseOf_2) rfl ?_
    refine z_bipush (pc := 122) (zk0 kX4_houseOf_3) (v := (-2)) (by decide) ?_
    refine z_efV (pc := 124) (zk1 kX4_houseOf_3) (st := []) lkX4_56 ivX4_refuse hX.1 rfl rfl (c_xrefuse (i := 0) hX hB (by decide) (by decide) (by decide)) rfl ⟨rfl, rfl⟩ rfl rfl (fun r_ h_10 z_ q_9 => ?_) rfl
    obtain ⟨er_, hR, hU_11, ez_⟩ := q_9
    rw [er_, ez_]
    clear er_ ez_
    replace hL := LnAt.fr hL hU_11 (by omega)
    replace hU := hU.tr hU_11 (by omega) (by omega)
    replace hK := XR.fr hK hU_11 (by omega)
    replace hX := hR; clear hR
    show Z D B xX4_houseOf _ _ _ 127 _ [.int (-2)] _ _
    exact z_iret (pc := 127) (zk2 kX4_houseOf_3) rfl (Nat.zero_le _) (Nat.zero_le _) (by
            rw [show sp_houseOf σ τ ε x y = ((-2), σ, (rfN τ 2), ε) from by simp [sp_houseOf, sBad, okS, okH, okL, okT, okB, sRd, up2_id, up2_id2, oI, sOther, sNone, sFull, c_1, c_2, show okR 0 5 y = false from okR_out (c := 5) (by decide) (zOut0_5 c_3 c_4 c_5 c_6 c_7 c_8)]]
            exact ⟨rfl, hX, hL, hK, hU, rfl⟩)
  · have c_12 : okR 0 (σ 0 0 - 1) x = false := by simpa using c_1
    refine z_aload_n (pc := 8) (zk4 kX4_houseOf_0) rfl ?_
    refine z_bipush (pc := 9) (zk5 kX4_houseOf_0) (v := (-2)) (by decide) ?_
    refine z_efV (pc := 11) (zk6 kX4_houseOf_0) (st := []) lkX4_56 ivX4_refuse hX.1 rfl rfl (c_xrefuse (i := 0) hX hB (by decide) (by decide) (by decide)) rfl ⟨rfl, rfl⟩ rfl rfl (fun r_ h_14 z_ q_13 => ?_) rfl
    obtain ⟨er_, hR, hU_15, ez_⟩ := q_13
    rw [er_, ez_]
    clear er_ ez_
    replace hL := LnAt.fr hL hU_15 (by omega)
    replace hU := hU.tr hU_15 (by omega) (by omega)
    replace hK := XR.fr hK hU_15 (by omega)
    replace hX := hR; clear hR
    show Z D B xX4_houseOf _ _ _ 14 _ [.int (-2)] _ _
    exact z_iret (pc := 14) (zk7 kX4_houseOf_0) rfl (Nat.zero_le _) (Nat.zero_le _) (by
            rw [show sp_houseOf σ τ ε x y = ((-2), σ, (rfN τ 2), ε) from by simp [sp_houseOf, sBad, okS, okH, okL, okT, okB, sRd, up2_id, up2_id2, oI, sOther, sNone, sFull, c_1, c_12]]
            exact ⟨rfl, hX, hL, hK, hU, rfl⟩)
set_option maxRecDepth 20000 in
theorem cX_letter {D : zD} {B : Nat} {h : zH} {sz : Nat} {p : Nat} {σ κ τ : Ln} {ε : El} {ik : Int32} {x : Int32} {y : Int32} {z : Int32} {u : Int32} {n m : Nat} (hX : XoAt h p ik (rfo τ)) (hL : LnAt h (p + 1) σ) (hK : XR h p κ τ ε) (hB : B ≤ p) (hn : σ 0 0 = nI n) (h12 : n ≤ 12) (hm : σ 9 0 = nI m) (h8 : m ≤ 8) (hbk : σ 6 0 = 0 ∨ σ 6 0 = 1) (htn : ∀ l, l < m → ∃ t, t < n ∧ σ 12 l = nI t) (hlen : ∀ l, l < m → ∃ g, 1 ≤ g ∧ g ≤ 40 ∧ σ 13 l = nI g) (h2 : 2 ≤ n) (hS : SW τ m) : zM D B xX4_letter [.ref p, .int x, .int y, .int z, .int u] h sz (xQ h p sz ik κ (sp_letter σ τ ε x y z u)) := by
  have hU : Upd h h p 51 := Upd.rf
  refine zM.of (by decide) rfl (n := 0) ?_
  show Z D B xX4_letter 0 0 _ 0 [some (.ref p), some (.int x), some (.int y), some (.int z), some (.int u)] [] h sz
  refine z_iload_n (pc := 0) (zk0 kX4_letter_0) rfl ?_
  refine z_rdS (pc := 1) (zk1 kX4_letter_0) (st := []) lkX4_109 isX4_noKind (c_noKind) rfl ⟨rfl, rfl⟩ rfl rfl ?_ rfl
  refine z_oif_ne (pc := 4) (zk2 kX4_letter_0) (tgt := 36) (by decide) (fun c_1 => ?_) (fun c_1 => ?_)
  · have c_2 : okR 0 5 x = false := by simpa using c_1
    refine z_aload_n (pc := 36) (zk1 kX4_letter_1) rfl ?_
    refine z_bipush (pc := 37) (zk2 kX4_letter_1) (v := (-2)) (by decide) ?_
    refine z_efV (pc := 39) (zk3 kX4_letter_1) (st := []) lkX4_56 ivX4_refuse hX.1 rfl rfl (c_xrefuse (i := 0) hX hB (by decide) (by decide) (by decide)) rfl ⟨rfl, rfl⟩ rfl rfl (fun r_ h_4 z_ q_3 => ?_) rfl
    obtain ⟨er_, hR, hU_5, ez_⟩ := q_3
    rw [er_, ez_]
    clear er_ ez_
    replace hL := LnAt.fr hL hU_5 (by omega)
    replace hU := hU.tr hU_5 (by omega) (by omega)
    replace hK := XR.fr hK hU_5 (by omega)
    replace hX := hR; clear hR
    show Z D B xX4_letter _ _ _ 42 _ [.int (-2)] _ _
    exact z_iret (pc := 42) (zk4 kX4_letter_1) rfl (Nat.zero_le _) (Nat.zero_le _) (by
            rw [show sp_letter σ τ ε x y z u = ((-2), σ, (rfN τ 2), ε) from by simp [sp_letter, sBad, okS, okH, okL, okT, okB, sRd, up2_id, up2_id2, oI, sOther, sNone, sFull, c_1, c_2]]
            exact ⟨rfl, hX, hL, hK, hU, rfl⟩)
  · have c_6 : okR 0 5 x = true := by simpa using c_1
    refine z_iload_n (pc := 7) (zk3 kX4_letter_0) rfl ?_
    refine z_iconst (pc := 8) (zk4 kX4_letter_0) (v := 0) (by decide) ?_
    refine z_bipush (pc := 9) (zk5 kX4_letter_0) (v := 9) (by decide) ?_
    refine z_rdS (pc := 11) (zk6 kX4_letter_0) (st := []) lkX4_52 isX4_outside (c_outside) rfl ⟨rfl, rfl⟩ rfl rfl ?_ rfl
    refine z_oif_ne (pc := 14) (zk7 kX4_letter_0) (tgt := 36) (by decide) (fun c_7 => ?_) (fun c_7 => ?_)
    · have c_8 : okR 0 9 y = false := by simpa using c_7
      refine z_aload_n (pc := 36) (zk1 kX4_letter_1) rfl ?_
      refine z_bipush (pc := 37) (zk2 kX4_letter_1) (v := (-2)) (by decide) ?_
      refine z_efV (pc := 39) (zk3 kX4_letter_1) (st := []) lkX4_56 ivX4_refuse hX.1 rfl rfl (c_xrefuse (i := 0) hX hB (by decide) (by decide) (by decide)) rfl ⟨rfl, rfl⟩ rfl rfl (fun r_ h_10 z_ q_9 => ?_) rfl
      obtain ⟨er_, hR, hU_11, ez_⟩ := q_9
      rw [er_, ez_]
      clear er_ ez_
      replace hL := LnAt.fr hL hU_11 (by omega)
      replace hU := hU.tr hU_11 (by omega) (by omega)
      replace hK := XR.fr hK hU_11 (by omega)
      replace hX := hR; clear hR
      show Z D B xX4_letter _ _ _ 42 _ [.int (-2)] _ _
      exact z_iret (pc := 42) (zk4 kX4_letter_1) rfl (Nat.zero_le _) (Nat.zero_le _) (by
                rw [show sp_letter σ τ ε x y z u = ((-2), σ, (rfN τ 2), ε) from by simp [sp_letter, sBad, okS, okH, okL, okT, okB, sRd, up2_id, up2_id2, oI, sOther, sNone, sFull, c_1, c_6, c_7, c_8]]
                exact ⟨rfl, hX, hL, hK, hU, rfl⟩)
    · have c_12 : okR 0 9 y = true := by simpa using c_7
      refine z_aload_n (pc := 17) (zk8 kX4_letter_0) rfl ?_
      refine z_iload_n (pc := 18) (zk9 kX4_letter_0) rfl ?_
      refine z_rdV (pc := 19) (zk10 kX4_letter_0) (st := []) lkX4_132 ivX4_noHouse hX.1 rfl rfl (c_noHouse hX hL) rfl ⟨rfl, rfl⟩ rfl rfl ?_ rfl
      refine z_oif_ne (pc := 22) (zk11 kX4_letter_0) (tgt := 36) (by decide) (fun c_13 => ?_) (fun c_13 => ?_)
      · have c_14 : okR 0 (σ 0 0 - 1) z = false := by simpa using c_13
        refine z_aload_n (pc := 36) (zk1 kX4_letter_1) rfl ?_
        refine z_bipush (pc := 37) (zk2 kX4_letter_1) (v := (-2)) (by decide) ?_
        refine z_efV (pc := 39) (zk3 kX4_letter_1) (st := []) lkX4_56 ivX4_refuse hX.1 rfl rfl (c_xrefuse (i := 0) hX hB (by decide) (by decide) (by decide)) rfl ⟨rfl, rfl⟩ rfl rfl (fun r_ h_16 z_ q_15 => ?_) rfl
        obtain ⟨er_, hR, hU_17, ez_⟩ := q_15
        rw [er_, ez_]
        clear er_ ez_
        replace hL := LnAt.fr hL hU_17 (by omega)
        replace hU := hU.tr hU_17 (by omega) (by omega)
        replace hK := XR.fr hK hU_17 (by omega)
        replace hX := hR; clear hR
        show Z D B xX4_letter _ _ _ 42 _ [.int (-2)] _ _
        exact z_iret (pc := 42) (zk4 kX4_letter_1) rfl (Nat.zero_le _) (Nat.zero_le _) (by
                    rw [show sp_letter σ τ ε x y z u = ((-2), σ, (rfN τ 2), ε) from by simp [sp_letter, sBad, okS, okH, okL, okT, okB, sRd, up2_id, up2_id2, oI, sOther, sNone, sFull, c_1, c_6, c_7, c_12, c_13, c_14]]
                    exact ⟨rfl, hX, hL, hK, hU, rfl⟩)
      · have c_18 : okR 0 (σ 0 0 - 1) z = true := by simpa using c_13
        refine z_iload (pc := 25) (zk12 kX4_letter_0) rfl ?_
        refine z_iconst (pc := 27) (zk13 kX4_letter_0) (v := 1) (by decide) ?_
        refine z_bipush (pc := 28) (zk14 kX4_letter_0) (v := 40) (by decide) ?_
        refine z_rdS (pc := 30) (zk15 kX4_letter_0) (st := []) lkX4_52 isX4_outside (c_outside) rfl ⟨rfl, rfl⟩ rfl rfl ?_ rfl
        refine z_oif_eq (pc := 33) (zk0 kX4_letter_1) (tgt := 43) (by decide) (fun c_19 => ?_) (fun c_19 => ?_)
        · have c_20 : okR 1 40 u = true := by simpa using c_19
          refine z_aload_n (pc := 43) (zk5 kX4_letter_1) rfl ?_
          refine z_getf (pc := 44) (zk6 kX4_letter_1) flX4_10 hX.1 gXo_0 ?_
          refine z_rdV (pc := 47) (zk7 kX4_letter_1) (st := []) lkX4_135 ivX1_hasRoom hL.1 rfl rfl (c_hasRoom hL hm h8) rfl ⟨rfl, rfl⟩ rfl rfl ?_ rfl
          refine z_oif_ne (pc := 50) (zk8 kX4_letter_1) (tgt := 60) (by decide) (fun c_21 => ?_) (fun c_21 => ?_)
          · have hm8 : m < 8 := of_decide_eq_true c_21
            refine z_aload_n (pc := 60) (zk13 kX4_letter_1) rfl ?_
            refine z_getf (pc := 61) (zk14 kX4_letter_1) flX4_10 hX.1 gXo_0 ?_
            refine z_iload_n (pc := 64) (zk15 kX4_letter_1) rfl ?_
            refine z_iload_n (pc := 65) (zk0 kX4_letter_2) rfl ?_
            refine z_iload_n (pc := 66) (zk1 kX4_letter_2) rfl ?_
            refine z_iload (pc := 67) (zk2 kX4_letter_2) rfl ?_
            refine z_efV (pc := 69) (zk3 kX4_letter_2) (st := []) lkX4_138 ivX1_addLetter hL.1 rfl rfl (c_addLetter hL (by omega) hm hm8) rfl ⟨rfl, rfl⟩ rfl rfl (fun r_ h_23 z_ q_22 => ?_) rfl
            obtain ⟨er_, hR, hU_24, ez_⟩ := q_22
            rw [er_, ez_]
            clear er_ ez_
            replace hX := XoAt.fr hX hU_24 (by omega)
            replace hU := hU.tr hU_24 (by omega) (by omega)
            replace hK := XR.fr hK hU_24 (by omega)
            replace hL := hR; clear hR
            show Z D B xX4_letter _ _ _ 72 _ [.int (nI m)] _ _
            exact z_iret (pc := 72) (zk4 kX4_letter_2) rfl (Nat.zero_le _) (Nat.zero_le _) (by
                            rw [show sp_letter σ τ ε x y z u = (nI m, (addF σ m x y z u), τ, ε) from by simp [sp_letter, sBad, okS, okH, okL, okT, okB, sRd, up2_id, up2_id2, oI, sOther, sNone, sFull, c_1, c_6, c_7, c_12, c_13, c_18, c_19, c_20, hm, ix_nI (show m ≤ 1000 by omega), show ¬ nI m = 8 from fun q => absurd ((nI_eqI (a := m) (b := 8) (by omega) (by omega)).mp q) (by omega)]]
                            exact ⟨rfl, hX, hL, hK, hU, rfl⟩)
          · refine z_aload_n (pc := 53) (zk9 kX4_letter_1) rfl ?_
            refine z_bipush (pc := 54) (zk10 kX4_letter_1) (v := (-6)) (by decide) ?_
            refine z_efV (pc := 56) (zk11 kX4_letter_1) (st := []) lkX4_56 ivX4_refuse hX.1 rfl rfl (c_xrefuse (i := 4) hX hB (by decide) (by decide) (by decide)) rfl ⟨rfl, rfl⟩ rfl rfl (fun r_ h_26 z_ q_25 => ?_) rfl
            obtain ⟨er_, hR, hU_27, ez_⟩ := q_25
            rw [er_, ez_]
            clear er_ ez_
            replace hL := LnAt.fr hL hU_27 (by omega)
            replace hU := hU.tr hU_27 (by omega) (by omega)
            replace hK := XR.fr hK hU_27 (by omega)
            replace hX := hR; clear hR
            show Z D B xX4_letter _ _ _ 59 _ [.int (-6)] _ _
            exact z_iret (pc := 59) (zk12 kX4_letter_1) rfl (Nat.zero_le _) (Nat.zero_le _) (by
                            rw [show sp_letter σ τ ε x y z u = ((-6), σ, (rfN τ 6), ε) from by (have e8 : m = 8 := (have := of_decide_eq_false c_21; by omega); subst e8; simp [sp_letter, sBad, okS, okH, okL, okT, okB, sRd, up2_id, up2_id2, oI, sOther, sNone, sFull, sFull, c_1, c_6, c_7, c_12, c_13, c_18, c_19, c_20, hm, show nI 8 = 8 from rfl])]
                            exact ⟨rfl, hX, hL, hK, hU, rfl⟩)
        · have c_28 : okR 1 40 u = false := by simpa using c_19
          refine z_aload_n (pc := 36) (zk1 kX4_letter_1) rfl ?_
          refine z_bipush (pc := 37) (zk2 kX4_letter_1) (v := (-2)) (by decide) ?_
          refine z_efV (pc := 39) (zk3 kX4_letter_1) (st := []) lkX4_56 ivX4_refuse hX.1 rfl rfl (c_xrefuse (i := 0) hX hB (by decide) (by decide) (by decide)) rfl ⟨rfl, rfl⟩ rfl rfl (fun r_ h_30 z_ q_29 => ?_) rfl
          obtain ⟨er_, hR, hU_31, ez_⟩ := q_29
          rw [er_, ez_]
          clear er_ ez_
          replace hL := LnAt.fr hL hU_31 (by omega)
          replace hU := hU.tr hU_31 (by omega) (by omega)
          replace hK := XR.fr hK hU_31 (by omega)
          replace hX := hR; clear hR
          show Z D B xX4_letter _ _ _ 42 _ [.int (-2)] _ _
          exact z_iret (pc := 42) (zk4 kX4_letter_1) rfl (Nat.zero_le _) (Nat.zero_le _) (by
                        rw [show sp_letter σ τ ε x y z u = ((-2), σ, (rfN τ 2), ε) from by simp [sp_letter, sBad, okS, okH, okL, okT, okB, sRd, up2_id, up2_id2, oI, sOther, sNone, sFull, c_1, c_6, c_7, c_12, c_13, c_18, c_19, c_28]]
                        exact ⟨rfl, hX, hL, hK, hU, rfl⟩)
set_option maxRecDepth 20000 in
theorem cX_code {D : zD} {B : Nat} {h : zH} {sz : Nat} {p : Nat} {σ κ τ : Ln} {ε : El} {ik : Int32} {x : Int32} {y : Int32} {b : Bool} {n m : Nat} (hX : XoAt h p ik (rfo τ)) (hL : LnAt h (p + 1) σ) (hK : XR h p κ τ ε) (hB : B ≤ p) (hn : σ 0 0 = nI n) (h12 : n ≤ 12) (hm : σ 9 0 = nI m) (h8 : m ≤ 8) (hbk : σ 6 0 = 0 ∨ σ 6 0 = 1) (htn : ∀ l, l < m → ∃ t, t < n ∧ σ 12 l = nI t) (hlen : ∀ l, l < m → ∃ g, 1 ≤ g ∧ g ≤ 40 ∧ σ 13 l = nI g) (h2 : 2 ≤ n) (hS : SW τ m) : zM D B xX4_code [.ref p, .int x, .int y, .int (oI b)] h sz (xQ h p sz ik κ (sp_code σ τ ε x y b)) := by
  have hU : Upd h h p 51 := Upd.rf
  refine zM.of (by decide) rfl (n := 1) ?_
  show Z D B xX4_code 0 0 _ 0 [some (.ref p), some (.int x), some (.int y), some (.int (oI b)), none] [] h sz
  refine z_aload_n (pc := 0) (zk0 kX4_code_0) rfl ?_
  refine z_iload_n (pc := 1) (zk1 kX4_code_0) rfl ?_
  refine z_rdV (pc := 2) (zk2 kX4_code_0) (st := []) lkX4_132 ivX4_noHouse hX.1 rfl rfl (c_noHouse hX hL) rfl ⟨rfl, rfl⟩ rfl rfl ?_ rfl
  refine z_oif_ne (pc := 5) (zk3 kX4_code_0) (tgt := 18) (by decide) (fun c_1 => ?_) (fun c_1 => ?_)
  · have c_2 : okR 0 (σ 0 0 - 1) x = false := by simpa using c_1
    refine z_aload_n (pc := 18) (zk9 kX4_code_0) rfl ?_
    refine z_bipush (pc := 19) (zk10 kX4_code_0) (v := (-2)) (by decide) ?_
    refine z_efV (pc := 21) (zk11 kX4_code_0) (st := []) lkX4_56 ivX4_refuse hX.1 rfl rfl (c_xrefuse (i := 0) hX hB (by decide) (by decide) (by decide)) rfl ⟨rfl, rfl⟩ rfl rfl (fun r_ h_4 z_ q_3 => ?_) rfl
    obtain ⟨er_, hR, hU_5, ez_⟩ := q_3
    rw [er_, ez_]
    clear er_ ez_
    replace hL := LnAt.fr hL hU_5 (by omega)
    replace hU := hU.tr hU_5 (by omega) (by omega)
    replace hK := XR.fr hK hU_5 (by omega)
    replace hX := hR; clear hR
    show Z D B xX4_code _ _ _ 24 _ [.int (-2)] _ _
    exact z_iret (pc := 24) (zk12 kX4_code_0) rfl (Nat.zero_le _) (Nat.zero_le _) (by
            rw [show sp_code σ τ ε x y b = ((-2), σ, (rfN τ 2), ε) from by simp [sp_code, setC, sBad, okS, okH, okL, okT, okB, sRd, up2_id, up2_id2, sOther, sNone, sFull, c_1, c_2]]
            exact ⟨rfl, hX, hL, hK, hU, rfl⟩)
  · have c_6 : okR 0 (σ 0 0 - 1) x = true := by simpa using c_1
    refine z_iload_n (pc := 8) (zk4 kX4_code_0) rfl ?_
    refine z_iconst (pc := 9) (zk5 kX4_code_0) (v := 0) (by decide) ?_
    refine z_bipush (pc := 10) (zk6 kX4_code_0) (v := 9) (by decide) ?_
    refine z_rdS (pc := 12) (zk7 kX4_code_0) (st := []) lkX4_52 isX4_outside (c_outside) rfl ⟨rfl, rfl⟩ rfl rfl ?_ rfl
    refine z_oif_eq (pc := 15) (zk8 kX4_code_0) (tgt := 25) (by decide) (fun c_7 => ?_) (fun c_7 => ?_)
    · have c_8 : okR 0 9 y = true := by simpa using c_7
      refine z_aload_n (pc := 25) (zk13 kX4_code_0) rfl ?_
      refine z_getf (pc := 26) (zk14 kX4_code_0) flX4_10 hX.1 gXo_0 ?_
      refine z_getf (pc := 29) (zk15 kX4_code_0) flX4_154 hL.1 gLn_3 ?_
      refine z_iload_n (pc := 32) (zk0 kX4_code_1) rfl ?_
      obtain ⟨kx, hkx, rfl⟩ := okR_nI (n := n) (by omega) (by rw [← hn]; exact c_6)
      refine z_ialdN (pc := 33) (zk1 kX4_code_1) (f := σ 3) (j := kx) hL.2.2.2.1 (show kx < 12 by omega) rfl ?_
      refine z_iload_n (pc := 34) (zk2 kX4_code_1) rfl ?_
      refine z_ishr (pc := 35) (zk3 kX4_code_1) ?_
      refine z_iconst (pc := 36) (zk4 kX4_code_1) (v := 1) (by decide) ?_
      refine z_iand (pc := 37) (zk5 kX4_code_1) ?_
      refine z_istore (pc := 38) (zk6 kX4_code_1) rfl rfl ?_
      show Z D B xX4_code _ _ _ 40 [some (.ref p), some (.int (nI kx)), some (.int y), some (.int (oI b)), some (.int (((σ 3 kx) >>> (y &&& 31)) &&& 1))] _ _ _
      refine z_iload_n (pc := 40) (zk7 kX4_code_1) rfl ?_
      refine z_oif_eq (pc := 41) (zk8 kX4_code_1) (tgt := 56) (by decide) (fun c_9 => ?_) (fun c_9 => ?_)
      · refine z_aload_n (pc := 56) (zk15 kX4_code_1) rfl ?_
        refine z_getf (pc := 57) (zk0 kX4_code_2) flX4_10 hX.1 gXo_0 ?_
        refine z_getf (pc := 60) (zk1 kX4_code_2) flX4_154 hL.1 gLn_3 ?_
        refine z_iload_n (pc := 63) (zk2 kX4_code_2) rfl ?_
        refine z_dup2 (pc := 64) (zk3 kX4_code_2) rfl rfl ?_
        refine z_ialdN (pc := 65) (zk4 kX4_code_2) (f := σ 3) (j := kx) hL.2.2.2.1 (show kx < 12 by omega) rfl ?_
        refine z_iconst (pc := 66) (zk5 kX4_code_2) (v := 1) (by decide) ?_
        refine z_iload_n (pc := 67) (zk6 kX4_code_2) rfl ?_
        refine z_ishl (pc := 68) (zk7 kX4_code_2) ?_
        refine z_iconst (pc := 69) (zk8 kX4_code_2) (v := (-1)) (by decide) ?_
        refine z_ixor (pc := 70) (zk9 kX4_code_2) ?_
        refine z_iand (pc := 71) (zk10 kX4_code_2) ?_
        refine z_Ln_s3 (pc := 72) (zk11 kX4_code_2) (j := kx) hL (by omega) (show kx < 12 by omega) (fun h_10 hR hU_11 => ?_)
        replace hX := XoAt.fr hX hU_11 (by omega)
        replace hU := hU.tr hU_11 (by omega) (by omega)
        replace hK := XR.fr hK hU_11 (by omega)
        replace hL := hR; clear hR
        refine z_iload (pc := 73) (zk12 kX4_code_2) rfl ?_
        exact z_iret (pc := 75) (zk13 kX4_code_2) rfl (Nat.zero_le _) (Nat.zero_le _) (by
                    rw [show sp_code σ τ ε (nI kx) y b = (((σ 3 kx) >>> (y &&& 31)) &&& 1, (up2 σ 3 kx ((σ 3 kx) &&& ((1 <<< (y &&& 31)) ^^^ (-1)))), τ, ε) from by simp [sp_code, setC, sBad, okS, okH, okL, okT, okB, sRd, up2_id, up2_id2, sOther, sNone, sFull, c_1, c_6, c_7, c_8, c_9, ix_nI (show kx ≤ 1000 by omega)]]
                    exact ⟨rfl, hX, hL, hK, hU, rfl⟩)
      · refine z_aload_n (pc := 44) (zk9 kX4_code_1) rfl ?_
        refine z_getf (pc := 45) (zk10 kX4_code_1) flX4_10 hX.1 gXo_0 ?_
        refine z_iload_n (pc := 48) (zk11 kX4_code_1) rfl ?_
        refine z_iload_n (pc := 49) (zk12 kX4_code_1) rfl ?_
        refine z_efV (pc := 50) (zk13 kX4_code_1) (st := []) lkX4_157 ivX1_learn hL.1 rfl rfl (c_learn hL (by omega) (show kx < 12 by omega)) rfl ⟨rfl, rfl⟩ rfl rfl (fun r_ h_13 z_ q_12 => ?_) rfl
        obtain ⟨er_, hR, hU_14, ez_⟩ := q_12
        rw [er_, ez_]
        clear er_ ez_
        replace hX := XoAt.fr hX hU_14 (by omega)
        replace hU := hU.tr hU_14 (by omega) (by omega)
        replace hK := XR.fr hK hU_14 (by omega)
        replace hL := hR; clear hR
        show Z D B xX4_code _ _ _ 53 _ [] _ _
        refine z_goto (pc := 53) (zk14 kX4_code_1) (tgt := 73) (by decide) ?_
        refine z_iload (pc := 73) (zk12 kX4_code_2) rfl ?_
        exact z_iret (pc := 75) (zk13 kX4_code_2) rfl (Nat.zero_le _) (Nat.zero_le _) (by
                    rw [show sp_code σ τ ε (nI kx) y b = (((σ 3 kx) >>> (y &&& 31)) &&& 1, (learnF σ kx y), τ, ε) from by simp [sp_code, setC, sBad, okS, okH, okL, okT, okB, sRd, up2_id, up2_id2, sOther, sNone, sFull, c_1, c_6, c_7, c_8, c_9, ix_nI (show kx ≤ 1000 by omega)]]
                    exact ⟨rfl, hX, hL, hK, hU, rfl⟩)
    · have c_15 : okR 0 9 y = false := by simpa using c_7
      refine z_aload_n (pc := 18) (zk9 kX4_code_0) rfl ?_
      refine z_bipush (pc := 19) (zk10 kX4_code_0) (v := (-2)) (by decide) ?_
      refine z_efV (pc := 21) (zk11 kX4_code_0) (st := []) lkX4_56 ivX4_refuse hX.1 rfl rfl (c_xrefuse (i := 0) hX hB (by decide) (by decide) (by decide)) rfl ⟨rfl, rfl⟩ rfl rfl (fun r_ h_17 z_ q_16 => ?_) rfl
      obtain ⟨er_, hR, hU_18, ez_⟩ := q_16
      rw [er_, ez_]
      clear er_ ez_
      replace hL := LnAt.fr hL hU_18 (by omega)
      replace hU := hU.tr hU_18 (by omega) (by omega)
      replace hK := XR.fr hK hU_18 (by omega)
      replace hX := hR; clear hR
      show Z D B xX4_code _ _ _ 24 _ [.int (-2)] _ _
      exact z_iret (pc := 24) (zk12 kX4_code_0) rfl (Nat.zero_le _) (Nat.zero_le _) (by
                rw [show sp_code σ τ ε x y b = ((-2), σ, (rfN τ 2), ε) from by simp [sp_code, setC, sBad, okS, okH, okL, okT, okB, sRd, up2_id, up2_id2, sOther, sNone, sFull, c_1, c_6, c_7, c_15]]
                exact ⟨rfl, hX, hL, hK, hU, rfl⟩)
set_option maxRecDepth 20000 in
theorem cX_way {D : zD} {B : Nat} {h : zH} {sz : Nat} {p : Nat} {σ κ τ : Ln} {ε : El} {ik : Int32} {b : Bool} {n m : Nat} (hX : XoAt h p ik (rfo τ)) (hL : LnAt h (p + 1) σ) (hK : XR h p κ τ ε) (hB : B ≤ p) (hn : σ 0 0 = nI n) (h12 : n ≤ 12) (hm : σ 9 0 = nI m) (h8 : m ≤ 8) (hbk : σ 6 0 = 0 ∨ σ 6 0 = 1) (htn : ∀ l, l < m → ∃ t, t < n ∧ σ 12 l = nI t) (hlen : ∀ l, l < m → ∃ g, 1 ≤ g ∧ g ≤ 40 ∧ σ 13 l = nI g) (h2 : 2 ≤ n) (hS : SW τ m) : zM D B xX4_way [.ref p, .int (oI b)] h sz (xQ h p sz ik κ (sp_way σ τ ε b)) := by
  have hU : Upd h h p 51 := Upd.rf
  refine zM.of (by decide) rfl (n := 1) ?_
  show Z D B xX4_way 0 0 _ 0 [some (.ref p), some (.int (oI b)), none] [] h sz
  refine z_aload_n (pc := 0) (zk0 kX4_way_0) rfl ?_
  refine z_getf (pc := 1) (zk1 kX4_way_0) flX4_10 hX.1 gXo_0 ?_
  refine z_getf (pc := 4) (zk2 kX4_way_0) flX4_163 hL.1 (v := .int (σ 6 0)) rfl ?_
  have eb_ : σ 6 0 = oI (decide (σ 6 0 = 1)) := by rcases hbk with e | e <;> rw [e] <;> rfl
  refine z_top (congrArg Value.int eb_) ?_
  refine z_rdS (pc := 7) (zk3 kX4_way_0) (st := []) lkX4_166 isX4_asNumber (c_asNumber) rfl ⟨rfl, rfl⟩ rfl rfl ?_ rfl
  refine z_istore_n (pc := 10) (zk4 kX4_way_0) rfl rfl ?_
  show Z D B xX4_way _ _ _ 11 [some (.ref p), some (.int (oI b)), some (.int (oI (decide (σ 6 0 = 1))))] _ _ _
  refine z_aload_n (pc := 11) (zk5 kX4_way_0) rfl ?_
  refine z_getf (pc := 12) (zk6 kX4_way_0) flX4_10 hX.1 gXo_0 ?_
  refine z_iload_n (pc := 15) (zk7 kX4_way_0) rfl ?_
  refine z_Ln_w6 (pc := 16) (zk8 kX4_way_0) flX4_163 hL (by omega) (oI_01 _) (fun h_1 hR hU_2 => ?_)
  replace hX := XoAt.fr hX hU_2 (by omega)
  replace hU := hU.tr hU_2 (by omega) (by omega)
  replace hK := XR.fr hK hU_2 (by omega)
  replace hL := hR; clear hR
  refine z_iload_n (pc := 19) (zk9 kX4_way_0) rfl ?_
  exact z_iret (pc := 20) (zk10 kX4_way_0) rfl (Nat.zero_le _) (Nat.zero_le _) (by
        rw [show sp_way σ τ ε b = (oI (decide (σ 6 0 = 1)), (up2 σ 6 0 (oI b)), τ, ε) from by rw [sp_way, ← eb_]]
        exact ⟨rfl, hX, hL, hK, hU, rfl⟩)
set_option maxRecDepth 20000 in
theorem cX_ofKind {D : zD} {B : Nat} {h : zH} {sz : Nat} {p : Nat} {σ κ τ : Ln} {ε : El} {ik : Int32} {x : Int32} {n m : Nat} (hX : XoAt h p ik (rfo τ)) (hL : LnAt h (p + 1) σ) (hK : XR h p κ τ ε) (hB : B ≤ p) (hn : σ 0 0 = nI n) (h12 : n ≤ 12) (hm : σ 9 0 = nI m) (h8 : m ≤ 8) (hbk : σ 6 0 = 0 ∨ σ 6 0 = 1) (htn : ∀ l, l < m → ∃ t, t < n ∧ σ 12 l = nI t) (hlen : ∀ l, l < m → ∃ g, 1 ≤ g ∧ g ≤ 40 ∧ σ 13 l = nI g) (h2 : 2 ≤ n) (hS : SW τ m) : zM D B xX4_ofKind [.ref p, .int x] h sz (xQ h p sz ik κ (sp_ofKind σ τ ε x)) := by
  have hU : Upd h h p 51 := Upd.rf
  refine zM.of (by decide) rfl (n := 2) ?_
  show Z D B xX4_ofKind 0 0 _ 0 [some (.ref p), some (.int x), none, none] [] h sz
  refine z_iload_n (pc := 0) (zk0 kX4_ofKind_0) rfl ?_
  refine z_rdS (pc := 1) (zk1 kX4_ofKind_0) (st := []) lkX4_109 isX4_noKind (c_noKind) rfl ⟨rfl, rfl⟩ rfl rfl ?_ rfl
  refine z_oif_eq (pc := 4) (zk2 kX4_ofKind_0) (tgt := 14) (by decide) (fun c_1 => ?_) (fun c_1 => ?_)
  · have c_2 : okR 0 5 x = true := by simpa using c_1
    refine z_iconst (pc := 14) (zk7 kX4_ofKind_0) (v := 0) (by decide) ?_
    refine z_istore_n (pc := 15) (zk8 kX4_ofKind_0) rfl rfl ?_
    show Z D B xX4_ofKind _ _ _ 16 [some (.ref p), some (.int x), some (.int 0), none] _ _ _
    refine z_iconst (pc := 16) (zk9 kX4_ofKind_0) (v := 0) (by decide) ?_
    refine z_istore_n (pc := 17) (zk10 kX4_ofKind_0) rfl rfl ?_
    show Z D B xX4_ofKind _ _ _ 18 [some (.ref p), some (.int x), some (.int 0), some (.int 0)] _ _ _
    have lp18 : ∀ (n_ : Nat) (t : Int32) (i : Nat), m - i < n_ → (i ≤ m) → (t = sum0 (fun l => oI (decide (σ 10 l = x))) i) → Z D B xX4_ofKind 0 0 (xQ h p sz ik κ (sp_ofKind σ τ ε x)) 18 [some (.ref p), some (.int x), some (.int t), some (.int (nI i))] [] h sz := by
      intro n_
      induction n_ with
      | zero => intro t i hm_; exact absurd hm_ (Nat.not_lt_zero _)
      | succ n_ ih18 =>
        intro t i hm_ hi_i ht
        refine z_iload_n (pc := 18) (zk11 kX4_ofKind_0) rfl ?_
        refine z_aload_n (pc := 19) (zk12 kX4_ofKind_0) rfl ?_
        refine z_getf (pc := 20) (zk13 kX4_ofKind_0) flX4_10 hX.1 gXo_0 ?_
        refine z_getf (pc := 23) (zk14 kX4_ofKind_0) flX4_272 hL.1 (v := .int (nI m)) (by rw [← hm]; rfl) ?_
        refine z_icmp_ge (pc := 26) (zk15 kX4_ofKind_0) (tgt := 59) (by decide) (fun c_3 => ?_) (fun c_3 => ?_)
        · have hie_i : i = m := nI_ge_yes (a := m) (by omega) (by omega) (by omega) c_3
          refine z_iload_n (pc := 59) (zk0 kX4_ofKind_2) rfl ?_
          exact z_iret (pc := 60) (zk1 kX4_ofKind_2) rfl (Nat.zero_le _) (Nat.zero_le _) (by
                        rw [show sp_ofKind σ τ ε x = (t, σ, τ, ε) from by simp [sp_ofKind, sBad, okS, okH, okL, okT, okB, sRd, up2_id, up2_id2, oI, sOther, sNone, sFull, c_1, c_2, c_3, Int32.not_lt.mpr c_3, ht, hie_i, hsN_eq hn h12, lsN_eq hm h8]]
                        exact ⟨rfl, hX, hL, hK, hU, rfl⟩)
        · have hlt_i : i < m := nI_ge_not (a := m) (by omega) (by omega) c_3
          refine z_iload_n (pc := 29) (zk0 kX4_ofKind_1) rfl ?_
          refine z_aload_n (pc := 30) (zk1 kX4_ofKind_1) rfl ?_
          refine z_getf (pc := 31) (zk2 kX4_ofKind_1) flX4_10 hX.1 gXo_0 ?_
          refine z_getf (pc := 34) (zk3 kX4_ofKind_1) flX4_116 hL.1 gLn_10 ?_
          refine z_iload_n (pc := 37) (zk4 kX4_ofKind_1) rfl ?_
          refine z_ialdN (pc := 38) (zk5 kX4_ofKind_1) (f := σ 10) (j := i) hL.2.2.2.2.2.1 (show i < 8 by omega) rfl ?_
          refine z_iload_n (pc := 39) (zk6 kX4_ofKind_1) rfl ?_
          refine z_icmp_ne (pc := 40) (zk7 kX4_ofKind_1) (tgt := 47) (by decide) (fun c_4 => ?_) (fun c_4 => ?_)
          · refine z_iconst (pc := 47) (zk10 kX4_ofKind_1) (v := 0) (by decide) ?_
            refine z_rdS (pc := 48) (zk11 kX4_ofKind_1) (st := [.int t]) lkX4_166 isX4_asNumber (c_asNumber (b := false)) rfl ⟨rfl, rfl⟩ rfl rfl ?_ rfl
            refine z_iadd (pc := 51) (zk12 kX4_ofKind_1) ?_
            refine z_istore_n (pc := 52) (zk13 kX4_ofKind_1) rfl rfl ?_
            show Z D B xX4_ofKind _ _ _ 53 [some (.ref p), some (.int x), some (.int (t + 0)), some (.int (nI i))] _ _ _
            refine z_iinc (pc := 53) (zk14 kX4_ofKind_1) (v := nI (i + 1)) rfl zinc rfl rfl ?_
            show Z D B xX4_ofKind _ _ _ 56 [some (.ref p), some (.int x), some (.int (t + 0)), some (.int (nI (i + 1)))] _ _ _
            refine z_goto (pc := 56) (zk15 kX4_ofKind_1) (tgt := 18) (by decide) ?_
            exact ih18 (t + 0) (i + 1) (by omega) (by omega) (by rw [ht, sum0]; simp [oI, c_4])
          · refine z_iconst (pc := 43) (zk8 kX4_ofKind_1) (v := 1) (by decide) ?_
            refine z_goto (pc := 44) (zk9 kX4_ofKind_1) (tgt := 48) (by decide) ?_
            refine z_rdS (pc := 48) (zk11 kX4_ofKind_1) (st := [.int t]) lkX4_166 isX4_asNumber (c_asNumber (b := true)) rfl ⟨rfl, rfl⟩ rfl rfl ?_ rfl
            refine z_iadd (pc := 51) (zk12 kX4_ofKind_1) ?_
            refine z_istore_n (pc := 52) (zk13 kX4_ofKind_1) rfl rfl ?_
            show Z D B xX4_ofKind _ _ _ 53 [some (.ref p), some (.int x), some (.int (t + 1)), some (.int (nI i))] _ _ _
            refine z_iinc (pc := 53) (zk14 kX4_ofKind_1) (v := nI (i + 1)) rfl zinc rfl rfl ?_
            show Z D B xX4_ofKind _ _ _ 56 [some (.ref p), some (.int x), some (.int (t + 1)), some (.int (nI (i + 1)))] _ _ _
            refine z_goto (pc := 56) (zk15 kX4_ofKind_1) (tgt := 18) (by decide) ?_
            exact ih18 (t + 1) (i + 1) (by omega) (by omega) (by rw [ht, sum0]; simp [oI, c_4])
    exact lp18 _ 0 0 (Nat.lt_succ_self _) (by omega) rfl
  · have c_5 : okR 0 5 x = false := by simpa using c_1
    refine z_aload_n (pc := 7) (zk3 kX4_ofKind_0) rfl ?_
    refine z_bipush (pc := 8) (zk4 kX4_ofKind_0) (v := (-2)) (by decide) ?_
    refine z_efV (pc := 10) (zk5 kX4_ofKind_0) (st := []) lkX4_56 ivX4_refuse hX.1 rfl rfl (c_xrefuse (i := 0) hX hB (by decide) (by decide) (by decide)) rfl ⟨rfl, rfl⟩ rfl rfl (fun r_ h_7 z_ q_6 => ?_) rfl
    obtain ⟨er_, hR, hU_8, ez_⟩ := q_6
    rw [er_, ez_]
    clear er_ ez_
    replace hL := LnAt.fr hL hU_8 (by omega)
    replace hU := hU.tr hU_8 (by omega) (by omega)
    replace hK := XR.fr hK hU_8 (by omega)
    replace hX := hR; clear hR
    show Z D B xX4_ofKind _ _ _ 13 _ [.int (-2)] _ _
    exact z_iret (pc := 13) (zk6 kX4_ofKind_0) rfl (Nat.zero_le _) (Nat.zero_le _) (by
            rw [show sp_ofKind σ τ ε x = ((-2), σ, (rfN τ 2), ε) from by simp [sp_ofKind, sBad, okS, okH, okL, okT, okB, sRd, up2_id, up2_id2, oI, sOther, sNone, sFull, c_1, c_5]]
            exact ⟨rfl, hX, hL, hK, hU, rfl⟩)
set_option maxRecDepth 20000 in
theorem cX_doubt {D : zD} {B : Nat} {h : zH} {sz : Nat} {p : Nat} {σ κ τ : Ln} {ε : El} {ik : Int32} {x : Int32} {n m : Nat} (hX : XoAt h p ik (rfo τ)) (hL : LnAt h (p + 1) σ) (hK : XR h p κ τ ε) (hB : B ≤ p) (hn : σ 0 0 = nI n) (h12 : n ≤ 12) (hm : σ 9 0 = nI m) (h8 : m ≤ 8) (hbk : σ 6 0 = 0 ∨ σ 6 0 = 1) (htn : ∀ l, l < m → ∃ t, t < n ∧ σ 12 l = nI t) (hlen : ∀ l, l < m → ∃ g, 1 ≤ g ∧ g ≤ 40 ∧ σ 13 l = nI g) (h2 : 2 ≤ n) (hS : SW τ m) : zM D B xX4_doubt [.ref p, .int x] h sz (xQ h p sz ik κ (sp_doubt σ τ ε x)) := by
  have hU : Upd h h p 51 := Upd.rf
  refine zM.of (by decide) rfl (n := 2) ?_
  show Z D B xX4_doubt 0 0 _ 0 [some (.ref p), some (.int x), none, none] [] h sz
  refine z_aload_n (pc := 0) (zk0 kX4_doubt_0) rfl ?_
  refine z_iload_n (pc := 1) (zk1 kX4_doubt_0) rfl ?_
  refine z_rdV (pc := 2) (zk2 kX4_doubt_0) (st := []) lkX4_99 ivX4_noLetter hX.1 rfl rfl (c_noLetter hX hL) rfl ⟨rfl, rfl⟩ rfl rfl ?_ rfl
  refine z_oif_eq (pc := 5) (zk3 kX4_doubt_0) (tgt := 15) (by decide) (fun c_1 => ?_) (fun c_1 => ?_)
  · have c_2 : okR 0 (σ 9 0 - 1) x = true := by simpa using c_1
    obtain ⟨kx, hkx, rfl⟩ := okR_nI (n := m) (by omega) (by rw [← hm]; exact c_2)
    refine z_iconst (pc := 15) (zk8 kX4_doubt_0) (v := 0) (by decide) ?_
    refine z_istore_n (pc := 16) (zk9 kX4_doubt_0) rfl rfl ?_
    show Z D B xX4_doubt _ _ _ 17 [some (.ref p), some (.int (nI kx)), some (.int 0), none] _ _ _
    refine z_iconst (pc := 17) (zk10 kX4_doubt_0) (v := 0) (by decide) ?_
    refine z_istore_n (pc := 18) (zk11 kX4_doubt_0) rfl rfl ?_
    show Z D B xX4_doubt _ _ _ 19 [some (.ref p), some (.int (nI kx)), some (.int 0), some (.int 0)] _ _ _
    have lp19 : ∀ (n_ : Nat) (b : Int32) (i : Nat), n - i < n_ → (i ≤ n) → (b = bitsI (fun k => readB σ kx k) i) → Z D B xX4_doubt 0 0 (xQ h p sz ik κ (sp_doubt σ τ ε (nI kx))) 19 [some (.ref p), some (.int (nI kx)), some (.int b), some (.int (nI i))] [] h sz := by
      intro n_
      induction n_ with
      | zero => intro b i hm_; exact absurd hm_ (Nat.not_lt_zero _)
      | succ n_ ih19 =>
        intro b i hm_ hi_i hb_
        refine z_iload_n (pc := 19) (zk12 kX4_doubt_0) rfl ?_
        refine z_aload_n (pc := 20) (zk13 kX4_doubt_0) rfl ?_
        refine z_getf (pc := 21) (zk14 kX4_doubt_0) flX4_10 hX.1 gXo_0 ?_
        refine z_getf (pc := 24) (zk15 kX4_doubt_0) flX4_129 hL.1 (v := .int (nI n)) (by rw [← hn]; rfl) ?_
        refine z_icmp_ge (pc := 27) (zk0 kX4_doubt_1) (tgt := 54) (by decide) (fun c_3 => ?_) (fun c_3 => ?_)
        · have hie_i : i = n := nI_ge_yes (a := n) (by omega) (by omega) (by omega) c_3
          refine z_iload_n (pc := 54) (zk15 kX4_doubt_1) rfl ?_
          refine z_aload_n (pc := 55) (zk0 kX4_doubt_2) rfl ?_
          refine z_getf (pc := 56) (zk1 kX4_doubt_2) flX4_10 hX.1 gXo_0 ?_
          refine z_iload_n (pc := 59) (zk2 kX4_doubt_2) rfl ?_
          refine z_rdV (pc := 60) (zk3 kX4_doubt_2) (st := [.int b]) lkX4_207 ivX1_knowers hL.1 rfl rfl (c_knowers hL hn h12 (show kx < 8 by omega)) rfl ⟨rfl, rfl⟩ rfl rfl ?_ rfl
          refine z_iconst (pc := 63) (zk4 kX4_doubt_2) (v := (-1)) (by decide) ?_
          refine z_ixor (pc := 64) (zk5 kX4_doubt_2) ?_
          refine z_iand (pc := 65) (zk6 kX4_doubt_2) ?_
          exact z_iret (pc := 66) (zk7 kX4_doubt_2) rfl (Nat.zero_le _) (Nat.zero_le _) (by
                        rw [show sp_doubt σ τ ε (nI kx) = (b &&& ((knowersF σ kx) ^^^ (-1)), σ, τ, ε) from by (have en_ := bits_not (fun k => readB σ kx k) (fun k => knowB σ kx k) (n := n) (by omega); rw [hb_, hie_i, knowersF, hsN_eq hn h12, en_]; simp [sp_doubt, sBad, okS, okH, okL, okT, okB, sRd, up2_id, up2_id2, oI, sOther, sNone, sFull, c_1, c_2, c_3, Int32.not_lt.mpr c_3, ix_nI (show kx ≤ 1000 by omega), hsN_eq hn h12])]
                        exact ⟨rfl, hX, hL, hK, hU, rfl⟩)
        · have hlt_i : i < n := nI_ge_not (a := n) (by omega) (by omega) c_3
          refine z_aload_n (pc := 30) (zk1 kX4_doubt_1) rfl ?_
          refine z_getf (pc := 31) (zk2 kX4_doubt_1) flX4_10 hX.1 gXo_0 ?_
          refine z_iload_n (pc := 34) (zk3 kX4_doubt_1) rfl ?_
          refine z_iload_n (pc := 35) (zk4 kX4_doubt_1) rfl ?_
          refine z_rdV (pc := 36) (zk5 kX4_doubt_1) (st := []) lkX4_204 ivX1_readAt hL.1 rfl rfl (c_readAt hL (show kx < 8 by omega)) rfl ⟨rfl, rfl⟩ rfl rfl ?_ rfl
          refine z_oif_eq (pc := 39) (zk6 kX4_doubt_1) (tgt := 48) (by decide) (fun c_4 => ?_) (fun c_4 => ?_)
          · refine z_iinc (pc := 48) (zk13 kX4_doubt_1) (v := nI (i + 1)) rfl zinc rfl rfl ?_
            show Z D B xX4_doubt _ _ _ 51 [some (.ref p), some (.int (nI kx)), some (.int b), some (.int (nI (i + 1)))] _ _ _
            refine z_goto (pc := 51) (zk14 kX4_doubt_1) (tgt := 19) (by decide) ?_
            exact ih19 b (i + 1) (by omega) (by omega) (by rw [hb_]; exact (bitsI_f (p := (fun k => readB σ kx k)) (by simp [c_1, c_2, c_3, Int32.not_le.mp c_3, c_4])).symm)
          · refine z_iload_n (pc := 42) (zk7 kX4_doubt_1) rfl ?_
            refine z_iconst (pc := 43) (zk8 kX4_doubt_1) (v := 1) (by decide) ?_
            refine z_iload_n (pc := 44) (zk9 kX4_doubt_1) rfl ?_
            refine z_ishl (pc := 45) (zk10 kX4_doubt_1) ?_
            refine z_ior (pc := 46) (zk11 kX4_doubt_1) ?_
            refine z_istore_n (pc := 47) (zk12 kX4_doubt_1) rfl rfl ?_
            show Z D B xX4_doubt _ _ _ 48 [some (.ref p), some (.int (nI kx)), some (.int (b ||| (1 <<< ((nI i) &&& 31)))), some (.int (nI i))] _ _ _
            refine z_iinc (pc := 48) (zk13 kX4_doubt_1) (v := nI (i + 1)) rfl zinc rfl rfl ?_
            show Z D B xX4_doubt _ _ _ 51 [some (.ref p), some (.int (nI kx)), some (.int (b ||| (1 <<< ((nI i) &&& 31)))), some (.int (nI (i + 1)))] _ _ _
            refine z_goto (pc := 51) (zk14 kX4_doubt_1) (tgt := 19) (by decide) ?_
            exact ih19 (b ||| (1 <<< ((nI i) &&& 31))) (i + 1) (by omega) (by omega) (by rw [hb_]; exact (bitsI_t (p := (fun k => readB σ kx k)) (by simp [c_1, c_2, c_3, Int32.not_le.mp c_3, c_4])).symm)
    exact lp19 _ 0 0 (Nat.lt_succ_self _) (by omega) rfl
  · have c_5 : okR 0 (σ 9 0 - 1) x = false := by simpa using c_1
    refine z_aload_n (pc := 8) (zk4 kX4_doubt_0) rfl ?_
    refine z_bipush (pc := 9) (zk5 kX4_doubt_0) (v := (-2)) (by decide) ?_
    refine z_efV (pc := 11) (zk6 kX4_doubt_0) (st := []) lkX4_56 ivX4_refuse hX.1 rfl rfl (c_xrefuse (i := 0) hX hB (by decide) (by decide) (by decide)) rfl ⟨rfl, rfl⟩ rfl rfl (fun r_ h_7 z_ q_6 => ?_) rfl
    obtain ⟨er_, hR, hU_8, ez_⟩ := q_6
    rw [er_, ez_]
    clear er_ ez_
    replace hL := LnAt.fr hL hU_8 (by omega)
    replace hU := hU.tr hU_8 (by omega) (by omega)
    replace hK := XR.fr hK hU_8 (by omega)
    replace hX := hR; clear hR
    show Z D B xX4_doubt _ _ _ 14 _ [.int (-2)] _ _
    exact z_iret (pc := 14) (zk7 kX4_doubt_0) rfl (Nat.zero_le _) (Nat.zero_le _) (by
            rw [show sp_doubt σ τ ε x = ((-2), σ, (rfN τ 2), ε) from by simp [sp_doubt, sBad, okS, okH, okL, okT, okB, sRd, up2_id, up2_id2, oI, sOther, sNone, sFull, c_1, c_5]]
            exact ⟨rfl, hX, hL, hK, hU, rfl⟩)
set_option maxRecDepth 20000 in
theorem cX_reach {D : zD} {B : Nat} {h : zH} {sz : Nat} {p : Nat} {σ κ τ : Ln} {ε : El} {ik : Int32} {x : Int32} {y : Int32} {n m : Nat} (hX : XoAt h p ik (rfo τ)) (hL : LnAt h (p + 1) σ) (hK : XR h p κ τ ε) (hB : B ≤ p) (hn : σ 0 0 = nI n) (h12 : n ≤ 12) (hm : σ 9 0 = nI m) (h8 : m ≤ 8) (hbk : σ 6 0 = 0 ∨ σ 6 0 = 1) (htn : ∀ l, l < m → ∃ t, t < n ∧ σ 12 l = nI t) (hlen : ∀ l, l < m → ∃ g, 1 ≤ g ∧ g ≤ 40 ∧ σ 13 l = nI g) (h2 : 2 ≤ n) (hS : SW τ m) : zM D B xX4_reach [.ref p, .int x, .int y] h sz (xQ h p sz ik κ (sp_reach σ τ ε x y)) := by
  have hU : Upd h h p 51 := Upd.rf
  refine zM.of (by decide) rfl (n := 4) ?_
  show Z D B xX4_reach 0 0 _ 0 [some (.ref p), some (.int x), some (.int y), none, none, none, none] [] h sz
  refine z_aload_n (pc := 0) (zk0 kX4_reach_0) rfl ?_
  refine z_iload_n (pc := 1) (zk1 kX4_reach_0) rfl ?_
  refine z_rdV (pc := 2) (zk2 kX4_reach_0) (st := []) lkX4_99 ivX4_noLetter hX.1 rfl rfl (c_noLetter hX hL) rfl ⟨rfl, rfl⟩ rfl rfl ?_ rfl
  refine z_oif_ne (pc := 5) (zk3 kX4_reach_0) (tgt := 17) (by decide) (fun c_1 => ?_) (fun c_1 => ?_)
  · have c_2 : okR 0 (σ 9 0 - 1) x = false := by simpa using c_1
    refine z_aload_n (pc := 17) (zk9 kX4_reach_0) rfl ?_
    refine z_bipush (pc := 18) (zk10 kX4_reach_0) (v := (-2)) (by decide) ?_
    refine z_efV (pc := 20) (zk11 kX4_reach_0) (st := []) lkX4_56 ivX4_refuse hX.1 rfl rfl (c_xrefuse (i := 0) hX hB (by decide) (by decide) (by decide)) rfl ⟨rfl, rfl⟩ rfl rfl (fun r_ h_4 z_ q_3 => ?_) rfl
    obtain ⟨er_, hR, hU_5, ez_⟩ := q_3
    rw [er_, ez_]
    clear er_ ez_
    replace hL := LnAt.fr hL hU_5 (by omega)
    replace hU := hU.tr hU_5 (by omega) (by omega)
    replace hK := XR.fr hK hU_5 (by omega)
    replace hX := hR; clear hR
    show Z D B xX4_reach _ _ _ 23 _ [.int (-2)] _ _
    exact z_iret (pc := 23) (zk12 kX4_reach_0) rfl (Nat.zero_le _) (Nat.zero_le _) (by
            rw [show sp_reach σ τ ε x y = ((-2), σ, (rfN τ 2), ε) from by simp [sp_reach, sBad, okS, okH, okL, okT, okB, sRd, up2_id, up2_id2, oI, sOther, sNone, sFull, c_1, c_2]]
            exact ⟨rfl, hX, hL, hK, hU, rfl⟩)
  · have c_6 : okR 0 (σ 9 0 - 1) x = true := by simpa using c_1
    refine z_iload_n (pc := 8) (zk4 kX4_reach_0) rfl ?_
    refine z_iconst (pc := 9) (zk5 kX4_reach_0) (v := 0) (by decide) ?_
    refine z_iconst (pc := 10) (zk6 kX4_reach_0) (v := 1) (by decide) ?_
    refine z_rdS (pc := 11) (zk7 kX4_reach_0) (st := []) lkX4_52 isX4_outside (c_outside) rfl ⟨rfl, rfl⟩ rfl rfl ?_ rfl
    refine z_oif_eq (pc := 14) (zk8 kX4_reach_0) (tgt := 24) (by decide) (fun c_7 => ?_) (fun c_7 => ?_)
    · have c_8 : okR 0 1 y = true := by simpa using c_7
      obtain ⟨kx, hkx, rfl⟩ := okR_nI (n := m) (by omega) (by rw [← hm]; exact c_6)
      refine z_iconst (pc := 24) (zk13 kX4_reach_0) (v := 0) (by decide) ?_
      refine z_istore_n (pc := 25) (zk14 kX4_reach_0) rfl rfl ?_
      show Z D B xX4_reach _ _ _ 26 [some (.ref p), some (.int (nI kx)), some (.int y), some (.int 0), none, none, none] _ _ _
      refine z_iconst (pc := 26) (zk15 kX4_reach_0) (v := 0) (by decide) ?_
      refine z_istore (pc := 27) (zk0 kX4_reach_1) rfl rfl ?_
      show Z D B xX4_reach _ _ _ 29 [some (.ref p), some (.int (nI kx)), some (.int y), some (.int 0), some (.int 0), none, none] _ _ _
      refine z_iconst (pc := 29) (zk1 kX4_reach_1) (v := 0) (by decide) ?_
      refine z_istore (pc := 30) (zk2 kX4_reach_1) rfl rfl ?_
      show Z D B xX4_reach _ _ _ 32 [some (.ref p), some (.int (nI kx)), some (.int y), some (.int 0), some (.int 0), some (.int 0), none] _ _ _
      have lp32 : ∀ (n_ : Nat) (a : Int32) (b : Int32) (i : Nat), n - i < n_ → (i ≤ n) → (a = sum0 (fun k => oI (decide (0 < heardF σ kx k))) i) → (b = sum0 (fun k => heardF σ kx k) i) → Z D B xX4_reach 0 0 (xQ h p sz ik κ (sp_reach σ τ ε (nI kx) y)) 32 [some (.ref p), some (.int (nI kx)), some (.int y), some (.int a), some (.int b), some (.int (nI i)), none] [] h sz := by
        intro n_
        induction n_ with
        | zero => intro a b i hm_; exact absurd hm_ (Nat.not_lt_zero _)
        | succ n_ ih32 =>
          intro a b i hm_ hi_i ha_ hb_
          refine z_iload (pc := 32) (zk3 kX4_reach_1) rfl ?_
          refine z_aload_n (pc := 34) (zk4 kX4_reach_1) rfl ?_
          refine z_getf (pc := 35) (zk5 kX4_reach_1) flX4_10 hX.1 gXo_0 ?_
          refine z_getf (pc := 38) (zk6 kX4_reach_1) flX4_129 hL.1 (v := .int (nI n)) (by rw [← hn]; rfl) ?_
          refine z_icmp_ge (pc := 41) (zk7 kX4_reach_1) (tgt := 85) (by decide) (fun c_9 => ?_) (fun c_9 => ?_)
          · have hie_i : i = n := nI_ge_yes (a := n) (by omega) (by omega) (by omega) c_9
            refine z_iload_n (pc := 85) (zk13 kX4_reach_2) rfl ?_
            rcases okR_01 c_8 with rfl | rfl
            · refine z_if_ne (pc := 86) (zk14 kX4_reach_2) (tgt := 93) (by decide) (fun q => absurd (by decide) q) (fun _ => ?_)
              refine z_iload_n (pc := 89) (zk15 kX4_reach_2) rfl ?_
              refine z_goto (pc := 90) (zk0 kX4_reach_3) (tgt := 95) (by decide) ?_
              exact z_iret (pc := 95) (zk2 kX4_reach_3) rfl (Nat.zero_le _) (Nat.zero_le _) (by
                                rw [show sp_reach σ τ ε (nI kx) 0 = (a, σ, τ, ε) from by simp [sp_reach, sBad, okS, okH, okL, okT, okB, sRd, up2_id, up2_id2, oI, sOther, sNone, sFull, c_1, c_6, c_7, c_8, c_9, Int32.not_lt.mpr c_9, ix_nI (show kx ≤ 1000 by omega), ha_, hb_, hie_i, hsN_eq hn h12, lsN_eq hm h8]]
                                exact ⟨rfl, hX, hL, hK, hU, rfl⟩)
            · refine z_if_ne (pc := 86) (zk14 kX4_reach_2) (tgt := 93) (by decide) (fun _ => ?_) (fun q => absurd q (by decide))
              refine z_iload (pc := 93) (zk1 kX4_reach_3) rfl ?_
              exact z_iret (pc := 95) (zk2 kX4_reach_3) rfl (Nat.zero_le _) (Nat.zero_le _) (by
                                rw [show sp_reach σ τ ε (nI kx) 1 = (b, σ, τ, ε) from by simp [sp_reach, sBad, okS, okH, okL, okT, okB, sRd, up2_id, up2_id2, oI, sOther, sNone, sFull, c_1, c_6, c_7, c_8, c_9, Int32.not_lt.mpr c_9, ix_nI (show kx ≤ 1000 by omega), ha_, hb_, hie_i, hsN_eq hn h12, lsN_eq hm h8]]
                                exact ⟨rfl, hX, hL, hK, hU, rfl⟩)
          · have hlt_i : i < n := nI_ge_not (a := n) (by omega) (by omega) c_9
            refine z_aload_n (pc := 44) (zk8 kX4_reach_1) rfl ?_
            refine z_getf (pc := 45) (zk9 kX4_reach_1) flX4_10 hX.1 gXo_0 ?_
            refine z_iload_n (pc := 48) (zk10 kX4_reach_1) rfl ?_
            refine z_iload (pc := 49) (zk11 kX4_reach_1) rfl ?_
            refine z_rdV (pc := 51) (zk12 kX4_reach_1) (st := []) lkX4_125 ivX1_heardAt hL.1 rfl rfl (c_heardAt hL hn h12 (show kx < 8 by omega) (show i < n by omega)) rfl ⟨rfl, rfl⟩ rfl rfl ?_ rfl
            refine z_istore (pc := 54) (zk13 kX4_reach_1) rfl rfl ?_
            show Z D B xX4_reach _ _ _ 56 [some (.ref p), some (.int (nI kx)), some (.int y), some (.int a), some (.int b), some (.int (nI i)), some (.int (heardF σ kx i))] _ _ _
            refine z_iload (pc := 56) (zk14 kX4_reach_1) rfl ?_
            refine z_iload (pc := 58) (zk15 kX4_reach_1) rfl ?_
            refine z_iadd (pc := 60) (zk0 kX4_reach_2) ?_
            refine z_istore (pc := 61) (zk1 kX4_reach_2) rfl rfl ?_
            show Z D B xX4_reach _ _ _ 63 [some (.ref p), some (.int (nI kx)), some (.int y), some (.int a), some (.int (b + (heardF σ kx i))), some (.int (nI i)), some (.int (heardF σ kx i))] _ _ _
            refine z_iload_n (pc := 63) (zk2 kX4_reach_2) rfl ?_
            refine z_iload (pc := 64) (zk3 kX4_reach_2) rfl ?_
            refine z_if_le (pc := 66) (zk4 kX4_reach_2) (tgt := 73) (by decide) (fun c_10 => ?_) (fun c_10 => ?_)
            · refine z_iconst (pc := 73) (zk7 kX4_reach_2) (v := 0) (by decide) ?_
              refine z_rdS (pc := 74) (zk8 kX4_reach_2) (st := [.int a]) lkX4_166 isX4_asNumber (c_asNumber (b := false)) rfl ⟨rfl, rfl⟩ rfl rfl ?_ rfl
              refine z_iadd (pc := 77) (zk9 kX4_reach_2) ?_
              refine z_istore_n (pc := 78) (zk10 kX4_reach_2) rfl rfl ?_
              show Z D B xX4_reach _ _ _ 79 [some (.ref p), some (.int (nI kx)), some (.int y), some (.int (a + 0)), some (.int (b + (heardF σ kx i))), some (.int (nI i)), some (.int (heardF σ kx i))] _ _ _
              refine z_iinc (pc := 79) (zk11 kX4_reach_2) (v := nI (i + 1)) rfl zinc rfl rfl ?_
              show Z D B xX4_reach _ _ _ 82 [some (.ref p), some (.int (nI kx)), some (.int y), some (.int (a + 0)), some (.int (b + (heardF σ kx i))), some (.int (nI (i + 1))), some (.int (heardF σ kx i))] _ _ _
              refine z_goto (pc := 82) (zk12 kX4_reach_2) (tgt := 32) (by decide) ?_
              refine z_kill 6 ?_
              show Z D B xX4_reach _ _ _ 32 [some (.ref p), some (.int (nI kx)), some (.int y), some (.int (a + 0)), some (.int (b + (heardF σ kx i))), some (.int (nI (i + 1))), none] _ _ _
              exact ih32 (a + 0) (b + (heardF σ kx i)) (i + 1) (by omega) (by omega) (by rw [ha_, sum0]; simp [oI, c_10, Int32.not_lt.mpr c_10]) (by rw [hb_]; rfl)
            · refine z_iconst (pc := 69) (zk5 kX4_reach_2) (v := 1) (by decide) ?_
              refine z_goto (pc := 70) (zk6 kX4_reach_2) (tgt := 74) (by decide) ?_
              refine z_rdS (pc := 74) (zk8 kX4_reach_2) (st := [.int a]) lkX4_166 isX4_asNumber (c_asNumber (b := true)) rfl ⟨rfl, rfl⟩ rfl rfl ?_ rfl
              refine z_iadd (pc := 77) (zk9 kX4_reach_2) ?_
              refine z_istore_n (pc := 78) (zk10 kX4_reach_2) rfl rfl ?_
              show Z D B xX4_reach _ _ _ 79 [some (.ref p), some (.int (nI kx)), some (.int y), some (.int (a + 1)), some (.int (b + (heardF σ kx i))), some (.int (nI i)), some (.int (heardF σ kx i))] _ _ _
              refine z_iinc (pc := 79) (zk11 kX4_reach_2) (v := nI (i + 1)) rfl zinc rfl rfl ?_
              show Z D B xX4_reach _ _ _ 82 [some (.ref p), some (.int (nI kx)), some (.int y), some (.int (a + 1)), some (.int (b + (heardF σ kx i))), some (.int (nI (i + 1))), some (.int (heardF σ kx i))] _ _ _
              refine z_goto (pc := 82) (zk12 kX4_reach_2) (tgt := 32) (by decide) ?_
              refine z_kill 6 ?_
              show Z D B xX4_reach _ _ _ 32 [some (.ref p), some (.int (nI kx)), some (.int y), some (.int (a + 1)), some (.int (b + (heardF σ kx i))), some (.int (nI (i + 1))), none] _ _ _
              exact ih32 (a + 1) (b + (heardF σ kx i)) (i + 1) (by omega) (by omega) (by rw [ha_, sum0]; simp [oI, c_10, Int32.not_le.mp c_10]) (by rw [hb_]; rfl)
      exact lp32 _ 0 0 0 (Nat.lt_succ_self _) (by omega) rfl rfl
    · have c_11 : okR 0 1 y = false := by simpa using c_7
      refine z_aload_n (pc := 17) (zk9 kX4_reach_0) rfl ?_
      refine z_bipush (pc := 18) (zk10 kX4_reach_0) (v := (-2)) (by decide) ?_
      refine z_efV (pc := 20) (zk11 kX4_reach_0) (st := []) lkX4_56 ivX4_refuse hX.1 rfl rfl (c_xrefuse (i := 0) hX hB (by decide) (by decide) (by decide)) rfl ⟨rfl, rfl⟩ rfl rfl (fun r_ h_13 z_ q_12 => ?_) rfl
      obtain ⟨er_, hR, hU_14, ez_⟩ := q_12
      rw [er_, ez_]
      clear er_ ez_
      replace hL := LnAt.fr hL hU_14 (by omega)
      replace hU := hU.tr hU_14 (by omega) (by omega)
      replace hK := XR.fr hK hU_14 (by omega)
      replace hX := hR; clear hR
      show Z D B xX4_reach _ _ _ 23 _ [.int (-2)] _ _
      exact z_iret (pc := 23) (zk12 kX4_reach_0) rfl (Nat.zero_le _) (Nat.zero_le _) (by
                rw [show sp_reach σ τ ε x y = ((-2), σ, (rfN τ 2), ε) from by simp [sp_reach, sBad, okS, okH, okL, okT, okB, sRd, up2_id, up2_id2, oI, sOther, sNone, sFull, c_1, c_6, c_7, c_11]]
                exact ⟨rfl, hX, hL, hK, hU, rfl⟩)
set_option maxRecDepth 20000 in
theorem cX_wise {D : zD} {B : Nat} {h : zH} {sz : Nat} {p : Nat} {σ κ τ : Ln} {ε : El} {ik : Int32} {n m : Nat} (hX : XoAt h p ik (rfo τ)) (hL : LnAt h (p + 1) σ) (hK : XR h p κ τ ε) (hB : B ≤ p) (hn : σ 0 0 = nI n) (h12 : n ≤ 12) (hm : σ 9 0 = nI m) (h8 : m ≤ 8) (hbk : σ 6 0 = 0 ∨ σ 6 0 = 1) (htn : ∀ l, l < m → ∃ t, t < n ∧ σ 12 l = nI t) (hlen : ∀ l, l < m → ∃ g, 1 ≤ g ∧ g ≤ 40 ∧ σ 13 l = nI g) (h2 : 2 ≤ n) (hS : SW τ m) : zM D B xX4_wise [.ref p] h sz (xQ h p sz ik κ (sp_wise σ τ ε)) := by
  have hU : Upd h h p 51 := Upd.rf
  refine zM.of (by decide) rfl (n := 3) ?_
  show Z D B xX4_wise 0 0 _ 0 [some (.ref p), none, none, none] [] h sz
  refine z_iconst (pc := 0) (zk0 kX4_wise_0) (v := 0) (by decide) ?_
  refine z_istore_n (pc := 1) (zk1 kX4_wise_0) rfl rfl ?_
  show Z D B xX4_wise _ _ _ 2 [some (.ref p), some (.int 0), none, none] _ _ _
  refine z_iconst (pc := 2) (zk2 kX4_wise_0) (v := 0) (by decide) ?_
  refine z_istore_n (pc := 3) (zk3 kX4_wise_0) rfl rfl ?_
  show Z D B xX4_wise _ _ _ 4 [some (.ref p), some (.int 0), some (.int 0), none] _ _ _
  have lp4 : ∀ (n_ : Nat) (b : Int32) (i : Nat), n - i < n_ → (i ≤ n) → (b = bitsI (fun k => decide (¬ readsF σ k = 0) && decide (readsF σ k &&& (knownF σ k ^^^ -1) = 0)) i) → Z D B xX4_wise 0 0 (xQ h p sz ik κ (sp_wise σ τ ε)) 4 [some (.ref p), some (.int b), some (.int (nI i)), none] [] h sz := by
    intro n_
    induction n_ with
    | zero => intro b i hm_; exact absurd hm_ (Nat.not_lt_zero _)
    | succ n_ ih4 =>
      intro b i hm_ hi_i hb_
      refine z_iload_n (pc := 4) (zk4 kX4_wise_0) rfl ?_
      refine z_aload_n (pc := 5) (zk5 kX4_wise_0) rfl ?_
      refine z_getf (pc := 6) (zk6 kX4_wise_0) flX4_10 hX.1 gXo_0 ?_
      refine z_getf (pc := 9) (zk7 kX4_wise_0) flX4_129 hL.1 (v := .int (nI n)) (by rw [← hn]; rfl) ?_
      refine z_icmp_ge (pc := 12) (zk8 kX4_wise_0) (tgt := 52) (by decide) (fun c_1 => ?_) (fun c_1 => ?_)
      · have hie_i : i = n := nI_ge_yes (a := n) (by omega) (by omega) (by omega) c_1
        refine z_iload_n (pc := 52) (zk14 kX4_wise_1) rfl ?_
        exact z_iret (pc := 53) (zk15 kX4_wise_1) rfl (Nat.zero_le _) (Nat.zero_le _) (by
                    rw [show sp_wise σ τ ε = (b, σ, τ, ε) from by rw [sp_wise, hb_, hie_i, hsN_eq hn h12]]
                    exact ⟨rfl, hX, hL, hK, hU, rfl⟩)
      · have hlt_i : i < n := nI_ge_not (a := n) (by omega) (by omega) c_1
        refine z_aload_n (pc := 15) (zk9 kX4_wise_0) rfl ?_
        refine z_getf (pc := 16) (zk10 kX4_wise_0) flX4_10 hX.1 gXo_0 ?_
        refine z_iload_n (pc := 19) (zk11 kX4_wise_0) rfl ?_
        refine z_rdV (pc := 20) (zk12 kX4_wise_0) (st := []) lkX4_318 ivX1_lettersReadAt hL.1 rfl rfl (c_reads hL hm h8) rfl ⟨rfl, rfl⟩ rfl rfl ?_ rfl
        refine z_istore_n (pc := 23) (zk13 kX4_wise_0) rfl rfl ?_
        show Z D B xX4_wise _ _ _ 24 [some (.ref p), some (.int b), some (.int (nI i)), some (.int (readsF σ i))] _ _ _
        refine z_iload_n (pc := 24) (zk14 kX4_wise_0) rfl ?_
        refine z_if_eq (pc := 25) (zk15 kX4_wise_0) (tgt := 46) (by decide) (fun c_2 => ?_) (fun c_2 => ?_)
        · refine z_iinc (pc := 46) (zk12 kX4_wise_1) (v := nI (i + 1)) rfl zinc rfl rfl ?_
          show Z D B xX4_wise _ _ _ 49 [some (.ref p), some (.int b), some (.int (nI (i + 1))), some (.int (readsF σ i))] _ _ _
          refine z_goto (pc := 49) (zk13 kX4_wise_1) (tgt := 4) (by decide) ?_
          refine z_kill 3 ?_
          show Z D B xX4_wise _ _ _ 4 [some (.ref p), some (.int b), some (.int (nI (i + 1))), none] _ _ _
          exact ih4 b (i + 1) (by omega) (by omega) (by rw [hb_]; exact (bitsI_f (p := (fun k => decide (¬ readsF σ k = 0) && decide (readsF σ k &&& (knownF σ k ^^^ -1) = 0))) (by rw [decide_eq_false (show ¬ ¬ readsF σ i = 0 from fun q => q c_2)]; rfl)).symm)
        · refine z_aload_n (pc := 28) (zk0 kX4_wise_1) rfl ?_
          refine z_getf (pc := 29) (zk1 kX4_wise_1) flX4_10 hX.1 gXo_0 ?_
          refine z_iload_n (pc := 32) (zk2 kX4_wise_1) rfl ?_
          refine z_rdV (pc := 33) (zk3 kX4_wise_1) (st := []) lkX4_210 ivX1_knownAt hL.1 rfl rfl (c_knownAt hL hn h12 hm h8 (show i < n by omega)) rfl ⟨rfl, rfl⟩ rfl rfl ?_ rfl
          refine z_iload_n (pc := 36) (zk4 kX4_wise_1) rfl ?_
          refine z_icmp_ne (pc := 37) (zk5 kX4_wise_1) (tgt := 46) (by decide) (fun c_3 => ?_) (fun c_3 => ?_)
          · refine z_iinc (pc := 46) (zk12 kX4_wise_1) (v := nI (i + 1)) rfl zinc rfl rfl ?_
            show Z D B xX4_wise _ _ _ 49 [some (.ref p), some (.int b), some (.int (nI (i + 1))), some (.int (readsF σ i))] _ _ _
            refine z_goto (pc := 49) (zk13 kX4_wise_1) (tgt := 4) (by decide) ?_
            refine z_kill 3 ?_
            show Z D B xX4_wise _ _ _ 4 [some (.ref p), some (.int b), some (.int (nI (i + 1))), none] _ _ _
            exact ih4 b (i + 1) (by omega) (by omega) (by rw [hb_]; exact (bitsI_f (p := (fun k => decide (¬ readsF σ k = 0) && decide (readsF σ k &&& (knownF σ k ^^^ -1) = 0))) (by rw [decide_eq_false (fun q => c_3 ((wise_eq hm h8 hlen).mp q)), Bool.and_false])).symm)
          · refine z_iload_n (pc := 40) (zk6 kX4_wise_1) rfl ?_
            refine z_iconst (pc := 41) (zk7 kX4_wise_1) (v := 1) (by decide) ?_
            refine z_iload_n (pc := 42) (zk8 kX4_wise_1) rfl ?_
            refine z_ishl (pc := 43) (zk9 kX4_wise_1) ?_
            refine z_ior (pc := 44) (zk10 kX4_wise_1) ?_
            refine z_istore_n (pc := 45) (zk11 kX4_wise_1) rfl rfl ?_
            show Z D B xX4_wise _ _ _ 46 [some (.ref p), some (.int (b ||| (1 <<< ((nI i) &&& 31)))), some (.int (nI i)), some (.int (readsF σ i))] _ _ _
            refine z_iinc (pc := 46) (zk12 kX4_wise_1) (v := nI (i + 1)) rfl zinc rfl rfl ?_
            show Z D B xX4_wise _ _ _ 49 [some (.ref p), some (.int (b ||| (1 <<< ((nI i) &&& 31)))), some (.int (nI (i + 1))), some (.int (readsF σ i))] _ _ _
            refine z_goto (pc := 49) (zk13 kX4_wise_1) (tgt := 4) (by decide) ?_
            refine z_kill 3 ?_
            show Z D B xX4_wise _ _ _ 4 [some (.ref p), some (.int (b ||| (1 <<< ((nI i) &&& 31)))), some (.int (nI (i + 1))), none] _ _ _
            exact ih4 (b ||| (1 <<< ((nI i) &&& 31))) (i + 1) (by omega) (by omega) (by rw [hb_]; exact (bitsI_t (p := (fun k => decide (¬ readsF σ k = 0) && decide (readsF σ k &&& (knownF σ k ^^^ -1) = 0))) (by rw [decide_eq_true c_2, decide_eq_true ((wise_eq hm h8 hlen).mpr c_3)]; rfl)).symm)
  exact lp4 _ 0 0 (Nat.lt_succ_self _) (by omega) rfl
set_option maxRecDepth 20000 in
theorem cX_secret {D : zD} {B : Nat} {h : zH} {sz : Nat} {p : Nat} {σ κ τ : Ln} {ε : El} {ik : Int32} {n m : Nat} (hX : XoAt h p ik (rfo τ)) (hL : LnAt h (p + 1) σ) (hK : XR h p κ τ ε) (hB : B ≤ p) (hn : σ 0 0 = nI n) (h12 : n ≤ 12) (hm : σ 9 0 = nI m) (h8 : m ≤ 8) (hbk : σ 6 0 = 0 ∨ σ 6 0 = 1) (htn : ∀ l, l < m → ∃ t, t < n ∧ σ 12 l = nI t) (hlen : ∀ l, l < m → ∃ g, 1 ≤ g ∧ g ≤ 40 ∧ σ 13 l = nI g) (h2 : 2 ≤ n) (hS : SW τ m) : zM D B xX4_secret [.ref p] h sz (xQ h p sz ik κ (sp_secret σ τ ε)) := by
  have hU : Upd h h p 51 := Upd.rf
  refine zM.of (by decide) rfl (n := 2) ?_
  show Z D B xX4_secret 0 0 _ 0 [some (.ref p), none, none] [] h sz
  refine z_iconst (pc := 0) (zk0 kX4_secret_0) (v := 0) (by decide) ?_
  refine z_istore_n (pc := 1) (zk1 kX4_secret_0) rfl rfl ?_
  show Z D B xX4_secret _ _ _ 2 [some (.ref p), some (.int 0), none] _ _ _
  refine z_iconst (pc := 2) (zk2 kX4_secret_0) (v := 0) (by decide) ?_
  refine z_istore_n (pc := 3) (zk3 kX4_secret_0) rfl rfl ?_
  show Z D B xX4_secret _ _ _ 4 [some (.ref p), some (.int 0), some (.int 0)] _ _ _
  have lp4 : ∀ (n_ : Nat) (b : Int32) (i : Nat), m - i < n_ → (i ≤ m) → (b = bitsI (fun l => decide (knowersF σ l = 1 <<< (σ 12 l &&& 31))) i) → Z D B xX4_secret 0 0 (xQ h p sz ik κ (sp_secret σ τ ε)) 4 [some (.ref p), some (.int b), some (.int (nI i))] [] h sz := by
    intro n_
    induction n_ with
    | zero => intro b i hm_; exact absurd hm_ (Nat.not_lt_zero _)
    | succ n_ ih4 =>
      intro b i hm_ hi_i hb_
      refine z_iload_n (pc := 4) (zk4 kX4_secret_0) rfl ?_
      refine z_aload_n (pc := 5) (zk5 kX4_secret_0) rfl ?_
      refine z_getf (pc := 6) (zk6 kX4_secret_0) flX4_10 hX.1 gXo_0 ?_
      refine z_getf (pc := 9) (zk7 kX4_secret_0) flX4_272 hL.1 (v := .int (nI m)) (by rw [← hm]; rfl) ?_
      refine z_icmp_ge (pc := 12) (zk8 kX4_secret_0) (tgt := 49) (by decide) (fun c_1 => ?_) (fun c_1 => ?_)
      · have hie_i : i = m := nI_ge_yes (a := m) (by omega) (by omega) (by omega) c_1
        refine z_iload_n (pc := 49) (zk13 kX4_secret_1) rfl ?_
        exact z_iret (pc := 50) (zk14 kX4_secret_1) rfl (Nat.zero_le _) (Nat.zero_le _) (by
                    rw [show sp_secret σ τ ε = (b, σ, τ, ε) from by rw [sp_secret, hb_, hie_i, lsN_eq hm h8]]
                    exact ⟨rfl, hX, hL, hK, hU, rfl⟩)
      · have hlt_i : i < m := nI_ge_not (a := m) (by omega) (by omega) c_1
        refine z_aload_n (pc := 15) (zk9 kX4_secret_0) rfl ?_
        refine z_getf (pc := 16) (zk10 kX4_secret_0) flX4_10 hX.1 gXo_0 ?_
        refine z_iload_n (pc := 19) (zk11 kX4_secret_0) rfl ?_
        refine z_rdV (pc := 20) (zk12 kX4_secret_0) (st := []) lkX4_207 ivX1_knowers hL.1 rfl rfl (c_knowers hL hn h12 (show i < 8 by omega)) rfl ⟨rfl, rfl⟩ rfl rfl ?_ rfl
        refine z_iconst (pc := 23) (zk13 kX4_secret_0) (v := 1) (by decide) ?_
        refine z_aload_n (pc := 24) (zk14 kX4_secret_0) rfl ?_
        refine z_getf (pc := 25) (zk15 kX4_secret_0) flX4_10 hX.1 gXo_0 ?_
        refine z_getf (pc := 28) (zk0 kX4_secret_1) flX4_142 hL.1 gLn_12 ?_
        refine z_iload_n (pc := 31) (zk1 kX4_secret_1) rfl ?_
        refine z_ialdN (pc := 32) (zk2 kX4_secret_1) (f := σ 12) (j := i) hL.2.2.2.2.2.2.2.1 (show i < 8 by omega) rfl ?_
        refine z_ishl (pc := 33) (zk3 kX4_secret_1) ?_
        refine z_icmp_ne (pc := 34) (zk4 kX4_secret_1) (tgt := 43) (by decide) (fun c_2 => ?_) (fun c_2 => ?_)
        · refine z_iinc (pc := 43) (zk11 kX4_secret_1) (v := nI (i + 1)) rfl zinc rfl rfl ?_
          show Z D B xX4_secret _ _ _ 46 [some (.ref p), some (.int b), some (.int (nI (i + 1)))] _ _ _
          refine z_goto (pc := 46) (zk12 kX4_secret_1) (tgt := 4) (by decide) ?_
          exact ih4 b (i + 1) (by omega) (by omega) (by rw [hb_]; exact (bitsI_f (p := (fun l => decide (knowersF σ l = 1 <<< (σ 12 l &&& 31)))) (by simp [c_1, Int32.not_le.mp c_1, c_2])).symm)
        · refine z_iload_n (pc := 37) (zk5 kX4_secret_1) rfl ?_
          refine z_iconst (pc := 38) (zk6 kX4_secret_1) (v := 1) (by decide) ?_
          refine z_iload_n (pc := 39) (zk7 kX4_secret_1) rfl ?_
          refine z_ishl (pc := 40) (zk8 kX4_secret_1) ?_
          refine z_ior (pc := 41) (zk9 kX4_secret_1) ?_
          refine z_istore_n (pc := 42) (zk10 kX4_secret_1) rfl rfl ?_
          show Z D B xX4_secret _ _ _ 43 [some (.ref p), some (.int (b ||| (1 <<< ((nI i) &&& 31)))), some (.int (nI i))] _ _ _
          refine z_iinc (pc := 43) (zk11 kX4_secret_1) (v := nI (i + 1)) rfl zinc rfl rfl ?_
          show Z D B xX4_secret _ _ _ 46 [some (.ref p), some (.int (b ||| (1 <<< ((nI i) &&& 31)))), some (.int (nI (i + 1)))] _ _ _
          refine z_goto (pc := 46) (zk12 kX4_secret_1) (tgt := 4) (by decide) ?_
          exact ih4 (b ||| (1 <<< ((nI i) &&& 31))) (i + 1) (by omega) (by omega) (by rw [hb_]; exact (bitsI_t (p := (fun l => decide (knowersF σ l = 1 <<< (σ 12 l &&& 31)))) (by simp [c_1, Int32.not_le.mp c_1, c_2])).symm)
  exact lp4 _ 0 0 (Nat.lt_succ_self _) (by omega) rfl
set_option maxRecDepth 20000 in
theorem cX_lost {D : zD} {B : Nat} {h : zH} {sz : Nat} {p : Nat} {σ κ τ : Ln} {ε : El} {ik : Int32} {n m : Nat} (hX : XoAt h p ik (rfo τ)) (hL : LnAt h (p + 1) σ) (hK : XR h p κ τ ε) (hB : B ≤ p) (hn : σ 0 0 = nI n) (h12 : n ≤ 12) (hm : σ 9 0 = nI m) (h8 : m ≤ 8) (hbk : σ 6 0 = 0 ∨ σ 6 0 = 1) (htn : ∀ l, l < m → ∃ t, t < n ∧ σ 12 l = nI t) (hlen : ∀ l, l < m → ∃ g, 1 ≤ g ∧ g ≤ 40 ∧ σ 13 l = nI g) (h2 : 2 ≤ n) (hS : SW τ m) : zM D B xX4_lost [.ref p] h sz (xQ h p sz ik κ (sp_lost σ τ ε)) := by
  have hU : Upd h h p 51 := Upd.rf
  refine zM.of (by decide) rfl (n := 2) ?_
  show Z D B xX4_lost 0 0 _ 0 [some (.ref p), none, none] [] h sz
  refine z_iconst (pc := 0) (zk0 kX4_lost_0) (v := 0) (by decide) ?_
  refine z_istore_n (pc := 1) (zk1 kX4_lost_0) rfl rfl ?_
  show Z D B xX4_lost _ _ _ 2 [some (.ref p), some (.int 0), none] _ _ _
  refine z_iconst (pc := 2) (zk2 kX4_lost_0) (v := 0) (by decide) ?_
  refine z_istore_n (pc := 3) (zk3 kX4_lost_0) rfl rfl ?_
  show Z D B xX4_lost _ _ _ 4 [some (.ref p), some (.int 0), some (.int 0)] _ _ _
  have lp4 : ∀ (n_ : Nat) (b : Int32) (i : Nat), m - i < n_ → (i ≤ m) → (b = bitsI (fun l => !knowB σ l (ix (σ 12 l))) i) → Z D B xX4_lost 0 0 (xQ h p sz ik κ (sp_lost σ τ ε)) 4 [some (.ref p), some (.int b), some (.int (nI i))] [] h sz := by
    intro n_
    induction n_ with
    | zero => intro b i hm_; exact absurd hm_ (Nat.not_lt_zero _)
    | succ n_ ih4 =>
      intro b i hm_ hi_i hb_
      refine z_iload_n (pc := 4) (zk4 kX4_lost_0) rfl ?_
      refine z_aload_n (pc := 5) (zk5 kX4_lost_0) rfl ?_
      refine z_getf (pc := 6) (zk6 kX4_lost_0) flX4_10 hX.1 gXo_0 ?_
      refine z_getf (pc := 9) (zk7 kX4_lost_0) flX4_272 hL.1 (v := .int (nI m)) (by rw [← hm]; rfl) ?_
      refine z_icmp_ge (pc := 12) (zk8 kX4_lost_0) (tgt := 47) (by decide) (fun c_1 => ?_) (fun c_1 => ?_)
      · have hie_i : i = m := nI_ge_yes (a := m) (by omega) (by omega) (by omega) c_1
        refine z_iload_n (pc := 47) (zk11 kX4_lost_1) rfl ?_
        exact z_iret (pc := 48) (zk12 kX4_lost_1) rfl (Nat.zero_le _) (Nat.zero_le _) (by
                    rw [show sp_lost σ τ ε = (b, σ, τ, ε) from by rw [sp_lost, hb_, hie_i, lsN_eq hm h8]]
                    exact ⟨rfl, hX, hL, hK, hU, rfl⟩)
      · have hlt_i : i < m := nI_ge_not (a := m) (by omega) (by omega) c_1
        refine z_aload_n (pc := 15) (zk9 kX4_lost_0) rfl ?_
        refine z_getf (pc := 16) (zk10 kX4_lost_0) flX4_10 hX.1 gXo_0 ?_
        refine z_iload_n (pc := 19) (zk11 kX4_lost_0) rfl ?_
        refine z_aload_n (pc := 20) (zk12 kX4_lost_0) rfl ?_
        refine z_getf (pc := 21) (zk13 kX4_lost_0) flX4_10 hX.1 gXo_0 ?_
        refine z_getf (pc := 24) (zk14 kX4_lost_0) flX4_142 hL.1 gLn_12 ?_
        refine z_iload_n (pc := 27) (zk15 kX4_lost_0) rfl ?_
        refine z_ialdN (pc := 28) (zk0 kX4_lost_1) (f := σ 12) (j := i) hL.2.2.2.2.2.2.2.1 (show i < 8 by omega) rfl ?_
        obtain ⟨t_, ht_, et_⟩ := htn i hlt_i
        refine z_top (congrArg Value.int et_) ?_
        refine z_rdV (pc := 29) (zk1 kX4_lost_1) (st := []) lkX4_321 ivX1_isKnown hL.1 rfl rfl (c_isKnown hL hn h12 (show i < 8 by omega) (show t_ < n by omega)) rfl ⟨rfl, rfl⟩ rfl rfl ?_ rfl
        refine z_oif_ne (pc := 32) (zk2 kX4_lost_1) (tgt := 41) (by decide) (fun c_2 => ?_) (fun c_2 => ?_)
        · refine z_iinc (pc := 41) (zk9 kX4_lost_1) (v := nI (i + 1)) rfl zinc rfl rfl ?_
          show Z D B xX4_lost _ _ _ 44 [some (.ref p), some (.int b), some (.int (nI (i + 1)))] _ _ _
          refine z_goto (pc := 44) (zk10 kX4_lost_1) (tgt := 4) (by decide) ?_
          exact ih4 b (i + 1) (by omega) (by omega) (by rw [hb_]; exact (bitsI_f (p := (fun l => !knowB σ l (ix (σ 12 l)))) (by simp [et_, ix_nI (show t_ ≤ 1000 by omega), c_2])).symm)
        · refine z_iload_n (pc := 35) (zk3 kX4_lost_1) rfl ?_
          refine z_iconst (pc := 36) (zk4 kX4_lost_1) (v := 1) (by decide) ?_
          refine z_iload_n (pc := 37) (zk5 kX4_lost_1) rfl ?_
          refine z_ishl (pc := 38) (zk6 kX4_lost_1) ?_
          refine z_ior (pc := 39) (zk7 kX4_lost_1) ?_
          refine z_istore_n (pc := 40) (zk8 kX4_lost_1) rfl rfl ?_
          show Z D B xX4_lost _ _ _ 41 [some (.ref p), some (.int (b ||| (1 <<< ((nI i) &&& 31)))), some (.int (nI i))] _ _ _
          refine z_iinc (pc := 41) (zk9 kX4_lost_1) (v := nI (i + 1)) rfl zinc rfl rfl ?_
          show Z D B xX4_lost _ _ _ 44 [some (.ref p), some (.int (b ||| (1 <<< ((nI i) &&& 31)))), some (.int (nI (i + 1)))] _ _ _
          refine z_goto (pc := 44) (zk10 kX4_lost_1) (tgt := 4) (by decide) ?_
          exact ih4 (b ||| (1 <<< ((nI i) &&& 31))) (i + 1) (by omega) (by omega) (by rw [hb_]; exact (bitsI_t (p := (fun l => !knowB σ l (ix (σ 12 l)))) (by simp [et_, ix_nI (show t_ ≤ 1000 by omega), c_2])).symm)
  exact lp4 _ 0 0 (Nat.lt_succ_self _) (by omega) rfl
set_option maxRecDepth 20000 in
theorem cX_lacks {D : zD} {B : Nat} {h : zH} {sz : Nat} {p : Nat} {σ κ τ : Ln} {ε : El} {ik : Int32} {x : Int32} {y : Int32} {n m : Nat} (hX : XoAt h p ik (rfo τ)) (hL : LnAt h (p + 1) σ) (hK : XR h p κ τ ε) (hB : B ≤ p) (hn : σ 0 0 = nI n) (h12 : n ≤ 12) (hm : σ 9 0 = nI m) (h8 : m ≤ 8) (hbk : σ 6 0 = 0 ∨ σ 6 0 = 1) (htn : ∀ l, l < m → ∃ t, t < n ∧ σ 12 l = nI t) (hlen : ∀ l, l < m → ∃ g, 1 ≤ g ∧ g ≤ 40 ∧ σ 13 l = nI g) (h2 : 2 ≤ n) (hS : SW τ m) : zM D B xX4_lacks [.ref p, .int x, .int y] h sz (xQ h p sz ik κ (sp_lacks σ τ ε x y)) := by
  have hU : Upd h h p 51 := Upd.rf
  refine zM.of (by decide) rfl (n := 1) ?_
  show Z D B xX4_lacks 0 0 _ 0 [some (.ref p), some (.int x), some (.int y), none] [] h sz
  refine z_aload_n (pc := 0) (zk0 kX4_lacks_0) rfl ?_
  refine z_iload_n (pc := 1) (zk1 kX4_lacks_0) rfl ?_
  refine z_rdV (pc := 2) (zk2 kX4_lacks_0) (st := []) lkX4_99 ivX4_noLetter hX.1 rfl rfl (c_noLetter hX hL) rfl ⟨rfl, rfl⟩ rfl rfl ?_ rfl
  refine z_oif_ne (pc := 5) (zk3 kX4_lacks_0) (tgt := 16) (by decide) (fun c_1 => ?_) (fun c_1 => ?_)
  · have c_2 : okR 0 (σ 9 0 - 1) x = false := by simpa using c_1
    refine z_aload_n (pc := 16) (zk8 kX4_lacks_0) rfl ?_
    refine z_bipush (pc := 17) (zk9 kX4_lacks_0) (v := (-2)) (by decide) ?_
    refine z_efV (pc := 19) (zk10 kX4_lacks_0) (st := []) lkX4_56 ivX4_refuse hX.1 rfl rfl (c_xrefuse (i := 0) hX hB (by decide) (by decide) (by decide)) rfl ⟨rfl, rfl⟩ rfl rfl (fun r_ h_4 z_ q_3 => ?_) rfl
    obtain ⟨er_, hR, hU_5, ez_⟩ := q_3
    rw [er_, ez_]
    clear er_ ez_
    replace hL := LnAt.fr hL hU_5 (by omega)
    replace hU := hU.tr hU_5 (by omega) (by omega)
    replace hK := XR.fr hK hU_5 (by omega)
    replace hX := hR; clear hR
    show Z D B xX4_lacks _ _ _ 22 _ [.int (-2)] _ _
    exact z_iret (pc := 22) (zk11 kX4_lacks_0) rfl (Nat.zero_le _) (Nat.zero_le _) (by
            rw [show sp_lacks σ τ ε x y = ((-2), σ, (rfN τ 2), ε) from by simp [sp_lacks, sBad, okS, okH, okL, okT, okB, sRd, up2_id, up2_id2, oI, sOther, sNone, sFull, c_1, c_2]]
            exact ⟨rfl, hX, hL, hK, hU, rfl⟩)
  · have c_6 : okR 0 (σ 9 0 - 1) x = true := by simpa using c_1
    refine z_aload_n (pc := 8) (zk4 kX4_lacks_0) rfl ?_
    refine z_iload_n (pc := 9) (zk5 kX4_lacks_0) rfl ?_
    refine z_rdV (pc := 10) (zk6 kX4_lacks_0) (st := []) lkX4_132 ivX4_noHouse hX.1 rfl rfl (c_noHouse hX hL) rfl ⟨rfl, rfl⟩ rfl rfl ?_ rfl
    refine z_oif_eq (pc := 13) (zk7 kX4_lacks_0) (tgt := 23) (by decide) (fun c_7 => ?_) (fun c_7 => ?_)
    · have c_8 : okR 0 (σ 0 0 - 1) y = true := by simpa using c_7
      refine z_aload_n (pc := 23) (zk12 kX4_lacks_0) rfl ?_
      refine z_getf (pc := 24) (zk13 kX4_lacks_0) flX4_10 hX.1 gXo_0 ?_
      refine z_getf (pc := 27) (zk14 kX4_lacks_0) flX4_145 hL.1 gLn_13 ?_
      refine z_iload_n (pc := 30) (zk15 kX4_lacks_0) rfl ?_
      obtain ⟨kx, hkx, rfl⟩ := okR_nI (n := m) (by omega) (by rw [← hm]; exact c_6)
      refine z_ialdN (pc := 31) (zk0 kX4_lacks_1) (f := σ 13) (j := kx) hL.2.2.2.2.2.2.2.2 (show kx < 8 by omega) rfl ?_
      refine z_iconst (pc := 32) (zk1 kX4_lacks_1) (v := 1) (by decide) ?_
      refine z_iadd (pc := 33) (zk2 kX4_lacks_1) ?_
      refine z_iconst (pc := 34) (zk3 kX4_lacks_1) (v := 2) (by decide) ?_
      refine z_idiv (pc := 35) (zk4 kX4_lacks_1) (by decide) ?_
      refine z_istore_n (pc := 36) (zk5 kX4_lacks_1) rfl rfl ?_
      show Z D B xX4_lacks _ _ _ 37 [some (.ref p), some (.int (nI kx)), some (.int y), some (.int (((σ 13 kx) + 1) / 2))] _ _ _
      refine z_iconst (pc := 37) (zk6 kX4_lacks_1) (v := 0) (by decide) ?_
      refine z_iload_n (pc := 38) (zk7 kX4_lacks_1) rfl ?_
      refine z_aload_n (pc := 39) (zk8 kX4_lacks_1) rfl ?_
      refine z_getf (pc := 40) (zk9 kX4_lacks_1) flX4_10 hX.1 gXo_0 ?_
      refine z_iload_n (pc := 43) (zk10 kX4_lacks_1) rfl ?_
      refine z_iload_n (pc := 44) (zk11 kX4_lacks_1) rfl ?_
      obtain ⟨ky, hky, rfl⟩ := okR_nI (n := n) (by omega) (by rw [← hn]; exact c_8)
      refine z_rdV (pc := 45) (zk12 kX4_lacks_1) (st := [.int (((σ 13 kx) + 1) / 2), .int 0]) lkX4_125 ivX1_heardAt hL.1 rfl rfl (c_heardAt hL hn h12 (show kx < 8 by omega) (show ky < n by omega)) rfl ⟨rfl, rfl⟩ rfl rfl ?_ rfl
      refine z_isub (pc := 48) (zk13 kX4_lacks_1) ?_
      refine z_mmax (pc := 49) (zk14 kX4_lacks_1) mmX4_324 rfl rfl (Nat.zero_le _) (Nat.zero_le _) ?_
      exact z_iret (pc := 52) (zk15 kX4_lacks_1) rfl (Nat.zero_le _) (Nat.zero_le _) (by
                rw [show sp_lacks σ τ ε (nI kx) (nI ky) = (if 0 < ((((σ 13 kx) + 1) / 2) - (heardF σ kx ky)) then ((((σ 13 kx) + 1) / 2) - (heardF σ kx ky)) else 0, σ, τ, ε) from by simp [sp_lacks, ← lack_eq hlen (show kx < m by omega), sBad, okS, okH, okL, okT, okB, sRd, up2_id, up2_id2, oI, sOther, sNone, sFull, c_1, c_6, c_7, c_8, ix_nI (show kx ≤ 1000 by omega), ix_nI (show ky ≤ 1000 by omega)]]
                exact ⟨rfl, hX, hL, hK, hU, rfl⟩)
    · have c_9 : okR 0 (σ 0 0 - 1) y = false := by simpa using c_7
      refine z_aload_n (pc := 16) (zk8 kX4_lacks_0) rfl ?_
      refine z_bipush (pc := 17) (zk9 kX4_lacks_0) (v := (-2)) (by decide) ?_
      refine z_efV (pc := 19) (zk10 kX4_lacks_0) (st := []) lkX4_56 ivX4_refuse hX.1 rfl rfl (c_xrefuse (i := 0) hX hB (by decide) (by decide) (by decide)) rfl ⟨rfl, rfl⟩ rfl rfl (fun r_ h_11 z_ q_10 => ?_) rfl
      obtain ⟨er_, hR, hU_12, ez_⟩ := q_10
      rw [er_, ez_]
      clear er_ ez_
      replace hL := LnAt.fr hL hU_12 (by omega)
      replace hU := hU.tr hU_12 (by omega) (by omega)
      replace hK := XR.fr hK hU_12 (by omega)
      replace hX := hR; clear hR
      show Z D B xX4_lacks _ _ _ 22 _ [.int (-2)] _ _
      exact z_iret (pc := 22) (zk11 kX4_lacks_0) rfl (Nat.zero_le _) (Nat.zero_le _) (by
                rw [show sp_lacks σ τ ε x y = ((-2), σ, (rfN τ 2), ε) from by simp [sp_lacks, sBad, okS, okH, okL, okT, okB, sRd, up2_id, up2_id2, oI, sOther, sNone, sFull, c_1, c_6, c_7, c_9]]
                exact ⟨rfl, hX, hL, hK, hU, rfl⟩)
set_option maxRecDepth 20000 in
theorem cX_gossips {D : zD} {B : Nat} {h : zH} {sz : Nat} {p : Nat} {σ κ τ : Ln} {ε : El} {ik : Int32} {n m : Nat} (hX : XoAt h p ik (rfo τ)) (hL : LnAt h (p + 1) σ) (hK : XR h p κ τ ε) (hB : B ≤ p) (hn : σ 0 0 = nI n) (h12 : n ≤ 12) (hm : σ 9 0 = nI m) (h8 : m ≤ 8) (hbk : σ 6 0 = 0 ∨ σ 6 0 = 1) (htn : ∀ l, l < m → ∃ t, t < n ∧ σ 12 l = nI t) (hlen : ∀ l, l < m → ∃ g, 1 ≤ g ∧ g ≤ 40 ∧ σ 13 l = nI g) (h2 : 2 ≤ n) (hS : SW τ m) : zM D B xX4_gossips [.ref p] h sz (xQ h p sz ik κ (sp_gossips σ τ ε)) := by
  have hU : Upd h h p 51 := Upd.rf
  refine zM.of (by decide) rfl (n := 6) ?_
  show Z D B xX4_gossips 0 0 _ 0 [some (.ref p), none, none, none, none, none, none] [] h sz
  refine z_iconst (pc := 0) (zk0 kX4_gossips_0) (v := 0) (by decide) ?_
  refine z_istore_n (pc := 1) (zk1 kX4_gossips_0) rfl rfl ?_
  show Z D B xX4_gossips _ _ _ 2 [some (.ref p), some (.int 0), none, none, none, none, none] _ _ _
  refine z_iconst (pc := 2) (zk2 kX4_gossips_0) (v := (-1)) (by decide) ?_
  refine z_istore_n (pc := 3) (zk3 kX4_gossips_0) rfl rfl ?_
  show Z D B xX4_gossips _ _ _ 4 [some (.ref p), some (.int 0), some (.int (-1)), none, none, none, none] _ _ _
  refine z_iconst (pc := 4) (zk4 kX4_gossips_0) (v := 0) (by decide) ?_
  refine z_istore_n (pc := 5) (zk5 kX4_gossips_0) rfl rfl ?_
  show Z D B xX4_gossips _ _ _ 6 [some (.ref p), some (.int 0), some (.int (-1)), some (.int 0), none, none, none] _ _ _
  have lp6 : ∀ (n_ : Nat) (a : Int32) (b : Int32) (i : Nat), n - i < n_ → (i ≤ n) → (a = (gosO σ n i).2) → (b = (gosO σ n i).1) → Z D B xX4_gossips 0 0 (xQ h p sz ik κ (sp_gossips σ τ ε)) 6 [some (.ref p), some (.int b), some (.int a), some (.int (nI i)), none, none, none] [] h sz := by
    intro n_
    induction n_ with
    | zero => intro a b i hm_; exact absurd hm_ (Nat.not_lt_zero _)
    | succ n_ ih6 =>
      intro a b i hm_ hi_i ha_ hb_
      refine z_iload_n (pc := 6) (zk6 kX4_gossips_0) rfl ?_
      refine z_aload_n (pc := 7) (zk7 kX4_gossips_0) rfl ?_
      refine z_getf (pc := 8) (zk8 kX4_gossips_0) flX4_10 hX.1 gXo_0 ?_
      refine z_getf (pc := 11) (zk9 kX4_gossips_0) flX4_129 hL.1 (v := .int (nI n)) (by rw [← hn]; rfl) ?_
      refine z_icmp_ge (pc := 14) (zk10 kX4_gossips_0) (tgt := 90) (by decide) (fun c_1 => ?_) (fun c_1 => ?_)
      · have hie_i : i = n := nI_ge_yes (a := n) (by omega) (by omega) (by omega) c_1
        refine z_iload_n (pc := 90) (zk0 kX4_gossips_3) rfl ?_
        exact z_iret (pc := 91) (zk1 kX4_gossips_3) rfl (Nat.zero_le _) (Nat.zero_le _) (by
                    rw [show sp_gossips σ τ ε = (a, σ, τ, ε) from by rw [sp_gossips, hsN_eq hn h12, ha_, hie_i]]
                    exact ⟨rfl, hX, hL, hK, hU, rfl⟩)
      · have hlt_i : i < n := nI_ge_not (a := n) (by omega) (by omega) c_1
        refine z_aload_n (pc := 17) (zk11 kX4_gossips_0) rfl ?_
        refine z_getf (pc := 18) (zk12 kX4_gossips_0) flX4_10 hX.1 gXo_0 ?_
        refine z_iload_n (pc := 21) (zk13 kX4_gossips_0) rfl ?_
        refine z_rdV (pc := 22) (zk14 kX4_gossips_0) (st := []) lkX4_210 ivX1_knownAt hL.1 rfl rfl (c_knownAt hL hn h12 hm h8 (show i < n by omega)) rfl ⟨rfl, rfl⟩ rfl rfl ?_ rfl
        refine z_istore (pc := 25) (zk15 kX4_gossips_0) rfl rfl ?_
        show Z D B xX4_gossips _ _ _ 27 [some (.ref p), some (.int b), some (.int a), some (.int (nI i)), some (.int (knownF σ i)), none, none] _ _ _
        refine z_iload_n (pc := 27) (zk0 kX4_gossips_1) rfl ?_
        refine z_iconst (pc := 28) (zk1 kX4_gossips_1) (v := 1) (by decide) ?_
        refine z_iadd (pc := 29) (zk2 kX4_gossips_1) ?_
        refine z_top (congrArg Value.int (nI_1 i)) ?_
        refine z_istore (pc := 30) (zk3 kX4_gossips_1) rfl rfl ?_
        show Z D B xX4_gossips _ _ _ 32 [some (.ref p), some (.int b), some (.int a), some (.int (nI i)), some (.int (knownF σ i)), some (.int (nI (i + 1))), none] _ _ _
        have lp32 : ∀ (n_ : Nat) (a2 : Int32) (b2 : Int32) (j : Nat), n - j < n_ → (i + 1 ≤ j) → (j ≤ n) → (a2 = (gosI σ i (gosO σ n i) (j - (i + 1))).2) → (b2 = (gosI σ i (gosO σ n i) (j - (i + 1))).1) → Z D B xX4_gossips 0 0 (xQ h p sz ik κ (sp_gossips σ τ ε)) 32 [some (.ref p), some (.int b2), some (.int a2), some (.int (nI i)), some (.int (knownF σ i)), some (.int (nI j)), none] [] h sz := by
          intro n_
          induction n_ with
          | zero => intro a2 b2 j hm_; exact absurd hm_ (Nat.not_lt_zero _)
          | succ n_ ih32 =>
            intro a2 b2 j hm_ h0_j hi_j ha2 hb2
            refine z_iload (pc := 32) (zk4 kX4_gossips_1) rfl ?_
            refine z_aload_n (pc := 34) (zk5 kX4_gossips_1) rfl ?_
            refine z_getf (pc := 35) (zk6 kX4_gossips_1) flX4_10 hX.1 gXo_0 ?_
            refine z_getf (pc := 38) (zk7 kX4_gossips_1) flX4_129 hL.1 (v := .int (nI n)) (by rw [← hn]; rfl) ?_
            refine z_icmp_ge (pc := 41) (zk8 kX4_gossips_1) (tgt := 84) (by decide) (fun c_2 => ?_) (fun c_2 => ?_)
            · have hie_j : j = n := nI_ge_yes (a := n) (by omega) (by omega) (by omega) c_2
              refine z_iinc (pc := 84) (zk14 kX4_gossips_2) (v := nI (i + 1)) rfl zinc rfl rfl ?_
              show Z D B xX4_gossips _ _ _ 87 [some (.ref p), some (.int b2), some (.int a2), some (.int (nI (i + 1))), some (.int (knownF σ i)), some (.int (nI j)), none] _ _ _
              refine z_goto (pc := 87) (zk15 kX4_gossips_2) (tgt := 6) (by decide) ?_
              refine z_kill 4 ?_
              show Z D B xX4_gossips _ _ _ 6 [some (.ref p), some (.int b2), some (.int a2), some (.int (nI (i + 1))), none, some (.int (nI j)), none] _ _ _
              refine z_kill 5 ?_
              show Z D B xX4_gossips _ _ _ 6 [some (.ref p), some (.int b2), some (.int a2), some (.int (nI (i + 1))), none, none, none] _ _ _
              exact ih6 a2 b2 (i + 1) (by omega) (by omega) (by rw [ha2, hie_j]; rfl) (by rw [hb2, hie_j]; rfl)
            · have hlt_j : j < n := nI_ge_not (a := n) (by omega) (by omega) c_2
              refine z_iload (pc := 44) (zk9 kX4_gossips_1) rfl ?_
              refine z_aload_n (pc := 46) (zk10 kX4_gossips_1) rfl ?_
              refine z_getf (pc := 47) (zk11 kX4_gossips_1) flX4_10 hX.1 gXo_0 ?_
              refine z_iload (pc := 50) (zk12 kX4_gossips_1) rfl ?_
              refine z_rdV (pc := 52) (zk13 kX4_gossips_1) (st := [.int (knownF σ i)]) lkX4_210 ivX1_knownAt hL.1 rfl rfl (c_knownAt hL hn h12 hm h8 (show j < n by omega)) rfl ⟨rfl, rfl⟩ rfl rfl ?_ rfl
              refine z_iand (pc := 55) (zk14 kX4_gossips_1) ?_
              refine z_rdS (pc := 56) (zk15 kX4_gossips_1) (st := []) lkX4_304 isJ6_bitCount_0f7a4 (c_bitC (bx_known σ i j (by rw [lsN_eq hm h8]; exact h8))) rfl ⟨rfl, rfl⟩ rfl rfl ?_ rfl
              refine z_istore (pc := 59) (zk0 kX4_gossips_2) rfl rfl ?_
              show Z D B xX4_gossips _ _ _ 61 [some (.ref p), some (.int b2), some (.int a2), some (.int (nI i)), some (.int (knownF σ i)), some (.int (nI j)), some (.int (popI ((knownF σ i) &&& (knownF σ j))))] _ _ _
              refine z_iload (pc := 61) (zk1 kX4_gossips_2) rfl ?_
              refine z_iload_n (pc := 63) (zk2 kX4_gossips_2) rfl ?_
              refine z_icmp_le (pc := 64) (zk3 kX4_gossips_2) (tgt := 78) (by decide) (fun c_3 => ?_) (fun c_3 => ?_)
              · refine z_iinc (pc := 78) (zk12 kX4_gossips_2) (v := nI (j + 1)) rfl zinc rfl rfl ?_
                show Z D B xX4_gossips _ _ _ 81 [some (.ref p), some (.int b2), some (.int a2), some (.int (nI i)), some (.int (knownF σ i)), some (.int (nI (j + 1))), some (.int (popI ((knownF σ i) &&& (knownF σ j))))] _ _ _
                refine z_goto (pc := 81) (zk13 kX4_gossips_2) (tgt := 32) (by decide) ?_
                refine z_kill 6 ?_
                show Z D B xX4_gossips _ _ _ 32 [some (.ref p), some (.int b2), some (.int a2), some (.int (nI i)), some (.int (knownF σ i)), some (.int (nI (j + 1))), none] _ _ _
                exact ih32 a2 b2 (j + 1) (by omega) (by omega) (by omega) (by rw [← gosI_j2 (σ := σ) (q := gosO σ n i) (show i + 1 ≤ j by omega), ← hb2, if_neg (Int32.not_lt.mpr c_3)]; exact ha2) (by rw [← gosI_j1 (σ := σ) (q := gosO σ n i) (show i + 1 ≤ j by omega), ← hb2, if_neg (Int32.not_lt.mpr c_3)])
              · refine z_iload (pc := 67) (zk4 kX4_gossips_2) rfl ?_
                refine z_istore_n (pc := 69) (zk5 kX4_gossips_2) rfl rfl ?_
                show Z D B xX4_gossips _ _ _ 70 [some (.ref p), some (.int (popI ((knownF σ i) &&& (knownF σ j)))), some (.int a2), some (.int (nI i)), some (.int (knownF σ i)), some (.int (nI j)), some (.int (popI ((knownF σ i) &&& (knownF σ j))))] _ _ _
                refine z_bipush (pc := 70) (zk6 kX4_gossips_2) (v := 100) (by decide) ?_
                refine z_iload_n (pc := 72) (zk7 kX4_gossips_2) rfl ?_
                refine z_imul (pc := 73) (zk8 kX4_gossips_2) ?_
                refine z_iload (pc := 74) (zk9 kX4_gossips_2) rfl ?_
                refine z_iadd (pc := 76) (zk10 kX4_gossips_2) ?_
                refine z_istore_n (pc := 77) (zk11 kX4_gossips_2) rfl rfl ?_
                show Z D B xX4_gossips _ _ _ 78 [some (.ref p), some (.int (popI ((knownF σ i) &&& (knownF σ j)))), some (.int ((100 * (nI i)) + (nI j))), some (.int (nI i)), some (.int (knownF σ i)), some (.int (nI j)), some (.int (popI ((knownF σ i) &&& (knownF σ j))))] _ _ _
                refine z_iinc (pc := 78) (zk12 kX4_gossips_2) (v := nI (j + 1)) rfl zinc rfl rfl ?_
                show Z D B xX4_gossips _ _ _ 81 [some (.ref p), some (.int (popI ((knownF σ i) &&& (knownF σ j)))), some (.int ((100 * (nI i)) + (nI j))), some (.int (nI i)), some (.int (knownF σ i)), some (.int (nI (j + 1))), some (.int (popI ((knownF σ i) &&& (knownF σ j))))] _ _ _
                refine z_goto (pc := 81) (zk13 kX4_gossips_2) (tgt := 32) (by decide) ?_
                refine z_kill 6 ?_
                show Z D B xX4_gossips _ _ _ 32 [some (.ref p), some (.int (popI ((knownF σ i) &&& (knownF σ j)))), some (.int ((100 * (nI i)) + (nI j))), some (.int (nI i)), some (.int (knownF σ i)), some (.int (nI (j + 1))), none] _ _ _
                exact ih32 ((100 * (nI i)) + (nI j)) (popI ((knownF σ i) &&& (knownF σ j))) (j + 1) (by omega) (by omega) (by omega) (by rw [← gosI_j2 (σ := σ) (q := gosO σ n i) (show i + 1 ≤ j by omega), ← hb2, if_pos (Int32.not_le.mp c_3)]) (by rw [← gosI_j1 (σ := σ) (q := gosO σ n i) (show i + 1 ≤ j by omega), ← hb2, if_pos (Int32.not_le.mp c_3)])
        exact lp32 _ a b (i + 1) (Nat.lt_succ_self _) (by omega) (by omega) (by rw [Nat.sub_self]; exact ha_) (by rw [Nat.sub_self]; exact hb_)
  exact lp6 _ (-1) 0 0 (Nat.lt_succ_self _) (by omega) rfl rfl
set_option maxRecDepth 20000 in
theorem cX_days {D : zD} {B : Nat} {h : zH} {sz : Nat} {p : Nat} {σ κ τ : Ln} {ε : El} {ik : Int32} {x : Int32} {n m : Nat} (hX : XoAt h p ik (rfo τ)) (hL : LnAt h (p + 1) σ) (hK : XR h p κ τ ε) (hB : B ≤ p) (hn : σ 0 0 = nI n) (h12 : n ≤ 12) (hm : σ 9 0 = nI m) (h8 : m ≤ 8) (hbk : σ 6 0 = 0 ∨ σ 6 0 = 1) (htn : ∀ l, l < m → ∃ t, t < n ∧ σ 12 l = nI t) (hlen : ∀ l, l < m → ∃ g, 1 ≤ g ∧ g ≤ 40 ∧ σ 13 l = nI g) (h2 : 2 ≤ n) (hS : SW τ m) : zM D B xX4_days [.ref p, .int x] h sz (xQ h p sz ik κ (sp_days σ τ ε x)) := by
  have hU : Upd h h p 51 := Upd.rf
  refine zM.of (by decide) rfl (n := 1) ?_
  show Z D B xX4_days 0 0 _ 0 [some (.ref p), some (.int x), none] [] h sz
  refine z_iload_n (pc := 0) (zk0 kX4_days_0) rfl ?_
  refine z_iconst (pc := 1) (zk1 kX4_days_0) (v := 1) (by decide) ?_
  refine z_bipush (pc := 2) (zk2 kX4_days_0) (v := 60) (by decide) ?_
  refine z_rdS (pc := 4) (zk3 kX4_days_0) (st := []) lkX4_52 isX4_outside (c_outside) rfl ⟨rfl, rfl⟩ rfl rfl ?_ rfl
  refine z_oif_eq (pc := 7) (zk4 kX4_days_0) (tgt := 17) (by decide) (fun c_1 => ?_) (fun c_1 => ?_)
  · have c_2 : okR 1 60 x = true := by simpa using c_1
    obtain ⟨kx, hkx, rfl⟩ := okR_1 (c := 60) (by decide) c_2
    refine z_iconst (pc := 17) (zk9 kX4_days_0) (v := 0) (by decide) ?_
    refine z_istore_n (pc := 18) (zk10 kX4_days_0) rfl rfl ?_
    show Z D B xX4_days _ _ _ 19 [some (.ref p), some (.int (nI kx)), some (.int 0)] _ _ _
    have lp19 : ∀ (n_ : Nat) (g : zH) (i : Nat), kx - i < n_ → (i ≤ kx) → (XoAt g p ik (rfo τ)) → (LnAt g (p + 1) (daysF σ i)) → (XR g p κ τ ε) → (Upd h g p 51) → Z D B xX4_days 0 0 (xQ h p sz ik κ (sp_days σ τ ε (nI kx))) 19 [some (.ref p), some (.int (nI kx)), some (.int (nI i))] [] g sz := by
      intro n_
      induction n_ with
      | zero => intro g i hm_; exact absurd hm_ (Nat.not_lt_zero _)
      | succ n_ ih19 =>
        intro g i hm_ hi_i hX hL hK hU
        have hn : daysF σ i 0 0 = nI n := (daysF_n σ i).1.trans hn
        have hm : daysF σ i 9 0 = nI m := (daysF_n σ i).2.1.trans hm
        refine z_iload_n (pc := 19) (zk11 kX4_days_0) rfl ?_
        refine z_iload_n (pc := 20) (zk12 kX4_days_0) rfl ?_
        refine z_icmp_ge (pc := 21) (zk13 kX4_days_0) (tgt := 37) (by decide) (fun c_3 => ?_) (fun c_3 => ?_)
        · have hie_i : i = kx := nI_ge_yes (a := kx) (by omega) (by omega) (by omega) c_3
          refine z_aload_n (pc := 37) (zk3 kX4_days_1) rfl ?_
          refine z_getf (pc := 38) (zk4 kX4_days_1) flX4_10 hX.1 gXo_0 ?_
          refine z_rdV (pc := 41) (zk5 kX4_days_1) (st := []) lkX4_354 ivX1_allEars hL.1 rfl rfl (c_allEars hL hn h12) rfl ⟨rfl, rfl⟩ rfl rfl ?_ rfl
          exact z_iret (pc := 44) (zk6 kX4_days_1) rfl (Nat.zero_le _) (Nat.zero_le _) (by
                        rw [show sp_days σ τ ε (nI kx) = (sum0 ((daysF σ i) 4) (hsN (daysF σ i)), (daysF σ i), τ, ε) from by simp [sp_days, earsF, sBad, okS, okH, okL, okT, okB, sRd, up2_id, up2_id2, oI, sOther, sNone, sFull, c_1, c_2, c_3, Int32.not_lt.mpr c_3, ix_nI (show kx ≤ 1000 by omega), hie_i]]
                        exact ⟨rfl, hX, hL, hK, hU, rfl⟩)
        · have hlt_i : i < kx := nI_ge_not (a := kx) (by omega) (by omega) c_3
          refine z_aload_n (pc := 24) (zk14 kX4_days_0) rfl ?_
          refine z_getf (pc := 25) (zk15 kX4_days_0) flX4_10 hX.1 gXo_0 ?_
          refine z_efV (pc := 28) (zk0 kX4_days_1) (st := []) lkX4_357 ivX1_goDrawnDay hL.1 rfl rfl (c_goDrawnDay hL hn h12 hm h8 (by omega) (by omega)) rfl ⟨rfl, rfl⟩ rfl rfl (fun r_ h_5 z_ q_4 => ?_) rfl
          obtain ⟨er_, hR, hU_6, ez_⟩ := q_4
          rw [er_, ez_]
          clear er_ ez_
          replace hX := XoAt.fr hX hU_6 (by omega)
          replace hU := hU.tr hU_6 (by omega) (by omega)
          replace hK := XR.fr hK hU_6 (by omega)
          replace hL := hR; clear hR
          show Z D B xX4_days _ _ _ 31 _ [] _ _
          refine z_iinc (pc := 31) (zk1 kX4_days_1) (v := nI (i + 1)) rfl zinc rfl rfl ?_
          show Z D B xX4_days _ _ _ 34 [some (.ref p), some (.int (nI kx)), some (.int (nI (i + 1)))] _ _ _
          refine z_goto (pc := 34) (zk2 kX4_days_1) (tgt := 19) (by decide) ?_
          exact ih19 h_5 (i + 1) (by omega) (by omega) hX hL hK hU
    exact lp19 _ h 0 (Nat.lt_succ_self _) (by omega) hX hL hK hU
  · have c_7 : okR 1 60 x = false := by simpa using c_1
    refine z_aload_n (pc := 10) (zk5 kX4_days_0) rfl ?_
    refine z_bipush (pc := 11) (zk6 kX4_days_0) (v := (-2)) (by decide) ?_
    refine z_efV (pc := 13) (zk7 kX4_days_0) (st := []) lkX4_56 ivX4_refuse hX.1 rfl rfl (c_xrefuse (i := 0) hX hB (by decide) (by decide) (by decide)) rfl ⟨rfl, rfl⟩ rfl rfl (fun r_ h_9 z_ q_8 => ?_) rfl
    obtain ⟨er_, hR, hU_10, ez_⟩ := q_8
    rw [er_, ez_]
    clear er_ ez_
    replace hL := LnAt.fr hL hU_10 (by omega)
    replace hU := hU.tr hU_10 (by omega) (by omega)
    replace hK := XR.fr hK hU_10 (by omega)
    replace hX := hR; clear hR
    show Z D B xX4_days _ _ _ 16 _ [.int (-2)] _ _
    exact z_iret (pc := 16) (zk8 kX4_days_0) rfl (Nat.zero_le _) (Nat.zero_le _) (by
            rw [show sp_days σ τ ε x = ((-2), σ, (rfN τ 2), ε) from by simp [sp_days, sBad, okS, okH, okL, okT, okB, sRd, up2_id, up2_id2, oI, sOther, sNone, sFull, c_1, c_7]]
            exact ⟨rfl, hX, hL, hK, hU, rfl⟩)
