theorem len_0 {σ : Ln} {m l : Nat} (h : ∀ l, l < m → ∃ g, 1 ≤ g ∧ g ≤ 40 ∧ σ 13 l = nI g) (hl : l < m) : 0 < σ 13 l := by
  obtain ⟨g, h1, h2, e⟩ := h l hl
  rw [e]
  exact (nI_ltI (a := 0) (by omega) (by omega)).mpr h1
theorem len_41 {σ : Ln} {m l : Nat} (h : ∀ l, l < m → ∃ g, 1 ≤ g ∧ g ≤ 40 ∧ σ 13 l = nI g) (hl : l < m) : σ 13 l < 41 := by
  obtain ⟨g, h1, h2, e⟩ := h l hl
  rw [e]
  exact (nI_ltI (b := 41) (by omega) (by omega)).mpr (by omega)
theorem popI_nn (x : Int32) : 0 ≤ popI x := by
  rw [popI]
  have : popN x.toNatClampNeg ≤ 12 := by unfold popN; omega
  exact (nI_le_iff (a := 0) (by omega) (by omega)).mpr (Nat.zero_le _)
theorem wd_w {σ : Ln} {n : Nat} (l : Nat) (hn : σ 0 0 = nI n) (h12 : n ≤ 12) (h2 : 2 ≤ n) : ∃ b, b < n ∧ wdF σ l = (popI (knowersF (up2 σ 12 l (nI b)) l), nI b) := by
  obtain ⟨b, h1, e⟩ := amx_w (f := fun k => popI (knowersF (up2 σ 12 l (nI k)) l)) (fun k => popI_nn _) (n - 1)
  refine ⟨b, by omega, ?_⟩
  rw [wdF, hsN_eq hn h12, ← e, show n - 1 + 1 = n by omega]
theorem pour_w {σ : Ln} {c d l k : Nat} (h0 : 0 < σ 13 l) : ∃ b, b < 10 ∧ pourA σ c d l k = ((lstH (up2 σ 2 c (nI b)) d l k).1, nI b) := by
  obtain ⟨b, h1, e⟩ := amx_w (f := fun v => (lstH (up2 σ 2 c (nI v)) d l k).1) (fun v => by
    obtain ⟨b, _, e⟩ := lstH_w (up2 σ 2 c (nI v)) d l k
    show 0 ≤ (lstH (up2 σ 2 c (nI v)) d l k).1
    rw [e]
    exact heard_nn (σ := up2 (up2 σ 2 c (nI v)) 2 d (nI b)) (Int32.le_of_lt h0)) 9
  exact ⟨b, h1, e⟩
theorem okT_v {σ : Ln} {n : Nat} {t : Int32} (hn : σ 0 0 = nI n) (h12 : n ≤ 12) (h : okR 0 (1 <<< (σ 0 0 &&& 31) - 1) t = true) : ∃ v, v < 4096 ∧ t = nI v := by
  rw [hn, bx_1 n (by omega), nI_dec (Nat.two_pow_pos n)] at h
  have hp : 2 ^ n ≤ 4096 := Nat.pow_le_pow_right (n := 2) (by omega) h12
  have q1 : 0 ≤ t := of_decide_eq_true (Bool.and_eq_true_iff.mp h).1
  have q2 : t ≤ nI (2 ^ n - 1) := of_decide_eq_true (Bool.and_eq_true_iff.mp h).2
  have p := Nat.two_pow_pos n
  rw [Int32.le_iff_toInt_le] at q1 q2
  rw [nI_toInt (by omega)] at q2
  have z : (0 : Int32).toInt = 0 := rfl
  rw [z] at q1
  refine ⟨t.toInt.toNat, by omega, ?_⟩
  rw [← Int32.toInt_inj, nI_toInt (by omega)]
  omega
set_option maxRecDepth 20000 in
theorem c_noSet {D : zD} {B : Nat} {h : zH} {sz : Nat} {p : Nat} {σ τ : Ln} {ik x : Int32} (hX : XoAt h p ik (rfo τ)) (hL : LnAt h (p + 1) σ) : zRd D B xX4_noSet [.ref p, .int x] h sz (.int (oI (!okR 0 (1 <<< (σ 0 0 &&& 31) - 1) x))) := by
  refine zM.of (by decide) rfl (n := 0) ?_
  show Z D B xX4_noSet 0 0 _ 0 [some (.ref p), some (.int x)] [] h sz
  refine z_iload_n (pc := 0) (zk0 kX4_noSet_0) rfl ?_
  refine z_iconst (pc := 1) (zk1 kX4_noSet_0) (v := 0) (by decide) ?_
  refine z_iconst (pc := 2) (zk2 kX4_noSet_0) (v := 1) (by decide) ?_
  refine z_aload_n (pc := 3) (zk3 kX4_noSet_0) rfl ?_
  refine z_getf (pc := 4) (zk4 kX4_noSet_0) flX4_10 hX.1 gXo_0 ?_
  refine z_getf (pc := 7) (zk5 kX4_noSet_0) flX4_129 hL.1 (v := .int (σ 0 0)) rfl ?_
  refine z_ishl (pc := 10) (zk6 kX4_noSet_0) ?_
  refine z_iconst (pc := 11) (zk7 kX4_noSet_0) (v := 1) (by decide) ?_
  refine z_isub (pc := 12) (zk8 kX4_noSet_0) ?_
  refine z_rdS (pc := 13) (zk9 kX4_noSet_0) (st := []) lkX4_52 isX4_outside (c_outside) rfl ⟨rfl, rfl⟩ rfl rfl ?_ rfl
  exact z_zret (pc := 16) (zk10 kX4_noSet_0) rfl (Nat.zero_le _) (Nat.zero_le _) (oI_01 _) ⟨rfl, rfl, rfl⟩
set_option maxRecDepth 20000 in
theorem c_noKind {D : zD} {B : Nat} {h : zH} {sz : Nat} {x : Int32}  : zRd D B xX4_noKind [.int x] h sz (.int (oI (!okR 0 5 x))) := by
  refine zM.of (by decide) rfl (n := 0) ?_
  show Z D B xX4_noKind 0 0 _ 0 [some (.int x)] [] h sz
  refine z_iload_n (pc := 0) (zk0 kX4_noKind_0) rfl ?_
  refine z_iconst (pc := 1) (zk1 kX4_noKind_0) (v := 0) (by decide) ?_
  refine z_iconst (pc := 2) (zk2 kX4_noKind_0) (v := 5) (by decide) ?_
  refine z_rdS (pc := 3) (zk3 kX4_noKind_0) (st := []) lkX4_52 isX4_outside (c_outside) rfl ⟨rfl, rfl⟩ rfl rfl ?_ rfl
  exact z_zret (pc := 6) (zk4 kX4_noKind_0) rfl (Nat.zero_le _) (Nat.zero_le _) (oI_01 _) ⟨rfl, rfl, rfl⟩
set_option maxRecDepth 20000 in
theorem c_noShelf {D : zD} {B : Nat} {h : zH} {sz : Nat} {p : Nat} {σ τ : Ln} {ik x : Int32} (hX : XoAt h p ik (rfo τ)) (hL : LnAt h (p + 1) σ) : zRd D B xX4_noShelf [.ref p, .int x] h sz (.int (oI (!okR 0 7 x))) := by
  refine zM.of (by decide) rfl (n := 0) ?_
  show Z D B xX4_noShelf 0 0 _ 0 [some (.ref p), some (.int x)] [] h sz
  refine z_iload_n (pc := 0) (zk0 kX4_noShelf_0) rfl ?_
  refine z_iconst (pc := 1) (zk1 kX4_noShelf_0) (v := 0) (by decide) ?_
  refine z_bipush (pc := 2) (zk2 kX4_noShelf_0) (v := 7) (by decide) ?_
  refine z_rdS (pc := 4) (zk3 kX4_noShelf_0) (st := []) lkX4_52 isX4_outside (c_outside) rfl ⟨rfl, rfl⟩ rfl rfl ?_ rfl
  exact z_zret (pc := 7) (zk4 kX4_noShelf_0) rfl (Nat.zero_le _) (Nat.zero_le _) (oI_01 _) ⟨rfl, rfl, rfl⟩
set_option maxRecDepth 20000 in
theorem c_noPouring {D : zD} {B : Nat} {h : zH} {sz : Nat} {p : Nat} {σ τ : Ln} {ik x y z u : Int32} (hX : XoAt h p ik (rfo τ)) (hL : LnAt h (p + 1) σ) : zRd D B xX4_noPouring [.ref p, .int x, .int y, .int z, .int u] h sz (.int (oI (!okP σ x y z u))) := by
  refine zM.of (by decide) rfl (n := 0) ?_
  show Z D B xX4_noPouring 0 0 _ 0 [some (.ref p), some (.int x), some (.int y), some (.int z), some (.int u)] [] h sz
  refine z_aload_n (pc := 0) (zk0 kX4_noPouring_0) rfl ?_
  refine z_iload_n (pc := 1) (zk1 kX4_noPouring_0) rfl ?_
  refine z_rdV (pc := 2) (zk2 kX4_noPouring_0) (st := []) lkX4_132 ivX4_noHouse hX.1 rfl rfl (c_noHouse hX hL) rfl ⟨rfl, rfl⟩ rfl rfl ?_ rfl
  refine z_oif_ne (pc := 5) (zk3 kX4_noPouring_0) (tgt := 38) (by decide) (fun c_1 => ?_) (fun c_1 => ?_)
  · have c_2 : okR 0 (σ 0 0 - 1) x = false := by simpa using c_1
    refine z_iconst (pc := 38) (zk3 kX4_noPouring_1) (v := 1) (by decide) ?_
    refine z_goto (pc := 39) (zk4 kX4_noPouring_1) (tgt := 43) (by decide) ?_
    exact z_zret (pc := 43) (zk6 kX4_noPouring_1) rfl (Nat.zero_le _) (Nat.zero_le _) (by decide) ⟨by simp [okP, okH, okB, okL, oI, c_1, c_2], rfl, rfl⟩
  · have c_3 : okR 0 (σ 0 0 - 1) x = true := by simpa using c_1
    refine z_aload_n (pc := 8) (zk4 kX4_noPouring_0) rfl ?_
    refine z_iload_n (pc := 9) (zk5 kX4_noPouring_0) rfl ?_
    refine z_rdV (pc := 10) (zk6 kX4_noPouring_0) (st := []) lkX4_132 ivX4_noHouse hX.1 rfl rfl (c_noHouse hX hL) rfl ⟨rfl, rfl⟩ rfl rfl ?_ rfl
    refine z_oif_ne (pc := 13) (zk7 kX4_noPouring_0) (tgt := 38) (by decide) (fun c_4 => ?_) (fun c_4 => ?_)
    · have c_5 : okR 0 (σ 0 0 - 1) y = false := by simpa using c_4
      refine z_iconst (pc := 38) (zk3 kX4_noPouring_1) (v := 1) (by decide) ?_
      refine z_goto (pc := 39) (zk4 kX4_noPouring_1) (tgt := 43) (by decide) ?_
      exact z_zret (pc := 43) (zk6 kX4_noPouring_1) rfl (Nat.zero_le _) (Nat.zero_le _) (by decide) ⟨by simp [okP, okH, okB, okL, oI, c_1, c_3, c_4, c_5], rfl, rfl⟩
    · have c_6 : okR 0 (σ 0 0 - 1) y = true := by simpa using c_4
      refine z_iload_n (pc := 16) (zk8 kX4_noPouring_0) rfl ?_
      refine z_iload_n (pc := 17) (zk9 kX4_noPouring_0) rfl ?_
      refine z_icmp_eq (pc := 18) (zk10 kX4_noPouring_0) (tgt := 38) (by decide) (fun c_7 => ?_) (fun c_7 => ?_)
      · refine z_iconst (pc := 38) (zk3 kX4_noPouring_1) (v := 1) (by decide) ?_
        refine z_goto (pc := 39) (zk4 kX4_noPouring_1) (tgt := 43) (by decide) ?_
        exact z_zret (pc := 43) (zk6 kX4_noPouring_1) rfl (Nat.zero_le _) (Nat.zero_le _) (by decide) ⟨by simp [okP, okH, okB, okL, oI, c_1, c_3, c_4, c_6, c_7], rfl, rfl⟩
      · refine z_aload_n (pc := 21) (zk11 kX4_noPouring_0) rfl ?_
        refine z_iload_n (pc := 22) (zk12 kX4_noPouring_0) rfl ?_
        refine z_rdV (pc := 23) (zk13 kX4_noPouring_0) (st := []) lkX4_99 ivX4_noLetter hX.1 rfl rfl (c_noLetter hX hL) rfl ⟨rfl, rfl⟩ rfl rfl ?_ rfl
        refine z_oif_ne (pc := 26) (zk14 kX4_noPouring_0) (tgt := 38) (by decide) (fun c_8 => ?_) (fun c_8 => ?_)
        · have c_9 : okR 0 (σ 9 0 - 1) z = false := by simpa using c_8
          refine z_iconst (pc := 38) (zk3 kX4_noPouring_1) (v := 1) (by decide) ?_
          refine z_goto (pc := 39) (zk4 kX4_noPouring_1) (tgt := 43) (by decide) ?_
          exact z_zret (pc := 43) (zk6 kX4_noPouring_1) rfl (Nat.zero_le _) (Nat.zero_le _) (by decide) ⟨by simp [okP, okH, okB, okL, oI, c_1, c_3, c_4, c_6, c_7, c_8, c_9], rfl, rfl⟩
        · have c_10 : okR 0 (σ 9 0 - 1) z = true := by simpa using c_8
          refine z_aload_n (pc := 29) (zk15 kX4_noPouring_0) rfl ?_
          refine z_iload (pc := 30) (zk0 kX4_noPouring_1) rfl ?_
          refine z_rdV (pc := 32) (zk1 kX4_noPouring_1) (st := []) lkX4_132 ivX4_noHouse hX.1 rfl rfl (c_noHouse hX hL) rfl ⟨rfl, rfl⟩ rfl rfl ?_ rfl
          refine z_oif_eq (pc := 35) (zk2 kX4_noPouring_1) (tgt := 42) (by decide) (fun c_11 => ?_) (fun c_11 => ?_)
          · have c_12 : okR 0 (σ 0 0 - 1) u = true := by simpa using c_11
            refine z_iconst (pc := 42) (zk5 kX4_noPouring_1) (v := 0) (by decide) ?_
            exact z_zret (pc := 43) (zk6 kX4_noPouring_1) rfl (Nat.zero_le _) (Nat.zero_le _) (by decide) ⟨by simp [okP, okH, okB, okL, oI, c_1, c_3, c_4, c_6, c_7, c_8, c_10, c_11, c_12], rfl, rfl⟩
          · have c_13 : okR 0 (σ 0 0 - 1) u = false := by simpa using c_11
            refine z_iconst (pc := 38) (zk3 kX4_noPouring_1) (v := 1) (by decide) ?_
            refine z_goto (pc := 39) (zk4 kX4_noPouring_1) (tgt := 43) (by decide) ?_
            exact z_zret (pc := 43) (zk6 kX4_noPouring_1) rfl (Nat.zero_le _) (Nat.zero_le _) (by decide) ⟨by simp [okP, okH, okB, okL, oI, c_1, c_3, c_4, c_6, c_7, c_8, c_10, c_11, c_13], rfl, rfl⟩
set_option maxRecDepth 20000 in
theorem cX_address {D : zD} {B : Nat} {h : zH} {sz : Nat} {p : Nat} {σ κ τ : Ln} {ε : El} {ik : Int32} {x : Int32} {y : Int32} {n m : Nat} (hX : XoAt h p ik (rfo τ)) (hL : LnAt h (p + 1) σ) (hK : XR h p κ τ ε) (hB : B ≤ p) (hn : σ 0 0 = nI n) (h12 : n ≤ 12) (hm : σ 9 0 = nI m) (h8 : m ≤ 8) (hbk : σ 6 0 = 0 ∨ σ 6 0 = 1) (htn : ∀ l, l < m → ∃ t, t < n ∧ σ 12 l = nI t) (hlen : ∀ l, l < m → ∃ g, 1 ≤ g ∧ g ≤ 40 ∧ σ 13 l = nI g) (h2 : 2 ≤ n) (hS : SW τ m) : zM D B xX4_address [.ref p, .int x, .int y] h sz (xQ h p sz ik κ (sp_address σ τ ε x y)) := by
  have hU : Upd h h p 51 := Upd.rf
  obtain ⟨mk, tl, γ, hG, hγ⟩ := hK.2.1
  replace hγ : LnAt h (p + 19 + 1) γ := hγ
  refine zM.of (by decide) rfl (n := 0) ?_
  show Z D B xX4_address 0 0 _ 0 [some (.ref p), some (.int x), some (.int y)] [] h sz
  refine z_aload_n (pc := 0) (zk0 kX4_address_0) rfl ?_
  refine z_iload_n (pc := 1) (zk1 kX4_address_0) rfl ?_
  refine z_rdV (pc := 2) (zk2 kX4_address_0) (st := []) lkX4_99 ivX4_noLetter hX.1 rfl rfl (c_noLetter hX hL) rfl ⟨rfl, rfl⟩ rfl rfl ?_ rfl
  refine z_oif_ne (pc := 5) (zk3 kX4_address_0) (tgt := 16) (by decide) (fun c_1 => ?_) (fun c_1 => ?_)
  · have c_2 : okR 0 (σ 9 0 - 1) x = false := by simpa using c_1
    refine z_aload_n (pc := 16) (zk8 kX4_address_0) rfl ?_
    refine z_bipush (pc := 17) (zk9 kX4_address_0) (v := (-2)) (by decide) ?_
    refine z_efV (pc := 19) (zk10 kX4_address_0) (st := []) lkX4_56 ivX4_refuse hX.1 rfl rfl (c_xrefuse (i := 0) hX hB (by decide) (by decide) (by decide)) rfl ⟨rfl, rfl⟩ rfl rfl (fun r_ h_4 z_ q_3 => ?_) rfl
    obtain ⟨er_, hR, hU_5, ez_⟩ := q_3
    rw [er_, ez_]
    clear er_ ez_
    replace hL := LnAt.fr hL hU_5 (by omega)
    replace hG := GuAt.fr hG hU_5 (by omega)
    replace hγ := LnAt.fr hγ hU_5 (by omega)
    replace hU := hU.tr hU_5 (by omega) (by omega)
    replace hK := XR.fr hK hU_5 (by omega)
    replace hX := hR; clear hR
    show Z D B xX4_address _ _ _ 22 _ [.int (-2)] _ _
    exact z_iret (pc := 22) (zk11 kX4_address_0) rfl (Nat.zero_le _) (Nat.zero_le _) (by
            rw [show sp_address σ τ ε x y = ((-2), σ, (rfN τ 2), ε) from by simp [sp_address, sBad, okS, okH, okL, okT, okB, sRd, up2_id, up2_id2, oI, sOther, sNone, sFull, c_1, c_2]]
            exact ⟨rfl, hX, hL, hK, hU, rfl⟩)
  · have c_6 : okR 0 (σ 9 0 - 1) x = true := by simpa using c_1
    refine z_aload_n (pc := 8) (zk4 kX4_address_0) rfl ?_
    refine z_iload_n (pc := 9) (zk5 kX4_address_0) rfl ?_
    refine z_rdV (pc := 10) (zk6 kX4_address_0) (st := []) lkX4_229 ivX4_noSet hX.1 rfl rfl (c_noSet hX hL) rfl ⟨rfl, rfl⟩ rfl rfl ?_ rfl
    refine z_oif_eq (pc := 13) (zk7 kX4_address_0) (tgt := 23) (by decide) (fun c_7 => ?_) (fun c_7 => ?_)
    · have c_8 : okR 0 (1 <<< (σ 0 0 &&& 31) - 1) y = true := by simpa using c_7
      refine z_aload_n (pc := 23) (zk12 kX4_address_0) rfl ?_
      refine z_getf (pc := 24) (zk13 kX4_address_0) flX4_22 hX.1 gXo_2 ?_
      refine z_aload_n (pc := 27) (zk14 kX4_address_0) rfl ?_
      refine z_getf (pc := 28) (zk15 kX4_address_0) flX4_10 hX.1 gXo_0 ?_
      refine z_iload_n (pc := 31) (zk0 kX4_address_1) rfl ?_
      refine z_iload_n (pc := 32) (zk1 kX4_address_1) rfl ?_
      obtain ⟨kx, hkx, rfl⟩ := okR_nI (n := m) (by omega) (by rw [← hm]; exact c_6)
      refine z_efV (pc := 33) (zk2 kX4_address_1) (st := []) lkX4_232 ivX0_addressFor hG.1 rfl rfl (c_addressFor hG hγ hL (by omega) (by omega) hbk hn h12 (show kx < 8 by omega)) rfl ⟨rfl, rfl⟩ rfl rfl (fun r_ h_10 z_ q_9 => ?_) rfl
      obtain ⟨er_, ⟨mk_12, tl_13, γ_14, hG_, hγ_⟩, hU_11, ez_⟩ := q_9
      rw [er_, ez_]
      clear er_ ez_
      replace hX := XoAt.fr hX hU_11 (by omega)
      replace hL := LnAt.fr hL hU_11 (by omega)
      replace hU := hU.tr hU_11 (by omega) (by omega)
      replace hG := hG_; replace hγ := hγ_; clear hG_ hγ_
      replace hK := XR.gu hK hU_11 ⟨_, _, _, hG, hγ⟩
      show Z D B xX4_address _ _ _ 36 _ [.int (lstD (fun k => decide (knowersF (up2 σ 12 kx (nI k)) kx = y)) 0 (hsN σ))] _ _
      exact z_iret (pc := 36) (zk3 kX4_address_1) rfl (Nat.zero_le _) (Nat.zero_le _) (by
                rw [show sp_address σ τ ε (nI kx) y = (lstD (fun k => decide (knowersF (up2 σ 12 kx (nI k)) kx = y)) 0 (hsN σ), σ, τ, ε) from by simp [sp_address, sBad, okS, okH, okL, okT, okB, sRd, up2_id, up2_id2, oI, sOther, sNone, sFull, c_1, c_6, c_7, c_8, ix_nI (show kx ≤ 1000 by omega)]]
                exact ⟨rfl, hX, hL, hK, hU, rfl⟩)
    · have c_15 : okR 0 (1 <<< (σ 0 0 &&& 31) - 1) y = false := by simpa using c_7
      refine z_aload_n (pc := 16) (zk8 kX4_address_0) rfl ?_
      refine z_bipush (pc := 17) (zk9 kX4_address_0) (v := (-2)) (by decide) ?_
      refine z_efV (pc := 19) (zk10 kX4_address_0) (st := []) lkX4_56 ivX4_refuse hX.1 rfl rfl (c_xrefuse (i := 0) hX hB (by decide) (by decide) (by decide)) rfl ⟨rfl, rfl⟩ rfl rfl (fun r_ h_17 z_ q_16 => ?_) rfl
      obtain ⟨er_, hR, hU_18, ez_⟩ := q_16
      rw [er_, ez_]
      clear er_ ez_
      replace hL := LnAt.fr hL hU_18 (by omega)
      replace hG := GuAt.fr hG hU_18 (by omega)
      replace hγ := LnAt.fr hγ hU_18 (by omega)
      replace hU := hU.tr hU_18 (by omega) (by omega)
      replace hK := XR.fr hK hU_18 (by omega)
      replace hX := hR; clear hR
      show Z D B xX4_address _ _ _ 22 _ [.int (-2)] _ _
      exact z_iret (pc := 22) (zk11 kX4_address_0) rfl (Nat.zero_le _) (Nat.zero_le _) (by
                rw [show sp_address σ τ ε x y = ((-2), σ, (rfN τ 2), ε) from by simp [sp_address, sBad, okS, okH, okL, okT, okB, sRd, up2_id, up2_id2, oI, sOther, sNone, sFull, c_1, c_6, c_7, c_15]]
                exact ⟨rfl, hX, hL, hK, hU, rfl⟩)
set_option maxRecDepth 20000 in
theorem cX_seal {D : zD} {B : Nat} {h : zH} {sz : Nat} {p : Nat} {σ κ τ : Ln} {ε : El} {ik : Int32} {x : Int32} {y : Int32} {n m : Nat} (hX : XoAt h p ik (rfo τ)) (hL : LnAt h (p + 1) σ) (hK : XR h p κ τ ε) (hB : B ≤ p) (hn : σ 0 0 = nI n) (h12 : n ≤ 12) (hm : σ 9 0 = nI m) (h8 : m ≤ 8) (hbk : σ 6 0 = 0 ∨ σ 6 0 = 1) (htn : ∀ l, l < m → ∃ t, t < n ∧ σ 12 l = nI t) (hlen : ∀ l, l < m → ∃ g, 1 ≤ g ∧ g ≤ 40 ∧ σ 13 l = nI g) (h2 : 2 ≤ n) (hS : SW τ m) : zM D B xX4_seal [.ref p, .int x, .int y] h sz (xQ h p sz ik κ (sp_seal σ τ ε x y)) := by
  have hU : Upd h h p 51 := Upd.rf
  obtain ⟨mk, tl, γ, hG, hγ⟩ := hK.2.1
  replace hγ : LnAt h (p + 19 + 1) γ := hγ
  refine zM.of (by decide) rfl (n := 0) ?_
  show Z D B xX4_seal 0 0 _ 0 [some (.ref p), some (.int x), some (.int y)] [] h sz
  refine z_aload_n (pc := 0) (zk0 kX4_seal_0) rfl ?_
  refine z_iload_n (pc := 1) (zk1 kX4_seal_0) rfl ?_
  refine z_rdV (pc := 2) (zk2 kX4_seal_0) (st := []) lkX4_99 ivX4_noLetter hX.1 rfl rfl (c_noLetter hX hL) rfl ⟨rfl, rfl⟩ rfl rfl ?_ rfl
  refine z_oif_ne (pc := 5) (zk3 kX4_seal_0) (tgt := 16) (by decide) (fun c_1 => ?_) (fun c_1 => ?_)
  · have c_2 : okR 0 (σ 9 0 - 1) x = false := by simpa using c_1
    refine z_aload_n (pc := 16) (zk8 kX4_seal_0) rfl ?_
    refine z_bipush (pc := 17) (zk9 kX4_seal_0) (v := (-2)) (by decide) ?_
    refine z_efV (pc := 19) (zk10 kX4_seal_0) (st := []) lkX4_56 ivX4_refuse hX.1 rfl rfl (c_xrefuse (i := 0) hX hB (by decide) (by decide) (by decide)) rfl ⟨rfl, rfl⟩ rfl rfl (fun r_ h_4 z_ q_3 => ?_) rfl
    obtain ⟨er_, hR, hU_5, ez_⟩ := q_3
    rw [er_, ez_]
    clear er_ ez_
    replace hL := LnAt.fr hL hU_5 (by omega)
    replace hG := GuAt.fr hG hU_5 (by omega)
    replace hγ := LnAt.fr hγ hU_5 (by omega)
    replace hU := hU.tr hU_5 (by omega) (by omega)
    replace hK := XR.fr hK hU_5 (by omega)
    replace hX := hR; clear hR
    show Z D B xX4_seal _ _ _ 22 _ [.int (-2)] _ _
    exact z_iret (pc := 22) (zk11 kX4_seal_0) rfl (Nat.zero_le _) (Nat.zero_le _) (by
            rw [show sp_seal σ τ ε x y = ((-2), σ, (rfN τ 2), ε) from by simp [sp_seal, sBad, okS, okH, okL, okT, okB, sRd, up2_id, up2_id2, oI, sOther, sNone, sFull, c_1, c_2]]
            exact ⟨rfl, hX, hL, hK, hU, rfl⟩)
  · have c_6 : okR 0 (σ 9 0 - 1) x = true := by simpa using c_1
    refine z_aload_n (pc := 8) (zk4 kX4_seal_0) rfl ?_
    refine z_iload_n (pc := 9) (zk5 kX4_seal_0) rfl ?_
    refine z_rdV (pc := 10) (zk6 kX4_seal_0) (st := []) lkX4_229 ivX4_noSet hX.1 rfl rfl (c_noSet hX hL) rfl ⟨rfl, rfl⟩ rfl rfl ?_ rfl
    refine z_oif_eq (pc := 13) (zk7 kX4_seal_0) (tgt := 23) (by decide) (fun c_7 => ?_) (fun c_7 => ?_)
    · have c_8 : okR 0 (1 <<< (σ 0 0 &&& 31) - 1) y = true := by simpa using c_7
      refine z_aload_n (pc := 23) (zk12 kX4_seal_0) rfl ?_
      refine z_getf (pc := 24) (zk13 kX4_seal_0) flX4_22 hX.1 gXo_2 ?_
      refine z_aload_n (pc := 27) (zk14 kX4_seal_0) rfl ?_
      refine z_getf (pc := 28) (zk15 kX4_seal_0) flX4_10 hX.1 gXo_0 ?_
      refine z_iload_n (pc := 31) (zk0 kX4_seal_1) rfl ?_
      refine z_iload_n (pc := 32) (zk1 kX4_seal_1) rfl ?_
      obtain ⟨kx, hkx, rfl⟩ := okR_nI (n := m) (by omega) (by rw [← hm]; exact c_6)
      refine z_efV (pc := 33) (zk2 kX4_seal_1) (st := []) lkX4_243 ivX0_sealFor hG.1 rfl rfl (c_sealFor hG hγ hL (by omega) (by omega) hbk hn h12 (show kx < 8 by omega)) rfl ⟨rfl, rfl⟩ rfl rfl (fun r_ h_10 z_ q_9 => ?_) rfl
      obtain ⟨er_, ⟨mk_12, tl_13, γ_14, hG_, hγ_⟩, hU_11, ez_⟩ := q_9
      rw [er_, ez_]
      clear er_ ez_
      replace hX := XoAt.fr hX hU_11 (by omega)
      replace hL := LnAt.fr hL hU_11 (by omega)
      replace hU := hU.tr hU_11 (by omega) (by omega)
      replace hG := hG_; replace hγ := hγ_; clear hG_ hγ_
      replace hK := XR.gu hK hU_11 ⟨_, _, _, hG, hγ⟩
      show Z D B xX4_seal _ _ _ 36 _ [.int (lstD (fun k => decide (knowersF (up2 σ 10 kx (nI k)) kx = y)) 0 6)] _ _
      exact z_iret (pc := 36) (zk3 kX4_seal_1) rfl (Nat.zero_le _) (Nat.zero_le _) (by
                rw [show sp_seal σ τ ε (nI kx) y = (lstD (fun k => decide (knowersF (up2 σ 10 kx (nI k)) kx = y)) 0 6, σ, τ, ε) from by simp [sp_seal, sBad, okS, okH, okL, okT, okB, sRd, up2_id, up2_id2, oI, sOther, sNone, sFull, c_1, c_6, c_7, c_8, ix_nI (show kx ≤ 1000 by omega)]]
                exact ⟨rfl, hX, hL, hK, hU, rfl⟩)
    · have c_15 : okR 0 (1 <<< (σ 0 0 &&& 31) - 1) y = false := by simpa using c_7
      refine z_aload_n (pc := 16) (zk8 kX4_seal_0) rfl ?_
      refine z_bipush (pc := 17) (zk9 kX4_seal_0) (v := (-2)) (by decide) ?_
      refine z_efV (pc := 19) (zk10 kX4_seal_0) (st := []) lkX4_56 ivX4_refuse hX.1 rfl rfl (c_xrefuse (i := 0) hX hB (by decide) (by decide) (by decide)) rfl ⟨rfl, rfl⟩ rfl rfl (fun r_ h_17 z_ q_16 => ?_) rfl
      obtain ⟨er_, hR, hU_18, ez_⟩ := q_16
      rw [er_, ez_]
      clear er_ ez_
      replace hL := LnAt.fr hL hU_18 (by omega)
      replace hG := GuAt.fr hG hU_18 (by omega)
      replace hγ := LnAt.fr hγ hU_18 (by omega)
      replace hU := hU.tr hU_18 (by omega) (by omega)
      replace hK := XR.fr hK hU_18 (by omega)
      replace hX := hR; clear hR
      show Z D B xX4_seal _ _ _ 22 _ [.int (-2)] _ _
      exact z_iret (pc := 22) (zk11 kX4_seal_0) rfl (Nat.zero_le _) (Nat.zero_le _) (by
                rw [show sp_seal σ τ ε x y = ((-2), σ, (rfN τ 2), ε) from by simp [sp_seal, sBad, okS, okH, okL, okT, okB, sRd, up2_id, up2_id2, oI, sOther, sNone, sFull, c_1, c_6, c_7, c_15]]
                exact ⟨rfl, hX, hL, hK, hU, rfl⟩)
set_option maxRecDepth 20000 in
theorem cX_shout {D : zD} {B : Nat} {h : zH} {sz : Nat} {p : Nat} {σ κ τ : Ln} {ε : El} {ik : Int32} {x : Int32} {y : Int32} {n m : Nat} (hX : XoAt h p ik (rfo τ)) (hL : LnAt h (p + 1) σ) (hK : XR h p κ τ ε) (hB : B ≤ p) (hn : σ 0 0 = nI n) (h12 : n ≤ 12) (hm : σ 9 0 = nI m) (h8 : m ≤ 8) (hbk : σ 6 0 = 0 ∨ σ 6 0 = 1) (htn : ∀ l, l < m → ∃ t, t < n ∧ σ 12 l = nI t) (hlen : ∀ l, l < m → ∃ g, 1 ≤ g ∧ g ≤ 40 ∧ σ 13 l = nI g) (h2 : 2 ≤ n) (hS : SW τ m) : zM D B xX4_shout [.ref p, .int x, .int y] h sz (xQ h p sz ik κ (sp_shout σ τ ε x y)) := by
  have hU : Upd h h p 51 := Upd.rf
  obtain ⟨mk, tl, γ, hG, hγ⟩ := hK.2.1
  replace hγ : LnAt h (p + 19 + 1) γ := hγ
  refine zM.of (by decide) rfl (n := 0) ?_
  show Z D B xX4_shout 0 0 _ 0 [some (.ref p), some (.int x), some (.int y)] [] h sz
  refine z_aload_n (pc := 0) (zk0 kX4_shout_0) rfl ?_
  refine z_iload_n (pc := 1) (zk1 kX4_shout_0) rfl ?_
  refine z_rdV (pc := 2) (zk2 kX4_shout_0) (st := []) lkX4_99 ivX4_noLetter hX.1 rfl rfl (c_noLetter hX hL) rfl ⟨rfl, rfl⟩ rfl rfl ?_ rfl
  refine z_oif_ne (pc := 5) (zk3 kX4_shout_0) (tgt := 16) (by decide) (fun c_1 => ?_) (fun c_1 => ?_)
  · have c_2 : okR 0 (σ 9 0 - 1) x = false := by simpa using c_1
    refine z_aload_n (pc := 16) (zk8 kX4_shout_0) rfl ?_
    refine z_bipush (pc := 17) (zk9 kX4_shout_0) (v := (-2)) (by decide) ?_
    refine z_efV (pc := 19) (zk10 kX4_shout_0) (st := []) lkX4_56 ivX4_refuse hX.1 rfl rfl (c_xrefuse (i := 0) hX hB (by decide) (by decide) (by decide)) rfl ⟨rfl, rfl⟩ rfl rfl (fun r_ h_4 z_ q_3 => ?_) rfl
    obtain ⟨er_, hR, hU_5, ez_⟩ := q_3
    rw [er_, ez_]
    clear er_ ez_
    replace hL := LnAt.fr hL hU_5 (by omega)
    replace hG := GuAt.fr hG hU_5 (by omega)
    replace hγ := LnAt.fr hγ hU_5 (by omega)
    replace hU := hU.tr hU_5 (by omega) (by omega)
    replace hK := XR.fr hK hU_5 (by omega)
    replace hX := hR; clear hR
    show Z D B xX4_shout _ _ _ 22 _ [.int (-2)] _ _
    exact z_iret (pc := 22) (zk11 kX4_shout_0) rfl (Nat.zero_le _) (Nat.zero_le _) (by
            rw [show sp_shout σ τ ε x y = ((-2), σ, (rfN τ 2), ε) from by simp [sp_shout, sBad, okS, okH, okL, okT, okB, sRd, up2_id, up2_id2, oI, sOther, sNone, sFull, c_1, c_2]]
            exact ⟨rfl, hX, hL, hK, hU, rfl⟩)
  · have c_6 : okR 0 (σ 9 0 - 1) x = true := by simpa using c_1
    refine z_aload_n (pc := 8) (zk4 kX4_shout_0) rfl ?_
    refine z_iload_n (pc := 9) (zk5 kX4_shout_0) rfl ?_
    refine z_rdV (pc := 10) (zk6 kX4_shout_0) (st := []) lkX4_132 ivX4_noHouse hX.1 rfl rfl (c_noHouse hX hL) rfl ⟨rfl, rfl⟩ rfl rfl ?_ rfl
    refine z_oif_eq (pc := 13) (zk7 kX4_shout_0) (tgt := 23) (by decide) (fun c_7 => ?_) (fun c_7 => ?_)
    · have c_8 : okR 0 (σ 0 0 - 1) y = true := by simpa using c_7
      refine z_aload_n (pc := 23) (zk12 kX4_shout_0) rfl ?_
      refine z_getf (pc := 24) (zk13 kX4_shout_0) flX4_22 hX.1 gXo_2 ?_
      refine z_aload_n (pc := 27) (zk14 kX4_shout_0) rfl ?_
      refine z_getf (pc := 28) (zk15 kX4_shout_0) flX4_10 hX.1 gXo_0 ?_
      refine z_iload_n (pc := 31) (zk0 kX4_shout_1) rfl ?_
      refine z_iload_n (pc := 32) (zk1 kX4_shout_1) rfl ?_
      obtain ⟨ky, hky, rfl⟩ := okR_nI (n := n) (by omega) (by rw [← hn]; exact c_8)
      obtain ⟨kx, hkx, rfl⟩ := okR_nI (n := m) (by omega) (by rw [← hm]; exact c_6)
      refine z_efV (pc := 33) (zk2 kX4_shout_1) (st := []) lkX4_246 ivX0_leastLength hG.1 rfl rfl (c_leastLength hG hγ hL (by omega) (by omega) hbk hn h12 (show kx < 8 by omega) (show ky < n by omega)) rfl ⟨rfl, rfl⟩ rfl rfl (fun r_ h_10 z_ q_9 => ?_) rfl
      obtain ⟨er_, ⟨mk_12, tl_13, γ_14, hG_, hγ_⟩, hU_11, ez_⟩ := q_9
      rw [er_, ez_]
      clear er_ ez_
      replace hX := XoAt.fr hX hU_11 (by omega)
      replace hL := LnAt.fr hL hU_11 (by omega)
      replace hU := hU.tr hU_11 (by omega) (by omega)
      replace hG := hG_; replace hγ := hγ_; clear hG_ hγ_
      replace hK := XR.gu hK hU_11 ⟨_, _, _, hG, hγ⟩
      show Z D B xX4_shout _ _ _ 36 _ [.int (lstD (fun k => knowB (up2 σ 13 kx (nI k)) kx ky) 1 40)] _ _
      exact z_iret (pc := 36) (zk3 kX4_shout_1) rfl (Nat.zero_le _) (Nat.zero_le _) (by
                rw [show sp_shout σ τ ε (nI kx) (nI ky) = (lstD (fun k => knowB (up2 σ 13 kx (nI k)) kx ky) 1 40, σ, τ, ε) from by simp [sp_shout, sBad, okS, okH, okL, okT, okB, sRd, up2_id, up2_id2, oI, sOther, sNone, sFull, c_1, c_6, c_7, c_8, ix_nI (show ky ≤ 1000 by omega), ix_nI (show kx ≤ 1000 by omega)]]
                exact ⟨rfl, hX, hL, hK, hU, rfl⟩)
    · have c_15 : okR 0 (σ 0 0 - 1) y = false := by simpa using c_7
      refine z_aload_n (pc := 16) (zk8 kX4_shout_0) rfl ?_
      refine z_bipush (pc := 17) (zk9 kX4_shout_0) (v := (-2)) (by decide) ?_
      refine z_efV (pc := 19) (zk10 kX4_shout_0) (st := []) lkX4_56 ivX4_refuse hX.1 rfl rfl (c_xrefuse (i := 0) hX hB (by decide) (by decide) (by decide)) rfl ⟨rfl, rfl⟩ rfl rfl (fun r_ h_17 z_ q_16 => ?_) rfl
      obtain ⟨er_, hR, hU_18, ez_⟩ := q_16
      rw [er_, ez_]
      clear er_ ez_
      replace hL := LnAt.fr hL hU_18 (by omega)
      replace hG := GuAt.fr hG hU_18 (by omega)
      replace hγ := LnAt.fr hγ hU_18 (by omega)
      replace hU := hU.tr hU_18 (by omega) (by omega)
      replace hK := XR.fr hK hU_18 (by omega)
      replace hX := hR; clear hR
      show Z D B xX4_shout _ _ _ 22 _ [.int (-2)] _ _
      exact z_iret (pc := 22) (zk11 kX4_shout_0) rfl (Nat.zero_le _) (Nat.zero_le _) (by
                rw [show sp_shout σ τ ε x y = ((-2), σ, (rfN τ 2), ε) from by simp [sp_shout, sBad, okS, okH, okL, okT, okB, sRd, up2_id, up2_id2, oI, sOther, sNone, sFull, c_1, c_6, c_7, c_15]]
                exact ⟨rfl, hX, hL, hK, hU, rfl⟩)
set_option maxRecDepth 20000 in
theorem cX_colds {D : zD} {B : Nat} {h : zH} {sz : Nat} {p : Nat} {σ κ τ : Ln} {ε : El} {ik : Int32} {x : Int32} {y : Int32} {n m : Nat} (hX : XoAt h p ik (rfo τ)) (hL : LnAt h (p + 1) σ) (hK : XR h p κ τ ε) (hB : B ≤ p) (hn : σ 0 0 = nI n) (h12 : n ≤ 12) (hm : σ 9 0 = nI m) (h8 : m ≤ 8) (hbk : σ 6 0 = 0 ∨ σ 6 0 = 1) (htn : ∀ l, l < m → ∃ t, t < n ∧ σ 12 l = nI t) (hlen : ∀ l, l < m → ∃ g, 1 ≤ g ∧ g ≤ 40 ∧ σ 13 l = nI g) (h2 : 2 ≤ n) (hS : SW τ m) : zM D B xX4_colds [.ref p, .int x, .int y] h sz (xQ h p sz ik κ (sp_colds σ τ ε x y)) := by
  have hU : Upd h h p 51 := Upd.rf
  obtain ⟨mk, tl, γ, hG, hγ⟩ := hK.2.1
  replace hγ : LnAt h (p + 19 + 1) γ := hγ
  refine zM.of (by decide) rfl (n := 0) ?_
  show Z D B xX4_colds 0 0 _ 0 [some (.ref p), some (.int x), some (.int y)] [] h sz
  refine z_aload_n (pc := 0) (zk0 kX4_colds_0) rfl ?_
  refine z_iload_n (pc := 1) (zk1 kX4_colds_0) rfl ?_
  refine z_rdV (pc := 2) (zk2 kX4_colds_0) (st := []) lkX4_99 ivX4_noLetter hX.1 rfl rfl (c_noLetter hX hL) rfl ⟨rfl, rfl⟩ rfl rfl ?_ rfl
  refine z_oif_ne (pc := 5) (zk3 kX4_colds_0) (tgt := 16) (by decide) (fun c_1 => ?_) (fun c_1 => ?_)
  · have c_2 : okR 0 (σ 9 0 - 1) x = false := by simpa using c_1
    refine z_aload_n (pc := 16) (zk8 kX4_colds_0) rfl ?_
    refine z_bipush (pc := 17) (zk9 kX4_colds_0) (v := (-2)) (by decide) ?_
    refine z_efV (pc := 19) (zk10 kX4_colds_0) (st := []) lkX4_56 ivX4_refuse hX.1 rfl rfl (c_xrefuse (i := 0) hX hB (by decide) (by decide) (by decide)) rfl ⟨rfl, rfl⟩ rfl rfl (fun r_ h_4 z_ q_3 => ?_) rfl
    obtain ⟨er_, hR, hU_5, ez_⟩ := q_3
    rw [er_, ez_]
    clear er_ ez_
    replace hL := LnAt.fr hL hU_5 (by omega)
    replace hG := GuAt.fr hG hU_5 (by omega)
    replace hγ := LnAt.fr hγ hU_5 (by omega)
    replace hU := hU.tr hU_5 (by omega) (by omega)
    replace hK := XR.fr hK hU_5 (by omega)
    replace hX := hR; clear hR
    show Z D B xX4_colds _ _ _ 22 _ [.int (-2)] _ _
    exact z_iret (pc := 22) (zk11 kX4_colds_0) rfl (Nat.zero_le _) (Nat.zero_le _) (by
            rw [show sp_colds σ τ ε x y = ((-2), σ, (rfN τ 2), ε) from by simp [sp_colds, sBad, okS, okH, okL, okT, okB, sRd, up2_id, up2_id2, oI, sOther, sNone, sFull, c_1, c_2]]
            exact ⟨rfl, hX, hL, hK, hU, rfl⟩)
  · have c_6 : okR 0 (σ 9 0 - 1) x = true := by simpa using c_1
    refine z_aload_n (pc := 8) (zk4 kX4_colds_0) rfl ?_
    refine z_iload_n (pc := 9) (zk5 kX4_colds_0) rfl ?_
    refine z_rdV (pc := 10) (zk6 kX4_colds_0) (st := []) lkX4_132 ivX4_noHouse hX.1 rfl rfl (c_noHouse hX hL) rfl ⟨rfl, rfl⟩ rfl rfl ?_ rfl
    refine z_oif_eq (pc := 13) (zk7 kX4_colds_0) (tgt := 23) (by decide) (fun c_7 => ?_) (fun c_7 => ?_)
    · have c_8 : okR 0 (σ 0 0 - 1) y = true := by simpa using c_7
      refine z_aload_n (pc := 23) (zk12 kX4_colds_0) rfl ?_
      refine z_getf (pc := 24) (zk13 kX4_colds_0) flX4_22 hX.1 gXo_2 ?_
      refine z_aload_n (pc := 27) (zk14 kX4_colds_0) rfl ?_
      refine z_getf (pc := 28) (zk15 kX4_colds_0) flX4_10 hX.1 gXo_0 ?_
      refine z_iload_n (pc := 31) (zk0 kX4_colds_1) rfl ?_
      refine z_iload_n (pc := 32) (zk1 kX4_colds_1) rfl ?_
      obtain ⟨ky, hky, rfl⟩ := okR_nI (n := n) (by omega) (by rw [← hn]; exact c_8)
      obtain ⟨kx, hkx, rfl⟩ := okR_nI (n := m) (by omega) (by rw [← hm]; exact c_6)
      refine z_efV (pc := 33) (zk2 kX4_colds_1) (st := []) lkX4_309 ivX0_leastCold hG.1 rfl rfl (c_leastCold hG hγ hL (by omega) (by omega) hbk hn h12 (show kx < 8 by omega) (show ky < n by omega)) rfl ⟨rfl, rfl⟩ rfl rfl (fun r_ h_10 z_ q_9 => ?_) rfl
      obtain ⟨er_, ⟨mk_12, tl_13, γ_14, hG_, hγ_⟩, hU_11, ez_⟩ := q_9
      rw [er_, ez_]
      clear er_ ez_
      replace hX := XoAt.fr hX hU_11 (by omega)
      replace hL := LnAt.fr hL hU_11 (by omega)
      replace hU := hU.tr hU_11 (by omega) (by omega)
      replace hG := hG_; replace hγ := hγ_; clear hG_ hγ_
      replace hK := XR.gu hK hU_11 ⟨_, _, _, hG, hγ⟩
      show Z D B xX4_colds _ _ _ 36 _ [.int (lstD (fun k => !knowB (up2 σ 5 0 (nI k)) kx ky) 0 10)] _ _
      exact z_iret (pc := 36) (zk3 kX4_colds_1) rfl (Nat.zero_le _) (Nat.zero_le _) (by
                rw [show sp_colds σ τ ε (nI kx) (nI ky) = (lstD (fun k => !knowB (up2 σ 5 0 (nI k)) kx ky) 0 10, σ, τ, ε) from by simp [sp_colds, sBad, okS, okH, okL, okT, okB, sRd, up2_id, up2_id2, oI, sOther, sNone, sFull, c_1, c_6, c_7, c_8, ix_nI (show ky ≤ 1000 by omega), ix_nI (show kx ≤ 1000 by omega)]]
                exact ⟨rfl, hX, hL, hK, hU, rfl⟩)
    · have c_15 : okR 0 (σ 0 0 - 1) y = false := by simpa using c_7
      refine z_aload_n (pc := 16) (zk8 kX4_colds_0) rfl ?_
      refine z_bipush (pc := 17) (zk9 kX4_colds_0) (v := (-2)) (by decide) ?_
      refine z_efV (pc := 19) (zk10 kX4_colds_0) (st := []) lkX4_56 ivX4_refuse hX.1 rfl rfl (c_xrefuse (i := 0) hX hB (by decide) (by decide) (by decide)) rfl ⟨rfl, rfl⟩ rfl rfl (fun r_ h_17 z_ q_16 => ?_) rfl
      obtain ⟨er_, hR, hU_18, ez_⟩ := q_16
      rw [er_, ez_]
      clear er_ ez_
      replace hL := LnAt.fr hL hU_18 (by omega)
      replace hG := GuAt.fr hG hU_18 (by omega)
      replace hγ := LnAt.fr hγ hU_18 (by omega)
      replace hU := hU.tr hU_18 (by omega) (by omega)
      replace hK := XR.fr hK hU_18 (by omega)
      replace hX := hR; clear hR
      show Z D B xX4_colds _ _ _ 22 _ [.int (-2)] _ _
      exact z_iret (pc := 22) (zk11 kX4_colds_0) rfl (Nat.zero_le _) (Nat.zero_le _) (by
                rw [show sp_colds σ τ ε x y = ((-2), σ, (rfN τ 2), ε) from by simp [sp_colds, sBad, okS, okH, okL, okT, okB, sRd, up2_id, up2_id2, oI, sOther, sNone, sFull, c_1, c_6, c_7, c_15]]
                exact ⟨rfl, hX, hL, hK, hU, rfl⟩)
set_option maxRecDepth 20000 in
theorem cX_quiet {D : zD} {B : Nat} {h : zH} {sz : Nat} {p : Nat} {σ κ τ : Ln} {ε : El} {ik : Int32} {x : Int32} {n m : Nat} (hX : XoAt h p ik (rfo τ)) (hL : LnAt h (p + 1) σ) (hK : XR h p κ τ ε) (hB : B ≤ p) (hn : σ 0 0 = nI n) (h12 : n ≤ 12) (hm : σ 9 0 = nI m) (h8 : m ≤ 8) (hbk : σ 6 0 = 0 ∨ σ 6 0 = 1) (htn : ∀ l, l < m → ∃ t, t < n ∧ σ 12 l = nI t) (hlen : ∀ l, l < m → ∃ g, 1 ≤ g ∧ g ≤ 40 ∧ σ 13 l = nI g) (h2 : 2 ≤ n) (hS : SW τ m) : zM D B xX4_quiet [.ref p, .int x] h sz (xQ h p sz ik κ (sp_quiet σ τ ε x)) := by
  have hU : Upd h h p 51 := Upd.rf
  obtain ⟨mk, tl, γ, hG, hγ⟩ := hK.2.1
  replace hγ : LnAt h (p + 19 + 1) γ := hγ
  refine zM.of (by decide) rfl (n := 0) ?_
  show Z D B xX4_quiet 0 0 _ 0 [some (.ref p), some (.int x)] [] h sz
  refine z_aload_n (pc := 0) (zk0 kX4_quiet_0) rfl ?_
  refine z_iload_n (pc := 1) (zk1 kX4_quiet_0) rfl ?_
  refine z_rdV (pc := 2) (zk2 kX4_quiet_0) (st := []) lkX4_132 ivX4_noHouse hX.1 rfl rfl (c_noHouse hX hL) rfl ⟨rfl, rfl⟩ rfl rfl ?_ rfl
  refine z_oif_eq (pc := 5) (zk3 kX4_quiet_0) (tgt := 17) (by decide) (fun c_1 => ?_) (fun c_1 => ?_)
  · have c_2 : okR 0 (σ 0 0 - 1) x = true := by simpa using c_1
    refine z_aload_n (pc := 17) (zk8 kX4_quiet_0) rfl ?_
    refine z_getf (pc := 18) (zk9 kX4_quiet_0) flX4_22 hX.1 gXo_2 ?_
    refine z_aload_n (pc := 21) (zk10 kX4_quiet_0) rfl ?_
    refine z_getf (pc := 22) (zk11 kX4_quiet_0) flX4_10 hX.1 gXo_0 ?_
    refine z_iload_n (pc := 25) (zk12 kX4_quiet_0) rfl ?_
    obtain ⟨kx, hkx, rfl⟩ := okR_nI (n := n) (by omega) (by rw [← hn]; exact c_2)
    refine z_efV (pc := 26) (zk13 kX4_quiet_0) (st := []) lkX4_329 ivX0_leastQuietWind hG.1 rfl rfl (c_leastQuiet hG hγ hL (by omega) (by omega) hbk hn h12 hm h8 (show kx < n by omega)) rfl ⟨rfl, rfl⟩ rfl rfl (fun r_ h_4 z_ q_3 => ?_) rfl
    obtain ⟨er_, ⟨mk_6, tl_7, γ_8, hG_, hγ_⟩, hU_5, ez_⟩ := q_3
    rw [er_, ez_]
    clear er_ ez_
    replace hX := XoAt.fr hX hU_5 (by omega)
    replace hL := LnAt.fr hL hU_5 (by omega)
    replace hU := hU.tr hU_5 (by omega) (by omega)
    replace hG := hG_; replace hγ := hγ_; clear hG_ hγ_
    replace hK := XR.gu hK hU_5 ⟨_, _, _, hG, hγ⟩
    show Z D B xX4_quiet _ _ _ 29 _ [.int (lstD (fun k => decide (knownF (up2 σ 1 kx (nI k)) kx = 0)) 0 10)] _ _
    exact z_iret (pc := 29) (zk14 kX4_quiet_0) rfl (Nat.zero_le _) (Nat.zero_le _) (by
            rw [show sp_quiet σ τ ε (nI kx) = (lstD (fun k => decide (knownF (up2 σ 1 kx (nI k)) kx = 0)) 0 10, σ, τ, ε) from by simp [sp_quiet, sBad, okS, okH, okL, okT, okB, sRd, up2_id, up2_id2, oI, sOther, sNone, sFull, c_1, c_2, ix_nI (show kx ≤ 1000 by omega)]]
            exact ⟨rfl, hX, hL, hK, hU, rfl⟩)
  · have c_9 : okR 0 (σ 0 0 - 1) x = false := by simpa using c_1
    refine z_aload_n (pc := 8) (zk4 kX4_quiet_0) rfl ?_
    refine z_bipush (pc := 9) (zk5 kX4_quiet_0) (v := (-2)) (by decide) ?_
    refine z_efV (pc := 11) (zk6 kX4_quiet_0) (st := []) lkX4_56 ivX4_refuse hX.1 rfl rfl (c_xrefuse (i := 0) hX hB (by decide) (by decide) (by decide)) rfl ⟨rfl, rfl⟩ rfl rfl (fun r_ h_11 z_ q_10 => ?_) rfl
    obtain ⟨er_, hR, hU_12, ez_⟩ := q_10
    rw [er_, ez_]
    clear er_ ez_
    replace hL := LnAt.fr hL hU_12 (by omega)
    replace hG := GuAt.fr hG hU_12 (by omega)
    replace hγ := LnAt.fr hγ hU_12 (by omega)
    replace hU := hU.tr hU_12 (by omega) (by omega)
    replace hK := XR.fr hK hU_12 (by omega)
    replace hX := hR; clear hR
    show Z D B xX4_quiet _ _ _ 14 _ [.int (-2)] _ _
    refine z_goto (pc := 14) (zk7 kX4_quiet_0) (tgt := 29) (by decide) ?_
    exact z_iret (pc := 29) (zk14 kX4_quiet_0) rfl (Nat.zero_le _) (Nat.zero_le _) (by
            rw [show sp_quiet σ τ ε x = ((-2), σ, (rfN τ 2), ε) from by simp [sp_quiet, sBad, okS, okH, okL, okT, okB, sRd, up2_id, up2_id2, oI, sOther, sNone, sFull, c_1, c_9]]
            exact ⟨rfl, hX, hL, hK, hU, rfl⟩)
set_option maxRecDepth 20000 in
theorem cX_turned {D : zD} {B : Nat} {h : zH} {sz : Nat} {p : Nat} {σ κ τ : Ln} {ε : El} {ik : Int32} {x : Int32} {n m : Nat} (hX : XoAt h p ik (rfo τ)) (hL : LnAt h (p + 1) σ) (hK : XR h p κ τ ε) (hB : B ≤ p) (hn : σ 0 0 = nI n) (h12 : n ≤ 12) (hm : σ 9 0 = nI m) (h8 : m ≤ 8) (hbk : σ 6 0 = 0 ∨ σ 6 0 = 1) (htn : ∀ l, l < m → ∃ t, t < n ∧ σ 12 l = nI t) (hlen : ∀ l, l < m → ∃ g, 1 ≤ g ∧ g ≤ 40 ∧ σ 13 l = nI g) (h2 : 2 ≤ n) (hS : SW τ m) : zM D B xX4_turned [.ref p, .int x] h sz (xQ h p sz ik κ (sp_turned σ τ ε x)) := by
  have hU : Upd h h p 51 := Upd.rf
  obtain ⟨mk, tl, γ, hG, hγ⟩ := hK.2.1
  replace hγ : LnAt h (p + 19 + 1) γ := hγ
  refine zM.of (by decide) rfl (n := 0) ?_
  show Z D B xX4_turned 0 0 _ 0 [some (.ref p), some (.int x)] [] h sz
  refine z_aload_n (pc := 0) (zk0 kX4_turned_0) rfl ?_
  refine z_iload_n (pc := 1) (zk1 kX4_turned_0) rfl ?_
  refine z_rdV (pc := 2) (zk2 kX4_turned_0) (st := []) lkX4_99 ivX4_noLetter hX.1 rfl rfl (c_noLetter hX hL) rfl ⟨rfl, rfl⟩ rfl rfl ?_ rfl
  refine z_oif_eq (pc := 5) (zk3 kX4_turned_0) (tgt := 17) (by decide) (fun c_1 => ?_) (fun c_1 => ?_)
  · have c_2 : okR 0 (σ 9 0 - 1) x = true := by simpa using c_1
    refine z_aload_n (pc := 17) (zk8 kX4_turned_0) rfl ?_
    refine z_getf (pc := 18) (zk9 kX4_turned_0) flX4_22 hX.1 gXo_2 ?_
    refine z_aload_n (pc := 21) (zk10 kX4_turned_0) rfl ?_
    refine z_getf (pc := 22) (zk11 kX4_turned_0) flX4_10 hX.1 gXo_0 ?_
    refine z_iload_n (pc := 25) (zk12 kX4_turned_0) rfl ?_
    obtain ⟨kx, hkx, rfl⟩ := okR_nI (n := m) (by omega) (by rw [← hm]; exact c_2)
    refine z_efV (pc := 26) (zk13 kX4_turned_0) (st := []) lkX4_301 ivX0_knowersTurned hG.1 rfl rfl (c_turned hG hγ hL (by omega) (by omega) hbk hn h12 (show kx < 8 by omega)) rfl ⟨rfl, rfl⟩ rfl rfl (fun r_ h_4 z_ q_3 => ?_) rfl
    obtain ⟨er_, ⟨mk_6, tl_7, γ_8, hG_, hγ_⟩, hU_5, ez_⟩ := q_3
    rw [er_, ez_]
    clear er_ ez_
    replace hX := XoAt.fr hX hU_5 (by omega)
    replace hL := LnAt.fr hL hU_5 (by omega)
    replace hU := hU.tr hU_5 (by omega) (by omega)
    replace hG := hG_; replace hγ := hγ_; clear hG_ hγ_
    replace hK := XR.gu hK hU_5 ⟨_, _, _, hG, hγ⟩
    show Z D B xX4_turned _ _ _ 29 _ [.int (popI (knowersF (up2 σ 6 0 (oI (decide (σ 6 0 = 0)))) kx))] _ _
    exact z_iret (pc := 29) (zk14 kX4_turned_0) rfl (Nat.zero_le _) (Nat.zero_le _) (by
            rw [show sp_turned σ τ ε (nI kx) = (popI (knowersF (up2 σ 6 0 (oI (decide (σ 6 0 = 0)))) kx), σ, τ, ε) from by simp [sp_turned, sBad, okS, okH, okL, okT, okB, sRd, up2_id, up2_id2, oI, sOther, sNone, sFull, c_1, c_2, ix_nI (show kx ≤ 1000 by omega)]]
            exact ⟨rfl, hX, hL, hK, hU, rfl⟩)
  · have c_9 : okR 0 (σ 9 0 - 1) x = false := by simpa using c_1
    refine z_aload_n (pc := 8) (zk4 kX4_turned_0) rfl ?_
    refine z_bipush (pc := 9) (zk5 kX4_turned_0) (v := (-2)) (by decide) ?_
    refine z_efV (pc := 11) (zk6 kX4_turned_0) (st := []) lkX4_56 ivX4_refuse hX.1 rfl rfl (c_xrefuse (i := 0) hX hB (by decide) (by decide) (by decide)) rfl ⟨rfl, rfl⟩ rfl rfl (fun r_ h_11 z_ q_10 => ?_) rfl
    obtain ⟨er_, hR, hU_12, ez_⟩ := q_10
    rw [er_, ez_]
    clear er_ ez_
    replace hL := LnAt.fr hL hU_12 (by omega)
    replace hG := GuAt.fr hG hU_12 (by omega)
    replace hγ := LnAt.fr hγ hU_12 (by omega)
    replace hU := hU.tr hU_12 (by omega) (by omega)
    replace hK := XR.fr hK hU_12 (by omega)
    replace hX := hR; clear hR
    show Z D B xX4_turned _ _ _ 14 _ [.int (-2)] _ _
    refine z_goto (pc := 14) (zk7 kX4_turned_0) (tgt := 29) (by decide) ?_
    exact z_iret (pc := 29) (zk14 kX4_turned_0) rfl (Nat.zero_le _) (Nat.zero_le _) (by
            rw [show sp_turned σ τ ε x = ((-2), σ, (rfN τ 2), ε) from by simp [sp_turned, sBad, okS, okH, okL, okT, okB, sRd, up2_id, up2_id2, oI, sOther, sNone, sFull, c_1, c_9]]
            exact ⟨rfl, hX, hL, hK, hU, rfl⟩)
set_option maxRecDepth 20000 in
theorem cX_sober {D : zD} {B : Nat} {h : zH} {sz : Nat} {p : Nat} {σ κ τ : Ln} {ε : El} {ik : Int32} {x : Int32} {n m : Nat} (hX : XoAt h p ik (rfo τ)) (hL : LnAt h (p + 1) σ) (hK : XR h p κ τ ε) (hB : B ≤ p) (hn : σ 0 0 = nI n) (h12 : n ≤ 12) (hm : σ 9 0 = nI m) (h8 : m ≤ 8) (hbk : σ 6 0 = 0 ∨ σ 6 0 = 1) (htn : ∀ l, l < m → ∃ t, t < n ∧ σ 12 l = nI t) (hlen : ∀ l, l < m → ∃ g, 1 ≤ g ∧ g ≤ 40 ∧ σ 13 l = nI g) (h2 : 2 ≤ n) (hS : SW τ m) : zM D B xX4_sober [.ref p, .int x] h sz (xQ h p sz ik κ (sp_sober σ τ ε x)) := by
  have hU : Upd h h p 51 := Upd.rf
  obtain ⟨mk, tl, γ, hG, hγ⟩ := hK.2.1
  replace hγ : LnAt h (p + 19 + 1) γ := hγ
  refine zM.of (by decide) rfl (n := 0) ?_
  show Z D B xX4_sober 0 0 _ 0 [some (.ref p), some (.int x)] [] h sz
  refine z_aload_n (pc := 0) (zk0 kX4_sober_0) rfl ?_
  refine z_iload_n (pc := 1) (zk1 kX4_sober_0) rfl ?_
  refine z_rdV (pc := 2) (zk2 kX4_sober_0) (st := []) lkX4_99 ivX4_noLetter hX.1 rfl rfl (c_noLetter hX hL) rfl ⟨rfl, rfl⟩ rfl rfl ?_ rfl
  refine z_oif_eq (pc := 5) (zk3 kX4_sober_0) (tgt := 17) (by decide) (fun c_1 => ?_) (fun c_1 => ?_)
  · have c_2 : okR 0 (σ 9 0 - 1) x = true := by simpa using c_1
    refine z_aload_n (pc := 17) (zk8 kX4_sober_0) rfl ?_
    refine z_getf (pc := 18) (zk9 kX4_sober_0) flX4_22 hX.1 gXo_2 ?_
    refine z_aload_n (pc := 21) (zk10 kX4_sober_0) rfl ?_
    refine z_getf (pc := 22) (zk11 kX4_sober_0) flX4_10 hX.1 gXo_0 ?_
    refine z_iload_n (pc := 25) (zk12 kX4_sober_0) rfl ?_
    obtain ⟨kx, hkx, rfl⟩ := okR_nI (n := m) (by omega) (by rw [← hm]; exact c_2)
    refine z_efV (pc := 26) (zk13 kX4_sober_0) (st := []) lkX4_332 ivX0_knowersSober hG.1 rfl rfl (c_sober hG hγ hL (by omega) (by omega) hbk hn h12 (show kx < 8 by omega)) rfl ⟨rfl, rfl⟩ rfl rfl (fun r_ h_4 z_ q_3 => ?_) rfl
    obtain ⟨er_, ⟨mk_6, tl_7, γ_8, hG_, hγ_⟩, hU_5, ez_⟩ := q_3
    rw [er_, ez_]
    clear er_ ez_
    replace hX := XoAt.fr hX hU_5 (by omega)
    replace hL := LnAt.fr hL hU_5 (by omega)
    replace hU := hU.tr hU_5 (by omega) (by omega)
    replace hG := hG_; replace hγ := hγ_; clear hG_ hγ_
    replace hK := XR.gu hK hU_5 ⟨_, _, _, hG, hγ⟩
    show Z D B xX4_sober _ _ _ 29 _ [.int (popI (knowersF (dry σ (hsN σ)) kx))] _ _
    exact z_iret (pc := 29) (zk14 kX4_sober_0) rfl (Nat.zero_le _) (Nat.zero_le _) (by
            rw [show sp_sober σ τ ε (nI kx) = (popI (knowersF (dry σ (hsN σ)) kx), σ, τ, ε) from by simp [sp_sober, sBad, okS, okH, okL, okT, okB, sRd, up2_id, up2_id2, oI, sOther, sNone, sFull, c_1, c_2, ix_nI (show kx ≤ 1000 by omega)]]
            exact ⟨rfl, hX, hL, hK, hU, rfl⟩)
  · have c_9 : okR 0 (σ 9 0 - 1) x = false := by simpa using c_1
    refine z_aload_n (pc := 8) (zk4 kX4_sober_0) rfl ?_
    refine z_bipush (pc := 9) (zk5 kX4_sober_0) (v := (-2)) (by decide) ?_
    refine z_efV (pc := 11) (zk6 kX4_sober_0) (st := []) lkX4_56 ivX4_refuse hX.1 rfl rfl (c_xrefuse (i := 0) hX hB (by decide) (by decide) (by decide)) rfl ⟨rfl, rfl⟩ rfl rfl (fun r_ h_11 z_ q_10 => ?_) rfl
    obtain ⟨er_, hR, hU_12, ez_⟩ := q_10
    rw [er_, ez_]
    clear er_ ez_
    replace hL := LnAt.fr hL hU_12 (by omega)
    replace hG := GuAt.fr hG hU_12 (by omega)
    replace hγ := LnAt.fr hγ hU_12 (by omega)
    replace hU := hU.tr hU_12 (by omega) (by omega)
    replace hK := XR.fr hK hU_12 (by omega)
    replace hX := hR; clear hR
    show Z D B xX4_sober _ _ _ 14 _ [.int (-2)] _ _
    refine z_goto (pc := 14) (zk7 kX4_sober_0) (tgt := 29) (by decide) ?_
    exact z_iret (pc := 29) (zk14 kX4_sober_0) rfl (Nat.zero_le _) (Nat.zero_le _) (by
            rw [show sp_sober σ τ ε x = ((-2), σ, (rfN τ 2), ε) from by simp [sp_sober, sBad, okS, okH, okL, okT, okB, sRd, up2_id, up2_id2, oI, sOther, sNone, sFull, c_1, c_9]]
            exact ⟨rfl, hX, hL, hK, hU, rfl⟩)
set_option maxRecDepth 20000 in
theorem cX_merry {D : zD} {B : Nat} {h : zH} {sz : Nat} {p : Nat} {σ κ τ : Ln} {ε : El} {ik : Int32} {x : Int32} {n m : Nat} (hX : XoAt h p ik (rfo τ)) (hL : LnAt h (p + 1) σ) (hK : XR h p κ τ ε) (hB : B ≤ p) (hn : σ 0 0 = nI n) (h12 : n ≤ 12) (hm : σ 9 0 = nI m) (h8 : m ≤ 8) (hbk : σ 6 0 = 0 ∨ σ 6 0 = 1) (htn : ∀ l, l < m → ∃ t, t < n ∧ σ 12 l = nI t) (hlen : ∀ l, l < m → ∃ g, 1 ≤ g ∧ g ≤ 40 ∧ σ 13 l = nI g) (h2 : 2 ≤ n) (hS : SW τ m) : zM D B xX4_merry [.ref p, .int x] h sz (xQ h p sz ik κ (sp_merry σ τ ε x)) := by
  have hU : Upd h h p 51 := Upd.rf
  obtain ⟨mk, tl, γ, hG, hγ⟩ := hK.2.1
  replace hγ : LnAt h (p + 19 + 1) γ := hγ
  refine zM.of (by decide) rfl (n := 0) ?_
  show Z D B xX4_merry 0 0 _ 0 [some (.ref p), some (.int x)] [] h sz
  refine z_aload_n (pc := 0) (zk0 kX4_merry_0) rfl ?_
  refine z_iload_n (pc := 1) (zk1 kX4_merry_0) rfl ?_
  refine z_rdV (pc := 2) (zk2 kX4_merry_0) (st := []) lkX4_99 ivX4_noLetter hX.1 rfl rfl (c_noLetter hX hL) rfl ⟨rfl, rfl⟩ rfl rfl ?_ rfl
  refine z_oif_eq (pc := 5) (zk3 kX4_merry_0) (tgt := 17) (by decide) (fun c_1 => ?_) (fun c_1 => ?_)
  · have c_2 : okR 0 (σ 9 0 - 1) x = true := by simpa using c_1
    refine z_aload_n (pc := 17) (zk8 kX4_merry_0) rfl ?_
    refine z_getf (pc := 18) (zk9 kX4_merry_0) flX4_22 hX.1 gXo_2 ?_
    refine z_aload_n (pc := 21) (zk10 kX4_merry_0) rfl ?_
    refine z_getf (pc := 22) (zk11 kX4_merry_0) flX4_10 hX.1 gXo_0 ?_
    refine z_iload_n (pc := 25) (zk12 kX4_merry_0) rfl ?_
    obtain ⟨kx, hkx, rfl⟩ := okR_nI (n := m) (by omega) (by rw [← hm]; exact c_2)
    refine z_efV (pc := 26) (zk13 kX4_merry_0) (st := []) lkX4_345 ivX0_merriestHouse hG.1 rfl rfl (c_merriest hG hγ hL (by omega) (by omega) hbk hn h12 (show kx < 8 by omega)) rfl ⟨rfl, rfl⟩ rfl rfl (fun r_ h_4 z_ q_3 => ?_) rfl
    obtain ⟨er_, ⟨mk_6, tl_7, γ_8, hG_, hγ_⟩, hU_5, ez_⟩ := q_3
    rw [er_, ez_]
    clear er_ ez_
    replace hX := XoAt.fr hX hU_5 (by omega)
    replace hL := LnAt.fr hL hU_5 (by omega)
    replace hU := hU.tr hU_5 (by omega) (by omega)
    replace hG := hG_; replace hγ := hγ_; clear hG_ hγ_
    replace hK := XR.gu hK hU_5 ⟨_, _, _, hG, hγ⟩
    show Z D B xX4_merry _ _ _ 29 _ [.int ((amx (fun k => popI (knowersF (up2 σ 2 k 0) kx)) (-1) 0 (hsN σ)).2)] _ _
    exact z_iret (pc := 29) (zk14 kX4_merry_0) rfl (Nat.zero_le _) (Nat.zero_le _) (by
            rw [show sp_merry σ τ ε (nI kx) = ((amx (fun k => popI (knowersF (up2 σ 2 k 0) kx)) (-1) 0 (hsN σ)).2, σ, τ, ε) from by simp [sp_merry, sBad, okS, okH, okL, okT, okB, sRd, up2_id, up2_id2, oI, sOther, sNone, sFull, c_1, c_2, ix_nI (show kx ≤ 1000 by omega)]]
            exact ⟨rfl, hX, hL, hK, hU, rfl⟩)
  · have c_9 : okR 0 (σ 9 0 - 1) x = false := by simpa using c_1
    refine z_aload_n (pc := 8) (zk4 kX4_merry_0) rfl ?_
    refine z_bipush (pc := 9) (zk5 kX4_merry_0) (v := (-2)) (by decide) ?_
    refine z_efV (pc := 11) (zk6 kX4_merry_0) (st := []) lkX4_56 ivX4_refuse hX.1 rfl rfl (c_xrefuse (i := 0) hX hB (by decide) (by decide) (by decide)) rfl ⟨rfl, rfl⟩ rfl rfl (fun r_ h_11 z_ q_10 => ?_) rfl
    obtain ⟨er_, hR, hU_12, ez_⟩ := q_10
    rw [er_, ez_]
    clear er_ ez_
    replace hL := LnAt.fr hL hU_12 (by omega)
    replace hG := GuAt.fr hG hU_12 (by omega)
    replace hγ := LnAt.fr hγ hU_12 (by omega)
    replace hU := hU.tr hU_12 (by omega) (by omega)
    replace hK := XR.fr hK hU_12 (by omega)
    replace hX := hR; clear hR
    show Z D B xX4_merry _ _ _ 14 _ [.int (-2)] _ _
    refine z_goto (pc := 14) (zk7 kX4_merry_0) (tgt := 29) (by decide) ?_
    exact z_iret (pc := 29) (zk14 kX4_merry_0) rfl (Nat.zero_le _) (Nat.zero_le _) (by
            rw [show sp_merry σ τ ε x = ((-2), σ, (rfN τ 2), ε) from by simp [sp_merry, sBad, okS, okH, okL, okT, okB, sRd, up2_id, up2_id2, oI, sOther, sNone, sFull, c_1, c_9]]
            exact ⟨rfl, hX, hL, hK, hU, rfl⟩)
set_option maxRecDepth 20000 in
theorem cX_sure {D : zD} {B : Nat} {h : zH} {sz : Nat} {p : Nat} {σ κ τ : Ln} {ε : El} {ik : Int32} {x : Int32} {n m : Nat} (hX : XoAt h p ik (rfo τ)) (hL : LnAt h (p + 1) σ) (hK : XR h p κ τ ε) (hB : B ≤ p) (hn : σ 0 0 = nI n) (h12 : n ≤ 12) (hm : σ 9 0 = nI m) (h8 : m ≤ 8) (hbk : σ 6 0 = 0 ∨ σ 6 0 = 1) (htn : ∀ l, l < m → ∃ t, t < n ∧ σ 12 l = nI t) (hlen : ∀ l, l < m → ∃ g, 1 ≤ g ∧ g ≤ 40 ∧ σ 13 l = nI g) (h2 : 2 ≤ n) (hS : SW τ m) : zM D B xX4_sure [.ref p, .int x] h sz (xQ h p sz ik κ (sp_sure σ τ ε x)) := by
  have hU : Upd h h p 51 := Upd.rf
  obtain ⟨mk, tl, γ, hG, hγ⟩ := hK.2.1
  replace hγ : LnAt h (p + 19 + 1) γ := hγ
  refine zM.of (by decide) rfl (n := 0) ?_
  show Z D B xX4_sure 0 0 _ 0 [some (.ref p), some (.int x)] [] h sz
  refine z_aload_n (pc := 0) (zk0 kX4_sure_0) rfl ?_
  refine z_iload_n (pc := 1) (zk1 kX4_sure_0) rfl ?_
  refine z_rdV (pc := 2) (zk2 kX4_sure_0) (st := []) lkX4_99 ivX4_noLetter hX.1 rfl rfl (c_noLetter hX hL) rfl ⟨rfl, rfl⟩ rfl rfl ?_ rfl
  refine z_oif_eq (pc := 5) (zk3 kX4_sure_0) (tgt := 17) (by decide) (fun c_1 => ?_) (fun c_1 => ?_)
  · have c_2 : okR 0 (σ 9 0 - 1) x = true := by simpa using c_1
    refine z_aload_n (pc := 17) (zk8 kX4_sure_0) rfl ?_
    refine z_getf (pc := 18) (zk9 kX4_sure_0) flX4_22 hX.1 gXo_2 ?_
    refine z_aload_n (pc := 21) (zk10 kX4_sure_0) rfl ?_
    refine z_getf (pc := 22) (zk11 kX4_sure_0) flX4_10 hX.1 gXo_0 ?_
    refine z_iload_n (pc := 25) (zk12 kX4_sure_0) rfl ?_
    obtain ⟨kx, hkx, rfl⟩ := okR_nI (n := m) (by omega) (by rw [← hm]; exact c_2)
    refine z_efV (pc := 26) (zk13 kX4_sure_0) (st := []) lkX4_297 ivX0_sureKnowers hG.1 rfl rfl (c_sureKn hG hγ hL (by omega) (by omega) hbk hn h12 (show kx < 8 by omega) (len_0 hlen (show kx < m by omega))) rfl ⟨rfl, rfl⟩ rfl rfl (fun r_ h_4 z_ q_3 => ?_) rfl
    obtain ⟨er_, ⟨mk_6, tl_7, γ_8, hG_, hγ_⟩, hU_5, ez_⟩ := q_3
    rw [er_, ez_]
    clear er_ ez_
    replace hX := XoAt.fr hX hU_5 (by omega)
    replace hL := LnAt.fr hL hU_5 (by omega)
    replace hU := hU.tr hU_5 (by omega) (by omega)
    replace hG := hG_; replace hγ := hγ_; clear hG_ hγ_
    replace hK := XR.gu hK hU_5 ⟨_, _, _, hG, hγ⟩
    show Z D B xX4_sure _ _ _ 29 _ [.int (sum0 (fun k => oI (sureB σ kx k)) (hsN σ))] _ _
    exact z_iret (pc := 29) (zk14 kX4_sure_0) rfl (Nat.zero_le _) (Nat.zero_le _) (by
            rw [show sp_sure σ τ ε (nI kx) = (sum0 (fun k => oI (sureB σ kx k)) (hsN σ), σ, τ, ε) from by simp [sp_sure, sBad, okS, okH, okL, okT, okB, sRd, up2_id, up2_id2, oI, sOther, sNone, sFull, c_1, c_2, ix_nI (show kx ≤ 1000 by omega)]]
            exact ⟨rfl, hX, hL, hK, hU, rfl⟩)
  · have c_9 : okR 0 (σ 9 0 - 1) x = false := by simpa using c_1
    refine z_aload_n (pc := 8) (zk4 kX4_sure_0) rfl ?_
    refine z_bipush (pc := 9) (zk5 kX4_sure_0) (v := (-2)) (by decide) ?_
    refine z_efV (pc := 11) (zk6 kX4_sure_0) (st := []) lkX4_56 ivX4_refuse hX.1 rfl rfl (c_xrefuse (i := 0) hX hB (by decide) (by decide) (by decide)) rfl ⟨rfl, rfl⟩ rfl rfl (fun r_ h_11 z_ q_10 => ?_) rfl
    obtain ⟨er_, hR, hU_12, ez_⟩ := q_10
    rw [er_, ez_]
    clear er_ ez_
    replace hL := LnAt.fr hL hU_12 (by omega)
    replace hG := GuAt.fr hG hU_12 (by omega)
    replace hγ := LnAt.fr hγ hU_12 (by omega)
    replace hU := hU.tr hU_12 (by omega) (by omega)
    replace hK := XR.fr hK hU_12 (by omega)
    replace hX := hR; clear hR
    show Z D B xX4_sure _ _ _ 14 _ [.int (-2)] _ _
    refine z_goto (pc := 14) (zk7 kX4_sure_0) (tgt := 29) (by decide) ?_
    exact z_iret (pc := 29) (zk14 kX4_sure_0) rfl (Nat.zero_le _) (Nat.zero_le _) (by
            rw [show sp_sure σ τ ε x = ((-2), σ, (rfN τ 2), ε) from by simp [sp_sure, sBad, okS, okH, okL, okT, okB, sRd, up2_id, up2_id2, oI, sOther, sNone, sFull, c_1, c_9]]
            exact ⟨rfl, hX, hL, hK, hU, rfl⟩)
set_option maxRecDepth 20000 in
theorem cX_thirst {D : zD} {B : Nat} {h : zH} {sz : Nat} {p : Nat} {σ κ τ : Ln} {ε : El} {ik : Int32} {x : Int32} {n m : Nat} (hX : XoAt h p ik (rfo τ)) (hL : LnAt h (p + 1) σ) (hK : XR h p κ τ ε) (hB : B ≤ p) (hn : σ 0 0 = nI n) (h12 : n ≤ 12) (hm : σ 9 0 = nI m) (h8 : m ≤ 8) (hbk : σ 6 0 = 0 ∨ σ 6 0 = 1) (htn : ∀ l, l < m → ∃ t, t < n ∧ σ 12 l = nI t) (hlen : ∀ l, l < m → ∃ g, 1 ≤ g ∧ g ≤ 40 ∧ σ 13 l = nI g) (h2 : 2 ≤ n) (hS : SW τ m) : zM D B xX4_thirst [.ref p, .int x] h sz (xQ h p sz ik κ (sp_thirst σ τ ε x)) := by
  have hU : Upd h h p 51 := Upd.rf
  obtain ⟨mk, tl, γ, hG, hγ⟩ := hK.2.1
  replace hγ : LnAt h (p + 19 + 1) γ := hγ
  refine zM.of (by decide) rfl (n := 0) ?_
  show Z D B xX4_thirst 0 0 _ 0 [some (.ref p), some (.int x)] [] h sz
  refine z_aload_n (pc := 0) (zk0 kX4_thirst_0) rfl ?_
  refine z_iload_n (pc := 1) (zk1 kX4_thirst_0) rfl ?_
  refine z_rdV (pc := 2) (zk2 kX4_thirst_0) (st := []) lkX4_132 ivX4_noHouse hX.1 rfl rfl (c_noHouse hX hL) rfl ⟨rfl, rfl⟩ rfl rfl ?_ rfl
  refine z_oif_eq (pc := 5) (zk3 kX4_thirst_0) (tgt := 15) (by decide) (fun c_1 => ?_) (fun c_1 => ?_)
  · have c_2 : okR 0 (σ 0 0 - 1) x = true := by simpa using c_1
    refine z_aload_n (pc := 15) (zk8 kX4_thirst_0) rfl ?_
    refine z_getf (pc := 16) (zk9 kX4_thirst_0) flX4_10 hX.1 gXo_0 ?_
    refine z_rdV (pc := 19) (zk10 kX4_thirst_0) (st := []) lkX4_335 ivX1_allKnowers hL.1 rfl rfl (c_allKnowers hL hn h12 hm h8) rfl ⟨rfl, rfl⟩ rfl rfl ?_ rfl
    refine z_aload_n (pc := 22) (zk11 kX4_thirst_0) rfl ?_
    refine z_getf (pc := 23) (zk12 kX4_thirst_0) flX4_22 hX.1 gXo_2 ?_
    refine z_aload_n (pc := 26) (zk13 kX4_thirst_0) rfl ?_
    refine z_getf (pc := 27) (zk14 kX4_thirst_0) flX4_10 hX.1 gXo_0 ?_
    refine z_iload_n (pc := 30) (zk15 kX4_thirst_0) rfl ?_
    refine z_bipush (pc := 31) (zk0 kX4_thirst_1) (v := 9) (by decide) ?_
    obtain ⟨kx, hkx, rfl⟩ := okR_nI (n := n) (by omega) (by rw [← hn]; exact c_2)
    refine z_efV (pc := 33) (zk1 kX4_thirst_1) (st := [.int (allKnF σ)]) lkX4_338 ivX0_allKnowersIfDrink hG.1 rfl rfl (c_allIfDrink hG hγ hL (by omega) (by omega) hbk hn h12 hm h8 (show kx < n by omega)) rfl ⟨rfl, rfl⟩ rfl rfl (fun r_ h_4 z_ q_3 => ?_) rfl
    obtain ⟨er_, ⟨mk_6, tl_7, γ_8, hG_, hγ_⟩, hU_5, ez_⟩ := q_3
    rw [er_, ez_]
    clear er_ ez_
    replace hX := XoAt.fr hX hU_5 (by omega)
    replace hL := LnAt.fr hL hU_5 (by omega)
    replace hU := hU.tr hU_5 (by omega) (by omega)
    replace hG := hG_; replace hγ := hγ_; clear hG_ hγ_
    replace hK := XR.gu hK hU_5 ⟨_, _, _, hG, hγ⟩
    show Z D B xX4_thirst _ _ _ 36 _ [.int (allKnF (up2 σ 2 kx 9)), .int (allKnF σ)] _ _
    refine z_isub (pc := 36) (zk2 kX4_thirst_1) ?_
    exact z_iret (pc := 37) (zk3 kX4_thirst_1) rfl (Nat.zero_le _) (Nat.zero_le _) (by
            rw [show sp_thirst σ τ ε (nI kx) = ((allKnF σ) - (allKnF (up2 σ 2 kx 9)), σ, τ, ε) from by simp [sp_thirst, sBad, okS, okH, okL, okT, okB, sRd, up2_id, up2_id2, oI, sOther, sNone, sFull, c_1, c_2, ix_nI (show kx ≤ 1000 by omega)]]
            exact ⟨rfl, hX, hL, hK, hU, rfl⟩)
  · have c_9 : okR 0 (σ 0 0 - 1) x = false := by simpa using c_1
    refine z_aload_n (pc := 8) (zk4 kX4_thirst_0) rfl ?_
    refine z_bipush (pc := 9) (zk5 kX4_thirst_0) (v := (-2)) (by decide) ?_
    refine z_efV (pc := 11) (zk6 kX4_thirst_0) (st := []) lkX4_56 ivX4_refuse hX.1 rfl rfl (c_xrefuse (i := 0) hX hB (by decide) (by decide) (by decide)) rfl ⟨rfl, rfl⟩ rfl rfl (fun r_ h_11 z_ q_10 => ?_) rfl
    obtain ⟨er_, hR, hU_12, ez_⟩ := q_10
    rw [er_, ez_]
    clear er_ ez_
    replace hL := LnAt.fr hL hU_12 (by omega)
    replace hG := GuAt.fr hG hU_12 (by omega)
    replace hγ := LnAt.fr hγ hU_12 (by omega)
    replace hU := hU.tr hU_12 (by omega) (by omega)
    replace hK := XR.fr hK hU_12 (by omega)
    replace hX := hR; clear hR
    show Z D B xX4_thirst _ _ _ 14 _ [.int (-2)] _ _
    exact z_iret (pc := 14) (zk7 kX4_thirst_0) rfl (Nat.zero_le _) (Nat.zero_le _) (by
            rw [show sp_thirst σ τ ε x = ((-2), σ, (rfN τ 2), ε) from by simp [sp_thirst, sBad, okS, okH, okL, okT, okB, sRd, up2_id, up2_id2, oI, sOther, sNone, sFull, c_1, c_9]]
            exact ⟨rfl, hX, hL, hK, hU, rfl⟩)
set_option maxRecDepth 20000 in
theorem cX_taught {D : zD} {B : Nat} {h : zH} {sz : Nat} {p : Nat} {σ κ τ : Ln} {ε : El} {ik : Int32} {x : Int32} {y : Int32} {n m : Nat} (hX : XoAt h p ik (rfo τ)) (hL : LnAt h (p + 1) σ) (hK : XR h p κ τ ε) (hB : B ≤ p) (hn : σ 0 0 = nI n) (h12 : n ≤ 12) (hm : σ 9 0 = nI m) (h8 : m ≤ 8) (hbk : σ 6 0 = 0 ∨ σ 6 0 = 1) (htn : ∀ l, l < m → ∃ t, t < n ∧ σ 12 l = nI t) (hlen : ∀ l, l < m → ∃ g, 1 ≤ g ∧ g ≤ 40 ∧ σ 13 l = nI g) (h2 : 2 ≤ n) (hS : SW τ m) : zM D B xX4_taught [.ref p, .int x, .int y] h sz (xQ h p sz ik κ (sp_taught σ τ ε x y)) := by
  have hU : Upd h h p 51 := Upd.rf
  obtain ⟨mk, tl, γ, hG, hγ⟩ := hK.2.1
  replace hγ : LnAt h (p + 19 + 1) γ := hγ
  refine zM.of (by decide) rfl (n := 0) ?_
  show Z D B xX4_taught 0 0 _ 0 [some (.ref p), some (.int x), some (.int y)] [] h sz
  refine z_aload_n (pc := 0) (zk0 kX4_taught_0) rfl ?_
  refine z_iload_n (pc := 1) (zk1 kX4_taught_0) rfl ?_
  refine z_rdV (pc := 2) (zk2 kX4_taught_0) (st := []) lkX4_99 ivX4_noLetter hX.1 rfl rfl (c_noLetter hX hL) rfl ⟨rfl, rfl⟩ rfl rfl ?_ rfl
  refine z_oif_ne (pc := 5) (zk3 kX4_taught_0) (tgt := 16) (by decide) (fun c_1 => ?_) (fun c_1 => ?_)
  · have c_2 : okR 0 (σ 9 0 - 1) x = false := by simpa using c_1
    refine z_aload_n (pc := 16) (zk8 kX4_taught_0) rfl ?_
    refine z_bipush (pc := 17) (zk9 kX4_taught_0) (v := (-2)) (by decide) ?_
    refine z_efV (pc := 19) (zk10 kX4_taught_0) (st := []) lkX4_56 ivX4_refuse hX.1 rfl rfl (c_xrefuse (i := 0) hX hB (by decide) (by decide) (by decide)) rfl ⟨rfl, rfl⟩ rfl rfl (fun r_ h_4 z_ q_3 => ?_) rfl
    obtain ⟨er_, hR, hU_5, ez_⟩ := q_3
    rw [er_, ez_]
    clear er_ ez_
    replace hL := LnAt.fr hL hU_5 (by omega)
    replace hG := GuAt.fr hG hU_5 (by omega)
    replace hγ := LnAt.fr hγ hU_5 (by omega)
    replace hU := hU.tr hU_5 (by omega) (by omega)
    replace hK := XR.fr hK hU_5 (by omega)
    replace hX := hR; clear hR
    show Z D B xX4_taught _ _ _ 22 _ [.int (-2)] _ _
    exact z_iret (pc := 22) (zk11 kX4_taught_0) rfl (Nat.zero_le _) (Nat.zero_le _) (by
            rw [show sp_taught σ τ ε x y = ((-2), σ, (rfN τ 2), ε) from by simp [sp_taught, sBad, okS, okH, okL, okT, okB, sRd, up2_id, up2_id2, oI, sOther, sNone, sFull, c_1, c_2]]
            exact ⟨rfl, hX, hL, hK, hU, rfl⟩)
  · have c_6 : okR 0 (σ 9 0 - 1) x = true := by simpa using c_1
    refine z_aload_n (pc := 8) (zk4 kX4_taught_0) rfl ?_
    refine z_iload_n (pc := 9) (zk5 kX4_taught_0) rfl ?_
    refine z_rdV (pc := 10) (zk6 kX4_taught_0) (st := []) lkX4_132 ivX4_noHouse hX.1 rfl rfl (c_noHouse hX hL) rfl ⟨rfl, rfl⟩ rfl rfl ?_ rfl
    refine z_oif_eq (pc := 13) (zk7 kX4_taught_0) (tgt := 23) (by decide) (fun c_7 => ?_) (fun c_7 => ?_)
    · have c_8 : okR 0 (σ 0 0 - 1) y = true := by simpa using c_7
      refine z_aload_n (pc := 23) (zk12 kX4_taught_0) rfl ?_
      refine z_getf (pc := 24) (zk13 kX4_taught_0) flX4_22 hX.1 gXo_2 ?_
      refine z_aload_n (pc := 27) (zk14 kX4_taught_0) rfl ?_
      refine z_getf (pc := 28) (zk15 kX4_taught_0) flX4_10 hX.1 gXo_0 ?_
      refine z_iload_n (pc := 31) (zk0 kX4_taught_1) rfl ?_
      refine z_iload_n (pc := 32) (zk1 kX4_taught_1) rfl ?_
      obtain ⟨ky, hky, rfl⟩ := okR_nI (n := n) (by omega) (by rw [← hn]; exact c_8)
      obtain ⟨kx, hkx, rfl⟩ := okR_nI (n := m) (by omega) (by rw [← hm]; exact c_6)
      refine z_efV (pc := 33) (zk2 kX4_taught_1) (st := []) lkX4_341 ivX0_isKnownIfTaught hG.1 rfl rfl (c_taught hG hγ hL (by omega) (by omega) hbk hn h12 (show kx < 8 by omega) (show ky < n by omega)) rfl ⟨rfl, rfl⟩ rfl rfl (fun r_ h_10 z_ q_9 => ?_) rfl
      obtain ⟨er_, ⟨mk_12, tl_13, γ_14, hG_, hγ_⟩, hU_11, ez_⟩ := q_9
      rw [er_, ez_]
      clear er_ ez_
      replace hX := XoAt.fr hX hU_11 (by omega)
      replace hL := LnAt.fr hL hU_11 (by omega)
      replace hU := hU.tr hU_11 (by omega) (by omega)
      replace hG := hG_; replace hγ := hγ_; clear hG_ hγ_
      replace hK := XR.gu hK hU_11 ⟨_, _, _, hG, hγ⟩
      show Z D B xX4_taught _ _ _ 36 _ [.int (oI (knowB (learnF σ ky (σ 11 kx)) kx ky))] _ _
      refine z_rdS (pc := 36) (zk3 kX4_taught_1) (st := []) lkX4_166 isX4_asNumber (c_asNumber) rfl ⟨rfl, rfl⟩ rfl rfl ?_ rfl
      exact z_iret (pc := 39) (zk4 kX4_taught_1) rfl (Nat.zero_le _) (Nat.zero_le _) (by
                rw [show sp_taught σ τ ε (nI kx) (nI ky) = (oI (knowB (learnF σ ky (σ 11 kx)) kx ky), σ, τ, ε) from by simp [sp_taught, sBad, okS, okH, okL, okT, okB, sRd, up2_id, up2_id2, oI, sOther, sNone, sFull, c_1, c_6, c_7, c_8, ix_nI (show ky ≤ 1000 by omega), ix_nI (show kx ≤ 1000 by omega)]]
                exact ⟨rfl, hX, hL, hK, hU, rfl⟩)
    · have c_15 : okR 0 (σ 0 0 - 1) y = false := by simpa using c_7
      refine z_aload_n (pc := 16) (zk8 kX4_taught_0) rfl ?_
      refine z_bipush (pc := 17) (zk9 kX4_taught_0) (v := (-2)) (by decide) ?_
      refine z_efV (pc := 19) (zk10 kX4_taught_0) (st := []) lkX4_56 ivX4_refuse hX.1 rfl rfl (c_xrefuse (i := 0) hX hB (by decide) (by decide) (by decide)) rfl ⟨rfl, rfl⟩ rfl rfl (fun r_ h_17 z_ q_16 => ?_) rfl
      obtain ⟨er_, hR, hU_18, ez_⟩ := q_16
      rw [er_, ez_]
      clear er_ ez_
      replace hL := LnAt.fr hL hU_18 (by omega)
      replace hG := GuAt.fr hG hU_18 (by omega)
      replace hγ := LnAt.fr hγ hU_18 (by omega)
      replace hU := hU.tr hU_18 (by omega) (by omega)
      replace hK := XR.fr hK hU_18 (by omega)
      replace hX := hR; clear hR
      show Z D B xX4_taught _ _ _ 22 _ [.int (-2)] _ _
      exact z_iret (pc := 22) (zk11 kX4_taught_0) rfl (Nat.zero_le _) (Nat.zero_le _) (by
                rw [show sp_taught σ τ ε x y = ((-2), σ, (rfN τ 2), ε) from by simp [sp_taught, sBad, okS, okH, okL, okT, okB, sRd, up2_id, up2_id2, oI, sOther, sNone, sFull, c_1, c_6, c_7, c_15]]
                exact ⟨rfl, hX, hL, hK, hU, rfl⟩)
set_option maxRecDepth 20000 in
theorem cX_chance {D : zD} {B : Nat} {h : zH} {sz : Nat} {p : Nat} {σ κ τ : Ln} {ε : El} {ik : Int32} {x : Int32} {y : Int32} {n m : Nat} (hX : XoAt h p ik (rfo τ)) (hL : LnAt h (p + 1) σ) (hK : XR h p κ τ ε) (hB : B ≤ p) (hn : σ 0 0 = nI n) (h12 : n ≤ 12) (hm : σ 9 0 = nI m) (h8 : m ≤ 8) (hbk : σ 6 0 = 0 ∨ σ 6 0 = 1) (htn : ∀ l, l < m → ∃ t, t < n ∧ σ 12 l = nI t) (hlen : ∀ l, l < m → ∃ g, 1 ≤ g ∧ g ≤ 40 ∧ σ 13 l = nI g) (h2 : 2 ≤ n) (hS : SW τ m) : zM D B xX4_chance [.ref p, .int x, .int y] h sz (xQ h p sz ik κ (sp_chance σ τ ε x y)) := by
  have hU : Upd h h p 51 := Upd.rf
  obtain ⟨mk, tl, γ, hG, hγ⟩ := hK.2.1
  replace hγ : LnAt h (p + 19 + 1) γ := hγ
  refine zM.of (by decide) rfl (n := 0) ?_
  show Z D B xX4_chance 0 0 _ 0 [some (.ref p), some (.int x), some (.int y)] [] h sz
  refine z_aload_n (pc := 0) (zk0 kX4_chance_0) rfl ?_
  refine z_iload_n (pc := 1) (zk1 kX4_chance_0) rfl ?_
  refine z_rdV (pc := 2) (zk2 kX4_chance_0) (st := []) lkX4_99 ivX4_noLetter hX.1 rfl rfl (c_noLetter hX hL) rfl ⟨rfl, rfl⟩ rfl rfl ?_ rfl
  refine z_oif_ne (pc := 5) (zk3 kX4_chance_0) (tgt := 16) (by decide) (fun c_1 => ?_) (fun c_1 => ?_)
  · have c_2 : okR 0 (σ 9 0 - 1) x = false := by simpa using c_1
    refine z_aload_n (pc := 16) (zk8 kX4_chance_0) rfl ?_
    refine z_bipush (pc := 17) (zk9 kX4_chance_0) (v := (-2)) (by decide) ?_
    refine z_efV (pc := 19) (zk10 kX4_chance_0) (st := []) lkX4_56 ivX4_refuse hX.1 rfl rfl (c_xrefuse (i := 0) hX hB (by decide) (by decide) (by decide)) rfl ⟨rfl, rfl⟩ rfl rfl (fun r_ h_4 z_ q_3 => ?_) rfl
    obtain ⟨er_, hR, hU_5, ez_⟩ := q_3
    rw [er_, ez_]
    clear er_ ez_
    replace hL := LnAt.fr hL hU_5 (by omega)
    replace hG := GuAt.fr hG hU_5 (by omega)
    replace hγ := LnAt.fr hγ hU_5 (by omega)
    replace hU := hU.tr hU_5 (by omega) (by omega)
    replace hK := XR.fr hK hU_5 (by omega)
    replace hX := hR; clear hR
    show Z D B xX4_chance _ _ _ 22 _ [.int (-2)] _ _
    exact z_iret (pc := 22) (zk11 kX4_chance_0) rfl (Nat.zero_le _) (Nat.zero_le _) (by
            rw [show sp_chance σ τ ε x y = ((-2), σ, (rfN τ 2), ε) from by simp [sp_chance, sBad, okS, okH, okL, okT, okB, sRd, up2_id, up2_id2, oI, sOther, sNone, sFull, Int32.mul_comm, c_1, c_2]]
            exact ⟨rfl, hX, hL, hK, hU, rfl⟩)
  · have c_6 : okR 0 (σ 9 0 - 1) x = true := by simpa using c_1
    refine z_aload_n (pc := 8) (zk4 kX4_chance_0) rfl ?_
    refine z_iload_n (pc := 9) (zk5 kX4_chance_0) rfl ?_
    refine z_rdV (pc := 10) (zk6 kX4_chance_0) (st := []) lkX4_132 ivX4_noHouse hX.1 rfl rfl (c_noHouse hX hL) rfl ⟨rfl, rfl⟩ rfl rfl ?_ rfl
    refine z_oif_eq (pc := 13) (zk7 kX4_chance_0) (tgt := 23) (by decide) (fun c_7 => ?_) (fun c_7 => ?_)
    · have c_8 : okR 0 (σ 0 0 - 1) y = true := by simpa using c_7
      refine z_aload_n (pc := 23) (zk12 kX4_chance_0) rfl ?_
      refine z_getf (pc := 24) (zk13 kX4_chance_0) flX4_22 hX.1 gXo_2 ?_
      refine z_aload_n (pc := 27) (zk14 kX4_chance_0) rfl ?_
      refine z_getf (pc := 28) (zk15 kX4_chance_0) flX4_10 hX.1 gXo_0 ?_
      refine z_iload_n (pc := 31) (zk0 kX4_chance_1) rfl ?_
      refine z_iload_n (pc := 32) (zk1 kX4_chance_1) rfl ?_
      obtain ⟨ky, hky, rfl⟩ := okR_nI (n := n) (by omega) (by rw [← hn]; exact c_8)
      obtain ⟨kx, hkx, rfl⟩ := okR_nI (n := m) (by omega) (by rw [← hm]; exact c_6)
      refine z_efV (pc := 33) (zk2 kX4_chance_1) (st := []) lkX4_293 ivX0_windsOfKnowing hG.1 rfl rfl (c_byC hG hγ hL (by omega) (by omega) hbk hn h12 (show kx < 8 by omega) (show ky < n by omega)) rfl ⟨rfl, rfl⟩ rfl rfl (fun r_ h_10 z_ q_9 => ?_) rfl
      obtain ⟨er_, ⟨mk_12, tl_13, γ_14, hG_, hγ_⟩, hU_11, ez_⟩ := q_9
      rw [er_, ez_]
      clear er_ ez_
      replace hX := XoAt.fr hX hU_11 (by omega)
      replace hL := LnAt.fr hL hU_11 (by omega)
      replace hU := hU.tr hU_11 (by omega) (by omega)
      replace hG := hG_; replace hγ := hγ_; clear hG_ hγ_
      replace hK := XR.gu hK hU_11 ⟨_, _, _, hG, hγ⟩
      show Z D B xX4_chance _ _ _ 36 _ [.int (byC σ kx ky)] _ _
      refine z_ldcw (pc := 36) (zk3 kX4_chance_1) kcX4_296 ?_
      refine z_imul (pc := 39) (zk4 kX4_chance_1) ?_
      exact z_iret (pc := 40) (zk5 kX4_chance_1) rfl (Nat.zero_le _) (Nat.zero_le _) (by
                rw [show sp_chance σ τ ε (nI kx) (nI ky) = ((byC σ kx ky) * 100000, σ, τ, ε) from by simp [sp_chance, sBad, okS, okH, okL, okT, okB, sRd, up2_id, up2_id2, oI, sOther, sNone, sFull, Int32.mul_comm, c_1, c_6, c_7, c_8, ix_nI (show ky ≤ 1000 by omega), ix_nI (show kx ≤ 1000 by omega)]]
                exact ⟨rfl, hX, hL, hK, hU, rfl⟩)
    · have c_15 : okR 0 (σ 0 0 - 1) y = false := by simpa using c_7
      refine z_aload_n (pc := 16) (zk8 kX4_chance_0) rfl ?_
      refine z_bipush (pc := 17) (zk9 kX4_chance_0) (v := (-2)) (by decide) ?_
      refine z_efV (pc := 19) (zk10 kX4_chance_0) (st := []) lkX4_56 ivX4_refuse hX.1 rfl rfl (c_xrefuse (i := 0) hX hB (by decide) (by decide) (by decide)) rfl ⟨rfl, rfl⟩ rfl rfl (fun r_ h_17 z_ q_16 => ?_) rfl
      obtain ⟨er_, hR, hU_18, ez_⟩ := q_16
      rw [er_, ez_]
      clear er_ ez_
      replace hL := LnAt.fr hL hU_18 (by omega)
      replace hG := GuAt.fr hG hU_18 (by omega)
      replace hγ := LnAt.fr hγ hU_18 (by omega)
      replace hU := hU.tr hU_18 (by omega) (by omega)
      replace hK := XR.fr hK hU_18 (by omega)
      replace hX := hR; clear hR
      show Z D B xX4_chance _ _ _ 22 _ [.int (-2)] _ _
      exact z_iret (pc := 22) (zk11 kX4_chance_0) rfl (Nat.zero_le _) (Nat.zero_le _) (by
                rw [show sp_chance σ τ ε x y = ((-2), σ, (rfN τ 2), ε) from by simp [sp_chance, sBad, okS, okH, okL, okT, okB, sRd, up2_id, up2_id2, oI, sOther, sNone, sFull, Int32.mul_comm, c_1, c_6, c_7, c_15]]
                exact ⟨rfl, hX, hL, hK, hU, rfl⟩)
set_option maxRecDepth 20000 in
theorem cX_widest {D : zD} {B : Nat} {h : zH} {sz : Nat} {p : Nat} {σ κ τ : Ln} {ε : El} {ik : Int32} {x : Int32} {y : Int32} {n m : Nat} (hX : XoAt h p ik (rfo τ)) (hL : LnAt h (p + 1) σ) (hK : XR h p κ τ ε) (hB : B ≤ p) (hn : σ 0 0 = nI n) (h12 : n ≤ 12) (hm : σ 9 0 = nI m) (h8 : m ≤ 8) (hbk : σ 6 0 = 0 ∨ σ 6 0 = 1) (htn : ∀ l, l < m → ∃ t, t < n ∧ σ 12 l = nI t) (hlen : ∀ l, l < m → ∃ g, 1 ≤ g ∧ g ≤ 40 ∧ σ 13 l = nI g) (h2 : 2 ≤ n) (hS : SW τ m) : zM D B xX4_widest [.ref p, .int x, .int y] h sz (xQ h p sz ik κ (sp_widest σ τ ε x y)) := by
  have hU : Upd h h p 51 := Upd.rf
  obtain ⟨mk, tl, γ, hG, hγ⟩ := hK.2.1
  replace hγ : LnAt h (p + 19 + 1) γ := hγ
  refine zM.of (by decide) rfl (n := 1) ?_
  show Z D B xX4_widest 0 0 _ 0 [some (.ref p), some (.int x), some (.int y), none] [] h sz
  refine z_aload_n (pc := 0) (zk0 kX4_widest_0) rfl ?_
  refine z_iload_n (pc := 1) (zk1 kX4_widest_0) rfl ?_
  refine z_rdV (pc := 2) (zk2 kX4_widest_0) (st := []) lkX4_99 ivX4_noLetter hX.1 rfl rfl (c_noLetter hX hL) rfl ⟨rfl, rfl⟩ rfl rfl ?_ rfl
  refine z_oif_ne (pc := 5) (zk3 kX4_widest_0) (tgt := 17) (by decide) (fun c_1 => ?_) (fun c_1 => ?_)
  · have c_2 : okR 0 (σ 9 0 - 1) x = false := by simpa using c_1
    refine z_aload_n (pc := 17) (zk9 kX4_widest_0) rfl ?_
    refine z_bipush (pc := 18) (zk10 kX4_widest_0) (v := (-2)) (by decide) ?_
    refine z_efV (pc := 20) (zk11 kX4_widest_0) (st := []) lkX4_56 ivX4_refuse hX.1 rfl rfl (c_xrefuse (i := 0) hX hB (by decide) (by decide) (by decide)) rfl ⟨rfl, rfl⟩ rfl rfl (fun r_ h_4 z_ q_3 => ?_) rfl
    obtain ⟨er_, hR, hU_5, ez_⟩ := q_3
    rw [er_, ez_]
    clear er_ ez_
    replace hL := LnAt.fr hL hU_5 (by omega)
    replace hG := GuAt.fr hG hU_5 (by omega)
    replace hγ := LnAt.fr hγ hU_5 (by omega)
    replace hU := hU.tr hU_5 (by omega) (by omega)
    replace hK := XR.fr hK hU_5 (by omega)
    replace hX := hR; clear hR
    show Z D B xX4_widest _ _ _ 23 _ [.int (-2)] _ _
    exact z_iret (pc := 23) (zk12 kX4_widest_0) rfl (Nat.zero_le _) (Nat.zero_le _) (by
            rw [show sp_widest σ τ ε x y = ((-2), σ, (rfN τ 2), ε) from by simp [sp_widest, sBad, okS, okH, okL, okT, okB, sRd, up2_id, up2_id2, oI, sOther, sNone, sFull, c_1, c_2]]
            exact ⟨rfl, hX, hL, hK, hU, rfl⟩)
  · have c_6 : okR 0 (σ 9 0 - 1) x = true := by simpa using c_1
    refine z_iload_n (pc := 8) (zk4 kX4_widest_0) rfl ?_
    refine z_iconst (pc := 9) (zk5 kX4_widest_0) (v := 0) (by decide) ?_
    refine z_iconst (pc := 10) (zk6 kX4_widest_0) (v := 1) (by decide) ?_
    refine z_rdS (pc := 11) (zk7 kX4_widest_0) (st := []) lkX4_52 isX4_outside (c_outside) rfl ⟨rfl, rfl⟩ rfl rfl ?_ rfl
    refine z_oif_eq (pc := 14) (zk8 kX4_widest_0) (tgt := 24) (by decide) (fun c_7 => ?_) (fun c_7 => ?_)
    · have c_8 : okR 0 1 y = true := by simpa using c_7
      refine z_aload_n (pc := 24) (zk13 kX4_widest_0) rfl ?_
      refine z_getf (pc := 25) (zk14 kX4_widest_0) flX4_22 hX.1 gXo_2 ?_
      refine z_aload_n (pc := 28) (zk15 kX4_widest_0) rfl ?_
      refine z_getf (pc := 29) (zk0 kX4_widest_1) flX4_10 hX.1 gXo_0 ?_
      refine z_iload_n (pc := 32) (zk1 kX4_widest_1) rfl ?_
      obtain ⟨kx, hkx, rfl⟩ := okR_nI (n := m) (by omega) (by rw [← hm]; exact c_6)
      refine z_efV (pc := 33) (zk2 kX4_widest_1) (st := []) lkX4_312 ivX0_widestTo hG.1 rfl rfl (c_widestTo hG hγ hL (by omega) (by omega) hbk hn h12 (show kx < 8 by omega)) rfl ⟨rfl, rfl⟩ rfl rfl (fun r_ h_10 z_ q_9 => ?_) rfl
      obtain ⟨er_, ⟨mk_12, tl_13, γ_14, hG_, hγ_⟩, hU_11, ez_⟩ := q_9
      rw [er_, ez_]
      clear er_ ez_
      replace hX := XoAt.fr hX hU_11 (by omega)
      replace hL := LnAt.fr hL hU_11 (by omega)
      replace hU := hU.tr hU_11 (by omega) (by omega)
      replace hG := hG_; replace hγ := hγ_; clear hG_ hγ_
      replace hK := XR.gu hK hU_11 ⟨_, _, _, hG, hγ⟩
      show Z D B xX4_widest _ _ _ 36 _ [.int ((wdF σ kx).2)] _ _
      obtain ⟨b_, hb_, eb_⟩ := wd_w kx hn h12 h2
      refine z_top (congrArg Value.int (show (wdF σ kx).2 = nI b_ by rw [eb_])) ?_
      refine z_istore_n (pc := 36) (zk3 kX4_widest_1) rfl rfl ?_
      show Z D B xX4_widest _ _ _ 37 [some (.ref p), some (.int (nI kx)), some (.int y), some (.int (nI b_))] _ _ _
      refine z_iload_n (pc := 37) (zk4 kX4_widest_1) rfl ?_
      rcases okR_01 c_8 with rfl | rfl
      · refine z_if_ne (pc := 38) (zk5 kX4_widest_1) (tgt := 45) (by decide) (fun q => absurd (by decide) q) (fun _ => ?_)
        refine z_iload_n (pc := 41) (zk6 kX4_widest_1) rfl ?_
        refine z_goto (pc := 42) (zk7 kX4_widest_1) (tgt := 58) (by decide) ?_
        exact z_iret (pc := 58) (zk15 kX4_widest_1) rfl (Nat.zero_le _) (Nat.zero_le _) (by
                    rw [show sp_widest σ τ ε (nI kx) 0 = (nI b_, σ, τ, ε) from by simp [sp_widest, sBad, okS, okH, okL, okT, okB, sRd, up2_id, up2_id2, oI, sOther, sNone, sFull, c_1, c_6, c_7, c_8, eb_, ix_nI (show kx ≤ 1000 by omega)]]
                    exact ⟨rfl, hX, hL, hK, hU, rfl⟩)
      · refine z_if_ne (pc := 38) (zk5 kX4_widest_1) (tgt := 45) (by decide) (fun _ => ?_) (fun q => absurd q (by decide))
        refine z_aload_n (pc := 45) (zk8 kX4_widest_1) rfl ?_
        refine z_getf (pc := 46) (zk9 kX4_widest_1) flX4_22 hX.1 gXo_2 ?_
        refine z_aload_n (pc := 49) (zk10 kX4_widest_1) rfl ?_
        refine z_getf (pc := 50) (zk11 kX4_widest_1) flX4_10 hX.1 gXo_0 ?_
        refine z_iload_n (pc := 53) (zk12 kX4_widest_1) rfl ?_
        refine z_iload_n (pc := 54) (zk13 kX4_widest_1) rfl ?_
        refine z_efV (pc := 55) (zk14 kX4_widest_1) (st := []) lkX4_315 ivX0_knowersIfTo hG.1 rfl rfl (c_knowersIfTo hG hγ hL (by omega) (by omega) hbk hn h12 (show kx < 8 by omega)) rfl ⟨rfl, rfl⟩ rfl rfl (fun r_ h_16 z_ q_15 => ?_) rfl
        obtain ⟨er_, ⟨mk_18, tl_19, γ_20, hG_, hγ_⟩, hU_17, ez_⟩ := q_15
        rw [er_, ez_]
        clear er_ ez_
        replace hX := XoAt.fr hX hU_17 (by omega)
        replace hL := LnAt.fr hL hU_17 (by omega)
        replace hU := hU.tr hU_17 (by omega) (by omega)
        replace hG := hG_; replace hγ := hγ_; clear hG_ hγ_
        replace hK := XR.gu hK hU_17 ⟨_, _, _, hG, hγ⟩
        show Z D B xX4_widest _ _ _ 58 _ [.int (popI (knowersF (up2 σ 12 kx (nI b_)) kx))] _ _
        exact z_iret (pc := 58) (zk15 kX4_widest_1) rfl (Nat.zero_le _) (Nat.zero_le _) (by
                    rw [show sp_widest σ τ ε (nI kx) 1 = (popI (knowersF (up2 σ 12 kx (nI b_)) kx), σ, τ, ε) from by simp [sp_widest, sBad, okS, okH, okL, okT, okB, sRd, up2_id, up2_id2, oI, sOther, sNone, sFull, c_1, c_6, c_7, c_8, eb_, ix_nI (show kx ≤ 1000 by omega)]]
                    exact ⟨rfl, hX, hL, hK, hU, rfl⟩)
    · have c_21 : okR 0 1 y = false := by simpa using c_7
      refine z_aload_n (pc := 17) (zk9 kX4_widest_0) rfl ?_
      refine z_bipush (pc := 18) (zk10 kX4_widest_0) (v := (-2)) (by decide) ?_
      refine z_efV (pc := 20) (zk11 kX4_widest_0) (st := []) lkX4_56 ivX4_refuse hX.1 rfl rfl (c_xrefuse (i := 0) hX hB (by decide) (by decide) (by decide)) rfl ⟨rfl, rfl⟩ rfl rfl (fun r_ h_23 z_ q_22 => ?_) rfl
      obtain ⟨er_, hR, hU_24, ez_⟩ := q_22
      rw [er_, ez_]
      clear er_ ez_
      replace hL := LnAt.fr hL hU_24 (by omega)
      replace hG := GuAt.fr hG hU_24 (by omega)
      replace hγ := LnAt.fr hγ hU_24 (by omega)
      replace hU := hU.tr hU_24 (by omega) (by omega)
      replace hK := XR.fr hK hU_24 (by omega)
      replace hX := hR; clear hR
      show Z D B xX4_widest _ _ _ 23 _ [.int (-2)] _ _
      exact z_iret (pc := 23) (zk12 kX4_widest_0) rfl (Nat.zero_le _) (Nat.zero_le _) (by
                rw [show sp_widest σ τ ε x y = ((-2), σ, (rfN τ 2), ε) from by simp [sp_widest, sBad, okS, okH, okL, okT, okB, sRd, up2_id, up2_id2, oI, sOther, sNone, sFull, c_1, c_6, c_7, c_21]]
                exact ⟨rfl, hX, hL, hK, hU, rfl⟩)
set_option maxRecDepth 20000 in
theorem cX_hush {D : zD} {B : Nat} {h : zH} {sz : Nat} {p : Nat} {σ κ τ : Ln} {ε : El} {ik : Int32} {x : Int32} {y : Int32} {z : Int32} {n m : Nat} (hX : XoAt h p ik (rfo τ)) (hL : LnAt h (p + 1) σ) (hK : XR h p κ τ ε) (hB : B ≤ p) (hn : σ 0 0 = nI n) (h12 : n ≤ 12) (hm : σ 9 0 = nI m) (h8 : m ≤ 8) (hbk : σ 6 0 = 0 ∨ σ 6 0 = 1) (htn : ∀ l, l < m → ∃ t, t < n ∧ σ 12 l = nI t) (hlen : ∀ l, l < m → ∃ g, 1 ≤ g ∧ g ≤ 40 ∧ σ 13 l = nI g) (h2 : 2 ≤ n) (hS : SW τ m) : zM D B xX4_hush [.ref p, .int x, .int y, .int z] h sz (xQ h p sz ik κ (sp_hush σ τ ε x y z)) := by
  have hU : Upd h h p 51 := Upd.rf
  obtain ⟨mk, tl, γ, hG, hγ⟩ := hK.2.1
  replace hγ : LnAt h (p + 19 + 1) γ := hγ
  refine zM.of (by decide) rfl (n := 1) ?_
  show Z D B xX4_hush 0 0 _ 0 [some (.ref p), some (.int x), some (.int y), some (.int z), none] [] h sz
  refine z_aload_n (pc := 0) (zk0 kX4_hush_0) rfl ?_
  refine z_iload_n (pc := 1) (zk1 kX4_hush_0) rfl ?_
  refine z_rdV (pc := 2) (zk2 kX4_hush_0) (st := []) lkX4_99 ivX4_noLetter hX.1 rfl rfl (c_noLetter hX hL) rfl ⟨rfl, rfl⟩ rfl rfl ?_ rfl
  refine z_oif_ne (pc := 5) (zk3 kX4_hush_0) (tgt := 25) (by decide) (fun c_1 => ?_) (fun c_1 => ?_)
  · have c_2 : okR 0 (σ 9 0 - 1) x = false := by simpa using c_1
    refine z_aload_n (pc := 25) (zk13 kX4_hush_0) rfl ?_
    refine z_bipush (pc := 26) (zk14 kX4_hush_0) (v := (-2)) (by decide) ?_
    refine z_efV (pc := 28) (zk15 kX4_hush_0) (st := []) lkX4_56 ivX4_refuse hX.1 rfl rfl (c_xrefuse (i := 0) hX hB (by decide) (by decide) (by decide)) rfl ⟨rfl, rfl⟩ rfl rfl (fun r_ h_4 z_ q_3 => ?_) rfl
    obtain ⟨er_, hR, hU_5, ez_⟩ := q_3
    rw [er_, ez_]
    clear er_ ez_
    replace hL := LnAt.fr hL hU_5 (by omega)
    replace hG := GuAt.fr hG hU_5 (by omega)
    replace hγ := LnAt.fr hγ hU_5 (by omega)
    replace hU := hU.tr hU_5 (by omega) (by omega)
    replace hK := XR.fr hK hU_5 (by omega)
    replace hX := hR; clear hR
    show Z D B xX4_hush _ _ _ 31 _ [.int (-2)] _ _
    exact z_iret (pc := 31) (zk0 kX4_hush_1) rfl (Nat.zero_le _) (Nat.zero_le _) (by
            rw [show sp_hush σ τ ε x y z = ((-2), σ, (rfN τ 2), ε) from by simp [sp_hush, sBad, okS, okH, okL, okT, okB, sRd, up2_id, up2_id2, oI, sOther, sNone, sFull, c_1, c_2]]
            exact ⟨rfl, hX, hL, hK, hU, rfl⟩)
  · have c_6 : okR 0 (σ 9 0 - 1) x = true := by simpa using c_1
    refine z_aload_n (pc := 8) (zk4 kX4_hush_0) rfl ?_
    refine z_iload_n (pc := 9) (zk5 kX4_hush_0) rfl ?_
    refine z_rdV (pc := 10) (zk6 kX4_hush_0) (st := []) lkX4_229 ivX4_noSet hX.1 rfl rfl (c_noSet hX hL) rfl ⟨rfl, rfl⟩ rfl rfl ?_ rfl
    refine z_oif_ne (pc := 13) (zk7 kX4_hush_0) (tgt := 25) (by decide) (fun c_7 => ?_) (fun c_7 => ?_)
    · have c_8 : okR 0 (1 <<< (σ 0 0 &&& 31) - 1) y = false := by simpa using c_7
      refine z_aload_n (pc := 25) (zk13 kX4_hush_0) rfl ?_
      refine z_bipush (pc := 26) (zk14 kX4_hush_0) (v := (-2)) (by decide) ?_
      refine z_efV (pc := 28) (zk15 kX4_hush_0) (st := []) lkX4_56 ivX4_refuse hX.1 rfl rfl (c_xrefuse (i := 0) hX hB (by decide) (by decide) (by decide)) rfl ⟨rfl, rfl⟩ rfl rfl (fun r_ h_10 z_ q_9 => ?_) rfl
      obtain ⟨er_, hR, hU_11, ez_⟩ := q_9
      rw [er_, ez_]
      clear er_ ez_
      replace hL := LnAt.fr hL hU_11 (by omega)
      replace hG := GuAt.fr hG hU_11 (by omega)
      replace hγ := LnAt.fr hγ hU_11 (by omega)
      replace hU := hU.tr hU_11 (by omega) (by omega)
      replace hK := XR.fr hK hU_11 (by omega)
      replace hX := hR; clear hR
      show Z D B xX4_hush _ _ _ 31 _ [.int (-2)] _ _
      exact z_iret (pc := 31) (zk0 kX4_hush_1) rfl (Nat.zero_le _) (Nat.zero_le _) (by
                rw [show sp_hush σ τ ε x y z = ((-2), σ, (rfN τ 2), ε) from by simp [sp_hush, sBad, okS, okH, okL, okT, okB, sRd, up2_id, up2_id2, oI, sOther, sNone, sFull, c_1, c_6, c_7, c_8]]
                exact ⟨rfl, hX, hL, hK, hU, rfl⟩)
    · have c_12 : okR 0 (1 <<< (σ 0 0 &&& 31) - 1) y = true := by simpa using c_7
      refine z_iload_n (pc := 16) (zk8 kX4_hush_0) rfl ?_
      refine z_iconst (pc := 17) (zk9 kX4_hush_0) (v := 0) (by decide) ?_
      refine z_iconst (pc := 18) (zk10 kX4_hush_0) (v := 1) (by decide) ?_
      refine z_rdS (pc := 19) (zk11 kX4_hush_0) (st := []) lkX4_52 isX4_outside (c_outside) rfl ⟨rfl, rfl⟩ rfl rfl ?_ rfl
      refine z_oif_eq (pc := 22) (zk12 kX4_hush_0) (tgt := 32) (by decide) (fun c_13 => ?_) (fun c_13 => ?_)
      · have c_14 : okR 0 1 z = true := by simpa using c_13
        obtain ⟨kx, hkx, rfl⟩ := okR_nI (n := m) (by omega) (by rw [← hm]; exact c_6)
        have htl := htn kx (by omega)
        have hst := okT_v hn h12 c_12
        refine z_aload_n (pc := 32) (zk1 kX4_hush_1) rfl ?_
        refine z_getf (pc := 33) (zk2 kX4_hush_1) flX4_22 hX.1 gXo_2 ?_
        refine z_aload_n (pc := 36) (zk3 kX4_hush_1) rfl ?_
        refine z_getf (pc := 37) (zk4 kX4_hush_1) flX4_10 hX.1 gXo_0 ?_
        refine z_iload_n (pc := 40) (zk5 kX4_hush_1) rfl ?_
        refine z_iload_n (pc := 41) (zk6 kX4_hush_1) rfl ?_
        refine z_efV (pc := 42) (zk7 kX4_hush_1) (st := []) lkX4_236 ivX0_leastHush hG.1 rfl rfl (c_leastHush hG hγ hL (by omega) (by omega) hbk hn h12 (show kx < 8 by omega) htl hst) rfl ⟨rfl, rfl⟩ rfl rfl (fun r_ h_16 z_ q_15 => ?_) rfl
        obtain ⟨er_, ⟨mk_18, tl_19, γ_20, hG_, hγ_⟩, hU_17, ez_⟩ := q_15
        rw [er_, ez_]
        clear er_ ez_
        replace hX := XoAt.fr hX hU_17 (by omega)
        replace hL := LnAt.fr hL hU_17 (by omega)
        replace hU := hU.tr hU_17 (by omega) (by omega)
        replace hG := hG_; replace hγ := hγ_; clear hG_ hγ_
        replace hK := XR.gu hK hU_17 ⟨_, _, _, hG, hγ⟩
        show Z D B xX4_hush _ _ _ 45 _ [.int ((hshA σ kx y).1)] _ _
        rcases hshA_w σ kx y with e_ | e_ | ⟨y_, hy0_, hy40_, e_⟩
        · refine z_top (congrArg Value.int (show (hshA σ kx y).1 = (-1) by rw [e_])) ?_
          refine z_istore (pc := 45) (zk8 kX4_hush_1) rfl rfl ?_
          show Z D B xX4_hush _ _ _ 47 [some (.ref p), some (.int (nI kx)), some (.int y), some (.int z), some (.int (-1))] _ _ _
          refine z_iload_n (pc := 47) (zk9 kX4_hush_1) rfl ?_
          rcases okR_01 c_14 with rfl | rfl
          · refine z_if_eq (pc := 48) (zk10 kX4_hush_1) (tgt := 57) (by decide) (fun _ => ?_) (fun q => absurd (by decide) q)
            refine z_iload (pc := 57) (zk14 kX4_hush_1) rfl ?_
            exact z_iret (pc := 59) (zk15 kX4_hush_1) rfl (Nat.zero_le _) (Nat.zero_le _) (by
                            rw [show sp_hush σ τ ε (nI kx) y 0 = ((-1), σ, τ, ε) from by simp [sp_hush, sBad, okS, okH, okL, okT, okB, sRd, up2_id, up2_id2, oI, sOther, sNone, sFull, c_1, c_6, c_7, c_12, c_13, c_14, e_, ix_nI (show kx ≤ 1000 by omega)]]
                            exact ⟨rfl, hX, hL, hK, hU, rfl⟩)
          · refine z_if_eq (pc := 48) (zk10 kX4_hush_1) (tgt := 57) (by decide) (fun q => absurd q (by decide)) (fun _ => ?_)
            refine z_iload (pc := 51) (zk11 kX4_hush_1) rfl ?_
            refine z_iconst (pc := 53) (zk12 kX4_hush_1) (v := (-1)) (by decide) ?_
            refine z_icmp_ne (pc := 54) (zk13 kX4_hush_1) (tgt := 60) (by decide) (fun q => absurd (by decide) q) (fun _ => ?_)
            refine z_iload (pc := 57) (zk14 kX4_hush_1) rfl ?_
            exact z_iret (pc := 59) (zk15 kX4_hush_1) rfl (Nat.zero_le _) (Nat.zero_le _) (by
                            rw [show sp_hush σ τ ε (nI kx) y 1 = ((-1), σ, τ, ε) from by simp [sp_hush, sBad, okS, okH, okL, okT, okB, sRd, up2_id, up2_id2, oI, sOther, sNone, sFull, c_1, c_6, c_7, c_12, c_13, c_14, e_, ix_nI (show kx ≤ 1000 by omega)]]
                            exact ⟨rfl, hX, hL, hK, hU, rfl⟩)
        · refine z_top (congrArg Value.int (show (hshA σ kx y).1 = 0 by rw [e_])) ?_
          refine z_istore (pc := 45) (zk8 kX4_hush_1) rfl rfl ?_
          show Z D B xX4_hush _ _ _ 47 [some (.ref p), some (.int (nI kx)), some (.int y), some (.int z), some (.int 0)] _ _ _
          refine z_iload_n (pc := 47) (zk9 kX4_hush_1) rfl ?_
          rcases okR_01 c_14 with rfl | rfl
          · refine z_if_eq (pc := 48) (zk10 kX4_hush_1) (tgt := 57) (by decide) (fun _ => ?_) (fun q => absurd (by decide) q)
            refine z_iload (pc := 57) (zk14 kX4_hush_1) rfl ?_
            exact z_iret (pc := 59) (zk15 kX4_hush_1) rfl (Nat.zero_le _) (Nat.zero_le _) (by
                            rw [show sp_hush σ τ ε (nI kx) y 0 = (0, σ, τ, ε) from by simp [sp_hush, sBad, okS, okH, okL, okT, okB, sRd, up2_id, up2_id2, oI, sOther, sNone, sFull, c_1, c_6, c_7, c_12, c_13, c_14, e_, ix_nI (show kx ≤ 1000 by omega)]]
                            exact ⟨rfl, hX, hL, hK, hU, rfl⟩)
          · refine z_if_eq (pc := 48) (zk10 kX4_hush_1) (tgt := 57) (by decide) (fun q => absurd q (by decide)) (fun _ => ?_)
            refine z_iload (pc := 51) (zk11 kX4_hush_1) rfl ?_
            refine z_iconst (pc := 53) (zk12 kX4_hush_1) (v := (-1)) (by decide) ?_
            refine z_icmp_ne (pc := 54) (zk13 kX4_hush_1) (tgt := 60) (by decide) (fun _ => ?_) (fun q => absurd q (by decide))
            refine z_aload_n (pc := 60) (zk0 kX4_hush_2) rfl ?_
            refine z_getf (pc := 61) (zk1 kX4_hush_2) flX4_22 hX.1 gXo_2 ?_
            refine z_aload_n (pc := 64) (zk2 kX4_hush_2) rfl ?_
            refine z_getf (pc := 65) (zk3 kX4_hush_2) flX4_10 hX.1 gXo_0 ?_
            refine z_iload_n (pc := 68) (zk4 kX4_hush_2) rfl ?_
            refine z_iload_n (pc := 69) (zk5 kX4_hush_2) rfl ?_
            refine z_iload (pc := 70) (zk6 kX4_hush_2) rfl ?_
            refine z_efV (pc := 72) (zk7 kX4_hush_2) (st := []) lkX4_239 ivX0_hushHouse hG.1 rfl rfl (c_hushH0 hG hγ hL (by omega) (by omega) hbk hn h12 (show kx < 8 by omega)) rfl ⟨rfl, rfl⟩ rfl rfl (fun r_ h_22 z_ q_21 => ?_) rfl
            obtain ⟨er_, ⟨mk_24, tl_25, γ_26, hG_, hγ_⟩, hU_23, ez_⟩ := q_21
            rw [er_, ez_]
            clear er_ ez_
            replace hX := XoAt.fr hX hU_23 (by omega)
            replace hL := LnAt.fr hL hU_23 (by omega)
            replace hU := hU.tr hU_23 (by omega) (by omega)
            replace hG := hG_; replace hγ := hγ_; clear hG_ hγ_
            replace hK := XR.gu hK hU_23 ⟨_, _, _, hG, hγ⟩
            show Z D B xX4_hush _ _ _ 75 _ [.int (-1)] _ _
            exact z_iret (pc := 75) (zk8 kX4_hush_2) rfl (Nat.zero_le _) (Nat.zero_le _) (by
                            rw [show sp_hush σ τ ε (nI kx) y 1 = ((-1), σ, τ, ε) from by simp [sp_hush, sBad, okS, okH, okL, okT, okB, sRd, up2_id, up2_id2, oI, sOther, sNone, sFull, c_1, c_6, c_7, c_12, c_13, c_14, e_, ix_nI (show kx ≤ 1000 by omega)]]
                            exact ⟨rfl, hX, hL, hK, hU, rfl⟩)
        · refine z_top (congrArg Value.int (show (hshA σ kx y).1 = nI y_ by rw [e_])) ?_
          refine z_istore (pc := 45) (zk8 kX4_hush_1) rfl rfl ?_
          show Z D B xX4_hush _ _ _ 47 [some (.ref p), some (.int (nI kx)), some (.int y), some (.int z), some (.int (nI y_))] _ _ _
          refine z_iload_n (pc := 47) (zk9 kX4_hush_1) rfl ?_
          rcases okR_01 c_14 with rfl | rfl
          · refine z_if_eq (pc := 48) (zk10 kX4_hush_1) (tgt := 57) (by decide) (fun _ => ?_) (fun q => absurd (by decide) q)
            refine z_iload (pc := 57) (zk14 kX4_hush_1) rfl ?_
            exact z_iret (pc := 59) (zk15 kX4_hush_1) rfl (Nat.zero_le _) (Nat.zero_le _) (by
                            rw [show sp_hush σ τ ε (nI kx) y 0 = (nI y_, σ, τ, ε) from by simp [sp_hush, sBad, okS, okH, okL, okT, okB, sRd, up2_id, up2_id2, oI, sOther, sNone, sFull, c_1, c_6, c_7, c_12, c_13, c_14, e_, ix_nI (show kx ≤ 1000 by omega)]]
                            exact ⟨rfl, hX, hL, hK, hU, rfl⟩)
          · refine z_if_eq (pc := 48) (zk10 kX4_hush_1) (tgt := 57) (by decide) (fun q => absurd q (by decide)) (fun _ => ?_)
            refine z_iload (pc := 51) (zk11 kX4_hush_1) rfl ?_
            refine z_iconst (pc := 53) (zk12 kX4_hush_1) (v := (-1)) (by decide) ?_
            refine z_icmp_ne (pc := 54) (zk13 kX4_hush_1) (tgt := 60) (by decide) (fun _ => ?_) (fun q => absurd q (nI_ne_m1 (show y_ ≤ 1000 by omega)))
            refine z_aload_n (pc := 60) (zk0 kX4_hush_2) rfl ?_
            refine z_getf (pc := 61) (zk1 kX4_hush_2) flX4_22 hX.1 gXo_2 ?_
            refine z_aload_n (pc := 64) (zk2 kX4_hush_2) rfl ?_
            refine z_getf (pc := 65) (zk3 kX4_hush_2) flX4_10 hX.1 gXo_0 ?_
            refine z_iload_n (pc := 68) (zk4 kX4_hush_2) rfl ?_
            refine z_iload_n (pc := 69) (zk5 kX4_hush_2) rfl ?_
            refine z_iload (pc := 70) (zk6 kX4_hush_2) rfl ?_
            refine z_efV (pc := 72) (zk7 kX4_hush_2) (st := []) lkX4_239 ivX0_hushHouse hG.1 rfl rfl (c_hushH hG hγ hL (by omega) (by omega) hbk hn h12 (show kx < 8 by omega) htl hst (by omega) (by omega)) rfl ⟨rfl, rfl⟩ rfl rfl (fun r_ h_28 z_ q_27 => ?_) rfl
            obtain ⟨er_, ⟨mk_30, tl_31, γ_32, hG_, hγ_⟩, hU_29, ez_⟩ := q_27
            rw [er_, ez_]
            clear er_ ez_
            replace hX := XoAt.fr hX hU_29 (by omega)
            replace hL := LnAt.fr hL hU_29 (by omega)
            replace hU := hU.tr hU_29 (by omega) (by omega)
            replace hG := hG_; replace hγ := hγ_; clear hG_ hγ_
            replace hK := XR.gu hK hU_29 ⟨_, _, _, hG, hγ⟩
            show Z D B xX4_hush _ _ _ 75 _ [.int (hshW σ kx y y_)] _ _
            exact z_iret (pc := 75) (zk8 kX4_hush_2) rfl (Nat.zero_le _) (Nat.zero_le _) (by
                            rw [show sp_hush σ τ ε (nI kx) y 1 = (hshW σ kx y y_, σ, τ, ε) from by simp [sp_hush, sBad, okS, okH, okL, okT, okB, sRd, up2_id, up2_id2, oI, sOther, sNone, sFull, c_1, c_6, c_7, c_12, c_13, c_14, e_, ix_nI (show kx ≤ 1000 by omega)]]
                            exact ⟨rfl, hX, hL, hK, hU, rfl⟩)
      · have c_33 : okR 0 1 z = false := by simpa using c_13
        refine z_aload_n (pc := 25) (zk13 kX4_hush_0) rfl ?_
        refine z_bipush (pc := 26) (zk14 kX4_hush_0) (v := (-2)) (by decide) ?_
        refine z_efV (pc := 28) (zk15 kX4_hush_0) (st := []) lkX4_56 ivX4_refuse hX.1 rfl rfl (c_xrefuse (i := 0) hX hB (by decide) (by decide) (by decide)) rfl ⟨rfl, rfl⟩ rfl rfl (fun r_ h_35 z_ q_34 => ?_) rfl
        obtain ⟨er_, hR, hU_36, ez_⟩ := q_34
        rw [er_, ez_]
        clear er_ ez_
        replace hL := LnAt.fr hL hU_36 (by omega)
        replace hG := GuAt.fr hG hU_36 (by omega)
        replace hγ := LnAt.fr hγ hU_36 (by omega)
        replace hU := hU.tr hU_36 (by omega) (by omega)
        replace hK := XR.fr hK hU_36 (by omega)
        replace hX := hR; clear hR
        show Z D B xX4_hush _ _ _ 31 _ [.int (-2)] _ _
        exact z_iret (pc := 31) (zk0 kX4_hush_1) rfl (Nat.zero_le _) (Nat.zero_le _) (by
                    rw [show sp_hush σ τ ε x y z = ((-2), σ, (rfN τ 2), ε) from by simp [sp_hush, sBad, okS, okH, okL, okT, okB, sRd, up2_id, up2_id2, oI, sOther, sNone, sFull, c_1, c_6, c_7, c_12, c_13, c_33]]
                    exact ⟨rfl, hX, hL, hK, hU, rfl⟩)
set_option maxRecDepth 20000 in
theorem cX_pour {D : zD} {B : Nat} {h : zH} {sz : Nat} {p : Nat} {σ κ τ : Ln} {ε : El} {ik : Int32} {x : Int32} {y : Int32} {z : Int32} {u : Int32} {v : Int32} {n m : Nat} (hX : XoAt h p ik (rfo τ)) (hL : LnAt h (p + 1) σ) (hK : XR h p κ τ ε) (hB : B ≤ p) (hn : σ 0 0 = nI n) (h12 : n ≤ 12) (hm : σ 9 0 = nI m) (h8 : m ≤ 8) (hbk : σ 6 0 = 0 ∨ σ 6 0 = 1) (htn : ∀ l, l < m → ∃ t, t < n ∧ σ 12 l = nI t) (hlen : ∀ l, l < m → ∃ g, 1 ≤ g ∧ g ≤ 40 ∧ σ 13 l = nI g) (h2 : 2 ≤ n) (hS : SW τ m) : zM D B xX4_pour [.ref p, .int x, .int y, .int z, .int u, .int v] h sz (xQ h p sz ik κ (sp_pour σ τ ε x y z u v)) := by
  have hU : Upd h h p 51 := Upd.rf
  obtain ⟨mk, tl, γ, hG, hγ⟩ := hK.2.1
  replace hγ : LnAt h (p + 19 + 1) γ := hγ
  refine zM.of (by decide) rfl (n := 1) ?_
  show Z D B xX4_pour 0 0 _ 0 [some (.ref p), some (.int x), some (.int y), some (.int z), some (.int u), some (.int v), none] [] h sz
  refine z_aload_n (pc := 0) (zk0 kX4_pour_0) rfl ?_
  refine z_iload_n (pc := 1) (zk1 kX4_pour_0) rfl ?_
  refine z_iload_n (pc := 2) (zk2 kX4_pour_0) rfl ?_
  refine z_iload_n (pc := 3) (zk3 kX4_pour_0) rfl ?_
  refine z_iload (pc := 4) (zk4 kX4_pour_0) rfl ?_
  refine z_rdV (pc := 6) (zk5 kX4_pour_0) (st := []) lkX4_278 ivX4_noPouring hX.1 rfl rfl (c_noPouring hX hL) rfl ⟨rfl, rfl⟩ rfl rfl ?_ rfl
  refine z_oif_ne (pc := 9) (zk6 kX4_pour_0) (tgt := 22) (by decide) (fun c_1 => ?_) (fun c_1 => ?_)
  · have c_2 : okP σ x y z u = false := by simpa using c_1
    refine z_aload_n (pc := 22) (zk12 kX4_pour_0) rfl ?_
    refine z_bipush (pc := 23) (zk13 kX4_pour_0) (v := (-2)) (by decide) ?_
    refine z_efV (pc := 25) (zk14 kX4_pour_0) (st := []) lkX4_56 ivX4_refuse hX.1 rfl rfl (c_xrefuse (i := 0) hX hB (by decide) (by decide) (by decide)) rfl ⟨rfl, rfl⟩ rfl rfl (fun r_ h_4 z_ q_3 => ?_) rfl
    obtain ⟨er_, hR, hU_5, ez_⟩ := q_3
    rw [er_, ez_]
    clear er_ ez_
    replace hL := LnAt.fr hL hU_5 (by omega)
    replace hG := GuAt.fr hG hU_5 (by omega)
    replace hγ := LnAt.fr hγ hU_5 (by omega)
    replace hU := hU.tr hU_5 (by omega) (by omega)
    replace hK := XR.fr hK hU_5 (by omega)
    replace hX := hR; clear hR
    show Z D B xX4_pour _ _ _ 28 _ [.int (-2)] _ _
    exact z_iret (pc := 28) (zk15 kX4_pour_0) rfl (Nat.zero_le _) (Nat.zero_le _) (by
            rw [show sp_pour σ τ ε x y z u v = ((-2), σ, (rfN τ 2), ε) from by simp [sp_pour, sRd, sBad, c_2]]
            exact ⟨rfl, hX, hL, hK, hU, rfl⟩)
  · have c_6 : okP σ x y z u = true := by simpa using c_1
    have c_7 : (okR 0 (σ 0 0 - 1) x && okR 0 (σ 0 0 - 1) y && !decide (x = y) && (okR 0 (σ 9 0 - 1) z && okR 0 (σ 0 0 - 1) u)) = true := c_6
    obtain ⟨c_8, c_9⟩ := Bool.and_eq_true_iff.mp c_7
    obtain ⟨c_10, c_11⟩ := Bool.and_eq_true_iff.mp c_8
    obtain ⟨c_12, c_13⟩ := Bool.and_eq_true_iff.mp c_10
    obtain ⟨c_14, c_15⟩ := Bool.and_eq_true_iff.mp c_9
    refine z_iload (pc := 12) (zk7 kX4_pour_0) rfl ?_
    refine z_iconst (pc := 14) (zk8 kX4_pour_0) (v := 0) (by decide) ?_
    refine z_iconst (pc := 15) (zk9 kX4_pour_0) (v := 1) (by decide) ?_
    refine z_rdS (pc := 16) (zk10 kX4_pour_0) (st := []) lkX4_52 isX4_outside (c_outside) rfl ⟨rfl, rfl⟩ rfl rfl ?_ rfl
    refine z_oif_eq (pc := 19) (zk11 kX4_pour_0) (tgt := 29) (by decide) (fun c_16 => ?_) (fun c_16 => ?_)
    · have c_17 : okR 0 1 v = true := by simpa using c_16
      refine z_aload_n (pc := 29) (zk0 kX4_pour_1) rfl ?_
      refine z_getf (pc := 30) (zk1 kX4_pour_1) flX4_22 hX.1 gXo_2 ?_
      refine z_aload_n (pc := 33) (zk2 kX4_pour_1) rfl ?_
      refine z_getf (pc := 34) (zk3 kX4_pour_1) flX4_10 hX.1 gXo_0 ?_
      refine z_iload_n (pc := 37) (zk4 kX4_pour_1) rfl ?_
      refine z_iload_n (pc := 38) (zk5 kX4_pour_1) rfl ?_
      refine z_iload_n (pc := 39) (zk6 kX4_pour_1) rfl ?_
      refine z_iload (pc := 40) (zk7 kX4_pour_1) rfl ?_
      obtain ⟨ku, hku, rfl⟩ := okR_nI (n := n) (by omega) (by rw [← hn]; exact c_15)
      obtain ⟨kz, hkz, rfl⟩ := okR_nI (n := m) (by omega) (by rw [← hm]; exact c_14)
      obtain ⟨ky, hky, rfl⟩ := okR_nI (n := n) (by omega) (by rw [← hn]; exact c_13)
      obtain ⟨kx, hkx, rfl⟩ := okR_nI (n := n) (by omega) (by rw [← hn]; exact c_12)
      refine z_efV (pc := 42) (zk8 kX4_pour_1) (st := []) lkX4_282 ivX0_bestDrink hG.1 rfl rfl (c_bestDrink hG hγ hL (by omega) (by omega) hbk hn h12 (show kx < n by omega) (show ky < n by omega) (show kz < 8 by omega) (show ku < n by omega) (len_0 hlen (show kz < m by omega)) (len_41 hlen (show kz < m by omega))) rfl ⟨rfl, rfl⟩ rfl rfl (fun r_ h_19 z_ q_18 => ?_) rfl
      obtain ⟨er_, ⟨mk_21, tl_22, γ_23, hG_, hγ_⟩, hU_20, ez_⟩ := q_18
      rw [er_, ez_]
      clear er_ ez_
      replace hX := XoAt.fr hX hU_20 (by omega)
      replace hL := LnAt.fr hL hU_20 (by omega)
      replace hU := hU.tr hU_20 (by omega) (by omega)
      replace hG := hG_; replace hγ := hγ_; clear hG_ hγ_
      replace hK := XR.gu hK hU_20 ⟨_, _, _, hG, hγ⟩
      show Z D B xX4_pour _ _ _ 45 _ [.int ((pourA σ kx ky kz ku).2)] _ _
      obtain ⟨b_, hb_, eb_⟩ := pour_w (σ := σ) (c := kx) (d := ky) (l := kz) (k := ku) (len_0 hlen (by omega))
      refine z_top (congrArg Value.int (show (pourA σ kx ky kz ku).2 = nI b_ by rw [eb_])) ?_
      refine z_istore (pc := 45) (zk9 kX4_pour_1) rfl rfl ?_
      show Z D B xX4_pour _ _ _ 47 [some (.ref p), some (.int (nI kx)), some (.int (nI ky)), some (.int (nI kz)), some (.int (nI ku)), some (.int v), some (.int (nI b_))] _ _ _
      refine z_iload (pc := 47) (zk10 kX4_pour_1) rfl ?_
      refine z_iconst (pc := 49) (zk11 kX4_pour_1) (v := 1) (by decide) ?_
      rcases okR_01 c_17 with rfl | rfl
      · refine z_icmp_ne (pc := 50) (zk12 kX4_pour_1) (tgt := 56) (by decide) (fun _ => ?_) (fun q => absurd q (by decide))
        refine z_aload_n (pc := 56) (zk15 kX4_pour_1) rfl ?_
        refine z_getf (pc := 57) (zk0 kX4_pour_2) flX4_22 hX.1 gXo_2 ?_
        refine z_aload_n (pc := 60) (zk1 kX4_pour_2) rfl ?_
        refine z_getf (pc := 61) (zk2 kX4_pour_2) flX4_10 hX.1 gXo_0 ?_
        refine z_iload_n (pc := 64) (zk3 kX4_pour_2) rfl ?_
        refine z_iload (pc := 65) (zk4 kX4_pour_2) rfl ?_
        refine z_iload_n (pc := 67) (zk5 kX4_pour_2) rfl ?_
        refine z_iload_n (pc := 68) (zk6 kX4_pour_2) rfl ?_
        refine z_iload (pc := 69) (zk7 kX4_pour_2) rfl ?_
        refine z_efV (pc := 71) (zk8 kX4_pour_2) (st := []) lkX4_286 ivX0_heardOfPoured hG.1 rfl rfl (c_poured hG hγ hL (by omega) (by omega) hbk hn h12 (show kx < n by omega) (show ky < n by omega) (show kz < 8 by omega) (show ku < n by omega) (len_0 hlen (show kz < m by omega)) (len_41 hlen (show kz < m by omega))) rfl ⟨rfl, rfl⟩ rfl rfl (fun r_ h_25 z_ q_24 => ?_) rfl
        obtain ⟨er_, ⟨mk_27, tl_28, γ_29, hG_, hγ_⟩, hU_26, ez_⟩ := q_24
        rw [er_, ez_]
        clear er_ ez_
        replace hX := XoAt.fr hX hU_26 (by omega)
        replace hL := LnAt.fr hL hU_26 (by omega)
        replace hU := hU.tr hU_26 (by omega) (by omega)
        replace hG := hG_; replace hγ := hγ_; clear hG_ hγ_
        replace hK := XR.gu hK hU_26 ⟨_, _, _, hG, hγ⟩
        show Z D B xX4_pour _ _ _ 74 _ [.int ((lstH (up2 σ 2 kx (nI b_)) ky kz ku).1)] _ _
        generalize he_ : (lstH (up2 σ 2 kx (nI b_)) ky kz ku).1 = a_
        exact z_iret (pc := 74) (zk9 kX4_pour_2) rfl (Nat.zero_le _) (Nat.zero_le _) (by
                    rw [show sp_pour σ τ ε (nI kx) (nI ky) (nI kz) (nI ku) 0 = (a_, σ, τ, ε) from by simp [sp_pour, sRd, sBad, c_6, c_17, eb_, he_, ix_nI (show ku ≤ 1000 by omega), ix_nI (show kz ≤ 1000 by omega), ix_nI (show ky ≤ 1000 by omega), ix_nI (show kx ≤ 1000 by omega)]]
                    exact ⟨rfl, hX, hL, hK, hU, rfl⟩)
      · refine z_icmp_ne (pc := 50) (zk12 kX4_pour_1) (tgt := 56) (by decide) (fun q => absurd (by decide) q) (fun _ => ?_)
        refine z_iload (pc := 53) (zk13 kX4_pour_1) rfl ?_
        exact z_iret (pc := 55) (zk14 kX4_pour_1) rfl (Nat.zero_le _) (Nat.zero_le _) (by
                    rw [show sp_pour σ τ ε (nI kx) (nI ky) (nI kz) (nI ku) 1 = (nI b_, σ, τ, ε) from by simp [sp_pour, sRd, sBad, c_6, c_17, eb_, ix_nI (show ku ≤ 1000 by omega), ix_nI (show kz ≤ 1000 by omega), ix_nI (show ky ≤ 1000 by omega), ix_nI (show kx ≤ 1000 by omega)]]
                    exact ⟨rfl, hX, hL, hK, hU, rfl⟩)
    · have c_30 : okR 0 1 v = false := by simpa using c_16
      refine z_aload_n (pc := 22) (zk12 kX4_pour_0) rfl ?_
      refine z_bipush (pc := 23) (zk13 kX4_pour_0) (v := (-2)) (by decide) ?_
      refine z_efV (pc := 25) (zk14 kX4_pour_0) (st := []) lkX4_56 ivX4_refuse hX.1 rfl rfl (c_xrefuse (i := 0) hX hB (by decide) (by decide) (by decide)) rfl ⟨rfl, rfl⟩ rfl rfl (fun r_ h_32 z_ q_31 => ?_) rfl
      obtain ⟨er_, hR, hU_33, ez_⟩ := q_31
      rw [er_, ez_]
      clear er_ ez_
      replace hL := LnAt.fr hL hU_33 (by omega)
      replace hG := GuAt.fr hG hU_33 (by omega)
      replace hγ := LnAt.fr hγ hU_33 (by omega)
      replace hU := hU.tr hU_33 (by omega) (by omega)
      replace hK := XR.fr hK hU_33 (by omega)
      replace hX := hR; clear hR
      show Z D B xX4_pour _ _ _ 28 _ [.int (-2)] _ _
      exact z_iret (pc := 28) (zk15 kX4_pour_0) rfl (Nat.zero_le _) (Nat.zero_le _) (by
                rw [show sp_pour σ τ ε x y z u v = ((-2), σ, (rfN τ 2), ε) from by simp [sp_pour, sRd, sBad, c_6, c_30]]
                exact ⟨rfl, hX, hL, hK, hU, rfl⟩)
set_option maxRecDepth 20000 in
theorem cX_answer {D : zD} {B : Nat} {h : zH} {sz : Nat} {p : Nat} {σ κ τ : Ln} {ε : El} {ik : Int32} {x : Int32} {y : Int32} {z : Int32} {u : Int32} {v : Int32} {n m : Nat} (hX : XoAt h p ik (rfo τ)) (hL : LnAt h (p + 1) σ) (hK : XR h p κ τ ε) (hB : B ≤ p) (hn : σ 0 0 = nI n) (h12 : n ≤ 12) (hm : σ 9 0 = nI m) (h8 : m ≤ 8) (hbk : σ 6 0 = 0 ∨ σ 6 0 = 1) (htn : ∀ l, l < m → ∃ t, t < n ∧ σ 12 l = nI t) (hlen : ∀ l, l < m → ∃ g, 1 ≤ g ∧ g ≤ 40 ∧ σ 13 l = nI g) (h2 : 2 ≤ n) (hS : SW τ m) : zM D B xX4_answer [.ref p, .int x, .int y, .int z, .int u, .int v] h sz (xQ h p sz ik κ (sp_answer σ τ ε x y z u v)) := by
  have hU : Upd h h p 51 := Upd.rf
  obtain ⟨mk, tl, γ, hG, hγ⟩ := hK.2.1
  replace hγ : LnAt h (p + 19 + 1) γ := hγ
  refine zM.of (by decide) rfl (n := 0) ?_
  show Z D B xX4_answer 0 0 _ 0 [some (.ref p), some (.int x), some (.int y), some (.int z), some (.int u), some (.int v)] [] h sz
  refine z_aload_n (pc := 0) (zk0 kX4_answer_0) rfl ?_
  refine z_iload_n (pc := 1) (zk1 kX4_answer_0) rfl ?_
  refine z_iload_n (pc := 2) (zk2 kX4_answer_0) rfl ?_
  refine z_iload_n (pc := 3) (zk3 kX4_answer_0) rfl ?_
  refine z_iload (pc := 4) (zk4 kX4_answer_0) rfl ?_
  refine z_rdV (pc := 6) (zk5 kX4_answer_0) (st := []) lkX4_278 ivX4_noPouring hX.1 rfl rfl (c_noPouring hX hL) rfl ⟨rfl, rfl⟩ rfl rfl ?_ rfl
  refine z_oif_ne (pc := 9) (zk6 kX4_answer_0) (tgt := 23) (by decide) (fun c_1 => ?_) (fun c_1 => ?_)
  · have c_2 : okP σ x y z u = false := by simpa using c_1
    refine z_aload_n (pc := 23) (zk12 kX4_answer_0) rfl ?_
    refine z_bipush (pc := 24) (zk13 kX4_answer_0) (v := (-2)) (by decide) ?_
    refine z_efV (pc := 26) (zk14 kX4_answer_0) (st := []) lkX4_56 ivX4_refuse hX.1 rfl rfl (c_xrefuse (i := 0) hX hB (by decide) (by decide) (by decide)) rfl ⟨rfl, rfl⟩ rfl rfl (fun r_ h_4 z_ q_3 => ?_) rfl
    obtain ⟨er_, hR, hU_5, ez_⟩ := q_3
    rw [er_, ez_]
    clear er_ ez_
    replace hL := LnAt.fr hL hU_5 (by omega)
    replace hG := GuAt.fr hG hU_5 (by omega)
    replace hγ := LnAt.fr hγ hU_5 (by omega)
    replace hU := hU.tr hU_5 (by omega) (by omega)
    replace hK := XR.fr hK hU_5 (by omega)
    replace hX := hR; clear hR
    show Z D B xX4_answer _ _ _ 29 _ [.int (-2)] _ _
    exact z_iret (pc := 29) (zk15 kX4_answer_0) rfl (Nat.zero_le _) (Nat.zero_le _) (by
            rw [show sp_answer σ τ ε x y z u v = ((-2), σ, (rfN τ 2), ε) from by simp [sp_answer, sRd, sBad, c_2]]
            exact ⟨rfl, hX, hL, hK, hU, rfl⟩)
  · have c_6 : okP σ x y z u = true := by simpa using c_1
    have c_7 : (okR 0 (σ 0 0 - 1) x && okR 0 (σ 0 0 - 1) y && !decide (x = y) && (okR 0 (σ 9 0 - 1) z && okR 0 (σ 0 0 - 1) u)) = true := c_6
    obtain ⟨c_8, c_9⟩ := Bool.and_eq_true_iff.mp c_7
    obtain ⟨c_10, c_11⟩ := Bool.and_eq_true_iff.mp c_8
    obtain ⟨c_12, c_13⟩ := Bool.and_eq_true_iff.mp c_10
    obtain ⟨c_14, c_15⟩ := Bool.and_eq_true_iff.mp c_9
    refine z_iload (pc := 12) (zk7 kX4_answer_0) rfl ?_
    refine z_iconst (pc := 14) (zk8 kX4_answer_0) (v := 0) (by decide) ?_
    refine z_bipush (pc := 15) (zk9 kX4_answer_0) (v := 9) (by decide) ?_
    refine z_rdS (pc := 17) (zk10 kX4_answer_0) (st := []) lkX4_52 isX4_outside (c_outside) rfl ⟨rfl, rfl⟩ rfl rfl ?_ rfl
    refine z_oif_eq (pc := 20) (zk11 kX4_answer_0) (tgt := 30) (by decide) (fun c_16 => ?_) (fun c_16 => ?_)
    · have c_17 : okR 0 9 v = true := by simpa using c_16
      refine z_aload_n (pc := 30) (zk0 kX4_answer_1) rfl ?_
      refine z_getf (pc := 31) (zk1 kX4_answer_1) flX4_22 hX.1 gXo_2 ?_
      refine z_aload_n (pc := 34) (zk2 kX4_answer_1) rfl ?_
      refine z_getf (pc := 35) (zk3 kX4_answer_1) flX4_10 hX.1 gXo_0 ?_
      refine z_iload_n (pc := 38) (zk4 kX4_answer_1) rfl ?_
      refine z_iload (pc := 39) (zk5 kX4_answer_1) rfl ?_
      refine z_iload_n (pc := 41) (zk6 kX4_answer_1) rfl ?_
      refine z_iload_n (pc := 42) (zk7 kX4_answer_1) rfl ?_
      refine z_iload (pc := 43) (zk8 kX4_answer_1) rfl ?_
      obtain ⟨ku, hku, rfl⟩ := okR_nI (n := n) (by omega) (by rw [← hn]; exact c_15)
      obtain ⟨kz, hkz, rfl⟩ := okR_nI (n := m) (by omega) (by rw [← hm]; exact c_14)
      obtain ⟨ky, hky, rfl⟩ := okR_nI (n := n) (by omega) (by rw [← hn]; exact c_13)
      obtain ⟨kv, hkv, rfl⟩ := okR_c (c := 9) (by decide) c_17
      obtain ⟨kx, hkx, rfl⟩ := okR_nI (n := n) (by omega) (by rw [← hn]; exact c_12)
      refine z_efV (pc := 45) (zk9 kX4_answer_1) (st := []) lkX4_290 ivX0_answerTo hG.1 rfl rfl (c_answerTo hG hγ hL (by omega) (by omega) hbk hn h12 (show kx < n by omega) (show ky < n by omega) (show kz < 8 by omega) (show ku < n by omega) (len_0 hlen (show kz < m by omega)) (len_41 hlen (show kz < m by omega))) rfl ⟨rfl, rfl⟩ rfl rfl (fun r_ h_19 z_ q_18 => ?_) rfl
      obtain ⟨q_21, er_, hG_, hγ_, hU_20, ez_⟩ := q_18
      rw [er_, ez_]
      clear er_ ez_
      replace hX := XoAt.fr hX hU_20 (by omega)
      replace hL := LnAt.fr hL hU_20 (by omega)
      replace hU := hU.tr hU_20 (by omega) (by omega)
      replace hG := hG_; replace hγ := hγ_; clear hG_ hγ_
      replace hK := XR.gu hK hU_20 ⟨_, _, _, hG, hγ⟩
      show Z D B xX4_answer _ _ _ 48 _ [.int ((lstH (up2 σ 2 kx (nI kv)) ky kz ku).2)] _ _
      generalize he_ : (lstH (up2 σ 2 kx (nI kv)) ky kz ku).2 = a_
      exact z_iret (pc := 48) (zk10 kX4_answer_1) rfl (Nat.zero_le _) (Nat.zero_le _) (by
                rw [show sp_answer σ τ ε (nI kx) (nI ky) (nI kz) (nI ku) (nI kv) = (a_, σ, τ, ε) from by simp [sp_answer, sRd, sBad, c_6, c_17, he_, ix_nI (show ku ≤ 1000 by omega), ix_nI (show kz ≤ 1000 by omega), ix_nI (show ky ≤ 1000 by omega), ix_nI (show kv ≤ 1000 by omega), ix_nI (show kx ≤ 1000 by omega)]]
                exact ⟨rfl, hX, hL, hK, hU, rfl⟩)
    · have c_22 : okR 0 9 v = false := by simpa using c_16
      refine z_aload_n (pc := 23) (zk12 kX4_answer_0) rfl ?_
      refine z_bipush (pc := 24) (zk13 kX4_answer_0) (v := (-2)) (by decide) ?_
      refine z_efV (pc := 26) (zk14 kX4_answer_0) (st := []) lkX4_56 ivX4_refuse hX.1 rfl rfl (c_xrefuse (i := 0) hX hB (by decide) (by decide) (by decide)) rfl ⟨rfl, rfl⟩ rfl rfl (fun r_ h_24 z_ q_23 => ?_) rfl
      obtain ⟨er_, hR, hU_25, ez_⟩ := q_23
      rw [er_, ez_]
      clear er_ ez_
      replace hL := LnAt.fr hL hU_25 (by omega)
      replace hG := GuAt.fr hG hU_25 (by omega)
      replace hγ := LnAt.fr hγ hU_25 (by omega)
      replace hU := hU.tr hU_25 (by omega) (by omega)
      replace hK := XR.fr hK hU_25 (by omega)
      replace hX := hR; clear hR
      show Z D B xX4_answer _ _ _ 29 _ [.int (-2)] _ _
      exact z_iret (pc := 29) (zk15 kX4_answer_0) rfl (Nat.zero_le _) (Nat.zero_le _) (by
                rw [show sp_answer σ τ ε x y z u v = ((-2), σ, (rfN τ 2), ε) from by simp [sp_answer, sRd, sBad, c_6, c_22]]
                exact ⟨rfl, hX, hL, hK, hU, rfl⟩)
