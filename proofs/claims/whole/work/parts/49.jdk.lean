theorem tx_len : ∀ i, i < 8 → Int32.ofNat (zLen.getD i 0) >>> (0 &&& 31) = nI (zLen.getD i 0) := by decide +kernel
theorem tx_le : ∀ i, i < 8 → zLen.getD i 0 ≤ 6 := by decide
theorem tx_chr : ∀ i, i < 8 → ∀ j, j < 6 → ((((zByt.getD i []).getD j 0 &&& 255).toUInt32 % 65536).toInt32 = (zByt.getD i []).getD j 0 ∧ narrow .char (.int ((((zByt.getD i []).getD j 0 &&& 255).toUInt32 % 65536).toInt32)) = .int ((((zByt.getD i []).getD j 0 &&& 255).toUInt32 % 65536).toInt32)) := by decide +kernel
theorem tx_ofN {n : Nat} : Int32.ofNat n = nI n := rfl
set_option maxRecDepth 20000 in
theorem c_coder {D : zD} {B : Nat} {h : zH} {sz : Nat} {i : Nat} (hi : i < 8) : zRd D B xJ0_coder_7d493 [.ref (D.2.2.2.1 i)] h sz (.int 0) := by
  refine zM.of (by decide) rfl (n := 0) ?_
  show Z D B xJ0_coder_7d493 0 0 _ 0 [some (.ref (D.2.2.2.1 i))] [] h sz
  refine z_compact (pc := 0) (zk0 kJ0_coder_7d493_0) fsJ0_38 ?_
  refine z_if_eq (pc := 3) (zk1 kJ0_coder_7d493_0) (tgt := 13) (by decide) (fun q => absurd q (by decide)) (fun _ => ?_)
  refine z_aload_n (pc := 6) (zk2 kJ0_coder_7d493_0) rfl ?_
  refine z_getC (pc := 7) (zk3 kJ0_coder_7d493_0) fsJ0_15 hi ?_
  refine z_goto (pc := 10) (zk4 kJ0_coder_7d493_0) (tgt := 14) (by decide) ?_
  exact z_xret (pc := 14) (zk6 kJ0_coder_7d493_0) rfl (by decide) (Nat.zero_le _) (Nat.zero_le _) ⟨rfl, rfl, rfl⟩
set_option maxRecDepth 20000 in
theorem c_isLatin1 {D : zD} {B : Nat} {h : zH} {sz : Nat} {i : Nat} (hi : i < 8) : zRd D B xJ0_isLatin1_aae02 [.ref (D.2.2.2.1 i)] h sz (.int 1) := by
  refine zM.of (by decide) rfl (n := 0) ?_
  show Z D B xJ0_isLatin1_aae02 0 0 _ 0 [some (.ref (D.2.2.2.1 i))] [] h sz
  refine z_compact (pc := 0) (zk0 kJ0_isLatin1_aae02_0) fsJ0_38 ?_
  refine z_if_eq (pc := 3) (zk1 kJ0_isLatin1_aae02_0) (tgt := 17) (by decide) (fun q => absurd q (by decide)) (fun _ => ?_)
  refine z_aload_n (pc := 6) (zk2 kJ0_isLatin1_aae02_0) rfl ?_
  refine z_getC (pc := 7) (zk3 kJ0_isLatin1_aae02_0) fsJ0_15 hi ?_
  refine z_if_ne (pc := 10) (zk4 kJ0_isLatin1_aae02_0) (tgt := 17) (by decide) (fun q => absurd (by decide) q) (fun _ => ?_)
  refine z_iconst (pc := 13) (zk5 kJ0_isLatin1_aae02_0) (v := 1) (by decide) ?_
  refine z_goto (pc := 14) (zk6 kJ0_isLatin1_aae02_0) (tgt := 18) (by decide) ?_
  exact z_zret (pc := 18) (zk8 kJ0_isLatin1_aae02_0) rfl (Nat.zero_le _) (Nat.zero_le _) (by decide) ⟨rfl, rfl, rfl⟩
set_option maxRecDepth 20000 in
theorem c_txLen {D : zD} {B : Nat} {h : zH} {sz : Nat} {i : Nat} (hi : i < 8) : zRd D B xJ0_length_8abf5 [.ref (D.2.2.2.1 i)] h sz (.int (nI (zLen.getD i 0))) := by
  refine zM.of (by decide) rfl (n := 0) ?_
  show Z D B xJ0_length_8abf5 0 0 _ 0 [some (.ref (D.2.2.2.1 i))] [] h sz
  refine z_aload_n (pc := 0) (zk0 kJ0_length_8abf5_0) rfl ?_
  refine z_getV (pc := 1) (zk1 kJ0_length_8abf5_0) fsJ0_9 hi ?_
  refine z_lenV (pc := 4) (zk2 kJ0_length_8abf5_0) hi ?_
  refine z_aload_n (pc := 5) (zk3 kJ0_length_8abf5_0) rfl ?_
  refine z_rdT (pc := 6) (zk4 kJ0_length_8abf5_0) (st := [.int (Int32.ofNat (zLen.getD i 0))]) lkJ0_335 ivJ0_coder_7d493 rfl hi (c_coder hi) rfl ⟨rfl, rfl⟩ rfl rfl ?_ rfl
  refine z_ishr (pc := 9) (zk5 kJ0_length_8abf5_0) ?_
  exact z_iret (pc := 10) (zk6 kJ0_length_8abf5_0) rfl (Nat.zero_le _) (Nat.zero_le _) ⟨by rw [tx_len i hi], rfl, rfl⟩
set_option maxRecDepth 20000 in
theorem c_ckN {D : zD} {B : Nat} {h : zH} {sz : Nat} {j n t : Nat} (hj : j < n) (hn : n ≤ 1000) : zRd D B xJ3_checkIndex_8e157 [.int (nI j), .int (nI n), .null] h sz (.int (nI j)) := by
  refine zM.of (by decide) rfl (n := 0) ?_
  show Z D B xJ3_checkIndex_8e157 0 0 _ 0 [some (.int (nI j)), some (.int (nI n)), some (.null)] [] h sz
  refine z_iload_n (pc := 0) (zk0 kJ3_checkIndex_8e157_0) rfl ?_
  refine z_if_lt (pc := 1) (zk1 kJ3_checkIndex_8e157_0) (tgt := 9) (by decide) (fun q => absurd q (nI_pos (by omega))) (fun _ => ?_)
  refine z_iload_n (pc := 4) (zk2 kJ3_checkIndex_8e157_0) rfl ?_
  refine z_iload_n (pc := 5) (zk3 kJ3_checkIndex_8e157_0) rfl ?_
  refine z_icmp_lt (pc := 6) (zk4 kJ3_checkIndex_8e157_0) (tgt := 16) (by decide) (fun _ => ?_) (fun q => absurd ((nI_ltI (by omega) (by omega)).mpr hj) q)
  refine z_iload_n (pc := 16) (zk10 kJ3_checkIndex_8e157_0) rfl ?_
  exact z_iret (pc := 17) (zk11 kJ3_checkIndex_8e157_0) rfl (Nat.zero_le _) (Nat.zero_le _) ⟨rfl, rfl, rfl⟩
set_option maxRecDepth 20000 in
theorem c_ckR {D : zD} {B : Nat} {h : zH} {sz : Nat} {j n t : Nat} (hj : j < n) (hn : n ≤ 1000) : zRd D B xJ3_checkIndex_8e157 [.int (nI j), .int (nI n), .ref t] h sz (.int (nI j)) := by
  refine zM.of (by decide) rfl (n := 0) ?_
  show Z D B xJ3_checkIndex_8e157 0 0 _ 0 [some (.int (nI j)), some (.int (nI n)), some (.ref t)] [] h sz
  refine z_iload_n (pc := 0) (zk0 kJ3_checkIndex_8e157_0) rfl ?_
  refine z_if_lt (pc := 1) (zk1 kJ3_checkIndex_8e157_0) (tgt := 9) (by decide) (fun q => absurd q (nI_pos (by omega))) (fun _ => ?_)
  refine z_iload_n (pc := 4) (zk2 kJ3_checkIndex_8e157_0) rfl ?_
  refine z_iload_n (pc := 5) (zk3 kJ3_checkIndex_8e157_0) rfl ?_
  refine z_icmp_lt (pc := 6) (zk4 kJ3_checkIndex_8e157_0) (tgt := 16) (by decide) (fun _ => ?_) (fun q => absurd ((nI_ltI (by omega) (by omega)).mpr hj) q)
  refine z_iload_n (pc := 16) (zk10 kJ3_checkIndex_8e157_0) rfl ?_
  exact z_iret (pc := 17) (zk11 kJ3_checkIndex_8e157_0) rfl (Nat.zero_le _) (Nat.zero_le _) ⟨rfl, rfl, rfl⟩
set_option maxRecDepth 20000 in
theorem c_ckI {D : zD} {B : Nat} {h : zH} {sz : Nat} {j n : Nat} (hj : j < n) (hn : n ≤ 1000) : zM D B xJ0_checkIndex_df160 [.int (nI j), .int (nI n)] h sz (fun r h1 z1 => r = none ∧ h1 = h ∧ z1 = sz) := by
  refine zM.of (by decide) rfl (n := 0) ?_
  show Z D B xJ0_checkIndex_df160 0 0 _ 0 [some (.int (nI j)), some (.int (nI n))] [] h sz
  refine z_iload_n (pc := 0) (zk0 kJ0_checkIndex_df160_0) rfl ?_
  refine z_iload_n (pc := 1) (zk1 kJ0_checkIndex_df160_0) rfl ?_
  refine z_siob (pc := 2) (zk2 kJ0_checkIndex_df160_0) fsJ0_1053 (fun v_ hv_ => ?_)
  rcases hv_ with rfl | ⟨t_, rfl⟩
  · show Z D B xJ0_checkIndex_df160 _ _ _ 5 _ [.null, .int (nI n), .int (nI j)] _ _
    refine z_rdS (pc := 5) (zk3 kJ0_checkIndex_df160_0) (st := []) lkJ0_1059 isJ3_checkIndex_8e157 (c_ckN (t := 0) hj hn) rfl ⟨rfl, rfl⟩ rfl rfl ?_ rfl
    refine z_pop (pc := 8) (zk4 kJ0_checkIndex_df160_0) rfl ?_
    exact z_vret (pc := 9) (zk5 kJ0_checkIndex_df160_0) rfl (Nat.zero_le _) (Nat.zero_le _) ⟨rfl, rfl, rfl⟩
  · show Z D B xJ0_checkIndex_df160 _ _ _ 5 _ [.ref t_, .int (nI n), .int (nI j)] _ _
    refine z_rdS (pc := 5) (zk3 kJ0_checkIndex_df160_0) (st := []) lkJ0_1059 isJ3_checkIndex_8e157 (c_ckR hj hn) rfl ⟨rfl, rfl⟩ rfl rfl ?_ rfl
    refine z_pop (pc := 8) (zk4 kJ0_checkIndex_df160_0) rfl ?_
    exact z_vret (pc := 9) (zk5 kJ0_checkIndex_df160_0) rfl (Nat.zero_le _) (Nat.zero_le _) ⟨rfl, rfl, rfl⟩
set_option maxRecDepth 20000 in
theorem c_chr1 {D : zD} {B : Nat} {h : zH} {sz : Nat} {i j : Nat} (hi : i < 8) (hj : j < zLen.getD i 0) (hj2 : j < 1000) : zRd D B xJ1_charAt_3b067 [.ref (D.2.2.2.2.1 i), .int (nI j)] h sz (.int ((zByt.getD i []).getD j 0)) := by
  refine zM.of (by decide) rfl (n := 0) ?_
  show Z D B xJ1_charAt_3b067 0 0 _ 0 [some (.ref (D.2.2.2.2.1 i)), some (.int (nI j))] [] h sz
  refine z_iload_n (pc := 0) (zk0 kJ1_charAt_3b067_0) rfl ?_
  refine z_aload_n (pc := 1) (zk1 kJ1_charAt_3b067_0) rfl ?_
  refine z_lenV (pc := 2) (zk2 kJ1_charAt_3b067_0) hi ?_
  rw [tx_ofN]
  refine z_efS (pc := 3) (zk3 kJ1_charAt_3b067_0) (st := []) lkJ1_9 isJ0_checkIndex_df160 (c_ckI hj (by have := tx_le i hi; omega)) rfl ⟨rfl, rfl⟩ rfl rfl (fun r_ h_2 z_ q_1 => ?_) rfl
  obtain ⟨rfl, rfl, rfl⟩ := q_1
  show Z D B xJ1_charAt_3b067 _ _ _ 6 _ [] _ _
  refine z_aload_n (pc := 6) (zk4 kJ1_charAt_3b067_0) rfl ?_
  refine z_iload_n (pc := 7) (zk5 kJ1_charAt_3b067_0) rfl ?_
  refine z_baldV (pc := 8) (zk6 kJ1_charAt_3b067_0) hi (vp_in_nI hj (by have := tx_le i hi; omega)) ?_
  refine z_sipush (pc := 9) (zk7 kJ1_charAt_3b067_0) (v := 255) (by decide) ?_
  refine z_iand (pc := 12) (zk8 kJ1_charAt_3b067_0) ?_
  refine z_i2c (pc := 13) (zk9 kJ1_charAt_3b067_0) ?_
  exact z_xret (pc := 14) (zk10 kJ1_charAt_3b067_0) rfl (by rw [nI_clamp (by omega)]; exact (tx_chr i hi j (by have := tx_le i hi; omega)).2) (Nat.zero_le _) (Nat.zero_le _) ⟨by rw [nI_clamp (by omega), (tx_chr i hi j (by have := tx_le i hi; omega)).1], rfl, rfl⟩
set_option maxRecDepth 20000 in
theorem c_chr {D : zD} {B : Nat} {h : zH} {sz : Nat} {i j : Nat} (hi : i < 8) (hj : j < zLen.getD i 0) (hj2 : j < 1000) : zRd D B xJ0_charAt_5068e [.ref (D.2.2.2.1 i), .int (nI j)] h sz (.int ((zByt.getD i []).getD j 0)) := by
  refine zM.of (by decide) rfl (n := 0) ?_
  show Z D B xJ0_charAt_5068e 0 0 _ 0 [some (.ref (D.2.2.2.1 i)), some (.int (nI j))] [] h sz
  refine z_aload_n (pc := 0) (zk0 kJ0_charAt_5068e_0) rfl ?_
  refine z_rdT (pc := 1) (zk1 kJ0_charAt_5068e_0) (st := []) lkJ0_492 ivJ0_isLatin1_aae02 rfl hi (c_isLatin1 hi) rfl ⟨rfl, rfl⟩ rfl rfl ?_ rfl
  refine z_if_eq (pc := 4) (zk2 kJ0_charAt_5068e_0) (tgt := 16) (by decide) (fun q => absurd q (by decide)) (fun _ => ?_)
  refine z_aload_n (pc := 7) (zk3 kJ0_charAt_5068e_0) rfl ?_
  refine z_getV (pc := 8) (zk4 kJ0_charAt_5068e_0) fsJ0_9 hi ?_
  refine z_iload_n (pc := 11) (zk5 kJ0_charAt_5068e_0) rfl ?_
  refine z_rdS (pc := 12) (zk6 kJ0_charAt_5068e_0) (st := []) lkJ0_495 isJ1_charAt_3b067 (c_chr1 hi hj hj2) rfl ⟨rfl, rfl⟩ rfl rfl ?_ rfl
  exact z_xret (pc := 15) (zk7 kJ0_charAt_5068e_0) rfl (by have q := tx_chr i hi j (by have := tx_le i hi; omega); rw [q.1] at q; exact q.2) (Nat.zero_le _) (Nat.zero_le _) ⟨rfl, rfl, rfl⟩
