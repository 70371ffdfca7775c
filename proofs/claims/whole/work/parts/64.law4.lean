theorem lc_32 {D : zD} {B cs ss i : Nat} {h : zH} {sz : Nat} (hi : i + 6 ≤ D.2.2.2.2.2.2.2.1) (hl : D.2.2.2.2.2.2.2.1 ≤ 3072) (hc : cs ≤ 500000) (hs : ss ≤ 7000000) (hST : ST h B sz) (kk : ∀ (h1 : zH) (z1 : Nat), ST h1 B z1 → Z D B xL_law (cs + 29) (ss + 877) QL 2345 (LSc D B i) [] h1 z1) : Z D B xL_law cs ss QL 1413 (LSc D B i) [] h sz := by
  obtain ⟨ik, σ, κ, τ, ε, kp, tr, hX, hL, hK, ⟨ω, mv, hM⟩, hO, ⟨n, m, hW, hS⟩, hκ, hZ⟩ := hST
  refine z_aload_n (pc := 1413) (zk5 kL_law_57) rfl ?_
  refine z_arg (pc := 1414) (k := 1) (zk6 kL_law_57) (zk7 kL_law_57) (zk8 kL_law_57) (zk9 kL_law_57) (zk10 kL_law_57) rfl (by decide) hi hl ?_
  refine z_arg (pc := 1419) (k := 2) (zk11 kL_law_57) (zk12 kL_law_57) (zk13 kL_law_57) (zk14 kL_law_57) (zk15 kL_law_57) rfl (by decide) hi hl ?_
  refine z_arg (pc := 1424) (k := 3) (zk0 kL_law_58) (zk1 kL_law_58) (zk2 kL_law_58) (zk3 kL_law_58) (zk4 kL_law_58) rfl (by decide) hi hl ?_
  refine z_arg (pc := 1429) (k := 4) (zk5 kL_law_58) (zk6 kL_law_58) (zk7 kL_law_58) (zk8 kL_law_58) (zk9 kL_law_58) rfl (by decide) hi hl ?_
  refine z_efV (pc := 1434) (st := []) (zk10 kL_law_58) lkL_153 ivX4_fits hX.1 rfl rfl (cX_fits (D := D) (B := B) (x := sC D (i + 1)) (y := sC D (i + 2)) (z := sC D (i + 3)) (u := sC D (i + 4)) (hX := hX) (hL := hL) (hK := hK) (hB := (Nat.le_refl B)) (hn := hW.1) (h12 := hW.2.1.2) (hm := hW.2.2.1) (h8 := hW.2.2.2.1) (hbk := hW.2.2.2.2.1) (htn := hW.2.2.2.2.2.1) (hlen := hW.2.2.2.2.2.2.1) (h2 := hW.2.1.1) (hS := hS)) rfl ⟨rfl, rfl⟩ (zF_ok rfl hc hs) rfl (fun r_ h1 z_ q1 => ?_) rfl
  obtain ⟨rfl, x1, x2, x3, u1, rfl⟩ := q1
  have hM1 := hM.fr u1 (Or.inl (Nat.le_refl _))
  show Z D B xL_law _ _ QL 1437 (LSc D B i) [.int (sp_fits σ τ ε (sC D (i + 1)) (sC D (i + 2)) (sC D (i + 3)) (sC D (i + 4))).1] h1 _
  refine z_aload_n (pc := 1437) (zk11 kL_law_58) rfl ?_
  refine z_arg (pc := 1438) (k := 1) (zk12 kL_law_58) (zk13 kL_law_58) (zk14 kL_law_58) (zk15 kL_law_58) (zk0 kL_law_59) rfl (by decide) hi hl ?_
  refine z_arg (pc := 1443) (k := 2) (zk1 kL_law_59) (zk2 kL_law_59) (zk3 kL_law_59) (zk4 kL_law_59) (zk5 kL_law_59) rfl (by decide) hi hl ?_
  refine z_arg (pc := 1448) (k := 3) (zk6 kL_law_59) (zk7 kL_law_59) (zk8 kL_law_59) (zk9 kL_law_59) (zk10 kL_law_59) rfl (by decide) hi hl ?_
  refine z_arg (pc := 1453) (k := 4) (zk11 kL_law_59) (zk12 kL_law_59) (zk13 kL_law_59) (zk14 kL_law_59) (zk15 kL_law_59) rfl (by decide) hi hl ?_
  refine z_efV (pc := 1458) (st := [.int (sp_fits σ τ ε (sC D (i + 1)) (sC D (i + 2)) (sC D (i + 3)) (sC D (i + 4))).1]) (zk0 kL_law_60) lkL_156 ivX5_fits hM1.1 rfl rfl (cP_fits (D := D) (B := B) (x := sC D (i + 1)) (y := sC D (i + 2)) (z := sC D (i + 3)) (u := sC D (i + 4)) (hM := hM1) (hB := (Nat.le_add_right B 51)) (hn := hW.1) (h12 := hW.2.1.2) (hm := hW.2.2.1) (h8 := hW.2.2.2.1) (hto := hW.to) (hS := hS)) rfl ⟨rfl, rfl⟩ (zF_ok rfl hc hs) rfl (fun r_ h2 z_ q2 => ?_) rfl
  obtain ⟨ω1, mv1, rfl, m1, u2, rfl⟩ := q2
  show Z D B xL_law _ _ QL 1461 (LSc D B i) [.int (sp_fits σ τ ε (sC D (i + 1)) (sC D (i + 2)) (sC D (i + 3)) (sC D (i + 4))).1, .int (sp_fits σ τ ε (sC D (i + 1)) (sC D (i + 2)) (sC D (i + 3)) (sC D (i + 4))).1] h2 _
  refine z_icmp_eq (pc := 1461) (tgt := 2345) (zk1 kL_law_60) rfl (fun _ => ?_) (fun q => absurd rfl q)
  exact z_wd (by omega) (by omega) (kk _ _ (ST.mk1 (q := sp_fits σ τ ε (sC D (i + 1)) (sC D (i + 2)) (sC D (i + 3)) (sC D (i + 4))) hO x1 x2 x3 u1 m1 u2 (pq_sTold ⟨n, m, hW, hS⟩) hκ hZ))
theorem lc_33 {D : zD} {B cs ss i : Nat} {h : zH} {sz : Nat} (hi : i + 6 ≤ D.2.2.2.2.2.2.2.1) (hl : D.2.2.2.2.2.2.2.1 ≤ 3072) (hc : cs ≤ 500000) (hs : ss ≤ 7000000) (hST : ST h B sz) (kk : ∀ (h1 : zH) (z1 : Nat), ST h1 B z1 → Z D B xL_law (cs + 29) (ss + 877) QL 2345 (LSc D B i) [] h1 z1) : Z D B xL_law cs ss QL 1466 (LSc D B i) [] h sz := by
  obtain ⟨ik, σ, κ, τ, ε, kp, tr, hX, hL, hK, ⟨ω, mv, hM⟩, hO, ⟨n, m, hW, hS⟩, hκ, hZ⟩ := hST
  refine z_aload_n (pc := 1466) (zk4 kL_law_60) rfl ?_
  refine z_arg (pc := 1467) (k := 1) (zk5 kL_law_60) (zk6 kL_law_60) (zk7 kL_law_60) (zk8 kL_law_60) (zk9 kL_law_60) rfl (by decide) hi hl ?_
  refine z_arg (pc := 1472) (k := 2) (zk10 kL_law_60) (zk11 kL_law_60) (zk12 kL_law_60) (zk13 kL_law_60) (zk14 kL_law_60) rfl (by decide) hi hl ?_
  refine z_arg (pc := 1477) (k := 3) (zk15 kL_law_60) (zk0 kL_law_61) (zk1 kL_law_61) (zk2 kL_law_61) (zk3 kL_law_61) rfl (by decide) hi hl ?_
  refine z_efV (pc := 1482) (st := []) (zk4 kL_law_61) lkL_157 ivX4_ask hX.1 rfl rfl (cX_ask (D := D) (B := B) (x := sC D (i + 1)) (y := sC D (i + 2)) (z := sC D (i + 3)) (hX := hX) (hL := hL) (hK := hK) (hB := (Nat.le_refl B)) (hn := hW.1) (h12 := hW.2.1.2) (hm := hW.2.2.1) (h8 := hW.2.2.2.1) (hbk := hW.2.2.2.2.1) (htn := hW.2.2.2.2.2.1) (hlen := hW.2.2.2.2.2.2.1) (h2 := hW.2.1.1) (hS := hS)) rfl ⟨rfl, rfl⟩ (zF_ok rfl hc hs) rfl (fun r_ h1 z_ q1 => ?_) rfl
  obtain ⟨rfl, x1, x2, x3, u1, rfl⟩ := q1
  have hM1 := hM.fr u1 (Or.inl (Nat.le_refl _))
  show Z D B xL_law _ _ QL 1485 (LSc D B i) [.int (sp_ask σ τ ε (sC D (i + 1)) (sC D (i + 2)) (sC D (i + 3))).1] h1 _
  refine z_aload_n (pc := 1485) (zk5 kL_law_61) rfl ?_
  refine z_arg (pc := 1486) (k := 1) (zk6 kL_law_61) (zk7 kL_law_61) (zk8 kL_law_61) (zk9 kL_law_61) (zk10 kL_law_61) rfl (by decide) hi hl ?_
  refine z_arg (pc := 1491) (k := 2) (zk11 kL_law_61) (zk12 kL_law_61) (zk13 kL_law_61) (zk14 kL_law_61) (zk15 kL_law_61) rfl (by decide) hi hl ?_
  refine z_arg (pc := 1496) (k := 3) (zk0 kL_law_62) (zk1 kL_law_62) (zk2 kL_law_62) (zk3 kL_law_62) (zk4 kL_law_62) rfl (by decide) hi hl ?_
  refine z_efV (pc := 1501) (st := [.int (sp_ask σ τ ε (sC D (i + 1)) (sC D (i + 2)) (sC D (i + 3))).1]) (zk5 kL_law_62) lkL_160 ivX5_ask hM1.1 rfl rfl (cP_ask (D := D) (B := B) (x := sC D (i + 1)) (y := sC D (i + 2)) (z := sC D (i + 3)) (hM := hM1) (hB := (Nat.le_add_right B 51)) (hn := hW.1) (h12 := hW.2.1.2) (hm := hW.2.2.1) (h8 := hW.2.2.2.1) (hto := hW.to) (hS := hS) (h2 := hW.2.1.1)) rfl ⟨rfl, rfl⟩ (zF_ok rfl hc hs) rfl (fun r_ h2 z_ q2 => ?_) rfl
  obtain ⟨ω1, mv1, rfl, m1, u2, rfl⟩ := q2
  show Z D B xL_law _ _ QL 1504 (LSc D B i) [.int (sp_ask σ τ ε (sC D (i + 1)) (sC D (i + 2)) (sC D (i + 3))).1, .int (sp_ask σ τ ε (sC D (i + 1)) (sC D (i + 2)) (sC D (i + 3))).1] h2 _
  refine z_icmp_eq (pc := 1504) (tgt := 2345) (zk6 kL_law_62) rfl (fun _ => ?_) (fun q => absurd rfl q)
  exact z_wd (by omega) (by omega) (kk _ _ (ST.mk1 (q := sp_ask σ τ ε (sC D (i + 1)) (sC D (i + 2)) (sC D (i + 3))) hO x1 x2 x3 u1 m1 u2 (pq_sTold ⟨n, m, hW, hS⟩) hκ hZ))
theorem lc_34 {D : zD} {B cs ss i : Nat} {h : zH} {sz : Nat} (hi : i + 6 ≤ D.2.2.2.2.2.2.2.1) (hl : D.2.2.2.2.2.2.2.1 ≤ 3072) (hc : cs ≤ 500000) (hs : ss ≤ 7000000) (hST : ST h B sz) (kk : ∀ (h1 : zH) (z1 : Nat), ST h1 B z1 → Z D B xL_law (cs + 29) (ss + 877) QL 2345 (LSc D B i) [] h1 z1) : Z D B xL_law cs ss QL 1509 (LSc D B i) [] h sz := by
  obtain ⟨ik, σ, κ, τ, ε, kp, tr, hX, hL, hK, ⟨ω, mv, hM⟩, hO, ⟨n, m, hW, hS⟩, hκ, hZ⟩ := hST
  refine z_aload_n (pc := 1509) (zk9 kL_law_62) rfl ?_
  refine z_arg (pc := 1510) (k := 1) (zk10 kL_law_62) (zk11 kL_law_62) (zk12 kL_law_62) (zk13 kL_law_62) (zk14 kL_law_62) rfl (by decide) hi hl ?_
  refine z_arg (pc := 1515) (k := 2) (zk15 kL_law_62) (zk0 kL_law_63) (zk1 kL_law_63) (zk2 kL_law_63) (zk3 kL_law_63) rfl (by decide) hi hl ?_
  refine z_arg (pc := 1520) (k := 3) (zk4 kL_law_63) (zk5 kL_law_63) (zk6 kL_law_63) (zk7 kL_law_63) (zk8 kL_law_63) rfl (by decide) hi hl ?_
  refine z_efV (pc := 1525) (st := []) (zk9 kL_law_63) lkL_161 ivX4_winds hX.1 rfl rfl (cX_winds (D := D) (B := B) (x := sC D (i + 1)) (y := sC D (i + 2)) (z := sC D (i + 3)) (hX := hX) (hL := hL) (hK := hK) (hB := (Nat.le_refl B)) (hn := hW.1) (h12 := hW.2.1.2) (hm := hW.2.2.1) (h8 := hW.2.2.2.1) (hbk := hW.2.2.2.2.1) (htn := hW.2.2.2.2.2.1) (hlen := hW.2.2.2.2.2.2.1) (h2 := hW.2.1.1) (hS := hS)) rfl ⟨rfl, rfl⟩ (zF_ok rfl hc hs) rfl (fun r_ h1 z_ q1 => ?_) rfl
  obtain ⟨rfl, x1, x2, x3, u1, rfl⟩ := q1
  have hM1 := hM.fr u1 (Or.inl (Nat.le_refl _))
  show Z D B xL_law _ _ QL 1528 (LSc D B i) [.int (sp_winds σ τ ε (sC D (i + 1)) (sC D (i + 2)) (sC D (i + 3))).1] h1 _
  refine z_aload_n (pc := 1528) (zk10 kL_law_63) rfl ?_
  refine z_arg (pc := 1529) (k := 1) (zk11 kL_law_63) (zk12 kL_law_63) (zk13 kL_law_63) (zk14 kL_law_63) (zk15 kL_law_63) rfl (by decide) hi hl ?_
  refine z_arg (pc := 1534) (k := 2) (zk0 kL_law_64) (zk1 kL_law_64) (zk2 kL_law_64) (zk3 kL_law_64) (zk4 kL_law_64) rfl (by decide) hi hl ?_
  refine z_arg (pc := 1539) (k := 3) (zk5 kL_law_64) (zk6 kL_law_64) (zk7 kL_law_64) (zk8 kL_law_64) (zk9 kL_law_64) rfl (by decide) hi hl ?_
  refine z_efV (pc := 1544) (st := [.int (sp_winds σ τ ε (sC D (i + 1)) (sC D (i + 2)) (sC D (i + 3))).1]) (zk10 kL_law_64) lkL_164 ivX5_winds hM1.1 rfl rfl (cP_winds (D := D) (B := B) (x := sC D (i + 1)) (y := sC D (i + 2)) (z := sC D (i + 3)) (hM := hM1) (hB := (Nat.le_add_right B 51)) (hn := hW.1) (h12 := hW.2.1.2) (hm := hW.2.2.1) (h8 := hW.2.2.2.1) (hto := hW.to) (hS := hS)) rfl ⟨rfl, rfl⟩ (zF_ok rfl hc hs) rfl (fun r_ h2 z_ q2 => ?_) rfl
  obtain ⟨ω1, mv1, rfl, m1, u2, rfl⟩ := q2
  show Z D B xL_law _ _ QL 1547 (LSc D B i) [.int (sp_winds σ τ ε (sC D (i + 1)) (sC D (i + 2)) (sC D (i + 3))).1, .int (sp_winds σ τ ε (sC D (i + 1)) (sC D (i + 2)) (sC D (i + 3))).1] h2 _
  refine z_icmp_eq (pc := 1547) (tgt := 2345) (zk11 kL_law_64) rfl (fun _ => ?_) (fun q => absurd rfl q)
  exact z_wd (by omega) (by omega) (kk _ _ (ST.mk1 (q := sp_winds σ τ ε (sC D (i + 1)) (sC D (i + 2)) (sC D (i + 3))) hO x1 x2 x3 u1 m1 u2 (pq_sTold ⟨n, m, hW, hS⟩) hκ hZ))
theorem lc_35 {D : zD} {B cs ss i : Nat} {h : zH} {sz : Nat} (hi : i + 6 ≤ D.2.2.2.2.2.2.2.1) (hl : D.2.2.2.2.2.2.2.1 ≤ 3072) (hc : cs ≤ 500000) (hs : ss ≤ 7000000) (hST : ST h B sz) (kk : ∀ (h1 : zH) (z1 : Nat), ST h1 B z1 → Z D B xL_law (cs + 29) (ss + 877) QL 2345 (LSc D B i) [] h1 z1) : Z D B xL_law cs ss QL 1552 (LSc D B i) [] h sz := by
  obtain ⟨ik, σ, κ, τ, ε, kp, tr, hX, hL, hK, ⟨ω, mv, hM⟩, hO, ⟨n, m, hW, hS⟩, hκ, hZ⟩ := hST
  refine z_aload_n (pc := 1552) (zk14 kL_law_64) rfl ?_
  refine z_arg (pc := 1553) (k := 1) (zk15 kL_law_64) (zk0 kL_law_65) (zk1 kL_law_65) (zk2 kL_law_65) (zk3 kL_law_65) rfl (by decide) hi hl ?_
  refine z_arg (pc := 1558) (k := 2) (zk4 kL_law_65) (zk5 kL_law_65) (zk6 kL_law_65) (zk7 kL_law_65) (zk8 kL_law_65) rfl (by decide) hi hl ?_
  refine z_arg (pc := 1563) (k := 3) (zk9 kL_law_65) (zk10 kL_law_65) (zk11 kL_law_65) (zk12 kL_law_65) (zk13 kL_law_65) rfl (by decide) hi hl ?_
  refine z_arg (pc := 1568) (k := 4) (zk14 kL_law_65) (zk15 kL_law_65) (zk0 kL_law_66) (zk1 kL_law_66) (zk2 kL_law_66) rfl (by decide) hi hl ?_
  refine z_arg (pc := 1573) (k := 5) (zk3 kL_law_66) (zk4 kL_law_66) (zk5 kL_law_66) (zk6 kL_law_66) (zk7 kL_law_66) rfl (by decide) hi hl ?_
  refine z_efV (pc := 1578) (st := []) (zk8 kL_law_66) lkL_165 ivX4_pour hX.1 rfl rfl (cX_pour (D := D) (B := B) (x := sC D (i + 1)) (y := sC D (i + 2)) (z := sC D (i + 3)) (u := sC D (i + 4)) (v := sC D (i + 5)) (hX := hX) (hL := hL) (hK := hK) (hB := (Nat.le_refl B)) (hn := hW.1) (h12 := hW.2.1.2) (hm := hW.2.2.1) (h8 := hW.2.2.2.1) (hbk := hW.2.2.2.2.1) (htn := hW.2.2.2.2.2.1) (hlen := hW.2.2.2.2.2.2.1) (h2 := hW.2.1.1) (hS := hS)) rfl ⟨rfl, rfl⟩ (zF_ok rfl hc hs) rfl (fun r_ h1 z_ q1 => ?_) rfl
  obtain ⟨rfl, x1, x2, x3, u1, rfl⟩ := q1
  have hM1 := hM.fr u1 (Or.inl (Nat.le_refl _))
  show Z D B xL_law _ _ QL 1581 (LSc D B i) [.int (sp_pour σ τ ε (sC D (i + 1)) (sC D (i + 2)) (sC D (i + 3)) (sC D (i + 4)) (sC D (i + 5))).1] h1 _
  refine z_aload_n (pc := 1581) (zk9 kL_law_66) rfl ?_
  refine z_arg (pc := 1582) (k := 1) (zk10 kL_law_66) (zk11 kL_law_66) (zk12 kL_law_66) (zk13 kL_law_66) (zk14 kL_law_66) rfl (by decide) hi hl ?_
  refine z_arg (pc := 1587) (k := 2) (zk15 kL_law_66) (zk0 kL_law_67) (zk1 kL_law_67) (zk2 kL_law_67) (zk3 kL_law_67) rfl (by decide) hi hl ?_
  refine z_arg (pc := 1592) (k := 3) (zk4 kL_law_67) (zk5 kL_law_67) (zk6 kL_law_67) (zk7 kL_law_67) (zk8 kL_law_67) rfl (by decide) hi hl ?_
  refine z_arg (pc := 1597) (k := 4) (zk9 kL_law_67) (zk10 kL_law_67) (zk11 kL_law_67) (zk12 kL_law_67) (zk13 kL_law_67) rfl (by decide) hi hl ?_
  refine z_arg (pc := 1602) (k := 5) (zk14 kL_law_67) (zk15 kL_law_67) (zk0 kL_law_68) (zk1 kL_law_68) (zk2 kL_law_68) rfl (by decide) hi hl ?_
  refine z_efV (pc := 1607) (st := [.int (sp_pour σ τ ε (sC D (i + 1)) (sC D (i + 2)) (sC D (i + 3)) (sC D (i + 4)) (sC D (i + 5))).1]) (zk3 kL_law_68) lkL_168 ivX5_pour hM1.1 rfl rfl (cP_pour (D := D) (B := B) (x := sC D (i + 1)) (y := sC D (i + 2)) (z := sC D (i + 3)) (u := sC D (i + 4)) (v := sC D (i + 5)) (hM := hM1) (hB := (Nat.le_add_right B 51)) (hn := hW.1) (h12 := hW.2.1.2) (hm := hW.2.2.1) (h8 := hW.2.2.2.1) (hto := hW.to) (hnn := hW.nn)) rfl ⟨rfl, rfl⟩ (zF_ok rfl hc hs) rfl (fun r_ h2 z_ q2 => ?_) rfl
  obtain ⟨ω1, mv1, rfl, m1, u2, rfl⟩ := q2
  show Z D B xL_law _ _ QL 1610 (LSc D B i) [.int (sp_pour σ τ ε (sC D (i + 1)) (sC D (i + 2)) (sC D (i + 3)) (sC D (i + 4)) (sC D (i + 5))).1, .int (sp_pour σ τ ε (sC D (i + 1)) (sC D (i + 2)) (sC D (i + 3)) (sC D (i + 4)) (sC D (i + 5))).1] h2 _
  refine z_icmp_eq (pc := 1610) (tgt := 2345) (zk4 kL_law_68) rfl (fun _ => ?_) (fun q => absurd rfl q)
  exact z_wd (by omega) (by omega) (kk _ _ (ST.mk1 (q := sp_pour σ τ ε (sC D (i + 1)) (sC D (i + 2)) (sC D (i + 3)) (sC D (i + 4)) (sC D (i + 5))) hO x1 x2 x3 u1 m1 u2 (pq_sRd ⟨n, m, hW, hS⟩) hκ hZ))
theorem lc_36 {D : zD} {B cs ss i : Nat} {h : zH} {sz : Nat} (hi : i + 6 ≤ D.2.2.2.2.2.2.2.1) (hl : D.2.2.2.2.2.2.2.1 ≤ 3072) (hc : cs ≤ 500000) (hs : ss ≤ 7000000) (hST : ST h B sz) (kk : ∀ (h1 : zH) (z1 : Nat), ST h1 B z1 → Z D B xL_law (cs + 29) (ss + 877) QL 2345 (LSc D B i) [] h1 z1) : Z D B xL_law cs ss QL 1615 (LSc D B i) [] h sz := by
  obtain ⟨ik, σ, κ, τ, ε, kp, tr, hX, hL, hK, ⟨ω, mv, hM⟩, hO, ⟨n, m, hW, hS⟩, hκ, hZ⟩ := hST
  refine z_aload_n (pc := 1615) (zk7 kL_law_68) rfl ?_
  refine z_arg (pc := 1616) (k := 1) (zk8 kL_law_68) (zk9 kL_law_68) (zk10 kL_law_68) (zk11 kL_law_68) (zk12 kL_law_68) rfl (by decide) hi hl ?_
  refine z_arg (pc := 1621) (k := 2) (zk13 kL_law_68) (zk14 kL_law_68) (zk15 kL_law_68) (zk0 kL_law_69) (zk1 kL_law_69) rfl (by decide) hi hl ?_
  refine z_arg (pc := 1626) (k := 3) (zk2 kL_law_69) (zk3 kL_law_69) (zk4 kL_law_69) (zk5 kL_law_69) (zk6 kL_law_69) rfl (by decide) hi hl ?_
  refine z_arg (pc := 1631) (k := 4) (zk7 kL_law_69) (zk8 kL_law_69) (zk9 kL_law_69) (zk10 kL_law_69) (zk11 kL_law_69) rfl (by decide) hi hl ?_
  refine z_arg (pc := 1636) (k := 5) (zk12 kL_law_69) (zk13 kL_law_69) (zk14 kL_law_69) (zk15 kL_law_69) (zk0 kL_law_70) rfl (by decide) hi hl ?_
  refine z_efV (pc := 1641) (st := []) (zk1 kL_law_70) lkL_169 ivX4_answer hX.1 rfl rfl (cX_answer (D := D) (B := B) (x := sC D (i + 1)) (y := sC D (i + 2)) (z := sC D (i + 3)) (u := sC D (i + 4)) (v := sC D (i + 5)) (hX := hX) (hL := hL) (hK := hK) (hB := (Nat.le_refl B)) (hn := hW.1) (h12 := hW.2.1.2) (hm := hW.2.2.1) (h8 := hW.2.2.2.1) (hbk := hW.2.2.2.2.1) (htn := hW.2.2.2.2.2.1) (hlen := hW.2.2.2.2.2.2.1) (h2 := hW.2.1.1) (hS := hS)) rfl ⟨rfl, rfl⟩ (zF_ok rfl hc hs) rfl (fun r_ h1 z_ q1 => ?_) rfl
  obtain ⟨rfl, x1, x2, x3, u1, rfl⟩ := q1
  have hM1 := hM.fr u1 (Or.inl (Nat.le_refl _))
  show Z D B xL_law _ _ QL 1644 (LSc D B i) [.int (sp_answer σ τ ε (sC D (i + 1)) (sC D (i + 2)) (sC D (i + 3)) (sC D (i + 4)) (sC D (i + 5))).1] h1 _
  refine z_aload_n (pc := 1644) (zk2 kL_law_70) rfl ?_
  refine z_arg (pc := 1645) (k := 1) (zk3 kL_law_70) (zk4 kL_law_70) (zk5 kL_law_70) (zk6 kL_law_70) (zk7 kL_law_70) rfl (by decide) hi hl ?_
  refine z_arg (pc := 1650) (k := 2) (zk8 kL_law_70) (zk9 kL_law_70) (zk10 kL_law_70) (zk11 kL_law_70) (zk12 kL_law_70) rfl (by decide) hi hl ?_
  refine z_arg (pc := 1655) (k := 3) (zk13 kL_law_70) (zk14 kL_law_70) (zk15 kL_law_70) (zk0 kL_law_71) (zk1 kL_law_71) rfl (by decide) hi hl ?_
  refine z_arg (pc := 1660) (k := 4) (zk2 kL_law_71) (zk3 kL_law_71) (zk4 kL_law_71) (zk5 kL_law_71) (zk6 kL_law_71) rfl (by decide) hi hl ?_
  refine z_arg (pc := 1665) (k := 5) (zk7 kL_law_71) (zk8 kL_law_71) (zk9 kL_law_71) (zk10 kL_law_71) (zk11 kL_law_71) rfl (by decide) hi hl ?_
  refine z_efV (pc := 1670) (st := [.int (sp_answer σ τ ε (sC D (i + 1)) (sC D (i + 2)) (sC D (i + 3)) (sC D (i + 4)) (sC D (i + 5))).1]) (zk12 kL_law_71) lkL_172 ivX5_answer hM1.1 rfl rfl (cP_answer (D := D) (B := B) (x := sC D (i + 1)) (y := sC D (i + 2)) (z := sC D (i + 3)) (u := sC D (i + 4)) (v := sC D (i + 5)) (hM := hM1) (hB := (Nat.le_add_right B 51)) (hn := hW.1) (h12 := hW.2.1.2) (hm := hW.2.2.1) (h8 := hW.2.2.2.1) (hto := hW.to) (hnn := hW.nn)) rfl ⟨rfl, rfl⟩ (zF_ok rfl hc hs) rfl (fun r_ h2 z_ q2 => ?_) rfl
  obtain ⟨ω1, mv1, rfl, m1, u2, rfl⟩ := q2
  show Z D B xL_law _ _ QL 1673 (LSc D B i) [.int (sp_answer σ τ ε (sC D (i + 1)) (sC D (i + 2)) (sC D (i + 3)) (sC D (i + 4)) (sC D (i + 5))).1, .int (sp_answer σ τ ε (sC D (i + 1)) (sC D (i + 2)) (sC D (i + 3)) (sC D (i + 4)) (sC D (i + 5))).1] h2 _
  refine z_icmp_eq (pc := 1673) (tgt := 2345) (zk13 kL_law_71) rfl (fun _ => ?_) (fun q => absurd rfl q)
  exact z_wd (by omega) (by omega) (kk _ _ (ST.mk1 (q := sp_answer σ τ ε (sC D (i + 1)) (sC D (i + 2)) (sC D (i + 3)) (sC D (i + 4)) (sC D (i + 5))) hO x1 x2 x3 u1 m1 u2 (pq_sRd ⟨n, m, hW, hS⟩) hκ hZ))
theorem lc_37 {D : zD} {B cs ss i : Nat} {h : zH} {sz : Nat} (hi : i + 6 ≤ D.2.2.2.2.2.2.2.1) (hl : D.2.2.2.2.2.2.2.1 ≤ 3072) (hc : cs ≤ 500000) (hs : ss ≤ 7000000) (hST : ST h B sz) (kk : ∀ (h1 : zH) (z1 : Nat), ST h1 B z1 → Z D B xL_law (cs + 29) (ss + 877) QL 2345 (LSc D B i) [] h1 z1) : Z D B xL_law cs ss QL 1678 (LSc D B i) [] h sz := by
  obtain ⟨ik, σ, κ, τ, ε, kp, tr, hX, hL, hK, ⟨ω, mv, hM⟩, hO, ⟨n, m, hW, hS⟩, hκ, hZ⟩ := hST
  refine z_aload_n (pc := 1678) (zk0 kL_law_72) rfl ?_
  refine z_arg (pc := 1679) (k := 1) (zk1 kL_law_72) (zk2 kL_law_72) (zk3 kL_law_72) (zk4 kL_law_72) (zk5 kL_law_72) rfl (by decide) hi hl ?_
  refine z_arg (pc := 1684) (k := 2) (zk6 kL_law_72) (zk7 kL_law_72) (zk8 kL_law_72) (zk9 kL_law_72) (zk10 kL_law_72) rfl (by decide) hi hl ?_
  refine z_efV (pc := 1689) (st := []) (zk11 kL_law_72) lkL_173 ivX4_chance hX.1 rfl rfl (cX_chance (D := D) (B := B) (x := sC D (i + 1)) (y := sC D (i + 2)) (hX := hX) (hL := hL) (hK := hK) (hB := (Nat.le_refl B)) (hn := hW.1) (h12 := hW.2.1.2) (hm := hW.2.2.1) (h8 := hW.2.2.2.1) (hbk := hW.2.2.2.2.1) (htn := hW.2.2.2.2.2.1) (hlen := hW.2.2.2.2.2.2.1) (h2 := hW.2.1.1) (hS := hS)) rfl ⟨rfl, rfl⟩ (zF_ok rfl hc hs) rfl (fun r_ h1 z_ q1 => ?_) rfl
  obtain ⟨rfl, x1, x2, x3, u1, rfl⟩ := q1
  have hM1 := hM.fr u1 (Or.inl (Nat.le_refl _))
  show Z D B xL_law _ _ QL 1692 (LSc D B i) [.int (sp_chance σ τ ε (sC D (i + 1)) (sC D (i + 2))).1] h1 _
  refine z_aload_n (pc := 1692) (zk12 kL_law_72) rfl ?_
  refine z_arg (pc := 1693) (k := 1) (zk13 kL_law_72) (zk14 kL_law_72) (zk15 kL_law_72) (zk0 kL_law_73) (zk1 kL_law_73) rfl (by decide) hi hl ?_
  refine z_arg (pc := 1698) (k := 2) (zk2 kL_law_73) (zk3 kL_law_73) (zk4 kL_law_73) (zk5 kL_law_73) (zk6 kL_law_73) rfl (by decide) hi hl ?_
  refine z_efV (pc := 1703) (st := [.int (sp_chance σ τ ε (sC D (i + 1)) (sC D (i + 2))).1]) (zk7 kL_law_73) lkL_176 ivX5_chance hM1.1 rfl rfl (cP_chance (D := D) (B := B) (x := sC D (i + 1)) (y := sC D (i + 2)) (hM := hM1) (hB := (Nat.le_add_right B 51)) (hn := hW.1) (h12 := hW.2.1.2) (hm := hW.2.2.1) (h8 := hW.2.2.2.1) (hto := hW.to)) rfl ⟨rfl, rfl⟩ (zF_ok rfl hc hs) rfl (fun r_ h2 z_ q2 => ?_) rfl
  obtain ⟨ω1, mv1, rfl, m1, u2, rfl⟩ := q2
  show Z D B xL_law _ _ QL 1706 (LSc D B i) [.int (sp_chance σ τ ε (sC D (i + 1)) (sC D (i + 2))).1, .int (sp_chance σ τ ε (sC D (i + 1)) (sC D (i + 2))).1] h2 _
  refine z_icmp_eq (pc := 1706) (tgt := 2345) (zk8 kL_law_73) rfl (fun _ => ?_) (fun q => absurd rfl q)
  exact z_wd (by omega) (by omega) (kk _ _ (ST.mk1 (q := sp_chance σ τ ε (sC D (i + 1)) (sC D (i + 2))) hO x1 x2 x3 u1 m1 u2 (pq_sRd ⟨n, m, hW, hS⟩) hκ hZ))
theorem lc_38 {D : zD} {B cs ss i : Nat} {h : zH} {sz : Nat} (hi : i + 6 ≤ D.2.2.2.2.2.2.2.1) (hl : D.2.2.2.2.2.2.2.1 ≤ 3072) (hc : cs ≤ 500000) (hs : ss ≤ 7000000) (hST : ST h B sz) (kk : ∀ (h1 : zH) (z1 : Nat), ST h1 B z1 → Z D B xL_law (cs + 29) (ss + 877) QL 2345 (LSc D B i) [] h1 z1) : Z D B xL_law cs ss QL 1711 (LSc D B i) [] h sz := by
  obtain ⟨ik, σ, κ, τ, ε, kp, tr, hX, hL, hK, ⟨ω, mv, hM⟩, hO, ⟨n, m, hW, hS⟩, hκ, hZ⟩ := hST
  refine z_aload_n (pc := 1711) (zk11 kL_law_73) rfl ?_
  refine z_arg (pc := 1712) (k := 1) (zk12 kL_law_73) (zk13 kL_law_73) (zk14 kL_law_73) (zk15 kL_law_73) (zk0 kL_law_74) rfl (by decide) hi hl ?_
  refine z_efV (pc := 1717) (st := []) (zk1 kL_law_74) lkL_177 ivX4_sure hX.1 rfl rfl (cX_sure (D := D) (B := B) (x := sC D (i + 1)) (hX := hX) (hL := hL) (hK := hK) (hB := (Nat.le_refl B)) (hn := hW.1) (h12 := hW.2.1.2) (hm := hW.2.2.1) (h8 := hW.2.2.2.1) (hbk := hW.2.2.2.2.1) (htn := hW.2.2.2.2.2.1) (hlen := hW.2.2.2.2.2.2.1) (h2 := hW.2.1.1) (hS := hS)) rfl ⟨rfl, rfl⟩ (zF_ok rfl hc hs) rfl (fun r_ h1 z_ q1 => ?_) rfl
  obtain ⟨rfl, x1, x2, x3, u1, rfl⟩ := q1
  have hM1 := hM.fr u1 (Or.inl (Nat.le_refl _))
  show Z D B xL_law _ _ QL 1720 (LSc D B i) [.int (sp_sure σ τ ε (sC D (i + 1))).1] h1 _
  refine z_aload_n (pc := 1720) (zk2 kL_law_74) rfl ?_
  refine z_arg (pc := 1721) (k := 1) (zk3 kL_law_74) (zk4 kL_law_74) (zk5 kL_law_74) (zk6 kL_law_74) (zk7 kL_law_74) rfl (by decide) hi hl ?_
  refine z_efV (pc := 1726) (st := [.int (sp_sure σ τ ε (sC D (i + 1))).1]) (zk8 kL_law_74) lkL_180 ivX5_sure hM1.1 rfl rfl (cP_sure (D := D) (B := B) (x := sC D (i + 1)) (hM := hM1) (hB := (Nat.le_add_right B 51)) (hn := hW.1) (h12 := hW.2.1.2) (hm := hW.2.2.1) (h8 := hW.2.2.2.1) (hto := hW.to)) rfl ⟨rfl, rfl⟩ (zF_ok rfl hc hs) rfl (fun r_ h2 z_ q2 => ?_) rfl
  obtain ⟨ω1, mv1, rfl, m1, u2, rfl⟩ := q2
  show Z D B xL_law _ _ QL 1729 (LSc D B i) [.int (sp_sure σ τ ε (sC D (i + 1))).1, .int (sp_sure σ τ ε (sC D (i + 1))).1] h2 _
  refine z_icmp_eq (pc := 1729) (tgt := 2345) (zk9 kL_law_74) rfl (fun _ => ?_) (fun q => absurd rfl q)
  exact z_wd (by omega) (by omega) (kk _ _ (ST.mk1 (q := sp_sure σ τ ε (sC D (i + 1))) hO x1 x2 x3 u1 m1 u2 (pq_sRd ⟨n, m, hW, hS⟩) hκ hZ))
theorem lc_39 {D : zD} {B cs ss i : Nat} {h : zH} {sz : Nat} (hi : i + 6 ≤ D.2.2.2.2.2.2.2.1) (hl : D.2.2.2.2.2.2.2.1 ≤ 3072) (hc : cs ≤ 500000) (hs : ss ≤ 7000000) (hST : ST h B sz) (kk : ∀ (h1 : zH) (z1 : Nat), ST h1 B z1 → Z D B xL_law (cs + 29) (ss + 877) QL 2345 (LSc D B i) [] h1 z1) : Z D B xL_law cs ss QL 1734 (LSc D B i) [] h sz := by
  obtain ⟨ik, σ, κ, τ, ε, kp, tr, hX, hL, hK, ⟨ω, mv, hM⟩, hO, ⟨n, m, hW, hS⟩, hκ, hZ⟩ := hST
  refine z_aload_n (pc := 1734) (zk12 kL_law_74) rfl ?_
  refine z_arg (pc := 1735) (k := 1) (zk13 kL_law_74) (zk14 kL_law_74) (zk15 kL_law_74) (zk0 kL_law_75) (zk1 kL_law_75) rfl (by decide) hi hl ?_
  refine z_efV (pc := 1740) (st := []) (zk2 kL_law_75) lkL_181 ivX4_turned hX.1 rfl rfl (cX_turned (D := D) (B := B) (x := sC D (i + 1)) (hX := hX) (hL := hL) (hK := hK) (hB := (Nat.le_refl B)) (hn := hW.1) (h12 := hW.2.1.2) (hm := hW.2.2.1) (h8 := hW.2.2.2.1) (hbk := hW.2.2.2.2.1) (htn := hW.2.2.2.2.2.1) (hlen := hW.2.2.2.2.2.2.1) (h2 := hW.2.1.1) (hS := hS)) rfl ⟨rfl, rfl⟩ (zF_ok rfl hc hs) rfl (fun r_ h1 z_ q1 => ?_) rfl
  obtain ⟨rfl, x1, x2, x3, u1, rfl⟩ := q1
  have hM1 := hM.fr u1 (Or.inl (Nat.le_refl _))
  show Z D B xL_law _ _ QL 1743 (LSc D B i) [.int (sp_turned σ τ ε (sC D (i + 1))).1] h1 _
  refine z_aload_n (pc := 1743) (zk3 kL_law_75) rfl ?_
  refine z_arg (pc := 1744) (k := 1) (zk4 kL_law_75) (zk5 kL_law_75) (zk6 kL_law_75) (zk7 kL_law_75) (zk8 kL_law_75) rfl (by decide) hi hl ?_
  refine z_efV (pc := 1749) (st := [.int (sp_turned σ τ ε (sC D (i + 1))).1]) (zk9 kL_law_75) lkL_184 ivX5_turned hM1.1 rfl rfl (cP_turned (D := D) (B := B) (x := sC D (i + 1)) (hM := hM1) (hB := (Nat.le_add_right B 51)) (hn := hW.1) (h12 := hW.2.1.2) (hm := hW.2.2.1) (h8 := hW.2.2.2.1) (hto := hW.to) (hbk := hW.2.2.2.2.1)) rfl ⟨rfl, rfl⟩ (zF_ok rfl hc hs) rfl (fun r_ h2 z_ q2 => ?_) rfl
  obtain ⟨ω1, mv1, rfl, m1, u2, rfl⟩ := q2
  show Z D B xL_law _ _ QL 1752 (LSc D B i) [.int (sp_turned σ τ ε (sC D (i + 1))).1, .int (sp_turned σ τ ε (sC D (i + 1))).1] h2 _
  refine z_icmp_eq (pc := 1752) (tgt := 2345) (zk10 kL_law_75) rfl (fun _ => ?_) (fun q => absurd rfl q)
  exact z_wd (by omega) (by omega) (kk _ _ (ST.mk1 (q := sp_turned σ τ ε (sC D (i + 1))) hO x1 x2 x3 u1 m1 u2 (pq_sRd ⟨n, m, hW, hS⟩) hκ hZ))
theorem lc_40 {D : zD} {B cs ss i : Nat} {h : zH} {sz : Nat} (hi : i + 6 ≤ D.2.2.2.2.2.2.2.1) (hl : D.2.2.2.2.2.2.2.1 ≤ 3072) (hc : cs ≤ 500000) (hs : ss ≤ 7000000) (hST : ST h B sz) (kk : ∀ (h1 : zH) (z1 : Nat), ST h1 B z1 → Z D B xL_law (cs + 29) (ss + 877) QL 2345 (LSc D B i) [] h1 z1) : Z D B xL_law cs ss QL 1757 (LSc D B i) [] h sz := by
  obtain ⟨ik, σ, κ, τ, ε, kp, tr, hX, hL, hK, ⟨ω, mv, hM⟩, hO, ⟨n, m, hW, hS⟩, hκ, hZ⟩ := hST
  refine z_aload_n (pc := 1757) (zk13 kL_law_75) rfl ?_
  refine z_efV (pc := 1758) (st := []) (zk14 kL_law_75) lkL_185 ivX4_gossips hX.1 rfl rfl (cX_gossips (D := D) (B := B) (hX := hX) (hL := hL) (hK := hK) (hB := (Nat.le_refl B)) (hn := hW.1) (h12 := hW.2.1.2) (hm := hW.2.2.1) (h8 := hW.2.2.2.1) (hbk := hW.2.2.2.2.1) (htn := hW.2.2.2.2.2.1) (hlen := hW.2.2.2.2.2.2.1) (h2 := hW.2.1.1) (hS := hS)) rfl ⟨rfl, rfl⟩ (zF_ok rfl hc hs) rfl (fun r_ h1 z_ q1 => ?_) rfl
  obtain ⟨rfl, x1, x2, x3, u1, rfl⟩ := q1
  have hM1 := hM.fr u1 (Or.inl (Nat.le_refl _))
  show Z D B xL_law _ _ QL 1761 (LSc D B i) [.int (sp_gossips σ τ ε).1] h1 _
  refine z_aload_n (pc := 1761) (zk15 kL_law_75) rfl ?_
  refine z_efV (pc := 1762) (st := [.int (sp_gossips σ τ ε).1]) (zk0 kL_law_76) lkL_188 ivX5_gossips hM1.1 rfl rfl (cP_gossips (D := D) (B := B) (hM := hM1) (hB := (Nat.le_add_right B 51)) (hn := hW.1) (h12 := hW.2.1.2) (hm := hW.2.2.1) (h8 := hW.2.2.2.1) (hto := hW.to)) rfl ⟨rfl, rfl⟩ (zF_ok rfl hc hs) rfl (fun r_ h2 z_ q2 => ?_) rfl
  obtain ⟨ω1, mv1, rfl, m1, u2, rfl⟩ := q2
  show Z D B xL_law _ _ QL 1765 (LSc D B i) [.int (sp_gossips σ τ ε).1, .int (sp_gossips σ τ ε).1] h2 _
  refine z_icmp_eq (pc := 1765) (tgt := 2345) (zk1 kL_law_76) rfl (fun _ => ?_) (fun q => absurd rfl q)
  exact z_wd (by omega) (by omega) (kk _ _ (ST.mk1 (q := sp_gossips σ τ ε) hO x1 x2 x3 u1 m1 u2 (pq_gossips ⟨n, m, hW, hS⟩) hκ hZ))
theorem lc_41 {D : zD} {B cs ss i : Nat} {h : zH} {sz : Nat} (hi : i + 6 ≤ D.2.2.2.2.2.2.2.1) (hl : D.2.2.2.2.2.2.2.1 ≤ 3072) (hc : cs ≤ 500000) (hs : ss ≤ 7000000) (hST : ST h B sz) (kk : ∀ (h1 : zH) (z1 : Nat), ST h1 B z1 → Z D B xL_law (cs + 29) (ss + 877) QL 2345 (LSc D B i) [] h1 z1) : Z D B xL_law cs ss QL 1770 (LSc D B i) [] h sz := by
  obtain ⟨ik, σ, κ, τ, ε, kp, tr, hX, hL, hK, ⟨ω, mv, hM⟩, hO, ⟨n, m, hW, hS⟩, hκ, hZ⟩ := hST
  refine z_aload_n (pc := 1770) (zk4 kL_law_76) rfl ?_
  refine z_arg (pc := 1771) (k := 1) (zk5 kL_law_76) (zk6 kL_law_76) (zk7 kL_law_76) (zk8 kL_law_76) (zk9 kL_law_76) rfl (by decide) hi hl ?_
  refine z_arg (pc := 1776) (k := 2) (zk10 kL_law_76) (zk11 kL_law_76) (zk12 kL_law_76) (zk13 kL_law_76) (zk14 kL_law_76) rfl (by decide) hi hl ?_
  refine z_efV (pc := 1781) (st := []) (zk15 kL_law_76) lkL_189 ivX4_colds hX.1 rfl rfl (cX_colds (D := D) (B := B) (x := sC D (i + 1)) (y := sC D (i + 2)) (hX := hX) (hL := hL) (hK := hK) (hB := (Nat.le_refl B)) (hn := hW.1) (h12 := hW.2.1.2) (hm := hW.2.2.1) (h8 := hW.2.2.2.1) (hbk := hW.2.2.2.2.1) (htn := hW.2.2.2.2.2.1) (hlen := hW.2.2.2.2.2.2.1) (h2 := hW.2.1.1) (hS := hS)) rfl ⟨rfl, rfl⟩ (zF_ok rfl hc hs) rfl (fun r_ h1 z_ q1 => ?_) rfl
  obtain ⟨rfl, x1, x2, x3, u1, rfl⟩ := q1
  have hM1 := hM.fr u1 (Or.inl (Nat.le_refl _))
  show Z D B xL_law _ _ QL 1784 (LSc D B i) [.int (sp_colds σ τ ε (sC D (i + 1)) (sC D (i + 2))).1] h1 _
  refine z_aload_n (pc := 1784) (zk0 kL_law_77) rfl ?_
  refine z_arg (pc := 1785) (k := 1) (zk1 kL_law_77) (zk2 kL_law_77) (zk3 kL_law_77) (zk4 kL_law_77) (zk5 kL_law_77) rfl (by decide) hi hl ?_
  refine z_arg (pc := 1790) (k := 2) (zk6 kL_law_77) (zk7 kL_law_77) (zk8 kL_law_77) (zk9 kL_law_77) (zk10 kL_law_77) rfl (by decide) hi hl ?_
  refine z_efV (pc := 1795) (st := [.int (sp_colds σ τ ε (sC D (i + 1)) (sC D (i + 2))).1]) (zk11 kL_law_77) lkL_192 ivX5_colds hM1.1 rfl rfl (cP_colds (D := D) (B := B) (x := sC D (i + 1)) (y := sC D (i + 2)) (hM := hM1) (hB := (Nat.le_add_right B 51)) (hn := hW.1) (h12 := hW.2.1.2) (hm := hW.2.2.1) (h8 := hW.2.2.2.1) (hto := hW.to)) rfl ⟨rfl, rfl⟩ (zF_ok rfl hc hs) rfl (fun r_ h2 z_ q2 => ?_) rfl
  obtain ⟨ω1, mv1, rfl, m1, u2, rfl⟩ := q2
  show Z D B xL_law _ _ QL 1798 (LSc D B i) [.int (sp_colds σ τ ε (sC D (i + 1)) (sC D (i + 2))).1, .int (sp_colds σ τ ε (sC D (i + 1)) (sC D (i + 2))).1] h2 _
  refine z_icmp_eq (pc := 1798) (tgt := 2345) (zk12 kL_law_77) rfl (fun _ => ?_) (fun q => absurd rfl q)
  exact z_wd (by omega) (by omega) (kk _ _ (ST.mk1 (q := sp_colds σ τ ε (sC D (i + 1)) (sC D (i + 2))) hO x1 x2 x3 u1 m1 u2 (pq_sRd ⟨n, m, hW, hS⟩) hκ hZ))
theorem lc_42 {D : zD} {B cs ss i : Nat} {h : zH} {sz : Nat} (hi : i + 6 ≤ D.2.2.2.2.2.2.2.1) (hl : D.2.2.2.2.2.2.2.1 ≤ 3072) (hc : cs ≤ 500000) (hs : ss ≤ 7000000) (hST : ST h B sz) (kk : ∀ (h1 : zH) (z1 : Nat), ST h1 B z1 → Z D B xL_law (cs + 29) (ss + 877) QL 2345 (LSc D B i) [] h1 z1) : Z D B xL_law cs ss QL 1803 (LSc D B i) [] h sz := by
  obtain ⟨ik, σ, κ, τ, ε, kp, tr, hX, hL, hK, ⟨ω, mv, hM⟩, hO, ⟨n, m, hW, hS⟩, hκ, hZ⟩ := hST
  refine z_aload_n (pc := 1803) (zk15 kL_law_77) rfl ?_
  refine z_arg (pc := 1804) (k := 1) (zk0 kL_law_78) (zk1 kL_law_78) (zk2 kL_law_78) (zk3 kL_law_78) (zk4 kL_law_78) rfl (by decide) hi hl ?_
  refine z_arg (pc := 1809) (k := 2) (zk5 kL_law_78) (zk6 kL_law_78) (zk7 kL_law_78) (zk8 kL_law_78) (zk9 kL_law_78) rfl (by decide) hi hl ?_
  refine z_efV (pc := 1814) (st := []) (zk10 kL_law_78) lkL_193 ivX4_widest hX.1 rfl rfl (cX_widest (D := D) (B := B) (x := sC D (i + 1)) (y := sC D (i + 2)) (hX := hX) (hL := hL) (hK := hK) (hB := (Nat.le_refl B)) (hn := hW.1) (h12 := hW.2.1.2) (hm := hW.2.2.1) (h8 := hW.2.2.2.1) (hbk := hW.2.2.2.2.1) (htn := hW.2.2.2.2.2.1) (hlen := hW.2.2.2.2.2.2.1) (h2 := hW.2.1.1) (hS := hS)) rfl ⟨rfl, rfl⟩ (zF_ok rfl hc hs) rfl (fun r_ h1 z_ q1 => ?_) rfl
  obtain ⟨rfl, x1, x2, x3, u1, rfl⟩ := q1
  have hM1 := hM.fr u1 (Or.inl (Nat.le_refl _))
  show Z D B xL_law _ _ QL 1817 (LSc D B i) [.int (sp_widest σ τ ε (sC D (i + 1)) (sC D (i + 2))).1] h1 _
  refine z_aload_n (pc := 1817) (zk11 kL_law_78) rfl ?_
  refine z_arg (pc := 1818) (k := 1) (zk12 kL_law_78) (zk13 kL_law_78) (zk14 kL_law_78) (zk15 kL_law_78) (zk0 kL_law_79) rfl (by decide) hi hl ?_
  refine z_arg (pc := 1823) (k := 2) (zk1 kL_law_79) (zk2 kL_law_79) (zk3 kL_law_79) (zk4 kL_law_79) (zk5 kL_law_79) rfl (by decide) hi hl ?_
  refine z_efV (pc := 1828) (st := [.int (sp_widest σ τ ε (sC D (i + 1)) (sC D (i + 2))).1]) (zk6 kL_law_79) lkL_196 ivX5_widest hM1.1 rfl rfl (cP_widest (D := D) (B := B) (x := sC D (i + 1)) (y := sC D (i + 2)) (hM := hM1) (hB := (Nat.le_add_right B 51)) (hn := hW.1) (h12 := hW.2.1.2) (hm := hW.2.2.1) (h8 := hW.2.2.2.1) (hto := hW.to)) rfl ⟨rfl, rfl⟩ (zF_ok rfl hc hs) rfl (fun r_ h2 z_ q2 => ?_) rfl
  obtain ⟨ω1, mv1, rfl, m1, u2, rfl⟩ := q2
  show Z D B xL_law _ _ QL 1831 (LSc D B i) [.int (sp_widest σ τ ε (sC D (i + 1)) (sC D (i + 2))).1, .int (sp_widest σ τ ε (sC D (i + 1)) (sC D (i + 2))).1] h2 _
  refine z_icmp_eq (pc := 1831) (tgt := 2345) (zk7 kL_law_79) rfl (fun _ => ?_) (fun q => absurd rfl q)
  exact z_wd (by omega) (by omega) (kk _ _ (ST.mk1 (q := sp_widest σ τ ε (sC D (i + 1)) (sC D (i + 2))) hO x1 x2 x3 u1 m1 u2 (pq_sRd ⟨n, m, hW, hS⟩) hκ hZ))
theorem lc_43 {D : zD} {B cs ss i : Nat} {h : zH} {sz : Nat} (hi : i + 6 ≤ D.2.2.2.2.2.2.2.1) (hl : D.2.2.2.2.2.2.2.1 ≤ 3072) (hc : cs ≤ 500000) (hs : ss ≤ 7000000) (hST : ST h B sz) (kk : ∀ (h1 : zH) (z1 : Nat), ST h1 B z1 → Z D B xL_law (cs + 29) (ss + 877) QL 2345 (LSc D B i) [] h1 z1) : Z D B xL_law cs ss QL 1836 (LSc D B i) [] h sz := by
  obtain ⟨ik, σ, κ, τ, ε, kp, tr, hX, hL, hK, ⟨ω, mv, hM⟩, hO, ⟨n, m, hW, hS⟩, hκ, hZ⟩ := hST
  refine z_aload_n (pc := 1836) (zk10 kL_law_79) rfl ?_
  refine z_efV (pc := 1837) (st := []) (zk11 kL_law_79) lkL_197 ivX4_wise hX.1 rfl rfl (cX_wise (D := D) (B := B) (hX := hX) (hL := hL) (hK := hK) (hB := (Nat.le_refl B)) (hn := hW.1) (h12 := hW.2.1.2) (hm := hW.2.2.1) (h8 := hW.2.2.2.1) (hbk := hW.2.2.2.2.1) (htn := hW.2.2.2.2.2.1) (hlen := hW.2.2.2.2.2.2.1) (h2 := hW.2.1.1) (hS := hS)) rfl ⟨rfl, rfl⟩ (zF_ok rfl hc hs) rfl (fun r_ h1 z_ q1 => ?_) rfl
  obtain ⟨rfl, x1, x2, x3, u1, rfl⟩ := q1
  have hM1 := hM.fr u1 (Or.inl (Nat.le_refl _))
  show Z D B xL_law _ _ QL 1840 (LSc D B i) [.int (sp_wise σ τ ε).1] h1 _
  refine z_aload_n (pc := 1840) (zk12 kL_law_79) rfl ?_
  refine z_efV (pc := 1841) (st := [.int (sp_wise σ τ ε).1]) (zk13 kL_law_79) lkL_200 ivX5_wise hM1.1 rfl rfl (cP_wise (D := D) (B := B) (hM := hM1) (hB := (Nat.le_add_right B 51)) (hn := hW.1) (h12 := hW.2.1.2) (hm := hW.2.2.1) (h8 := hW.2.2.2.1) (hto := hW.to)) rfl ⟨rfl, rfl⟩ (zF_ok rfl hc hs) rfl (fun r_ h2 z_ q2 => ?_) rfl
  obtain ⟨ω1, mv1, rfl, m1, u2, rfl⟩ := q2
  show Z D B xL_law _ _ QL 1844 (LSc D B i) [.int (sp_wise σ τ ε).1, .int (sp_wise σ τ ε).1] h2 _
  refine z_icmp_eq (pc := 1844) (tgt := 2345) (zk14 kL_law_79) rfl (fun _ => ?_) (fun q => absurd rfl q)
  exact z_wd (by omega) (by omega) (kk _ _ (ST.mk1 (q := sp_wise σ τ ε) hO x1 x2 x3 u1 m1 u2 (pq_wise ⟨n, m, hW, hS⟩) hκ hZ))
theorem lc_44 {D : zD} {B cs ss i : Nat} {h : zH} {sz : Nat} (hi : i + 6 ≤ D.2.2.2.2.2.2.2.1) (hl : D.2.2.2.2.2.2.2.1 ≤ 3072) (hc : cs ≤ 500000) (hs : ss ≤ 7000000) (hST : ST h B sz) (kk : ∀ (h1 : zH) (z1 : Nat), ST h1 B z1 → Z D B xL_law (cs + 29) (ss + 877) QL 2345 (LSc D B i) [] h1 z1) : Z D B xL_law cs ss QL 1849 (LSc D B i) [] h sz := by
  obtain ⟨ik, σ, κ, τ, ε, kp, tr, hX, hL, hK, ⟨ω, mv, hM⟩, hO, ⟨n, m, hW, hS⟩, hκ, hZ⟩ := hST
  refine z_aload_n (pc := 1849) (zk1 kL_law_80) rfl ?_
  refine z_efV (pc := 1850) (st := []) (zk2 kL_law_80) lkL_201 ivX4_secret hX.1 rfl rfl (cX_secret (D := D) (B := B) (hX := hX) (hL := hL) (hK := hK) (hB := (Nat.le_refl B)) (hn := hW.1) (h12 := hW.2.1.2) (hm := hW.2.2.1) (h8 := hW.2.2.2.1) (hbk := hW.2.2.2.2.1) (htn := hW.2.2.2.2.2.1) (hlen := hW.2.2.2.2.2.2.1) (h2 := hW.2.1.1) (hS := hS)) rfl ⟨rfl, rfl⟩ (zF_ok rfl hc hs) rfl (fun r_ h1 z_ q1 => ?_) rfl
  obtain ⟨rfl, x1, x2, x3, u1, rfl⟩ := q1
  have hM1 := hM.fr u1 (Or.inl (Nat.le_refl _))
  show Z D B xL_law _ _ QL 1853 (LSc D B i) [.int (sp_secret σ τ ε).1] h1 _
  refine z_aload_n (pc := 1853) (zk3 kL_law_80) rfl ?_
  refine z_efV (pc := 1854) (st := [.int (sp_secret σ τ ε).1]) (zk4 kL_law_80) lkL_204 ivX5_secret hM1.1 rfl rfl (cP_secret (D := D) (B := B) (hM := hM1) (hB := (Nat.le_add_right B 51)) (hn := hW.1) (h12 := hW.2.1.2) (hm := hW.2.2.1) (h8 := hW.2.2.2.1) (hto := hW.to)) rfl ⟨rfl, rfl⟩ (zF_ok rfl hc hs) rfl (fun r_ h2 z_ q2 => ?_) rfl
  obtain ⟨ω1, mv1, rfl, m1, u2, rfl⟩ := q2
  show Z D B xL_law _ _ QL 1857 (LSc D B i) [.int (sp_secret σ τ ε).1, .int (sp_secret σ τ ε).1] h2 _
  refine z_icmp_eq (pc := 1857) (tgt := 2345) (zk5 kL_law_80) rfl (fun _ => ?_) (fun q => absurd rfl q)
  exact z_wd (by omega) (by omega) (kk _ _ (ST.mk1 (q := sp_secret σ τ ε) hO x1 x2 x3 u1 m1 u2 (pq_secret ⟨n, m, hW, hS⟩) hκ hZ))
theorem lc_45 {D : zD} {B cs ss i : Nat} {h : zH} {sz : Nat} (hi : i + 6 ≤ D.2.2.2.2.2.2.2.1) (hl : D.2.2.2.2.2.2.2.1 ≤ 3072) (hc : cs ≤ 500000) (hs : ss ≤ 7000000) (hST : ST h B sz) (kk : ∀ (h1 : zH) (z1 : Nat), ST h1 B z1 → Z D B xL_law (cs + 29) (ss + 877) QL 2345 (LSc D B i) [] h1 z1) : Z D B xL_law cs ss QL 1862 (LSc D B i) [] h sz := by
  obtain ⟨ik, σ, κ, τ, ε, kp, tr, hX, hL, hK, ⟨ω, mv, hM⟩, hO, ⟨n, m, hW, hS⟩, hκ, hZ⟩ := hST
  refine z_aload_n (pc := 1862) (zk8 kL_law_80) rfl ?_
  refine z_efV (pc := 1863) (st := []) (zk9 kL_law_80) lkL_205 ivX4_lost hX.1 rfl rfl (cX_lost (D := D) (B := B) (hX := hX) (hL := hL) (hK := hK) (hB := (Nat.le_refl B)) (hn := hW.1) (h12 := hW.2.1.2) (hm := hW.2.2.1) (h8 := hW.2.2.2.1) (hbk := hW.2.2.2.2.1) (htn := hW.2.2.2.2.2.1) (hlen := hW.2.2.2.2.2.2.1) (h2 := hW.2.1.1) (hS := hS)) rfl ⟨rfl, rfl⟩ (zF_ok rfl hc hs) rfl (fun r_ h1 z_ q1 => ?_) rfl
  obtain ⟨rfl, x1, x2, x3, u1, rfl⟩ := q1
  have hM1 := hM.fr u1 (Or.inl (Nat.le_refl _))
  show Z D B xL_law _ _ QL 1866 (LSc D B i) [.int (sp_lost σ τ ε).1] h1 _
  refine z_aload_n (pc := 1866) (zk10 kL_law_80) rfl ?_
  refine z_efV (pc := 1867) (st := [.int (sp_lost σ τ ε).1]) (zk11 kL_law_80) lkL_208 ivX5_lost hM1.1 rfl rfl (cP_lost (D := D) (B := B) (hM := hM1) (hB := (Nat.le_add_right B 51)) (hn := hW.1) (h12 := hW.2.1.2) (hm := hW.2.2.1) (h8 := hW.2.2.2.1) (hto := hW.to) (htn := hW.2.2.2.2.2.1)) rfl ⟨rfl, rfl⟩ (zF_ok rfl hc hs) rfl (fun r_ h2 z_ q2 => ?_) rfl
  obtain ⟨ω1, mv1, rfl, m1, u2, rfl⟩ := q2
  show Z D B xL_law _ _ QL 1870 (LSc D B i) [.int (sp_lost σ τ ε).1, .int (sp_lost σ τ ε).1] h2 _
  refine z_icmp_eq (pc := 1870) (tgt := 2345) (zk12 kL_law_80) rfl (fun _ => ?_) (fun q => absurd rfl q)
  exact z_wd (by omega) (by omega) (kk _ _ (ST.mk1 (q := sp_lost σ τ ε) hO x1 x2 x3 u1 m1 u2 (pq_lost ⟨n, m, hW, hS⟩) hκ hZ))
theorem lc_46 {D : zD} {B cs ss i : Nat} {h : zH} {sz : Nat} (hi : i + 6 ≤ D.2.2.2.2.2.2.2.1) (hl : D.2.2.2.2.2.2.2.1 ≤ 3072) (hc : cs ≤ 500000) (hs : ss ≤ 7000000) (hST : ST h B sz) (kk : ∀ (h1 : zH) (z1 : Nat), ST h1 B z1 → Z D B xL_law (cs + 29) (ss + 877) QL 2345 (LSc D B i) [] h1 z1) : Z D B xL_law cs ss QL 1875 (LSc D B i) [] h sz := by
  obtain ⟨ik, σ, κ, τ, ε, kp, tr, hX, hL, hK, ⟨ω, mv, hM⟩, hO, ⟨n, m, hW, hS⟩, hκ, hZ⟩ := hST
  refine z_aload_n (pc := 1875) (zk15 kL_law_80) rfl ?_
  refine z_arg (pc := 1876) (k := 1) (zk0 kL_law_81) (zk1 kL_law_81) (zk2 kL_law_81) (zk3 kL_law_81) (zk4 kL_law_81) rfl (by decide) hi hl ?_
  refine z_arg (pc := 1881) (k := 2) (zk5 kL_law_81) (zk6 kL_law_81) (zk7 kL_law_81) (zk8 kL_law_81) (zk9 kL_law_81) rfl (by decide) hi hl ?_
  refine z_efV (pc := 1886) (st := []) (zk10 kL_law_81) lkL_209 ivX4_reach hX.1 rfl rfl (cX_reach (D := D) (B := B) (x := sC D (i + 1)) (y := sC D (i + 2)) (hX := hX) (hL := hL) (hK := hK) (hB := (Nat.le_refl B)) (hn := hW.1) (h12 := hW.2.1.2) (hm := hW.2.2.1) (h8 := hW.2.2.2.1) (hbk := hW.2.2.2.2.1) (htn := hW.2.2.2.2.2.1) (hlen := hW.2.2.2.2.2.2.1) (h2 := hW.2.1.1) (hS := hS)) rfl ⟨rfl, rfl⟩ (zF_ok rfl hc hs) rfl (fun r_ h1 z_ q1 => ?_) rfl
  obtain ⟨rfl, x1, x2, x3, u1, rfl⟩ := q1
  have hM1 := hM.fr u1 (Or.inl (Nat.le_refl _))
  show Z D B xL_law _ _ QL 1889 (LSc D B i) [.int (sp_reach σ τ ε (sC D (i + 1)) (sC D (i + 2))).1] h1 _
  refine z_aload_n (pc := 1889) (zk11 kL_law_81) rfl ?_
  refine z_arg (pc := 1890) (k := 1) (zk12 kL_law_81) (zk13 kL_law_81) (zk14 kL_law_81) (zk15 kL_law_81) (zk0 kL_law_82) rfl (by decide) hi hl ?_
  refine z_arg (pc := 1895) (k := 2) (zk1 kL_law_82) (zk2 kL_law_82) (zk3 kL_law_82) (zk4 kL_law_82) (zk5 kL_law_82) rfl (by decide) hi hl ?_
  refine z_efV (pc := 1900) (st := [.int (sp_reach σ τ ε (sC D (i + 1)) (sC D (i + 2))).1]) (zk6 kL_law_82) lkL_212 ivX5_reach hM1.1 rfl rfl (cP_reach (D := D) (B := B) (x := sC D (i + 1)) (y := sC D (i + 2)) (hM := hM1) (hB := (Nat.le_add_right B 51)) (hn := hW.1) (h12 := hW.2.1.2) (hm := hW.2.2.1) (h8 := hW.2.2.2.1) (hto := hW.to)) rfl ⟨rfl, rfl⟩ (zF_ok rfl hc hs) rfl (fun r_ h2 z_ q2 => ?_) rfl
  obtain ⟨ω1, mv1, rfl, m1, u2, rfl⟩ := q2
  show Z D B xL_law _ _ QL 1903 (LSc D B i) [.int (sp_reach σ τ ε (sC D (i + 1)) (sC D (i + 2))).1, .int (sp_reach σ τ ε (sC D (i + 1)) (sC D (i + 2))).1] h2 _
  refine z_icmp_eq (pc := 1903) (tgt := 2345) (zk7 kL_law_82) rfl (fun _ => ?_) (fun q => absurd rfl q)
  exact z_wd (by omega) (by omega) (kk _ _ (ST.mk1 (q := sp_reach σ τ ε (sC D (i + 1)) (sC D (i + 2))) hO x1 x2 x3 u1 m1 u2 (pq_sRd ⟨n, m, hW, hS⟩) hκ hZ))
theorem lc_47 {D : zD} {B cs ss i : Nat} {h : zH} {sz : Nat} (hi : i + 6 ≤ D.2.2.2.2.2.2.2.1) (hl : D.2.2.2.2.2.2.2.1 ≤ 3072) (hc : cs ≤ 500000) (hs : ss ≤ 7000000) (hST : ST h B sz) (kk : ∀ (h1 : zH) (z1 : Nat), ST h1 B z1 → Z D B xL_law (cs + 29) (ss + 877) QL 2345 (LSc D B i) [] h1 z1) : Z D B xL_law cs ss QL 1908 (LSc D B i) [] h sz := by
  obtain ⟨ik, σ, κ, τ, ε, kp, tr, hX, hL, hK, ⟨ω, mv, hM⟩, hO, ⟨n, m, hW, hS⟩, hκ, hZ⟩ := hST
  refine z_aload_n (pc := 1908) (zk10 kL_law_82) rfl ?_
  refine z_arg (pc := 1909) (k := 1) (zk11 kL_law_82) (zk12 kL_law_82) (zk13 kL_law_82) (zk14 kL_law_82) (zk15 kL_law_82) rfl (by decide) hi hl ?_
  refine z_arg (pc := 1914) (k := 2) (zk0 kL_law_83) (zk1 kL_law_83) (zk2 kL_law_83) (zk3 kL_law_83) (zk4 kL_law_83) rfl (by decide) hi hl ?_
  refine z_efV (pc := 1919) (st := []) (zk5 kL_law_83) lkL_213 ivX4_lacks hX.1 rfl rfl (cX_lacks (D := D) (B := B) (x := sC D (i + 1)) (y := sC D (i + 2)) (hX := hX) (hL := hL) (hK := hK) (hB := (Nat.le_refl B)) (hn := hW.1) (h12 := hW.2.1.2) (hm := hW.2.2.1) (h8 := hW.2.2.2.1) (hbk := hW.2.2.2.2.1) (htn := hW.2.2.2.2.2.1) (hlen := hW.2.2.2.2.2.2.1) (h2 := hW.2.1.1) (hS := hS)) rfl ⟨rfl, rfl⟩ (zF_ok rfl hc hs) rfl (fun r_ h1 z_ q1 => ?_) rfl
  obtain ⟨rfl, x1, x2, x3, u1, rfl⟩ := q1
  have hM1 := hM.fr u1 (Or.inl (Nat.le_refl _))
  show Z D B xL_law _ _ QL 1922 (LSc D B i) [.int (sp_lacks σ τ ε (sC D (i + 1)) (sC D (i + 2))).1] h1 _
  refine z_aload_n (pc := 1922) (zk6 kL_law_83) rfl ?_
  refine z_arg (pc := 1923) (k := 1) (zk7 kL_law_83) (zk8 kL_law_83) (zk9 kL_law_83) (zk10 kL_law_83) (zk11 kL_law_83) rfl (by decide) hi hl ?_
  refine z_arg (pc := 1928) (k := 2) (zk12 kL_law_83) (zk13 kL_law_83) (zk14 kL_law_83) (zk15 kL_law_83) (zk0 kL_law_84) rfl (by decide) hi hl ?_
  refine z_efV (pc := 1933) (st := [.int (sp_lacks σ τ ε (sC D (i + 1)) (sC D (i + 2))).1]) (zk1 kL_law_84) lkL_216 ivX5_lacks hM1.1 rfl rfl (cP_lacks (D := D) (B := B) (x := sC D (i + 1)) (y := sC D (i + 2)) (hM := hM1) (hB := (Nat.le_add_right B 51)) (hn := hW.1) (h12 := hW.2.1.2) (hm := hW.2.2.1) (h8 := hW.2.2.2.1) (hto := hW.to)) rfl ⟨rfl, rfl⟩ (zF_ok rfl hc hs) rfl (fun r_ h2 z_ q2 => ?_) rfl
  obtain ⟨ω1, mv1, rfl, m1, u2, rfl⟩ := q2
  show Z D B xL_law _ _ QL 1936 (LSc D B i) [.int (sp_lacks σ τ ε (sC D (i + 1)) (sC D (i + 2))).1, .int (sp_lacks σ τ ε (sC D (i + 1)) (sC D (i + 2))).1] h2 _
  refine z_icmp_eq (pc := 1936) (tgt := 2345) (zk2 kL_law_84) rfl (fun _ => ?_) (fun q => absurd rfl q)
  exact z_wd (by omega) (by omega) (kk _ _ (ST.mk1 (q := sp_lacks σ τ ε (sC D (i + 1)) (sC D (i + 2))) hO x1 x2 x3 u1 m1 u2 (pq_sRd ⟨n, m, hW, hS⟩) hκ hZ))
