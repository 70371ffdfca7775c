theorem lc_16 {D : zD} {B cs ss i : Nat} {h : zH} {sz : Nat} (hi : i + 6 ≤ D.2.2.2.2.2.2.2.1) (hl : D.2.2.2.2.2.2.2.1 ≤ 3072) (hc : cs ≤ 500000) (hs : ss ≤ 7000000) (hST : ST h B sz) (kk : ∀ (h1 : zH) (z1 : Nat), ST h1 B z1 → Z D B xL_law (cs + 29) (ss + 877) QL 2345 (LSc D B i) [] h1 z1) : Z D B xL_law cs ss QL 925 (LSc D B i) [] h sz := by
  obtain ⟨ik, σ, κ, τ, ε, kp, tr, hX, hL, hK, ⟨ω, mv, hM⟩, hO, ⟨n, m, hW, hS⟩, hκ, hZ⟩ := hST
  refine z_aload_n (pc := 925) (zk13 kL_law_32) rfl ?_
  obtain ⟨N, hN2, hN⟩ := hS.2.1
  rcases hO.2.1 with rfl | ⟨a, rfl, ha1, ha2, κ2, τ2, ω2, ε2, mv2, kp2, tr2, hA⟩
  · refine z_efV (pc := 926) (st := []) (zk14 kL_law_32) lkL_89 ivX4_lane hX.1 rfl rfl (cX_lane (D := D) (B := B) (hX := hX) (hL := hL) (hK := hK) (hB := (Nat.le_refl B)) (hn := hW.1) (h12 := hW.2.1.2) (hm := hW.2.2.1) (h8 := hW.2.2.2.1) (hbk := hW.2.2.2.2.1) (htn := hW.2.2.2.2.2.1) (hlen := hW.2.2.2.2.2.2.1) (h2 := hW.2.1.1) (hS := hS) (hW := hW)) rfl ⟨rfl, rfl⟩ (zF_ok rfl hc hs) rfl (fun r_ h1 z_ q1 => ?_) rfl
    obtain ⟨rfl, x1, x2, x3, u1, rfl⟩ := q1
    have hM1 := hM.fr u1 (Or.inl (Nat.le_refl _))
    show Z D B xL_law _ _ QL 929 (LSc D B i) [.int (sp_lane σ τ ε).1] h1 _
    refine z_aload_n (pc := 929) (zk15 kL_law_32) rfl ?_
    refine z_callV (pc := 930) (st := [.int (sp_lane σ τ ε).1]) (zk0 kL_law_33) lkL_92 ivX5_lane hM1.1 rfl rfl (cP_lane0 (D := D) (B := B) (hM := hM1) (hN := hN) (hN2 := hN2) (hB := Nat.le_add_right B 51) (hp := by omega) (hW := hW)) rfl (zF_ok rfl hc hs) rfl (fun r_ h2 z_ q2 => ?_) rfl
    refine z_cs (a := cs + 29) (b := ss + 877) rfl rfl ?_
    obtain ⟨⟨ω1, mv1, rfl, m1⟩, k1, u2, rfl⟩ := q2
    show Z D B xL_law _ _ QL 933 (LSc D B i) [.int (sp_lane σ τ ε).1, .int (sp_lane σ τ ε).1] h2 _
    refine z_icmp_eq (pc := 933) (tgt := 2345) (zk1 kL_law_33) rfl (fun _ => ?_) (fun q => absurd rfl q)
    obtain ⟨g, v1, v2⟩ := u2.sp
    exact kk _ _ (ST.mk2 (q := sp_lane σ τ ε) x1 x2 x3 m1 v1 v2 hZ (hO.tr0 u1 v1 v2 k1 hZ) (pq_lane ⟨n, m, hW, hS⟩) hκ (by omega))
  · refine z_efV (pc := 926) (st := []) (zk14 kL_law_32) lkL_89 ivX4_lane hX.1 rfl rfl (cX_lane (D := D) (B := B) (hX := hX) (hL := hL) (hK := hK) (hB := (Nat.le_refl B)) (hn := hW.1) (h12 := hW.2.1.2) (hm := hW.2.2.1) (h8 := hW.2.2.2.1) (hbk := hW.2.2.2.2.1) (htn := hW.2.2.2.2.2.1) (hlen := hW.2.2.2.2.2.2.1) (h2 := hW.2.1.1) (hS := hS) (hW := hW)) rfl ⟨rfl, rfl⟩ (zF_ok rfl hc hs) rfl (fun r_ h1 z_ q1 => ?_) rfl
    obtain ⟨rfl, x1, x2, x3, u1, rfl⟩ := q1
    have hM1 := hM.fr u1 (Or.inl (Nat.le_refl _))
    show Z D B xL_law _ _ QL 929 (LSc D B i) [.int (sp_lane σ τ ε).1] h1 _
    refine z_aload_n (pc := 929) (zk15 kL_law_32) rfl ?_
    refine z_callV (pc := 930) (st := [.int (sp_lane σ τ ε).1]) (zk0 kL_law_33) lkL_92 ivX5_lane hM1.1 rfl rfl (cP_lane1 (D := D) (B := B) (hM := hM1) (hO := hA.fr u1 (Or.inl (by omega))) (hN := hN) (hN2 := hN2) (hB := Nat.le_add_right B 51) (hBq := by omega) (hd := Or.inl (by omega)) (hW := hW)) rfl (zF_ok rfl hc hs) rfl (fun r_ h2 z_ q2 => ?_) rfl
    refine z_cs (a := cs + 29) (b := ss + 877) rfl rfl ?_
    obtain ⟨⟨ω1, mv1, rfl, m1⟩, k1, u2, rfl⟩ := q2
    show Z D B xL_law _ _ QL 933 (LSc D B i) [.int (sp_lane σ τ ε).1, .int (sp_lane σ τ ε).1] h2 _
    refine z_icmp_eq (pc := 933) (tgt := 2345) (zk1 kL_law_33) rfl (fun _ => ?_) (fun q => absurd rfl q)
    obtain ⟨g, v1, v2⟩ := u2.sp
    exact kk _ _ (ST.mk2 (q := sp_lane σ τ ε) x1 x2 x3 m1 v1 v2 ha1 (hO.tr1 u1 v1 v2 k1 ha1 ha2) (pq_lane ⟨n, m, hW, hS⟩) hκ hZ)
theorem lc_17 {D : zD} {B cs ss i : Nat} {h : zH} {sz : Nat} (hi : i + 6 ≤ D.2.2.2.2.2.2.2.1) (hl : D.2.2.2.2.2.2.2.1 ≤ 3072) (hc : cs ≤ 500000) (hs : ss ≤ 7000000) (hST : ST h B sz) (kk : ∀ (h1 : zH) (z1 : Nat), ST h1 B z1 → Z D B xL_law (cs + 29) (ss + 877) QL 2345 (LSc D B i) [] h1 z1) : Z D B xL_law cs ss QL 938 (LSc D B i) [] h sz := by
  obtain ⟨ik, σ, κ, τ, ε, kp, tr, hX, hL, hK, ⟨ω, mv, hM⟩, hO, ⟨n, m, hW, hS⟩, hκ, hZ⟩ := hST
  refine z_aload_n (pc := 938) (zk4 kL_law_33) rfl ?_
  refine z_arg (pc := 939) (k := 1) (zk5 kL_law_33) (zk6 kL_law_33) (zk7 kL_law_33) (zk8 kL_law_33) (zk9 kL_law_33) rfl (by decide) hi hl ?_
  refine z_arg (pc := 944) (k := 2) (zk10 kL_law_33) (zk11 kL_law_33) (zk12 kL_law_33) (zk13 kL_law_33) (zk14 kL_law_33) rfl (by decide) hi hl ?_
  refine z_efV (pc := 949) (st := []) (zk15 kL_law_33) lkL_93 ivX4_letterOf hX.1 rfl rfl (cX_letterOf (D := D) (B := B) (x := sC D (i + 1)) (y := sC D (i + 2)) (hX := hX) (hL := hL) (hK := hK) (hB := (Nat.le_refl B)) (hn := hW.1) (h12 := hW.2.1.2) (hm := hW.2.2.1) (h8 := hW.2.2.2.1) (hbk := hW.2.2.2.2.1) (htn := hW.2.2.2.2.2.1) (hlen := hW.2.2.2.2.2.2.1) (h2 := hW.2.1.1) (hS := hS)) rfl ⟨rfl, rfl⟩ (zF_ok rfl hc hs) rfl (fun r_ h1 z_ q1 => ?_) rfl
  obtain ⟨rfl, x1, x2, x3, u1, rfl⟩ := q1
  have hM1 := hM.fr u1 (Or.inl (Nat.le_refl _))
  show Z D B xL_law _ _ QL 952 (LSc D B i) [.int (sp_letterOf σ τ ε (sC D (i + 1)) (sC D (i + 2))).1] h1 _
  refine z_aload_n (pc := 952) (zk0 kL_law_34) rfl ?_
  refine z_arg (pc := 953) (k := 1) (zk1 kL_law_34) (zk2 kL_law_34) (zk3 kL_law_34) (zk4 kL_law_34) (zk5 kL_law_34) rfl (by decide) hi hl ?_
  refine z_arg (pc := 958) (k := 2) (zk6 kL_law_34) (zk7 kL_law_34) (zk8 kL_law_34) (zk9 kL_law_34) (zk10 kL_law_34) rfl (by decide) hi hl ?_
  refine z_efV (pc := 963) (st := [.int (sp_letterOf σ τ ε (sC D (i + 1)) (sC D (i + 2))).1]) (zk11 kL_law_34) lkL_96 ivX5_letterOf hM1.1 rfl rfl (cP_letterOf (D := D) (B := B) (x := sC D (i + 1)) (y := sC D (i + 2)) (hM := hM1) (hB := (Nat.le_add_right B 51)) (hn := hW.1) (h12 := hW.2.1.2) (hm := hW.2.2.1) (h8 := hW.2.2.2.1) (hto := hW.to)) rfl ⟨rfl, rfl⟩ (zF_ok rfl hc hs) rfl (fun r_ h2 z_ q2 => ?_) rfl
  obtain ⟨ω1, mv1, rfl, m1, u2, rfl⟩ := q2
  show Z D B xL_law _ _ QL 966 (LSc D B i) [.int (sp_letterOf σ τ ε (sC D (i + 1)) (sC D (i + 2))).1, .int (sp_letterOf σ τ ε (sC D (i + 1)) (sC D (i + 2))).1] h2 _
  refine z_icmp_eq (pc := 966) (tgt := 2345) (zk12 kL_law_34) rfl (fun _ => ?_) (fun q => absurd rfl q)
  exact z_wd (by omega) (by omega) (kk _ _ (ST.mk1 (q := sp_letterOf σ τ ε (sC D (i + 1)) (sC D (i + 2))) hO x1 x2 x3 u1 m1 u2 (pq_sRd ⟨n, m, hW, hS⟩) hκ hZ))
theorem lc_18 {D : zD} {B cs ss i : Nat} {h : zH} {sz : Nat} (hi : i + 6 ≤ D.2.2.2.2.2.2.2.1) (hl : D.2.2.2.2.2.2.2.1 ≤ 3072) (hc : cs ≤ 500000) (hs : ss ≤ 7000000) (hST : ST h B sz) (kk : ∀ (h1 : zH) (z1 : Nat), ST h1 B z1 → Z D B xL_law (cs + 29) (ss + 877) QL 2345 (LSc D B i) [] h1 z1) : Z D B xL_law cs ss QL 971 (LSc D B i) [] h sz := by
  obtain ⟨ik, σ, κ, τ, ε, kp, tr, hX, hL, hK, ⟨ω, mv, hM⟩, hO, ⟨n, m, hW, hS⟩, hκ, hZ⟩ := hST
  refine z_aload_n (pc := 971) (zk15 kL_law_34) rfl ?_
  refine z_arg (pc := 972) (k := 1) (zk0 kL_law_35) (zk1 kL_law_35) (zk2 kL_law_35) (zk3 kL_law_35) (zk4 kL_law_35) rfl (by decide) hi hl ?_
  refine z_arg (pc := 977) (k := 2) (zk5 kL_law_35) (zk6 kL_law_35) (zk7 kL_law_35) (zk8 kL_law_35) (zk9 kL_law_35) rfl (by decide) hi hl ?_
  refine z_efV (pc := 982) (st := []) (zk10 kL_law_35) lkL_97 ivX4_houseOf hX.1 rfl rfl (cX_houseOf (D := D) (B := B) (x := sC D (i + 1)) (y := sC D (i + 2)) (hX := hX) (hL := hL) (hK := hK) (hB := (Nat.le_refl B)) (hn := hW.1) (h12 := hW.2.1.2) (hm := hW.2.2.1) (h8 := hW.2.2.2.1) (hbk := hW.2.2.2.2.1) (htn := hW.2.2.2.2.2.1) (hlen := hW.2.2.2.2.2.2.1) (h2 := hW.2.1.1) (hS := hS)) rfl ⟨rfl, rfl⟩ (zF_ok rfl hc hs) rfl (fun r_ h1 z_ q1 => ?_) rfl
  obtain ⟨rfl, x1, x2, x3, u1, rfl⟩ := q1
  have hM1 := hM.fr u1 (Or.inl (Nat.le_refl _))
  show Z D B xL_law _ _ QL 985 (LSc D B i) [.int (sp_houseOf σ τ ε (sC D (i + 1)) (sC D (i + 2))).1] h1 _
  refine z_aload_n (pc := 985) (zk11 kL_law_35) rfl ?_
  refine z_arg (pc := 986) (k := 1) (zk12 kL_law_35) (zk13 kL_law_35) (zk14 kL_law_35) (zk15 kL_law_35) (zk0 kL_law_36) rfl (by decide) hi hl ?_
  refine z_arg (pc := 991) (k := 2) (zk1 kL_law_36) (zk2 kL_law_36) (zk3 kL_law_36) (zk4 kL_law_36) (zk5 kL_law_36) rfl (by decide) hi hl ?_
  refine z_efV (pc := 996) (st := [.int (sp_houseOf σ τ ε (sC D (i + 1)) (sC D (i + 2))).1]) (zk6 kL_law_36) lkL_100 ivX5_houseOf hM1.1 rfl rfl (cP_houseOf (D := D) (B := B) (x := sC D (i + 1)) (y := sC D (i + 2)) (hM := hM1) (hB := (Nat.le_add_right B 51)) (hn := hW.1) (h12 := hW.2.1.2) (hm := hW.2.2.1) (h8 := hW.2.2.2.1) (hto := hW.to)) rfl ⟨rfl, rfl⟩ (zF_ok rfl hc hs) rfl (fun r_ h2 z_ q2 => ?_) rfl
  obtain ⟨ω1, mv1, rfl, m1, u2, rfl⟩ := q2
  show Z D B xL_law _ _ QL 999 (LSc D B i) [.int (sp_houseOf σ τ ε (sC D (i + 1)) (sC D (i + 2))).1, .int (sp_houseOf σ τ ε (sC D (i + 1)) (sC D (i + 2))).1] h2 _
  refine z_icmp_eq (pc := 999) (tgt := 2345) (zk7 kL_law_36) rfl (fun _ => ?_) (fun q => absurd rfl q)
  exact z_wd (by omega) (by omega) (kk _ _ (ST.mk1 (q := sp_houseOf σ τ ε (sC D (i + 1)) (sC D (i + 2))) hO x1 x2 x3 u1 m1 u2 (pq_sRd ⟨n, m, hW, hS⟩) hκ hZ))
theorem lc_19 {D : zD} {B cs ss i : Nat} {h : zH} {sz : Nat} (hi : i + 6 ≤ D.2.2.2.2.2.2.2.1) (hl : D.2.2.2.2.2.2.2.1 ≤ 3072) (hc : cs ≤ 500000) (hs : ss ≤ 7000000) (hST : ST h B sz) (kk : ∀ (h1 : zH) (z1 : Nat), ST h1 B z1 → Z D B xL_law (cs + 29) (ss + 877) QL 2345 (LSc D B i) [] h1 z1) : Z D B xL_law cs ss QL 1004 (LSc D B i) [] h sz := by
  obtain ⟨ik, σ, κ, τ, ε, kp, tr, hX, hL, hK, ⟨ω, mv, hM⟩, hO, ⟨n, m, hW, hS⟩, hκ, hZ⟩ := hST
  refine z_aload_n (pc := 1004) (zk10 kL_law_36) rfl ?_
  refine z_arg (pc := 1005) (k := 1) (zk11 kL_law_36) (zk12 kL_law_36) (zk13 kL_law_36) (zk14 kL_law_36) (zk15 kL_law_36) rfl (by decide) hi hl ?_
  refine z_arg (pc := 1010) (k := 2) (zk0 kL_law_37) (zk1 kL_law_37) (zk2 kL_law_37) (zk3 kL_law_37) (zk4 kL_law_37) rfl (by decide) hi hl ?_
  refine z_efV (pc := 1015) (st := []) (zk5 kL_law_37) lkL_101 ivX4_heard hX.1 rfl rfl (cX_heard (D := D) (B := B) (x := sC D (i + 1)) (y := sC D (i + 2)) (hX := hX) (hL := hL) (hK := hK) (hB := (Nat.le_refl B)) (hn := hW.1) (h12 := hW.2.1.2) (hm := hW.2.2.1) (h8 := hW.2.2.2.1)) rfl ⟨rfl, rfl⟩ (zF_ok rfl hc hs) rfl (fun r_ h1 z_ q1 => ?_) rfl
  obtain ⟨rfl, x1, x2, x3, u1, rfl⟩ := q1
  have hM1 := hM.fr u1 (Or.inl (Nat.le_refl _))
  show Z D B xL_law _ _ QL 1018 (LSc D B i) [.int (sp_heard σ τ ε (sC D (i + 1)) (sC D (i + 2))).1] h1 _
  refine z_aload_n (pc := 1018) (zk6 kL_law_37) rfl ?_
  refine z_arg (pc := 1019) (k := 1) (zk7 kL_law_37) (zk8 kL_law_37) (zk9 kL_law_37) (zk10 kL_law_37) (zk11 kL_law_37) rfl (by decide) hi hl ?_
  refine z_arg (pc := 1024) (k := 2) (zk12 kL_law_37) (zk13 kL_law_37) (zk14 kL_law_37) (zk15 kL_law_37) (zk0 kL_law_38) rfl (by decide) hi hl ?_
  refine z_efV (pc := 1029) (st := [.int (sp_heard σ τ ε (sC D (i + 1)) (sC D (i + 2))).1]) (zk1 kL_law_38) lkL_104 ivX5_heard hM1.1 rfl rfl (cP_heard (D := D) (B := B) (x := sC D (i + 1)) (y := sC D (i + 2)) (hM := hM1) (hB := (Nat.le_add_right B 51)) (hn := hW.1) (h12 := hW.2.1.2) (hm := hW.2.2.1) (h8 := hW.2.2.2.1) (hto := hW.to)) rfl ⟨rfl, rfl⟩ (zF_ok rfl hc hs) rfl (fun r_ h2 z_ q2 => ?_) rfl
  obtain ⟨ω1, mv1, rfl, m1, u2, rfl⟩ := q2
  show Z D B xL_law _ _ QL 1032 (LSc D B i) [.int (sp_heard σ τ ε (sC D (i + 1)) (sC D (i + 2))).1, .int (sp_heard σ τ ε (sC D (i + 1)) (sC D (i + 2))).1] h2 _
  refine z_icmp_eq (pc := 1032) (tgt := 2345) (zk2 kL_law_38) rfl (fun _ => ?_) (fun q => absurd rfl q)
  exact z_wd (by omega) (by omega) (kk _ _ (ST.mk1 (q := sp_heard σ τ ε (sC D (i + 1)) (sC D (i + 2))) hO x1 x2 x3 u1 m1 u2 (pq_sRd ⟨n, m, hW, hS⟩) hκ hZ))
theorem lc_20 {D : zD} {B cs ss i : Nat} {h : zH} {sz : Nat} (hi : i + 6 ≤ D.2.2.2.2.2.2.2.1) (hl : D.2.2.2.2.2.2.2.1 ≤ 3072) (hc : cs ≤ 500000) (hs : ss ≤ 7000000) (hST : ST h B sz) (kk : ∀ (h1 : zH) (z1 : Nat), ST h1 B z1 → Z D B xL_law (cs + 29) (ss + 877) QL 2345 (LSc D B i) [] h1 z1) : Z D B xL_law cs ss QL 1037 (LSc D B i) [] h sz := by
  obtain ⟨ik, σ, κ, τ, ε, kp, tr, hX, hL, hK, ⟨ω, mv, hM⟩, hO, ⟨n, m, hW, hS⟩, hκ, hZ⟩ := hST
  refine z_aload_n (pc := 1037) (zk5 kL_law_38) rfl ?_
  refine z_arg (pc := 1038) (k := 1) (zk6 kL_law_38) (zk7 kL_law_38) (zk8 kL_law_38) (zk9 kL_law_38) (zk10 kL_law_38) rfl (by decide) hi hl ?_
  refine z_arg (pc := 1043) (k := 2) (zk11 kL_law_38) (zk12 kL_law_38) (zk13 kL_law_38) (zk14 kL_law_38) (zk15 kL_law_38) rfl (by decide) hi hl ?_
  refine z_efV (pc := 1048) (st := []) (zk0 kL_law_39) lkL_105 ivX4_isRead hX.1 rfl rfl (cX_isRead (D := D) (B := B) (x := sC D (i + 1)) (y := sC D (i + 2)) (hX := hX) (hL := hL) (hK := hK) (hB := (Nat.le_refl B)) (hn := hW.1) (h12 := hW.2.1.2) (hm := hW.2.2.1) (h8 := hW.2.2.2.1)) rfl ⟨rfl, rfl⟩ (zF_ok rfl hc hs) rfl (fun r_ h1 z_ q1 => ?_) rfl
  obtain ⟨rfl, x1, x2, x3, u1, rfl⟩ := q1
  have hM1 := hM.fr u1 (Or.inl (Nat.le_refl _))
  show Z D B xL_law _ _ QL 1051 (LSc D B i) [.int (sp_isRead σ τ ε (sC D (i + 1)) (sC D (i + 2))).1] h1 _
  refine z_aload_n (pc := 1051) (zk1 kL_law_39) rfl ?_
  refine z_arg (pc := 1052) (k := 1) (zk2 kL_law_39) (zk3 kL_law_39) (zk4 kL_law_39) (zk5 kL_law_39) (zk6 kL_law_39) rfl (by decide) hi hl ?_
  refine z_arg (pc := 1057) (k := 2) (zk7 kL_law_39) (zk8 kL_law_39) (zk9 kL_law_39) (zk10 kL_law_39) (zk11 kL_law_39) rfl (by decide) hi hl ?_
  refine z_efV (pc := 1062) (st := [.int (sp_isRead σ τ ε (sC D (i + 1)) (sC D (i + 2))).1]) (zk12 kL_law_39) lkL_108 ivX5_isRead hM1.1 rfl rfl (cP_isRead (D := D) (B := B) (x := sC D (i + 1)) (y := sC D (i + 2)) (hM := hM1) (hB := (Nat.le_add_right B 51)) (hn := hW.1) (h12 := hW.2.1.2) (hm := hW.2.2.1) (h8 := hW.2.2.2.1) (hto := hW.to)) rfl ⟨rfl, rfl⟩ (zF_ok rfl hc hs) rfl (fun r_ h2 z_ q2 => ?_) rfl
  obtain ⟨ω1, mv1, rfl, m1, u2, rfl⟩ := q2
  show Z D B xL_law _ _ QL 1065 (LSc D B i) [.int (sp_isRead σ τ ε (sC D (i + 1)) (sC D (i + 2))).1, .int (sp_isRead σ τ ε (sC D (i + 1)) (sC D (i + 2))).1] h2 _
  refine z_icmp_eq (pc := 1065) (tgt := 2345) (zk13 kL_law_39) rfl (fun _ => ?_) (fun q => absurd rfl q)
  exact z_wd (by omega) (by omega) (kk _ _ (ST.mk1 (q := sp_isRead σ τ ε (sC D (i + 1)) (sC D (i + 2))) hO x1 x2 x3 u1 m1 u2 (pq_sRd ⟨n, m, hW, hS⟩) hκ hZ))
theorem lc_21 {D : zD} {B cs ss i : Nat} {h : zH} {sz : Nat} (hi : i + 6 ≤ D.2.2.2.2.2.2.2.1) (hl : D.2.2.2.2.2.2.2.1 ≤ 3072) (hc : cs ≤ 500000) (hs : ss ≤ 7000000) (hST : ST h B sz) (kk : ∀ (h1 : zH) (z1 : Nat), ST h1 B z1 → Z D B xL_law (cs + 29) (ss + 877) QL 2345 (LSc D B i) [] h1 z1) : Z D B xL_law cs ss QL 1070 (LSc D B i) [] h sz := by
  obtain ⟨ik, σ, κ, τ, ε, kp, tr, hX, hL, hK, ⟨ω, mv, hM⟩, hO, ⟨n, m, hW, hS⟩, hκ, hZ⟩ := hST
  refine z_aload_n (pc := 1070) (zk0 kL_law_40) rfl ?_
  refine z_arg (pc := 1071) (k := 1) (zk1 kL_law_40) (zk2 kL_law_40) (zk3 kL_law_40) (zk4 kL_law_40) (zk5 kL_law_40) rfl (by decide) hi hl ?_
  refine z_efV (pc := 1076) (st := []) (zk6 kL_law_40) lkL_109 ivX4_whoKnows hX.1 rfl rfl (cX_whoKnows (D := D) (B := B) (x := sC D (i + 1)) (hX := hX) (hL := hL) (hK := hK) (hB := (Nat.le_refl B)) (hn := hW.1) (h12 := hW.2.1.2) (hm := hW.2.2.1) (h8 := hW.2.2.2.1)) rfl ⟨rfl, rfl⟩ (zF_ok rfl hc hs) rfl (fun r_ h1 z_ q1 => ?_) rfl
  obtain ⟨rfl, x1, x2, x3, u1, rfl⟩ := q1
  have hM1 := hM.fr u1 (Or.inl (Nat.le_refl _))
  show Z D B xL_law _ _ QL 1079 (LSc D B i) [.int (sp_whoKnows σ τ ε (sC D (i + 1))).1] h1 _
  refine z_aload_n (pc := 1079) (zk7 kL_law_40) rfl ?_
  refine z_arg (pc := 1080) (k := 1) (zk8 kL_law_40) (zk9 kL_law_40) (zk10 kL_law_40) (zk11 kL_law_40) (zk12 kL_law_40) rfl (by decide) hi hl ?_
  refine z_efV (pc := 1085) (st := [.int (sp_whoKnows σ τ ε (sC D (i + 1))).1]) (zk13 kL_law_40) lkL_112 ivX5_whoKnows hM1.1 rfl rfl (cP_whoKnows (D := D) (B := B) (x := sC D (i + 1)) (hM := hM1) (hB := (Nat.le_add_right B 51)) (hn := hW.1) (h12 := hW.2.1.2) (hm := hW.2.2.1) (h8 := hW.2.2.2.1) (hto := hW.to)) rfl ⟨rfl, rfl⟩ (zF_ok rfl hc hs) rfl (fun r_ h2 z_ q2 => ?_) rfl
  obtain ⟨ω1, mv1, rfl, m1, u2, rfl⟩ := q2
  show Z D B xL_law _ _ QL 1088 (LSc D B i) [.int (sp_whoKnows σ τ ε (sC D (i + 1))).1, .int (sp_whoKnows σ τ ε (sC D (i + 1))).1] h2 _
  refine z_icmp_eq (pc := 1088) (tgt := 2345) (zk14 kL_law_40) rfl (fun _ => ?_) (fun q => absurd rfl q)
  exact z_wd (by omega) (by omega) (kk _ _ (ST.mk1 (q := sp_whoKnows σ τ ε (sC D (i + 1))) hO x1 x2 x3 u1 m1 u2 (pq_sRd ⟨n, m, hW, hS⟩) hκ hZ))
theorem lc_22 {D : zD} {B cs ss i : Nat} {h : zH} {sz : Nat} (hi : i + 6 ≤ D.2.2.2.2.2.2.2.1) (hl : D.2.2.2.2.2.2.2.1 ≤ 3072) (hc : cs ≤ 500000) (hs : ss ≤ 7000000) (hST : ST h B sz) (kk : ∀ (h1 : zH) (z1 : Nat), ST h1 B z1 → Z D B xL_law (cs + 29) (ss + 877) QL 2345 (LSc D B i) [] h1 z1) : Z D B xL_law cs ss QL 1093 (LSc D B i) [] h sz := by
  obtain ⟨ik, σ, κ, τ, ε, kp, tr, hX, hL, hK, ⟨ω, mv, hM⟩, hO, ⟨n, m, hW, hS⟩, hκ, hZ⟩ := hST
  refine z_aload_n (pc := 1093) (zk1 kL_law_41) rfl ?_
  refine z_arg (pc := 1094) (k := 1) (zk2 kL_law_41) (zk3 kL_law_41) (zk4 kL_law_41) (zk5 kL_law_41) (zk6 kL_law_41) rfl (by decide) hi hl ?_
  refine z_efV (pc := 1099) (st := []) (zk7 kL_law_41) lkL_113 ivX4_knows hX.1 rfl rfl (cX_knows (D := D) (B := B) (x := sC D (i + 1)) (hX := hX) (hL := hL) (hK := hK) (hB := (Nat.le_refl B)) (hn := hW.1) (h12 := hW.2.1.2) (hm := hW.2.2.1) (h8 := hW.2.2.2.1)) rfl ⟨rfl, rfl⟩ (zF_ok rfl hc hs) rfl (fun r_ h1 z_ q1 => ?_) rfl
  obtain ⟨rfl, x1, x2, x3, u1, rfl⟩ := q1
  have hM1 := hM.fr u1 (Or.inl (Nat.le_refl _))
  show Z D B xL_law _ _ QL 1102 (LSc D B i) [.int (sp_knows σ τ ε (sC D (i + 1))).1] h1 _
  refine z_aload_n (pc := 1102) (zk8 kL_law_41) rfl ?_
  refine z_arg (pc := 1103) (k := 1) (zk9 kL_law_41) (zk10 kL_law_41) (zk11 kL_law_41) (zk12 kL_law_41) (zk13 kL_law_41) rfl (by decide) hi hl ?_
  refine z_efV (pc := 1108) (st := [.int (sp_knows σ τ ε (sC D (i + 1))).1]) (zk14 kL_law_41) lkL_116 ivX5_knows hM1.1 rfl rfl (cP_knows (D := D) (B := B) (x := sC D (i + 1)) (hM := hM1) (hB := (Nat.le_add_right B 51)) (hn := hW.1) (h12 := hW.2.1.2) (hm := hW.2.2.1) (h8 := hW.2.2.2.1) (hto := hW.to)) rfl ⟨rfl, rfl⟩ (zF_ok rfl hc hs) rfl (fun r_ h2 z_ q2 => ?_) rfl
  obtain ⟨ω1, mv1, rfl, m1, u2, rfl⟩ := q2
  show Z D B xL_law _ _ QL 1111 (LSc D B i) [.int (sp_knows σ τ ε (sC D (i + 1))).1, .int (sp_knows σ τ ε (sC D (i + 1))).1] h2 _
  refine z_icmp_eq (pc := 1111) (tgt := 2345) (zk15 kL_law_41) rfl (fun _ => ?_) (fun q => absurd rfl q)
  exact z_wd (by omega) (by omega) (kk _ _ (ST.mk1 (q := sp_knows σ τ ε (sC D (i + 1))) hO x1 x2 x3 u1 m1 u2 (pq_sRd ⟨n, m, hW, hS⟩) hκ hZ))
theorem lc_23 {D : zD} {B cs ss i : Nat} {h : zH} {sz : Nat} (hi : i + 6 ≤ D.2.2.2.2.2.2.2.1) (hl : D.2.2.2.2.2.2.2.1 ≤ 3072) (hc : cs ≤ 500000) (hs : ss ≤ 7000000) (hST : ST h B sz) (kk : ∀ (h1 : zH) (z1 : Nat), ST h1 B z1 → Z D B xL_law (cs + 29) (ss + 877) QL 2345 (LSc D B i) [] h1 z1) : Z D B xL_law cs ss QL 1116 (LSc D B i) [] h sz := by
  obtain ⟨ik, σ, κ, τ, ε, kp, tr, hX, hL, hK, ⟨ω, mv, hM⟩, hO, ⟨n, m, hW, hS⟩, hκ, hZ⟩ := hST
  refine z_aload_n (pc := 1116) (zk2 kL_law_42) rfl ?_
  refine z_arg (pc := 1117) (k := 1) (zk3 kL_law_42) (zk4 kL_law_42) (zk5 kL_law_42) (zk6 kL_law_42) (zk7 kL_law_42) rfl (by decide) hi hl ?_
  refine z_arg (pc := 1122) (k := 2) (zk8 kL_law_42) (zk9 kL_law_42) (zk10 kL_law_42) (zk11 kL_law_42) (zk12 kL_law_42) rfl (by decide) hi hl ?_
  refine z_efV (pc := 1127) (st := []) (zk13 kL_law_42) lkL_117 ivX4_first hX.1 rfl rfl (cX_first (D := D) (B := B) (x := sC D (i + 1)) (y := sC D (i + 2)) (hX := hX) (hL := hL) (hK := hK) (hB := (Nat.le_refl B)) (hn := hW.1) (h12 := hW.2.1.2) (hm := hW.2.2.1) (h8 := hW.2.2.2.1)) rfl ⟨rfl, rfl⟩ (zF_ok rfl hc hs) rfl (fun r_ h1 z_ q1 => ?_) rfl
  obtain ⟨rfl, x1, x2, x3, u1, rfl⟩ := q1
  have hM1 := hM.fr u1 (Or.inl (Nat.le_refl _))
  show Z D B xL_law _ _ QL 1130 (LSc D B i) [.int (sp_first σ τ ε (sC D (i + 1)) (sC D (i + 2))).1] h1 _
  refine z_aload_n (pc := 1130) (zk14 kL_law_42) rfl ?_
  refine z_arg (pc := 1131) (k := 1) (zk15 kL_law_42) (zk0 kL_law_43) (zk1 kL_law_43) (zk2 kL_law_43) (zk3 kL_law_43) rfl (by decide) hi hl ?_
  refine z_arg (pc := 1136) (k := 2) (zk4 kL_law_43) (zk5 kL_law_43) (zk6 kL_law_43) (zk7 kL_law_43) (zk8 kL_law_43) rfl (by decide) hi hl ?_
  refine z_efV (pc := 1141) (st := [.int (sp_first σ τ ε (sC D (i + 1)) (sC D (i + 2))).1]) (zk9 kL_law_43) lkL_120 ivX5_first hM1.1 rfl rfl (cP_first (D := D) (B := B) (x := sC D (i + 1)) (y := sC D (i + 2)) (hM := hM1) (hB := (Nat.le_add_right B 51)) (hn := hW.1) (h12 := hW.2.1.2) (hm := hW.2.2.1) (h8 := hW.2.2.2.1) (hto := hW.to)) rfl ⟨rfl, rfl⟩ (zF_ok rfl hc hs) rfl (fun r_ h2 z_ q2 => ?_) rfl
  obtain ⟨ω1, mv1, rfl, m1, u2, rfl⟩ := q2
  show Z D B xL_law _ _ QL 1144 (LSc D B i) [.int (sp_first σ τ ε (sC D (i + 1)) (sC D (i + 2))).1, .int (sp_first σ τ ε (sC D (i + 1)) (sC D (i + 2))).1] h2 _
  refine z_icmp_eq (pc := 1144) (tgt := 2345) (zk10 kL_law_43) rfl (fun _ => ?_) (fun q => absurd rfl q)
  exact z_wd (by omega) (by omega) (kk _ _ (ST.mk1 (q := sp_first σ τ ε (sC D (i + 1)) (sC D (i + 2))) hO x1 x2 x3 u1 m1 u2 (pq_sRd ⟨n, m, hW, hS⟩) hκ hZ))
theorem lc_24 {D : zD} {B cs ss i : Nat} {h : zH} {sz : Nat} (hi : i + 6 ≤ D.2.2.2.2.2.2.2.1) (hl : D.2.2.2.2.2.2.2.1 ≤ 3072) (hc : cs ≤ 500000) (hs : ss ≤ 7000000) (hST : ST h B sz) (kk : ∀ (h1 : zH) (z1 : Nat), ST h1 B z1 → Z D B xL_law (cs + 29) (ss + 877) QL 2345 (LSc D B i) [] h1 z1) : Z D B xL_law cs ss QL 1149 (LSc D B i) [] h sz := by
  obtain ⟨ik, σ, κ, τ, ε, kp, tr, hX, hL, hK, ⟨ω, mv, hM⟩, hO, ⟨n, m, hW, hS⟩, hκ, hZ⟩ := hST
  refine z_aload_n (pc := 1149) (zk13 kL_law_43) rfl ?_
  refine z_arg (pc := 1150) (k := 1) (zk14 kL_law_43) (zk15 kL_law_43) (zk0 kL_law_44) (zk1 kL_law_44) (zk2 kL_law_44) rfl (by decide) hi hl ?_
  refine z_efV (pc := 1155) (st := []) (zk3 kL_law_44) lkL_121 ivX4_loudest hX.1 rfl rfl (cX_loudest (D := D) (B := B) (x := sC D (i + 1)) (hX := hX) (hL := hL) (hK := hK) (hB := (Nat.le_refl B)) (hn := hW.1) (h12 := hW.2.1.2) (hm := hW.2.2.1) (h8 := hW.2.2.2.1)) rfl ⟨rfl, rfl⟩ (zF_ok rfl hc hs) rfl (fun r_ h1 z_ q1 => ?_) rfl
  obtain ⟨rfl, x1, x2, x3, u1, rfl⟩ := q1
  have hM1 := hM.fr u1 (Or.inl (Nat.le_refl _))
  show Z D B xL_law _ _ QL 1158 (LSc D B i) [.int (sp_loudest σ τ ε (sC D (i + 1))).1] h1 _
  refine z_aload_n (pc := 1158) (zk4 kL_law_44) rfl ?_
  refine z_arg (pc := 1159) (k := 1) (zk5 kL_law_44) (zk6 kL_law_44) (zk7 kL_law_44) (zk8 kL_law_44) (zk9 kL_law_44) rfl (by decide) hi hl ?_
  refine z_efV (pc := 1164) (st := [.int (sp_loudest σ τ ε (sC D (i + 1))).1]) (zk10 kL_law_44) lkL_124 ivX5_loudest hM1.1 rfl rfl (cP_loudest (D := D) (B := B) (x := sC D (i + 1)) (hM := hM1) (hB := (Nat.le_add_right B 51)) (hn := hW.1) (h12 := hW.2.1.2) (hm := hW.2.2.1) (h8 := hW.2.2.2.1) (hto := hW.to)) rfl ⟨rfl, rfl⟩ (zF_ok rfl hc hs) rfl (fun r_ h2 z_ q2 => ?_) rfl
  obtain ⟨ω1, mv1, rfl, m1, u2, rfl⟩ := q2
  show Z D B xL_law _ _ QL 1167 (LSc D B i) [.int (sp_loudest σ τ ε (sC D (i + 1))).1, .int (sp_loudest σ τ ε (sC D (i + 1))).1] h2 _
  refine z_icmp_eq (pc := 1167) (tgt := 2345) (zk11 kL_law_44) rfl (fun _ => ?_) (fun q => absurd rfl q)
  exact z_wd (by omega) (by omega) (kk _ _ (ST.mk1 (q := sp_loudest σ τ ε (sC D (i + 1))) hO x1 x2 x3 u1 m1 u2 (pq_sRd ⟨n, m, hW, hS⟩) hκ hZ))
theorem lc_25 {D : zD} {B cs ss i : Nat} {h : zH} {sz : Nat} (hi : i + 6 ≤ D.2.2.2.2.2.2.2.1) (hl : D.2.2.2.2.2.2.2.1 ≤ 3072) (hc : cs ≤ 500000) (hs : ss ≤ 7000000) (hST : ST h B sz) (kk : ∀ (h1 : zH) (z1 : Nat), ST h1 B z1 → Z D B xL_law (cs + 29) (ss + 877) QL 2345 (LSc D B i) [] h1 z1) : Z D B xL_law cs ss QL 1172 (LSc D B i) [] h sz := by
  obtain ⟨ik, σ, κ, τ, ε, kp, tr, hX, hL, hK, ⟨ω, mv, hM⟩, hO, ⟨n, m, hW, hS⟩, hκ, hZ⟩ := hST
  refine z_aload_n (pc := 1172) (zk14 kL_law_44) rfl ?_
  refine z_arg (pc := 1173) (k := 1) (zk15 kL_law_44) (zk0 kL_law_45) (zk1 kL_law_45) (zk2 kL_law_45) (zk3 kL_law_45) rfl (by decide) hi hl ?_
  refine z_efV (pc := 1178) (st := []) (zk4 kL_law_45) lkL_125 ivX4_words hX.1 rfl rfl (cX_words (D := D) (B := B) (x := sC D (i + 1)) (hX := hX) (hL := hL) (hK := hK) (hB := (Nat.le_refl B)) (hn := hW.1) (h12 := hW.2.1.2) (hm := hW.2.2.1) (h8 := hW.2.2.2.1)) rfl ⟨rfl, rfl⟩ (zF_ok rfl hc hs) rfl (fun r_ h1 z_ q1 => ?_) rfl
  obtain ⟨rfl, x1, x2, x3, u1, rfl⟩ := q1
  have hM1 := hM.fr u1 (Or.inl (Nat.le_refl _))
  show Z D B xL_law _ _ QL 1181 (LSc D B i) [.int (sp_words σ τ ε (sC D (i + 1))).1] h1 _
  refine z_aload_n (pc := 1181) (zk5 kL_law_45) rfl ?_
  refine z_arg (pc := 1182) (k := 1) (zk6 kL_law_45) (zk7 kL_law_45) (zk8 kL_law_45) (zk9 kL_law_45) (zk10 kL_law_45) rfl (by decide) hi hl ?_
  refine z_efV (pc := 1187) (st := [.int (sp_words σ τ ε (sC D (i + 1))).1]) (zk11 kL_law_45) lkL_128 ivX5_words hM1.1 rfl rfl (cP_words (D := D) (B := B) (x := sC D (i + 1)) (hM := hM1) (hB := (Nat.le_add_right B 51)) (hn := hW.1) (h12 := hW.2.1.2) (hm := hW.2.2.1) (h8 := hW.2.2.2.1) (hto := hW.to)) rfl ⟨rfl, rfl⟩ (zF_ok rfl hc hs) rfl (fun r_ h2 z_ q2 => ?_) rfl
  obtain ⟨ω1, mv1, rfl, m1, u2, rfl⟩ := q2
  show Z D B xL_law _ _ QL 1190 (LSc D B i) [.int (sp_words σ τ ε (sC D (i + 1))).1, .int (sp_words σ τ ε (sC D (i + 1))).1] h2 _
  refine z_icmp_eq (pc := 1190) (tgt := 2345) (zk12 kL_law_45) rfl (fun _ => ?_) (fun q => absurd rfl q)
  exact z_wd (by omega) (by omega) (kk _ _ (ST.mk1 (q := sp_words σ τ ε (sC D (i + 1))) hO x1 x2 x3 u1 m1 u2 (pq_sRd ⟨n, m, hW, hS⟩) hκ hZ))
theorem lc_26 {D : zD} {B cs ss i : Nat} {h : zH} {sz : Nat} (hi : i + 6 ≤ D.2.2.2.2.2.2.2.1) (hl : D.2.2.2.2.2.2.2.1 ≤ 3072) (hc : cs ≤ 500000) (hs : ss ≤ 7000000) (hST : ST h B sz) (kk : ∀ (h1 : zH) (z1 : Nat), ST h1 B z1 → Z D B xL_law (cs + 29) (ss + 877) QL 2345 (LSc D B i) [] h1 z1) : Z D B xL_law cs ss QL 1195 (LSc D B i) [] h sz := by
  obtain ⟨ik, σ, κ, τ, ε, kp, tr, hX, hL, hK, ⟨ω, mv, hM⟩, hO, ⟨n, m, hW, hS⟩, hκ, hZ⟩ := hST
  refine z_aload_n (pc := 1195) (zk15 kL_law_45) rfl ?_
  refine z_arg (pc := 1196) (k := 1) (zk0 kL_law_46) (zk1 kL_law_46) (zk2 kL_law_46) (zk3 kL_law_46) (zk4 kL_law_46) rfl (by decide) hi hl ?_
  refine z_efV (pc := 1201) (st := []) (zk5 kL_law_46) lkL_129 ivX4_best hX.1 rfl rfl (cX_best (D := D) (B := B) (x := sC D (i + 1)) (hX := hX) (hL := hL) (hK := hK) (hB := (Nat.le_refl B)) (hn := hW.1) (h12 := hW.2.1.2) (hm := hW.2.2.1) (h8 := hW.2.2.2.1) (h2 := hW.2.1.1)) rfl ⟨rfl, rfl⟩ (zF_ok rfl hc hs) rfl (fun r_ h1 z_ q1 => ?_) rfl
  obtain ⟨rfl, x1, x2, x3, u1, rfl⟩ := q1
  have hM1 := hM.fr u1 (Or.inl (Nat.le_refl _))
  show Z D B xL_law _ _ QL 1204 (LSc D B i) [.int (sp_best σ τ ε (sC D (i + 1))).1] h1 _
  refine z_aload_n (pc := 1204) (zk6 kL_law_46) rfl ?_
  refine z_arg (pc := 1205) (k := 1) (zk7 kL_law_46) (zk8 kL_law_46) (zk9 kL_law_46) (zk10 kL_law_46) (zk11 kL_law_46) rfl (by decide) hi hl ?_
  refine z_efV (pc := 1210) (st := [.int (sp_best σ τ ε (sC D (i + 1))).1]) (zk12 kL_law_46) lkL_132 ivX5_best hM1.1 rfl rfl (cP_best (D := D) (B := B) (x := sC D (i + 1)) (hM := hM1) (hB := (Nat.le_add_right B 51)) (hn := hW.1) (h12 := hW.2.1.2) (hm := hW.2.2.1) (h8 := hW.2.2.2.1) (hto := hW.to) (h2 := hW.2.1.1)) rfl ⟨rfl, rfl⟩ (zF_ok rfl hc hs) rfl (fun r_ h2 z_ q2 => ?_) rfl
  obtain ⟨ω1, mv1, rfl, m1, u2, rfl⟩ := q2
  show Z D B xL_law _ _ QL 1213 (LSc D B i) [.int (sp_best σ τ ε (sC D (i + 1))).1, .int (sp_best σ τ ε (sC D (i + 1))).1] h2 _
  refine z_icmp_eq (pc := 1213) (tgt := 2345) (zk13 kL_law_46) rfl (fun _ => ?_) (fun q => absurd rfl q)
  exact z_wd (by omega) (by omega) (kk _ _ (ST.mk1 (q := sp_best σ τ ε (sC D (i + 1))) hO x1 x2 x3 u1 m1 u2 (pq_sRd ⟨n, m, hW, hS⟩) hκ hZ))
theorem lc_27 {D : zD} {B cs ss i : Nat} {h : zH} {sz : Nat} (hi : i + 6 ≤ D.2.2.2.2.2.2.2.1) (hl : D.2.2.2.2.2.2.2.1 ≤ 3072) (hc : cs ≤ 500000) (hs : ss ≤ 7000000) (hST : ST h B sz) (kk : ∀ (h1 : zH) (z1 : Nat), ST h1 B z1 → Z D B xL_law (cs + 29) (ss + 877) QL 2345 (LSc D B i) [] h1 z1) : Z D B xL_law cs ss QL 1218 (LSc D B i) [] h sz := by
  obtain ⟨ik, σ, κ, τ, ε, kp, tr, hX, hL, hK, ⟨ω, mv, hM⟩, hO, ⟨n, m, hW, hS⟩, hκ, hZ⟩ := hST
  refine z_aload_n (pc := 1218) (zk0 kL_law_47) rfl ?_
  refine z_arg (pc := 1219) (k := 1) (zk1 kL_law_47) (zk2 kL_law_47) (zk3 kL_law_47) (zk4 kL_law_47) (zk5 kL_law_47) rfl (by decide) hi hl ?_
  refine z_arg (pc := 1224) (k := 2) (zk6 kL_law_47) (zk7 kL_law_47) (zk8 kL_law_47) (zk9 kL_law_47) (zk10 kL_law_47) rfl (by decide) hi hl ?_
  refine z_efV (pc := 1229) (st := []) (zk11 kL_law_47) lkL_133 ivX4_address hX.1 rfl rfl (cX_address (D := D) (B := B) (x := sC D (i + 1)) (y := sC D (i + 2)) (hX := hX) (hL := hL) (hK := hK) (hB := (Nat.le_refl B)) (hn := hW.1) (h12 := hW.2.1.2) (hm := hW.2.2.1) (h8 := hW.2.2.2.1) (hbk := hW.2.2.2.2.1) (htn := hW.2.2.2.2.2.1) (hlen := hW.2.2.2.2.2.2.1) (h2 := hW.2.1.1) (hS := hS)) rfl ⟨rfl, rfl⟩ (zF_ok rfl hc hs) rfl (fun r_ h1 z_ q1 => ?_) rfl
  obtain ⟨rfl, x1, x2, x3, u1, rfl⟩ := q1
  have hM1 := hM.fr u1 (Or.inl (Nat.le_refl _))
  show Z D B xL_law _ _ QL 1232 (LSc D B i) [.int (sp_address σ τ ε (sC D (i + 1)) (sC D (i + 2))).1] h1 _
  refine z_aload_n (pc := 1232) (zk12 kL_law_47) rfl ?_
  refine z_arg (pc := 1233) (k := 1) (zk13 kL_law_47) (zk14 kL_law_47) (zk15 kL_law_47) (zk0 kL_law_48) (zk1 kL_law_48) rfl (by decide) hi hl ?_
  refine z_arg (pc := 1238) (k := 2) (zk2 kL_law_48) (zk3 kL_law_48) (zk4 kL_law_48) (zk5 kL_law_48) (zk6 kL_law_48) rfl (by decide) hi hl ?_
  refine z_efV (pc := 1243) (st := [.int (sp_address σ τ ε (sC D (i + 1)) (sC D (i + 2))).1]) (zk7 kL_law_48) lkL_136 ivX5_address hM1.1 rfl rfl (cP_address (D := D) (B := B) (x := sC D (i + 1)) (y := sC D (i + 2)) (hM := hM1) (hB := (Nat.le_add_right B 51)) (hn := hW.1) (h12 := hW.2.1.2) (hm := hW.2.2.1) (h8 := hW.2.2.2.1) (hto := hW.to)) rfl ⟨rfl, rfl⟩ (zF_ok rfl hc hs) rfl (fun r_ h2 z_ q2 => ?_) rfl
  obtain ⟨ω1, mv1, rfl, m1, u2, rfl⟩ := q2
  show Z D B xL_law _ _ QL 1246 (LSc D B i) [.int (sp_address σ τ ε (sC D (i + 1)) (sC D (i + 2))).1, .int (sp_address σ τ ε (sC D (i + 1)) (sC D (i + 2))).1] h2 _
  refine z_icmp_eq (pc := 1246) (tgt := 2345) (zk8 kL_law_48) rfl (fun _ => ?_) (fun q => absurd rfl q)
  exact z_wd (by omega) (by omega) (kk _ _ (ST.mk1 (q := sp_address σ τ ε (sC D (i + 1)) (sC D (i + 2))) hO x1 x2 x3 u1 m1 u2 (pq_sRd ⟨n, m, hW, hS⟩) hκ hZ))
theorem lc_28 {D : zD} {B cs ss i : Nat} {h : zH} {sz : Nat} (hi : i + 6 ≤ D.2.2.2.2.2.2.2.1) (hl : D.2.2.2.2.2.2.2.1 ≤ 3072) (hc : cs ≤ 500000) (hs : ss ≤ 7000000) (hST : ST h B sz) (kk : ∀ (h1 : zH) (z1 : Nat), ST h1 B z1 → Z D B xL_law (cs + 29) (ss + 877) QL 2345 (LSc D B i) [] h1 z1) : Z D B xL_law cs ss QL 1251 (LSc D B i) [] h sz := by
  obtain ⟨ik, σ, κ, τ, ε, kp, tr, hX, hL, hK, ⟨ω, mv, hM⟩, hO, ⟨n, m, hW, hS⟩, hκ, hZ⟩ := hST
  refine z_aload_n (pc := 1251) (zk11 kL_law_48) rfl ?_
  refine z_arg (pc := 1252) (k := 1) (zk12 kL_law_48) (zk13 kL_law_48) (zk14 kL_law_48) (zk15 kL_law_48) (zk0 kL_law_49) rfl (by decide) hi hl ?_
  refine z_arg (pc := 1257) (k := 2) (zk1 kL_law_49) (zk2 kL_law_49) (zk3 kL_law_49) (zk4 kL_law_49) (zk5 kL_law_49) rfl (by decide) hi hl ?_
  refine z_arg (pc := 1262) (k := 3) (zk6 kL_law_49) (zk7 kL_law_49) (zk8 kL_law_49) (zk9 kL_law_49) (zk10 kL_law_49) rfl (by decide) hi hl ?_
  refine z_efV (pc := 1267) (st := []) (zk11 kL_law_49) lkL_137 ivX4_hush hX.1 rfl rfl (cX_hush (D := D) (B := B) (x := sC D (i + 1)) (y := sC D (i + 2)) (z := sC D (i + 3)) (hX := hX) (hL := hL) (hK := hK) (hB := (Nat.le_refl B)) (hn := hW.1) (h12 := hW.2.1.2) (hm := hW.2.2.1) (h8 := hW.2.2.2.1) (hbk := hW.2.2.2.2.1) (htn := hW.2.2.2.2.2.1) (hlen := hW.2.2.2.2.2.2.1) (h2 := hW.2.1.1) (hS := hS)) rfl ⟨rfl, rfl⟩ (zF_ok rfl hc hs) rfl (fun r_ h1 z_ q1 => ?_) rfl
  obtain ⟨rfl, x1, x2, x3, u1, rfl⟩ := q1
  have hM1 := hM.fr u1 (Or.inl (Nat.le_refl _))
  show Z D B xL_law _ _ QL 1270 (LSc D B i) [.int (sp_hush σ τ ε (sC D (i + 1)) (sC D (i + 2)) (sC D (i + 3))).1] h1 _
  refine z_aload_n (pc := 1270) (zk12 kL_law_49) rfl ?_
  refine z_arg (pc := 1271) (k := 1) (zk13 kL_law_49) (zk14 kL_law_49) (zk15 kL_law_49) (zk0 kL_law_50) (zk1 kL_law_50) rfl (by decide) hi hl ?_
  refine z_arg (pc := 1276) (k := 2) (zk2 kL_law_50) (zk3 kL_law_50) (zk4 kL_law_50) (zk5 kL_law_50) (zk6 kL_law_50) rfl (by decide) hi hl ?_
  refine z_arg (pc := 1281) (k := 3) (zk7 kL_law_50) (zk8 kL_law_50) (zk9 kL_law_50) (zk10 kL_law_50) (zk11 kL_law_50) rfl (by decide) hi hl ?_
  refine z_efV (pc := 1286) (st := [.int (sp_hush σ τ ε (sC D (i + 1)) (sC D (i + 2)) (sC D (i + 3))).1]) (zk12 kL_law_50) lkL_140 ivX5_hush hM1.1 rfl rfl (cP_hush (D := D) (B := B) (x := sC D (i + 1)) (y := sC D (i + 2)) (z := sC D (i + 3)) (hM := hM1) (hB := (Nat.le_add_right B 51)) (hn := hW.1) (h12 := hW.2.1.2) (hm := hW.2.2.1) (h8 := hW.2.2.2.1) (hto := hW.to) (htn := hW.2.2.2.2.2.1)) rfl ⟨rfl, rfl⟩ (zF_ok rfl hc hs) rfl (fun r_ h2 z_ q2 => ?_) rfl
  obtain ⟨ω1, mv1, rfl, m1, u2, rfl⟩ := q2
  show Z D B xL_law _ _ QL 1289 (LSc D B i) [.int (sp_hush σ τ ε (sC D (i + 1)) (sC D (i + 2)) (sC D (i + 3))).1, .int (sp_hush σ τ ε (sC D (i + 1)) (sC D (i + 2)) (sC D (i + 3))).1] h2 _
  refine z_icmp_eq (pc := 1289) (tgt := 2345) (zk13 kL_law_50) rfl (fun _ => ?_) (fun q => absurd rfl q)
  exact z_wd (by omega) (by omega) (kk _ _ (ST.mk1 (q := sp_hush σ τ ε (sC D (i + 1)) (sC D (i + 2)) (sC D (i + 3))) hO x1 x2 x3 u1 m1 u2 (pq_sRd ⟨n, m, hW, hS⟩) hκ hZ))
theorem lc_29 {D : zD} {B cs ss i : Nat} {h : zH} {sz : Nat} (hi : i + 6 ≤ D.2.2.2.2.2.2.2.1) (hl : D.2.2.2.2.2.2.2.1 ≤ 3072) (hc : cs ≤ 500000) (hs : ss ≤ 7000000) (hST : ST h B sz) (kk : ∀ (h1 : zH) (z1 : Nat), ST h1 B z1 → Z D B xL_law (cs + 29) (ss + 877) QL 2345 (LSc D B i) [] h1 z1) : Z D B xL_law cs ss QL 1294 (LSc D B i) [] h sz := by
  obtain ⟨ik, σ, κ, τ, ε, kp, tr, hX, hL, hK, ⟨ω, mv, hM⟩, hO, ⟨n, m, hW, hS⟩, hκ, hZ⟩ := hST
  refine z_aload_n (pc := 1294) (zk0 kL_law_51) rfl ?_
  refine z_arg (pc := 1295) (k := 1) (zk1 kL_law_51) (zk2 kL_law_51) (zk3 kL_law_51) (zk4 kL_law_51) (zk5 kL_law_51) rfl (by decide) hi hl ?_
  refine z_arg (pc := 1300) (k := 2) (zk6 kL_law_51) (zk7 kL_law_51) (zk8 kL_law_51) (zk9 kL_law_51) (zk10 kL_law_51) rfl (by decide) hi hl ?_
  refine z_efV (pc := 1305) (st := []) (zk11 kL_law_51) lkL_141 ivX4_seal hX.1 rfl rfl (cX_seal (D := D) (B := B) (x := sC D (i + 1)) (y := sC D (i + 2)) (hX := hX) (hL := hL) (hK := hK) (hB := (Nat.le_refl B)) (hn := hW.1) (h12 := hW.2.1.2) (hm := hW.2.2.1) (h8 := hW.2.2.2.1) (hbk := hW.2.2.2.2.1) (htn := hW.2.2.2.2.2.1) (hlen := hW.2.2.2.2.2.2.1) (h2 := hW.2.1.1) (hS := hS)) rfl ⟨rfl, rfl⟩ (zF_ok rfl hc hs) rfl (fun r_ h1 z_ q1 => ?_) rfl
  obtain ⟨rfl, x1, x2, x3, u1, rfl⟩ := q1
  have hM1 := hM.fr u1 (Or.inl (Nat.le_refl _))
  show Z D B xL_law _ _ QL 1308 (LSc D B i) [.int (sp_seal σ τ ε (sC D (i + 1)) (sC D (i + 2))).1] h1 _
  refine z_aload_n (pc := 1308) (zk12 kL_law_51) rfl ?_
  refine z_arg (pc := 1309) (k := 1) (zk13 kL_law_51) (zk14 kL_law_51) (zk15 kL_law_51) (zk0 kL_law_52) (zk1 kL_law_52) rfl (by decide) hi hl ?_
  refine z_arg (pc := 1314) (k := 2) (zk2 kL_law_52) (zk3 kL_law_52) (zk4 kL_law_52) (zk5 kL_law_52) (zk6 kL_law_52) rfl (by decide) hi hl ?_
  refine z_efV (pc := 1319) (st := [.int (sp_seal σ τ ε (sC D (i + 1)) (sC D (i + 2))).1]) (zk7 kL_law_52) lkL_144 ivX5_seal hM1.1 rfl rfl (cP_seal (D := D) (B := B) (x := sC D (i + 1)) (y := sC D (i + 2)) (hM := hM1) (hB := (Nat.le_add_right B 51)) (hn := hW.1) (h12 := hW.2.1.2) (hm := hW.2.2.1) (h8 := hW.2.2.2.1) (hto := hW.to)) rfl ⟨rfl, rfl⟩ (zF_ok rfl hc hs) rfl (fun r_ h2 z_ q2 => ?_) rfl
  obtain ⟨ω1, mv1, rfl, m1, u2, rfl⟩ := q2
  show Z D B xL_law _ _ QL 1322 (LSc D B i) [.int (sp_seal σ τ ε (sC D (i + 1)) (sC D (i + 2))).1, .int (sp_seal σ τ ε (sC D (i + 1)) (sC D (i + 2))).1] h2 _
  refine z_icmp_eq (pc := 1322) (tgt := 2345) (zk8 kL_law_52) rfl (fun _ => ?_) (fun q => absurd rfl q)
  exact z_wd (by omega) (by omega) (kk _ _ (ST.mk1 (q := sp_seal σ τ ε (sC D (i + 1)) (sC D (i + 2))) hO x1 x2 x3 u1 m1 u2 (pq_sRd ⟨n, m, hW, hS⟩) hκ hZ))
theorem lc_30 {D : zD} {B cs ss i : Nat} {h : zH} {sz : Nat} (hi : i + 6 ≤ D.2.2.2.2.2.2.2.1) (hl : D.2.2.2.2.2.2.2.1 ≤ 3072) (hc : cs ≤ 500000) (hs : ss ≤ 7000000) (hST : ST h B sz) (kk : ∀ (h1 : zH) (z1 : Nat), ST h1 B z1 → Z D B xL_law (cs + 29) (ss + 877) QL 2345 (LSc D B i) [] h1 z1) : Z D B xL_law cs ss QL 1327 (LSc D B i) [] h sz := by
  obtain ⟨ik, σ, κ, τ, ε, kp, tr, hX, hL, hK, ⟨ω, mv, hM⟩, hO, ⟨n, m, hW, hS⟩, hκ, hZ⟩ := hST
  refine z_aload_n (pc := 1327) (zk11 kL_law_52) rfl ?_
  refine z_arg (pc := 1328) (k := 1) (zk12 kL_law_52) (zk13 kL_law_52) (zk14 kL_law_52) (zk15 kL_law_52) (zk0 kL_law_53) rfl (by decide) hi hl ?_
  refine z_arg (pc := 1333) (k := 2) (zk1 kL_law_53) (zk2 kL_law_53) (zk3 kL_law_53) (zk4 kL_law_53) (zk5 kL_law_53) rfl (by decide) hi hl ?_
  refine z_efV (pc := 1338) (st := []) (zk6 kL_law_53) lkL_145 ivX4_shout hX.1 rfl rfl (cX_shout (D := D) (B := B) (x := sC D (i + 1)) (y := sC D (i + 2)) (hX := hX) (hL := hL) (hK := hK) (hB := (Nat.le_refl B)) (hn := hW.1) (h12 := hW.2.1.2) (hm := hW.2.2.1) (h8 := hW.2.2.2.1) (hbk := hW.2.2.2.2.1) (htn := hW.2.2.2.2.2.1) (hlen := hW.2.2.2.2.2.2.1) (h2 := hW.2.1.1) (hS := hS)) rfl ⟨rfl, rfl⟩ (zF_ok rfl hc hs) rfl (fun r_ h1 z_ q1 => ?_) rfl
  obtain ⟨rfl, x1, x2, x3, u1, rfl⟩ := q1
  have hM1 := hM.fr u1 (Or.inl (Nat.le_refl _))
  show Z D B xL_law _ _ QL 1341 (LSc D B i) [.int (sp_shout σ τ ε (sC D (i + 1)) (sC D (i + 2))).1] h1 _
  refine z_aload_n (pc := 1341) (zk7 kL_law_53) rfl ?_
  refine z_arg (pc := 1342) (k := 1) (zk8 kL_law_53) (zk9 kL_law_53) (zk10 kL_law_53) (zk11 kL_law_53) (zk12 kL_law_53) rfl (by decide) hi hl ?_
  refine z_arg (pc := 1347) (k := 2) (zk13 kL_law_53) (zk14 kL_law_53) (zk15 kL_law_53) (zk0 kL_law_54) (zk1 kL_law_54) rfl (by decide) hi hl ?_
  refine z_efV (pc := 1352) (st := [.int (sp_shout σ τ ε (sC D (i + 1)) (sC D (i + 2))).1]) (zk2 kL_law_54) lkL_148 ivX5_shout hM1.1 rfl rfl (cP_shout (D := D) (B := B) (x := sC D (i + 1)) (y := sC D (i + 2)) (hM := hM1) (hB := (Nat.le_add_right B 51)) (hn := hW.1) (h12 := hW.2.1.2) (hm := hW.2.2.1) (h8 := hW.2.2.2.1) (hto := hW.to)) rfl ⟨rfl, rfl⟩ (zF_ok rfl hc hs) rfl (fun r_ h2 z_ q2 => ?_) rfl
  obtain ⟨ω1, mv1, rfl, m1, u2, rfl⟩ := q2
  show Z D B xL_law _ _ QL 1355 (LSc D B i) [.int (sp_shout σ τ ε (sC D (i + 1)) (sC D (i + 2))).1, .int (sp_shout σ τ ε (sC D (i + 1)) (sC D (i + 2))).1] h2 _
  refine z_icmp_eq (pc := 1355) (tgt := 2345) (zk3 kL_law_54) rfl (fun _ => ?_) (fun q => absurd rfl q)
  exact z_wd (by omega) (by omega) (kk _ _ (ST.mk1 (q := sp_shout σ τ ε (sC D (i + 1)) (sC D (i + 2))) hO x1 x2 x3 u1 m1 u2 (pq_sRd ⟨n, m, hW, hS⟩) hκ hZ))
theorem lc_31 {D : zD} {B cs ss i : Nat} {h : zH} {sz : Nat} (hi : i + 6 ≤ D.2.2.2.2.2.2.2.1) (hl : D.2.2.2.2.2.2.2.1 ≤ 3072) (hc : cs ≤ 500000) (hs : ss ≤ 7000000) (hST : ST h B sz) (kk : ∀ (h1 : zH) (z1 : Nat), ST h1 B z1 → Z D B xL_law (cs + 29) (ss + 877) QL 2345 (LSc D B i) [] h1 z1) : Z D B xL_law cs ss QL 1360 (LSc D B i) [] h sz := by
  obtain ⟨ik, σ, κ, τ, ε, kp, tr, hX, hL, hK, ⟨ω, mv, hM⟩, hO, ⟨n, m, hW, hS⟩, hκ, hZ⟩ := hST
  refine z_aload_n (pc := 1360) (zk6 kL_law_54) rfl ?_
  refine z_arg (pc := 1361) (k := 1) (zk7 kL_law_54) (zk8 kL_law_54) (zk9 kL_law_54) (zk10 kL_law_54) (zk11 kL_law_54) rfl (by decide) hi hl ?_
  refine z_arg (pc := 1366) (k := 2) (zk12 kL_law_54) (zk13 kL_law_54) (zk14 kL_law_54) (zk15 kL_law_54) (zk0 kL_law_55) rfl (by decide) hi hl ?_
  refine z_arg (pc := 1371) (k := 3) (zk1 kL_law_55) (zk2 kL_law_55) (zk3 kL_law_55) (zk4 kL_law_55) (zk5 kL_law_55) rfl (by decide) hi hl ?_
  refine z_arg (pc := 1376) (k := 4) (zk6 kL_law_55) (zk7 kL_law_55) (zk8 kL_law_55) (zk9 kL_law_55) (zk10 kL_law_55) rfl (by decide) hi hl ?_
  refine z_efV (pc := 1381) (st := []) (zk11 kL_law_55) lkL_149 ivX4_lengths hX.1 rfl rfl (cX_lengths (D := D) (B := B) (x := sC D (i + 1)) (y := sC D (i + 2)) (z := sC D (i + 3)) (u := sC D (i + 4)) (hX := hX) (hL := hL) (hK := hK) (hB := (Nat.le_refl B)) (hn := hW.1) (h12 := hW.2.1.2) (hm := hW.2.2.1) (h8 := hW.2.2.2.1) (hbk := hW.2.2.2.2.1) (htn := hW.2.2.2.2.2.1) (hlen := hW.2.2.2.2.2.2.1) (h2 := hW.2.1.1) (hS := hS)) rfl ⟨rfl, rfl⟩ (zF_ok rfl hc hs) rfl (fun r_ h1 z_ q1 => ?_) rfl
  obtain ⟨rfl, x1, x2, x3, u1, rfl⟩ := q1
  have hM1 := hM.fr u1 (Or.inl (Nat.le_refl _))
  show Z D B xL_law _ _ QL 1384 (LSc D B i) [.int (sp_lengths σ τ ε (sC D (i + 1)) (sC D (i + 2)) (sC D (i + 3)) (sC D (i + 4))).1] h1 _
  refine z_aload_n (pc := 1384) (zk12 kL_law_55) rfl ?_
  refine z_arg (pc := 1385) (k := 1) (zk13 kL_law_55) (zk14 kL_law_55) (zk15 kL_law_55) (zk0 kL_law_56) (zk1 kL_law_56) rfl (by decide) hi hl ?_
  refine z_arg (pc := 1390) (k := 2) (zk2 kL_law_56) (zk3 kL_law_56) (zk4 kL_law_56) (zk5 kL_law_56) (zk6 kL_law_56) rfl (by decide) hi hl ?_
  refine z_arg (pc := 1395) (k := 3) (zk7 kL_law_56) (zk8 kL_law_56) (zk9 kL_law_56) (zk10 kL_law_56) (zk11 kL_law_56) rfl (by decide) hi hl ?_
  refine z_arg (pc := 1400) (k := 4) (zk12 kL_law_56) (zk13 kL_law_56) (zk14 kL_law_56) (zk15 kL_law_56) (zk0 kL_law_57) rfl (by decide) hi hl ?_
  refine z_efV (pc := 1405) (st := [.int (sp_lengths σ τ ε (sC D (i + 1)) (sC D (i + 2)) (sC D (i + 3)) (sC D (i + 4))).1]) (zk1 kL_law_57) lkL_152 ivX5_lengths hM1.1 rfl rfl (cP_lengths (D := D) (B := B) (x := sC D (i + 1)) (y := sC D (i + 2)) (z := sC D (i + 3)) (u := sC D (i + 4)) (hM := hM1) (hB := (Nat.le_add_right B 51)) (hn := hW.1) (h12 := hW.2.1.2) (hm := hW.2.2.1) (h8 := hW.2.2.2.1) (hto := hW.to) (hS := hS)) rfl ⟨rfl, rfl⟩ (zF_ok rfl hc hs) rfl (fun r_ h2 z_ q2 => ?_) rfl
  obtain ⟨ω1, mv1, rfl, m1, u2, rfl⟩ := q2
  show Z D B xL_law _ _ QL 1408 (LSc D B i) [.int (sp_lengths σ τ ε (sC D (i + 1)) (sC D (i + 2)) (sC D (i + 3)) (sC D (i + 4))).1, .int (sp_lengths σ τ ε (sC D (i + 1)) (sC D (i + 2)) (sC D (i + 3)) (sC D (i + 4))).1] h2 _
  refine z_icmp_eq (pc := 1408) (tgt := 2345) (zk2 kL_law_57) rfl (fun _ => ?_) (fun q => absurd rfl q)
  exact z_wd (by omega) (by omega) (kk _ _ (ST.mk1 (q := sp_lengths σ τ ε (sC D (i + 1)) (sC D (i + 2)) (sC D (i + 3)) (sC D (i + 4))) hO x1 x2 x3 u1 m1 u2 (pq_sTold ⟨n, m, hW, hS⟩) hκ hZ))
