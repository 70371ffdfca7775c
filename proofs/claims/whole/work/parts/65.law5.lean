theorem lc_48 {D : zD} {B cs ss i : Nat} {h : zH} {sz : Nat} (hi : i + 6 ≤ D.2.2.2.2.2.2.2.1) (hl : D.2.2.2.2.2.2.2.1 ≤ 3072) (hc : cs ≤ 500000) (hs : ss ≤ 7000000) (hST : ST h B sz) (kk : ∀ (h1 : zH) (z1 : Nat), ST h1 B z1 → Z D B xL_law (cs + 29) (ss + 877) QL 2345 (LSc D B i) [] h1 z1) : Z D B xL_law cs ss QL 1941 (LSc D B i) [] h sz := by
  obtain ⟨ik, σ, κ, τ, ε, kp, tr, hX, hL, hK, ⟨ω, mv, hM⟩, hO, ⟨n, m, hW, hS⟩, hκ, hZ⟩ := hST
  refine z_aload_n (pc := 1941) (zk5 kL_law_84) rfl ?_
  refine z_arg (pc := 1942) (k := 1) (zk6 kL_law_84) (zk7 kL_law_84) (zk8 kL_law_84) (zk9 kL_law_84) (zk10 kL_law_84) rfl (by decide) hi hl ?_
  refine z_arg (pc := 1947) (k := 2) (zk11 kL_law_84) (zk12 kL_law_84) (zk13 kL_law_84) (zk14 kL_law_84) (zk15 kL_law_84) rfl (by decide) hi hl ?_
  refine z_efV (pc := 1952) (st := []) (zk0 kL_law_85) lkL_217 ivX4_alike hX.1 rfl rfl (cX_alike (D := D) (B := B) (x := sC D (i + 1)) (y := sC D (i + 2)) (hX := hX) (hL := hL) (hK := hK) (hB := (Nat.le_refl B)) (hn := hW.1) (h12 := hW.2.1.2) (hm := hW.2.2.1) (h8 := hW.2.2.2.1)) rfl ⟨rfl, rfl⟩ (zF_ok rfl hc hs) rfl (fun r_ h1 z_ q1 => ?_) rfl
  obtain ⟨rfl, x1, x2, x3, u1, rfl⟩ := q1
  have hM1 := hM.fr u1 (Or.inl (Nat.le_refl _))
  show Z D B xL_law _ _ QL 1955 (LSc D B i) [.int (sp_alike σ τ ε (sC D (i + 1)) (sC D (i + 2))).1] h1 _
  refine z_aload_n (pc := 1955) (zk1 kL_law_85) rfl ?_
  refine z_arg (pc := 1956) (k := 1) (zk2 kL_law_85) (zk3 kL_law_85) (zk4 kL_law_85) (zk5 kL_law_85) (zk6 kL_law_85) rfl (by decide) hi hl ?_
  refine z_arg (pc := 1961) (k := 2) (zk7 kL_law_85) (zk8 kL_law_85) (zk9 kL_law_85) (zk10 kL_law_85) (zk11 kL_law_85) rfl (by decide) hi hl ?_
  refine z_efV (pc := 1966) (st := [.int (sp_alike σ τ ε (sC D (i + 1)) (sC D (i + 2))).1]) (zk12 kL_law_85) lkL_220 ivX5_alike hM1.1 rfl rfl (cP_alike (D := D) (B := B) (x := sC D (i + 1)) (y := sC D (i + 2)) (hM := hM1) (hB := (Nat.le_add_right B 51)) (hn := hW.1) (h12 := hW.2.1.2) (hm := hW.2.2.1) (h8 := hW.2.2.2.1) (hto := hW.to)) rfl ⟨rfl, rfl⟩ (zF_ok rfl hc hs) rfl (fun r_ h2 z_ q2 => ?_) rfl
  obtain ⟨ω1, mv1, rfl, m1, u2, rfl⟩ := q2
  show Z D B xL_law _ _ QL 1969 (LSc D B i) [.int (sp_alike σ τ ε (sC D (i + 1)) (sC D (i + 2))).1, .int (sp_alike σ τ ε (sC D (i + 1)) (sC D (i + 2))).1] h2 _
  refine z_icmp_eq (pc := 1969) (tgt := 2345) (zk13 kL_law_85) rfl (fun _ => ?_) (fun q => absurd rfl q)
  exact z_wd (by omega) (by omega) (kk _ _ (ST.mk1 (q := sp_alike σ τ ε (sC D (i + 1)) (sC D (i + 2))) hO x1 x2 x3 u1 m1 u2 (pq_sRd ⟨n, m, hW, hS⟩) hκ hZ))
theorem lc_49 {D : zD} {B cs ss i : Nat} {h : zH} {sz : Nat} (hi : i + 6 ≤ D.2.2.2.2.2.2.2.1) (hl : D.2.2.2.2.2.2.2.1 ≤ 3072) (hc : cs ≤ 500000) (hs : ss ≤ 7000000) (hST : ST h B sz) (kk : ∀ (h1 : zH) (z1 : Nat), ST h1 B z1 → Z D B xL_law (cs + 29) (ss + 877) QL 2345 (LSc D B i) [] h1 z1) : Z D B xL_law cs ss QL 1974 (LSc D B i) [] h sz := by
  obtain ⟨ik, σ, κ, τ, ε, kp, tr, hX, hL, hK, ⟨ω, mv, hM⟩, hO, ⟨n, m, hW, hS⟩, hκ, hZ⟩ := hST
  refine z_aload_n (pc := 1974) (zk0 kL_law_86) rfl ?_
  refine z_arg (pc := 1975) (k := 1) (zk1 kL_law_86) (zk2 kL_law_86) (zk3 kL_law_86) (zk4 kL_law_86) (zk5 kL_law_86) rfl (by decide) hi hl ?_
  refine z_efV (pc := 1980) (st := []) (zk6 kL_law_86) lkL_221 ivX4_quiet hX.1 rfl rfl (cX_quiet (D := D) (B := B) (x := sC D (i + 1)) (hX := hX) (hL := hL) (hK := hK) (hB := (Nat.le_refl B)) (hn := hW.1) (h12 := hW.2.1.2) (hm := hW.2.2.1) (h8 := hW.2.2.2.1) (hbk := hW.2.2.2.2.1) (htn := hW.2.2.2.2.2.1) (hlen := hW.2.2.2.2.2.2.1) (h2 := hW.2.1.1) (hS := hS)) rfl ⟨rfl, rfl⟩ (zF_ok rfl hc hs) rfl (fun r_ h1 z_ q1 => ?_) rfl
  obtain ⟨rfl, x1, x2, x3, u1, rfl⟩ := q1
  have hM1 := hM.fr u1 (Or.inl (Nat.le_refl _))
  show Z D B xL_law _ _ QL 1983 (LSc D B i) [.int (sp_quiet σ τ ε (sC D (i + 1))).1] h1 _
  refine z_aload_n (pc := 1983) (zk7 kL_law_86) rfl ?_
  refine z_arg (pc := 1984) (k := 1) (zk8 kL_law_86) (zk9 kL_law_86) (zk10 kL_law_86) (zk11 kL_law_86) (zk12 kL_law_86) rfl (by decide) hi hl ?_
  refine z_efV (pc := 1989) (st := [.int (sp_quiet σ τ ε (sC D (i + 1))).1]) (zk13 kL_law_86) lkL_224 ivX5_quiet hM1.1 rfl rfl (cP_quiet (D := D) (B := B) (x := sC D (i + 1)) (hM := hM1) (hB := (Nat.le_add_right B 51)) (hn := hW.1) (h12 := hW.2.1.2) (hm := hW.2.2.1) (h8 := hW.2.2.2.1) (hto := hW.to)) rfl ⟨rfl, rfl⟩ (zF_ok rfl hc hs) rfl (fun r_ h2 z_ q2 => ?_) rfl
  obtain ⟨ω1, mv1, rfl, m1, u2, rfl⟩ := q2
  show Z D B xL_law _ _ QL 1992 (LSc D B i) [.int (sp_quiet σ τ ε (sC D (i + 1))).1, .int (sp_quiet σ τ ε (sC D (i + 1))).1] h2 _
  refine z_icmp_eq (pc := 1992) (tgt := 2345) (zk14 kL_law_86) rfl (fun _ => ?_) (fun q => absurd rfl q)
  exact z_wd (by omega) (by omega) (kk _ _ (ST.mk1 (q := sp_quiet σ τ ε (sC D (i + 1))) hO x1 x2 x3 u1 m1 u2 (pq_sRd ⟨n, m, hW, hS⟩) hκ hZ))
theorem lc_50 {D : zD} {B cs ss i : Nat} {h : zH} {sz : Nat} (hi : i + 6 ≤ D.2.2.2.2.2.2.2.1) (hl : D.2.2.2.2.2.2.2.1 ≤ 3072) (hc : cs ≤ 500000) (hs : ss ≤ 7000000) (hST : ST h B sz) (kk : ∀ (h1 : zH) (z1 : Nat), ST h1 B z1 → Z D B xL_law (cs + 29) (ss + 877) QL 2345 (LSc D B i) [] h1 z1) : Z D B xL_law cs ss QL 1997 (LSc D B i) [] h sz := by
  obtain ⟨ik, σ, κ, τ, ε, kp, tr, hX, hL, hK, ⟨ω, mv, hM⟩, hO, ⟨n, m, hW, hS⟩, hκ, hZ⟩ := hST
  refine z_aload_n (pc := 1997) (zk1 kL_law_87) rfl ?_
  refine z_arg (pc := 1998) (k := 1) (zk2 kL_law_87) (zk3 kL_law_87) (zk4 kL_law_87) (zk5 kL_law_87) (zk6 kL_law_87) rfl (by decide) hi hl ?_
  refine z_efV (pc := 2003) (st := []) (zk7 kL_law_87) lkL_225 ivX4_sober hX.1 rfl rfl (cX_sober (D := D) (B := B) (x := sC D (i + 1)) (hX := hX) (hL := hL) (hK := hK) (hB := (Nat.le_refl B)) (hn := hW.1) (h12 := hW.2.1.2) (hm := hW.2.2.1) (h8 := hW.2.2.2.1) (hbk := hW.2.2.2.2.1) (htn := hW.2.2.2.2.2.1) (hlen := hW.2.2.2.2.2.2.1) (h2 := hW.2.1.1) (hS := hS)) rfl ⟨rfl, rfl⟩ (zF_ok rfl hc hs) rfl (fun r_ h1 z_ q1 => ?_) rfl
  obtain ⟨rfl, x1, x2, x3, u1, rfl⟩ := q1
  have hM1 := hM.fr u1 (Or.inl (Nat.le_refl _))
  show Z D B xL_law _ _ QL 2006 (LSc D B i) [.int (sp_sober σ τ ε (sC D (i + 1))).1] h1 _
  refine z_aload_n (pc := 2006) (zk8 kL_law_87) rfl ?_
  refine z_arg (pc := 2007) (k := 1) (zk9 kL_law_87) (zk10 kL_law_87) (zk11 kL_law_87) (zk12 kL_law_87) (zk13 kL_law_87) rfl (by decide) hi hl ?_
  refine z_efV (pc := 2012) (st := [.int (sp_sober σ τ ε (sC D (i + 1))).1]) (zk14 kL_law_87) lkL_228 ivX5_sober hM1.1 rfl rfl (cP_sober (D := D) (B := B) (x := sC D (i + 1)) (hM := hM1) (hB := (Nat.le_add_right B 51)) (hn := hW.1) (h12 := hW.2.1.2) (hm := hW.2.2.1) (h8 := hW.2.2.2.1) (hto := hW.to)) rfl ⟨rfl, rfl⟩ (zF_ok rfl hc hs) rfl (fun r_ h2 z_ q2 => ?_) rfl
  obtain ⟨ω1, mv1, rfl, m1, u2, rfl⟩ := q2
  show Z D B xL_law _ _ QL 2015 (LSc D B i) [.int (sp_sober σ τ ε (sC D (i + 1))).1, .int (sp_sober σ τ ε (sC D (i + 1))).1] h2 _
  refine z_icmp_eq (pc := 2015) (tgt := 2345) (zk15 kL_law_87) rfl (fun _ => ?_) (fun q => absurd rfl q)
  exact z_wd (by omega) (by omega) (kk _ _ (ST.mk1 (q := sp_sober σ τ ε (sC D (i + 1))) hO x1 x2 x3 u1 m1 u2 (pq_sRd ⟨n, m, hW, hS⟩) hκ hZ))
theorem lc_51 {D : zD} {B cs ss i : Nat} {h : zH} {sz : Nat} (hi : i + 6 ≤ D.2.2.2.2.2.2.2.1) (hl : D.2.2.2.2.2.2.2.1 ≤ 3072) (hc : cs ≤ 500000) (hs : ss ≤ 7000000) (hST : ST h B sz) (kk : ∀ (h1 : zH) (z1 : Nat), ST h1 B z1 → Z D B xL_law (cs + 29) (ss + 877) QL 2345 (LSc D B i) [] h1 z1) : Z D B xL_law cs ss QL 2020 (LSc D B i) [] h sz := by
  obtain ⟨ik, σ, κ, τ, ε, kp, tr, hX, hL, hK, ⟨ω, mv, hM⟩, hO, ⟨n, m, hW, hS⟩, hκ, hZ⟩ := hST
  refine z_aload_n (pc := 2020) (zk2 kL_law_88) rfl ?_
  refine z_arg (pc := 2021) (k := 1) (zk3 kL_law_88) (zk4 kL_law_88) (zk5 kL_law_88) (zk6 kL_law_88) (zk7 kL_law_88) rfl (by decide) hi hl ?_
  refine z_efV (pc := 2026) (st := []) (zk8 kL_law_88) lkL_229 ivX4_thirst hX.1 rfl rfl (cX_thirst (D := D) (B := B) (x := sC D (i + 1)) (hX := hX) (hL := hL) (hK := hK) (hB := (Nat.le_refl B)) (hn := hW.1) (h12 := hW.2.1.2) (hm := hW.2.2.1) (h8 := hW.2.2.2.1) (hbk := hW.2.2.2.2.1) (htn := hW.2.2.2.2.2.1) (hlen := hW.2.2.2.2.2.2.1) (h2 := hW.2.1.1) (hS := hS)) rfl ⟨rfl, rfl⟩ (zF_ok rfl hc hs) rfl (fun r_ h1 z_ q1 => ?_) rfl
  obtain ⟨rfl, x1, x2, x3, u1, rfl⟩ := q1
  have hM1 := hM.fr u1 (Or.inl (Nat.le_refl _))
  show Z D B xL_law _ _ QL 2029 (LSc D B i) [.int (sp_thirst σ τ ε (sC D (i + 1))).1] h1 _
  refine z_aload_n (pc := 2029) (zk9 kL_law_88) rfl ?_
  refine z_arg (pc := 2030) (k := 1) (zk10 kL_law_88) (zk11 kL_law_88) (zk12 kL_law_88) (zk13 kL_law_88) (zk14 kL_law_88) rfl (by decide) hi hl ?_
  refine z_efV (pc := 2035) (st := [.int (sp_thirst σ τ ε (sC D (i + 1))).1]) (zk15 kL_law_88) lkL_232 ivX5_thirst hM1.1 rfl rfl (cP_thirst (D := D) (B := B) (x := sC D (i + 1)) (hM := hM1) (hB := (Nat.le_add_right B 51)) (hn := hW.1) (h12 := hW.2.1.2) (hm := hW.2.2.1) (h8 := hW.2.2.2.1) (hto := hW.to)) rfl ⟨rfl, rfl⟩ (zF_ok rfl hc hs) rfl (fun r_ h2 z_ q2 => ?_) rfl
  obtain ⟨ω1, mv1, rfl, m1, u2, rfl⟩ := q2
  show Z D B xL_law _ _ QL 2038 (LSc D B i) [.int (sp_thirst σ τ ε (sC D (i + 1))).1, .int (sp_thirst σ τ ε (sC D (i + 1))).1] h2 _
  refine z_icmp_eq (pc := 2038) (tgt := 2345) (zk0 kL_law_89) rfl (fun _ => ?_) (fun q => absurd rfl q)
  exact z_wd (by omega) (by omega) (kk _ _ (ST.mk1 (q := sp_thirst σ τ ε (sC D (i + 1))) hO x1 x2 x3 u1 m1 u2 (pq_sRd ⟨n, m, hW, hS⟩) hκ hZ))
theorem lc_52 {D : zD} {B cs ss i : Nat} {h : zH} {sz : Nat} (hi : i + 6 ≤ D.2.2.2.2.2.2.2.1) (hl : D.2.2.2.2.2.2.2.1 ≤ 3072) (hc : cs ≤ 500000) (hs : ss ≤ 7000000) (hST : ST h B sz) (kk : ∀ (h1 : zH) (z1 : Nat), ST h1 B z1 → Z D B xL_law (cs + 29) (ss + 877) QL 2345 (LSc D B i) [] h1 z1) : Z D B xL_law cs ss QL 2043 (LSc D B i) [] h sz := by
  obtain ⟨ik, σ, κ, τ, ε, kp, tr, hX, hL, hK, ⟨ω, mv, hM⟩, hO, ⟨n, m, hW, hS⟩, hκ, hZ⟩ := hST
  refine z_aload_n (pc := 2043) (zk3 kL_law_89) rfl ?_
  refine z_arg (pc := 2044) (k := 1) (zk4 kL_law_89) (zk5 kL_law_89) (zk6 kL_law_89) (zk7 kL_law_89) (zk8 kL_law_89) rfl (by decide) hi hl ?_
  refine z_arg (pc := 2049) (k := 2) (zk9 kL_law_89) (zk10 kL_law_89) (zk11 kL_law_89) (zk12 kL_law_89) (zk13 kL_law_89) rfl (by decide) hi hl ?_
  refine z_efV (pc := 2054) (st := []) (zk14 kL_law_89) lkL_233 ivX4_taught hX.1 rfl rfl (cX_taught (D := D) (B := B) (x := sC D (i + 1)) (y := sC D (i + 2)) (hX := hX) (hL := hL) (hK := hK) (hB := (Nat.le_refl B)) (hn := hW.1) (h12 := hW.2.1.2) (hm := hW.2.2.1) (h8 := hW.2.2.2.1) (hbk := hW.2.2.2.2.1) (htn := hW.2.2.2.2.2.1) (hlen := hW.2.2.2.2.2.2.1) (h2 := hW.2.1.1) (hS := hS)) rfl ⟨rfl, rfl⟩ (zF_ok rfl hc hs) rfl (fun r_ h1 z_ q1 => ?_) rfl
  obtain ⟨rfl, x1, x2, x3, u1, rfl⟩ := q1
  have hM1 := hM.fr u1 (Or.inl (Nat.le_refl _))
  show Z D B xL_law _ _ QL 2057 (LSc D B i) [.int (sp_taught σ τ ε (sC D (i + 1)) (sC D (i + 2))).1] h1 _
  refine z_aload_n (pc := 2057) (zk15 kL_law_89) rfl ?_
  refine z_arg (pc := 2058) (k := 1) (zk0 kL_law_90) (zk1 kL_law_90) (zk2 kL_law_90) (zk3 kL_law_90) (zk4 kL_law_90) rfl (by decide) hi hl ?_
  refine z_arg (pc := 2063) (k := 2) (zk5 kL_law_90) (zk6 kL_law_90) (zk7 kL_law_90) (zk8 kL_law_90) (zk9 kL_law_90) rfl (by decide) hi hl ?_
  refine z_efV (pc := 2068) (st := [.int (sp_taught σ τ ε (sC D (i + 1)) (sC D (i + 2))).1]) (zk10 kL_law_90) lkL_236 ivX5_taught hM1.1 rfl rfl (cP_taught (D := D) (B := B) (x := sC D (i + 1)) (y := sC D (i + 2)) (hM := hM1) (hB := (Nat.le_add_right B 51)) (hn := hW.1) (h12 := hW.2.1.2) (hm := hW.2.2.1) (h8 := hW.2.2.2.1) (hto := hW.to)) rfl ⟨rfl, rfl⟩ (zF_ok rfl hc hs) rfl (fun r_ h2 z_ q2 => ?_) rfl
  obtain ⟨ω1, mv1, rfl, m1, u2, rfl⟩ := q2
  show Z D B xL_law _ _ QL 2071 (LSc D B i) [.int (sp_taught σ τ ε (sC D (i + 1)) (sC D (i + 2))).1, .int (sp_taught σ τ ε (sC D (i + 1)) (sC D (i + 2))).1] h2 _
  refine z_icmp_eq (pc := 2071) (tgt := 2345) (zk11 kL_law_90) rfl (fun _ => ?_) (fun q => absurd rfl q)
  exact z_wd (by omega) (by omega) (kk _ _ (ST.mk1 (q := sp_taught σ τ ε (sC D (i + 1)) (sC D (i + 2))) hO x1 x2 x3 u1 m1 u2 (pq_sRd ⟨n, m, hW, hS⟩) hκ hZ))
theorem lc_53 {D : zD} {B cs ss i : Nat} {h : zH} {sz : Nat} (hi : i + 6 ≤ D.2.2.2.2.2.2.2.1) (hl : D.2.2.2.2.2.2.2.1 ≤ 3072) (hc : cs ≤ 500000) (hs : ss ≤ 7000000) (hST : ST h B sz) (kk : ∀ (h1 : zH) (z1 : Nat), ST h1 B z1 → Z D B xL_law (cs + 29) (ss + 877) QL 2345 (LSc D B i) [] h1 z1) : Z D B xL_law cs ss QL 2076 (LSc D B i) [] h sz := by
  obtain ⟨ik, σ, κ, τ, ε, kp, tr, hX, hL, hK, ⟨ω, mv, hM⟩, hO, ⟨n, m, hW, hS⟩, hκ, hZ⟩ := hST
  refine z_aload_n (pc := 2076) (zk14 kL_law_90) rfl ?_
  refine z_arg (pc := 2077) (k := 1) (zk15 kL_law_90) (zk0 kL_law_91) (zk1 kL_law_91) (zk2 kL_law_91) (zk3 kL_law_91) rfl (by decide) hi hl ?_
  refine z_efV (pc := 2082) (st := []) (zk4 kL_law_91) lkL_237 ivX4_merry hX.1 rfl rfl (cX_merry (D := D) (B := B) (x := sC D (i + 1)) (hX := hX) (hL := hL) (hK := hK) (hB := (Nat.le_refl B)) (hn := hW.1) (h12 := hW.2.1.2) (hm := hW.2.2.1) (h8 := hW.2.2.2.1) (hbk := hW.2.2.2.2.1) (htn := hW.2.2.2.2.2.1) (hlen := hW.2.2.2.2.2.2.1) (h2 := hW.2.1.1) (hS := hS)) rfl ⟨rfl, rfl⟩ (zF_ok rfl hc hs) rfl (fun r_ h1 z_ q1 => ?_) rfl
  obtain ⟨rfl, x1, x2, x3, u1, rfl⟩ := q1
  have hM1 := hM.fr u1 (Or.inl (Nat.le_refl _))
  show Z D B xL_law _ _ QL 2085 (LSc D B i) [.int (sp_merry σ τ ε (sC D (i + 1))).1] h1 _
  refine z_aload_n (pc := 2085) (zk5 kL_law_91) rfl ?_
  refine z_arg (pc := 2086) (k := 1) (zk6 kL_law_91) (zk7 kL_law_91) (zk8 kL_law_91) (zk9 kL_law_91) (zk10 kL_law_91) rfl (by decide) hi hl ?_
  refine z_efV (pc := 2091) (st := [.int (sp_merry σ τ ε (sC D (i + 1))).1]) (zk11 kL_law_91) lkL_240 ivX5_merry hM1.1 rfl rfl (cP_merry (D := D) (B := B) (x := sC D (i + 1)) (hM := hM1) (hB := (Nat.le_add_right B 51)) (hn := hW.1) (h12 := hW.2.1.2) (hm := hW.2.2.1) (h8 := hW.2.2.2.1) (hto := hW.to)) rfl ⟨rfl, rfl⟩ (zF_ok rfl hc hs) rfl (fun r_ h2 z_ q2 => ?_) rfl
  obtain ⟨ω1, mv1, rfl, m1, u2, rfl⟩ := q2
  show Z D B xL_law _ _ QL 2094 (LSc D B i) [.int (sp_merry σ τ ε (sC D (i + 1))).1, .int (sp_merry σ τ ε (sC D (i + 1))).1] h2 _
  refine z_icmp_eq (pc := 2094) (tgt := 2345) (zk12 kL_law_91) rfl (fun _ => ?_) (fun q => absurd rfl q)
  exact z_wd (by omega) (by omega) (kk _ _ (ST.mk1 (q := sp_merry σ τ ε (sC D (i + 1))) hO x1 x2 x3 u1 m1 u2 (pq_sRd ⟨n, m, hW, hS⟩) hκ hZ))
theorem lc_54 {D : zD} {B cs ss i : Nat} {h : zH} {sz : Nat} (hi : i + 6 ≤ D.2.2.2.2.2.2.2.1) (hl : D.2.2.2.2.2.2.2.1 ≤ 3072) (hc : cs ≤ 500000) (hs : ss ≤ 7000000) (hST : ST h B sz) (kk : ∀ (h1 : zH) (z1 : Nat), ST h1 B z1 → Z D B xL_law (cs + 29) (ss + 877) QL 2345 (LSc D B i) [] h1 z1) : Z D B xL_law cs ss QL 2099 (LSc D B i) [] h sz := by
  obtain ⟨ik, σ, κ, τ, ε, kp, tr, hX, hL, hK, ⟨ω, mv, hM⟩, hO, ⟨n, m, hW, hS⟩, hκ, hZ⟩ := hST
  refine z_aload_n (pc := 2099) (zk15 kL_law_91) rfl ?_
  refine z_arg (pc := 2100) (k := 1) (zk0 kL_law_92) (zk1 kL_law_92) (zk2 kL_law_92) (zk3 kL_law_92) (zk4 kL_law_92) rfl (by decide) hi hl ?_
  refine z_arg (pc := 2105) (k := 2) (zk5 kL_law_92) (zk6 kL_law_92) (zk7 kL_law_92) (zk8 kL_law_92) (zk9 kL_law_92) rfl (by decide) hi hl ?_
  refine z_efV (pc := 2110) (st := []) (zk10 kL_law_92) lkL_241 ivX4_common hX.1 rfl rfl (cX_common (D := D) (B := B) (x := sC D (i + 1)) (y := sC D (i + 2)) (hX := hX) (hL := hL) (hK := hK) (hB := (Nat.le_refl B)) (hn := hW.1) (h12 := hW.2.1.2) (hm := hW.2.2.1) (h8 := hW.2.2.2.1)) rfl ⟨rfl, rfl⟩ (zF_ok rfl hc hs) rfl (fun r_ h1 z_ q1 => ?_) rfl
  obtain ⟨rfl, x1, x2, x3, u1, rfl⟩ := q1
  have hM1 := hM.fr u1 (Or.inl (Nat.le_refl _))
  show Z D B xL_law _ _ QL 2113 (LSc D B i) [.int (sp_common σ τ ε (sC D (i + 1)) (sC D (i + 2))).1] h1 _
  refine z_aload_n (pc := 2113) (zk11 kL_law_92) rfl ?_
  refine z_arg (pc := 2114) (k := 1) (zk12 kL_law_92) (zk13 kL_law_92) (zk14 kL_law_92) (zk15 kL_law_92) (zk0 kL_law_93) rfl (by decide) hi hl ?_
  refine z_arg (pc := 2119) (k := 2) (zk1 kL_law_93) (zk2 kL_law_93) (zk3 kL_law_93) (zk4 kL_law_93) (zk5 kL_law_93) rfl (by decide) hi hl ?_
  refine z_efV (pc := 2124) (st := [.int (sp_common σ τ ε (sC D (i + 1)) (sC D (i + 2))).1]) (zk6 kL_law_93) lkL_244 ivX5_common hM1.1 rfl rfl (cP_common (D := D) (B := B) (x := sC D (i + 1)) (y := sC D (i + 2)) (hM := hM1) (hB := (Nat.le_add_right B 51)) (hn := hW.1) (h12 := hW.2.1.2) (hm := hW.2.2.1) (h8 := hW.2.2.2.1) (hto := hW.to)) rfl ⟨rfl, rfl⟩ (zF_ok rfl hc hs) rfl (fun r_ h2 z_ q2 => ?_) rfl
  obtain ⟨ω1, mv1, rfl, m1, u2, rfl⟩ := q2
  show Z D B xL_law _ _ QL 2127 (LSc D B i) [.int (sp_common σ τ ε (sC D (i + 1)) (sC D (i + 2))).1, .int (sp_common σ τ ε (sC D (i + 1)) (sC D (i + 2))).1] h2 _
  refine z_icmp_eq (pc := 2127) (tgt := 2345) (zk7 kL_law_93) rfl (fun _ => ?_) (fun q => absurd rfl q)
  exact z_wd (by omega) (by omega) (kk _ _ (ST.mk1 (q := sp_common σ τ ε (sC D (i + 1)) (sC D (i + 2))) hO x1 x2 x3 u1 m1 u2 (pq_sRd ⟨n, m, hW, hS⟩) hκ hZ))
theorem lc_55 {D : zD} {B cs ss i : Nat} {h : zH} {sz : Nat} (hi : i + 6 ≤ D.2.2.2.2.2.2.2.1) (hl : D.2.2.2.2.2.2.2.1 ≤ 3072) (hc : cs ≤ 500000) (hs : ss ≤ 7000000) (hST : ST h B sz) (kk : ∀ (h1 : zH) (z1 : Nat), ST h1 B z1 → Z D B xL_law (cs + 29) (ss + 877) QL 2345 (LSc D B i) [] h1 z1) : Z D B xL_law cs ss QL 2132 (LSc D B i) [] h sz := by
  obtain ⟨ik, σ, κ, τ, ε, kp, tr, hX, hL, hK, ⟨ω, mv, hM⟩, hO, ⟨n, m, hW, hS⟩, hκ, hZ⟩ := hST
  refine z_aload_n (pc := 2132) (zk10 kL_law_93) rfl ?_
  refine z_arg (pc := 2133) (k := 1) (zk11 kL_law_93) (zk12 kL_law_93) (zk13 kL_law_93) (zk14 kL_law_93) (zk15 kL_law_93) rfl (by decide) hi hl ?_
  refine z_efV (pc := 2138) (st := []) (zk0 kL_law_94) lkL_245 ivX4_doubt hX.1 rfl rfl (cX_doubt (D := D) (B := B) (x := sC D (i + 1)) (hX := hX) (hL := hL) (hK := hK) (hB := (Nat.le_refl B)) (hn := hW.1) (h12 := hW.2.1.2) (hm := hW.2.2.1) (h8 := hW.2.2.2.1) (hbk := hW.2.2.2.2.1) (htn := hW.2.2.2.2.2.1) (hlen := hW.2.2.2.2.2.2.1) (h2 := hW.2.1.1) (hS := hS)) rfl ⟨rfl, rfl⟩ (zF_ok rfl hc hs) rfl (fun r_ h1 z_ q1 => ?_) rfl
  obtain ⟨rfl, x1, x2, x3, u1, rfl⟩ := q1
  have hM1 := hM.fr u1 (Or.inl (Nat.le_refl _))
  show Z D B xL_law _ _ QL 2141 (LSc D B i) [.int (sp_doubt σ τ ε (sC D (i + 1))).1] h1 _
  refine z_aload_n (pc := 2141) (zk1 kL_law_94) rfl ?_
  refine z_arg (pc := 2142) (k := 1) (zk2 kL_law_94) (zk3 kL_law_94) (zk4 kL_law_94) (zk5 kL_law_94) (zk6 kL_law_94) rfl (by decide) hi hl ?_
  refine z_efV (pc := 2147) (st := [.int (sp_doubt σ τ ε (sC D (i + 1))).1]) (zk7 kL_law_94) lkL_248 ivX5_doubt hM1.1 rfl rfl (cP_doubt (D := D) (B := B) (x := sC D (i + 1)) (hM := hM1) (hB := (Nat.le_add_right B 51)) (hn := hW.1) (h12 := hW.2.1.2) (hm := hW.2.2.1) (h8 := hW.2.2.2.1) (hto := hW.to)) rfl ⟨rfl, rfl⟩ (zF_ok rfl hc hs) rfl (fun r_ h2 z_ q2 => ?_) rfl
  obtain ⟨ω1, mv1, rfl, m1, u2, rfl⟩ := q2
  show Z D B xL_law _ _ QL 2150 (LSc D B i) [.int (sp_doubt σ τ ε (sC D (i + 1))).1, .int (sp_doubt σ τ ε (sC D (i + 1))).1] h2 _
  refine z_icmp_eq (pc := 2150) (tgt := 2345) (zk8 kL_law_94) rfl (fun _ => ?_) (fun q => absurd rfl q)
  exact z_wd (by omega) (by omega) (kk _ _ (ST.mk1 (q := sp_doubt σ τ ε (sC D (i + 1))) hO x1 x2 x3 u1 m1 u2 (pq_sRd ⟨n, m, hW, hS⟩) hκ hZ))
theorem lc_56 {D : zD} {B cs ss i : Nat} {h : zH} {sz : Nat} (hi : i + 6 ≤ D.2.2.2.2.2.2.2.1) (hl : D.2.2.2.2.2.2.2.1 ≤ 3072) (hc : cs ≤ 500000) (hs : ss ≤ 7000000) (hST : ST h B sz) (kk : ∀ (h1 : zH) (z1 : Nat), ST h1 B z1 → Z D B xL_law (cs + 29) (ss + 877) QL 2345 (LSc D B i) [] h1 z1) : Z D B xL_law cs ss QL 2155 (LSc D B i) [] h sz := by
  obtain ⟨ik, σ, κ, τ, ε, kp, tr, hX, hL, hK, ⟨ω, mv, hM⟩, hO, ⟨n, m, hW, hS⟩, hκ, hZ⟩ := hST
  refine z_aload_n (pc := 2155) (zk11 kL_law_94) rfl ?_
  refine z_arg (pc := 2156) (k := 1) (zk12 kL_law_94) (zk13 kL_law_94) (zk14 kL_law_94) (zk15 kL_law_94) (zk0 kL_law_95) rfl (by decide) hi hl ?_
  refine z_efV (pc := 2161) (st := []) (zk1 kL_law_95) lkL_249 ivX4_ofKind hX.1 rfl rfl (cX_ofKind (D := D) (B := B) (x := sC D (i + 1)) (hX := hX) (hL := hL) (hK := hK) (hB := (Nat.le_refl B)) (hn := hW.1) (h12 := hW.2.1.2) (hm := hW.2.2.1) (h8 := hW.2.2.2.1) (hbk := hW.2.2.2.2.1) (htn := hW.2.2.2.2.2.1) (hlen := hW.2.2.2.2.2.2.1) (h2 := hW.2.1.1) (hS := hS)) rfl ⟨rfl, rfl⟩ (zF_ok rfl hc hs) rfl (fun r_ h1 z_ q1 => ?_) rfl
  obtain ⟨rfl, x1, x2, x3, u1, rfl⟩ := q1
  have hM1 := hM.fr u1 (Or.inl (Nat.le_refl _))
  show Z D B xL_law _ _ QL 2164 (LSc D B i) [.int (sp_ofKind σ τ ε (sC D (i + 1))).1] h1 _
  refine z_aload_n (pc := 2164) (zk2 kL_law_95) rfl ?_
  refine z_arg (pc := 2165) (k := 1) (zk3 kL_law_95) (zk4 kL_law_95) (zk5 kL_law_95) (zk6 kL_law_95) (zk7 kL_law_95) rfl (by decide) hi hl ?_
  refine z_efV (pc := 2170) (st := [.int (sp_ofKind σ τ ε (sC D (i + 1))).1]) (zk8 kL_law_95) lkL_252 ivX5_ofKind hM1.1 rfl rfl (cP_ofKind (D := D) (B := B) (x := sC D (i + 1)) (hM := hM1) (hB := (Nat.le_add_right B 51)) (hn := hW.1) (h12 := hW.2.1.2) (hm := hW.2.2.1) (h8 := hW.2.2.2.1) (hto := hW.to)) rfl ⟨rfl, rfl⟩ (zF_ok rfl hc hs) rfl (fun r_ h2 z_ q2 => ?_) rfl
  obtain ⟨ω1, mv1, rfl, m1, u2, rfl⟩ := q2
  show Z D B xL_law _ _ QL 2173 (LSc D B i) [.int (sp_ofKind σ τ ε (sC D (i + 1))).1, .int (sp_ofKind σ τ ε (sC D (i + 1))).1] h2 _
  refine z_icmp_eq (pc := 2173) (tgt := 2345) (zk9 kL_law_95) rfl (fun _ => ?_) (fun q => absurd rfl q)
  exact z_wd (by omega) (by omega) (kk _ _ (ST.mk1 (q := sp_ofKind σ τ ε (sC D (i + 1))) hO x1 x2 x3 u1 m1 u2 (pq_sRd ⟨n, m, hW, hS⟩) hκ hZ))
theorem lc_57 {D : zD} {B cs ss i : Nat} {h : zH} {sz : Nat} (hi : i + 6 ≤ D.2.2.2.2.2.2.2.1) (hl : D.2.2.2.2.2.2.2.1 ≤ 3072) (hc : cs ≤ 500000) (hs : ss ≤ 7000000) (hST : ST h B sz) (kk : ∀ (h1 : zH) (z1 : Nat), ST h1 B z1 → Z D B xL_law (cs + 29) (ss + 877) QL 2345 (LSc D B i) [] h1 z1) : Z D B xL_law cs ss QL 2178 (LSc D B i) [] h sz := by
  obtain ⟨ik, σ, κ, τ, ε, kp, tr, hX, hL, hK, ⟨ω, mv, hM⟩, hO, ⟨n, m, hW, hS⟩, hκ, hZ⟩ := hST
  refine z_aload_n (pc := 2178) (zk12 kL_law_95) rfl ?_
  refine z_arg (pc := 2179) (k := 1) (zk13 kL_law_95) (zk14 kL_law_95) (zk15 kL_law_95) (zk0 kL_law_96) (zk1 kL_law_96) rfl (by decide) hi hl ?_
  refine z_arg (pc := 2184) (k := 2) (zk2 kL_law_96) (zk3 kL_law_96) (zk4 kL_law_96) (zk5 kL_law_96) (zk6 kL_law_96) rfl (by decide) hi hl ?_
  refine z_efV (pc := 2189) (st := []) (zk7 kL_law_96) lkL_253 ivX4_judge hX.1 rfl rfl (cX_judge (D := D) (B := B) (x := sC D (i + 1)) (y := sC D (i + 2)) (hX := hX) (hL := hL) (hK := hK) (hB := (Nat.le_refl B)) (hn := hW.1) (h12 := hW.2.1.2) (hm := hW.2.2.1) (h8 := hW.2.2.2.1) (hbk := hW.2.2.2.2.1) (htn := hW.2.2.2.2.2.1) (hlen := hW.2.2.2.2.2.2.1) (h2 := hW.2.1.1) (hS := hS)) rfl ⟨rfl, rfl⟩ (zF_ok rfl hc hs) rfl (fun r_ h1 z_ q1 => ?_) rfl
  obtain ⟨rfl, x1, x2, x3, u1, rfl⟩ := q1
  have hM1 := hM.fr u1 (Or.inl (Nat.le_refl _))
  show Z D B xL_law _ _ QL 2192 (LSc D B i) [.int (sp_judge σ τ ε (sC D (i + 1)) (sC D (i + 2))).1] h1 _
  refine z_aload_n (pc := 2192) (zk8 kL_law_96) rfl ?_
  refine z_arg (pc := 2193) (k := 1) (zk9 kL_law_96) (zk10 kL_law_96) (zk11 kL_law_96) (zk12 kL_law_96) (zk13 kL_law_96) rfl (by decide) hi hl ?_
  refine z_arg (pc := 2198) (k := 2) (zk14 kL_law_96) (zk15 kL_law_96) (zk0 kL_law_97) (zk1 kL_law_97) (zk2 kL_law_97) rfl (by decide) hi hl ?_
  refine z_efV (pc := 2203) (st := [.int (sp_judge σ τ ε (sC D (i + 1)) (sC D (i + 2))).1]) (zk3 kL_law_97) lkL_256 ivX5_judge hM1.1 rfl rfl (cP_judge (D := D) (B := B) (x := sC D (i + 1)) (y := sC D (i + 2)) (hM := hM1) (hB := (Nat.le_add_right B 51)) (hn := hW.1) (h12 := hW.2.1.2) (hm := hW.2.2.1) (h8 := hW.2.2.2.1) (hto := hW.to) (hS := hS)) rfl ⟨rfl, rfl⟩ (zF_ok rfl hc hs) rfl (fun r_ h2 z_ q2 => ?_) rfl
  obtain ⟨ω1, mv1, rfl, m1, u2, rfl⟩ := q2
  show Z D B xL_law _ _ QL 2206 (LSc D B i) [.int (sp_judge σ τ ε (sC D (i + 1)) (sC D (i + 2))).1, .int (sp_judge σ τ ε (sC D (i + 1)) (sC D (i + 2))).1] h2 _
  refine z_icmp_eq (pc := 2206) (tgt := 2345) (zk4 kL_law_97) rfl (fun _ => ?_) (fun q => absurd rfl q)
  exact z_wd (by omega) (by omega) (kk _ _ (ST.mk1 (q := sp_judge σ τ ε (sC D (i + 1)) (sC D (i + 2))) hO x1 x2 x3 u1 m1 u2 (pq_sTold ⟨n, m, hW, hS⟩) hκ hZ))
theorem lc_58 {D : zD} {B cs ss i : Nat} {h : zH} {sz : Nat} (hi : i + 6 ≤ D.2.2.2.2.2.2.2.1) (hl : D.2.2.2.2.2.2.2.1 ≤ 3072) (hc : cs ≤ 500000) (hs : ss ≤ 7000000) (hST : ST h B sz) (kk : ∀ (h1 : zH) (z1 : Nat), ST h1 B z1 → Z D B xL_law (cs + 29) (ss + 877) QL 2345 (LSc D B i) [] h1 z1) : Z D B xL_law cs ss QL 2211 (LSc D B i) [] h sz := by
  obtain ⟨ik, σ, κ, τ, ε, kp, tr, hX, hL, hK, ⟨ω, mv, hM⟩, hO, ⟨n, m, hW, hS⟩, hκ, hZ⟩ := hST
  refine z_aload_n (pc := 2211) (zk7 kL_law_97) rfl ?_
  refine z_arg (pc := 2212) (k := 1) (zk8 kL_law_97) (zk9 kL_law_97) (zk10 kL_law_97) (zk11 kL_law_97) (zk12 kL_law_97) rfl (by decide) hi hl ?_
  refine z_arb (pc := 2217) (zk13 kL_law_97) rfl (zk14 kL_law_97) (zk15 kL_law_97) rfl (zk0 kL_law_98) ?_
  refine z_efV (pc := 2225) (st := []) (zk1 kL_law_98) lkL_257 ivX4_round hX.1 rfl rfl (cX_round (D := D) (B := B) (b := !decide (sC D (i + 1) = 0)) (hX := hX) (hL := hL) (hK := hK) (hB := (Nat.le_refl B)) (hn := hW.1) (h12 := hW.2.1.2) (hm := hW.2.2.1) (h8 := hW.2.2.2.1) (hbk := hW.2.2.2.2.1) (htn := hW.2.2.2.2.2.1) (hlen := hW.2.2.2.2.2.2.1) (h2 := hW.2.1.1) (hS := hS)) rfl ⟨rfl, rfl⟩ (zF_ok rfl hc hs) rfl (fun r_ h1 z_ q1 => ?_) rfl
  obtain ⟨rfl, x1, x2, x3, u1, rfl⟩ := q1
  have hM1 := hM.fr u1 (Or.inl (Nat.le_refl _))
  show Z D B xL_law _ _ QL 2228 (LSc D B i) [.int (sp_round σ τ ε (!decide (sC D (i + 1) = 0))).1] h1 _
  refine z_aload_n (pc := 2228) (zk2 kL_law_98) rfl ?_
  refine z_arg (pc := 2229) (k := 1) (zk3 kL_law_98) (zk4 kL_law_98) (zk5 kL_law_98) (zk6 kL_law_98) (zk7 kL_law_98) rfl (by decide) hi hl ?_
  refine z_arb (pc := 2234) (zk8 kL_law_98) rfl (zk9 kL_law_98) (zk10 kL_law_98) rfl (zk11 kL_law_98) ?_
  refine z_efV (pc := 2242) (st := [.int (sp_round σ τ ε (!decide (sC D (i + 1) = 0))).1]) (zk12 kL_law_98) lkL_260 ivX5_round hM1.1 rfl rfl (cP_round (D := D) (B := B) (b := !decide (sC D (i + 1) = 0)) (hM := hM1) (hB := (Nat.le_add_right B 51)) (hn := hW.1) (h12 := hW.2.1.2) (hm := hW.2.2.1) (h8 := hW.2.2.2.1) (hto := hW.to)) rfl ⟨rfl, rfl⟩ (zF_ok rfl hc hs) rfl (fun r_ h2 z_ q2 => ?_) rfl
  obtain ⟨ω1, mv1, rfl, m1, u2, rfl⟩ := q2
  show Z D B xL_law _ _ QL 2245 (LSc D B i) [.int (sp_round σ τ ε (!decide (sC D (i + 1) = 0))).1, .int (sp_round σ τ ε (!decide (sC D (i + 1) = 0))).1] h2 _
  refine z_icmp_eq (pc := 2245) (tgt := 2345) (zk13 kL_law_98) rfl (fun _ => ?_) (fun q => absurd rfl q)
  exact z_wd (by omega) (by omega) (kk _ _ (ST.mk1 (q := sp_round σ τ ε (!decide (sC D (i + 1) = 0))) hO x1 x2 x3 u1 m1 u2 (pq_round ⟨n, m, hW, hS⟩) hκ hZ))
theorem lc_59 {D : zD} {B cs ss i : Nat} {h : zH} {sz : Nat} (hi : i + 6 ≤ D.2.2.2.2.2.2.2.1) (hl : D.2.2.2.2.2.2.2.1 ≤ 3072) (hc : cs ≤ 500000) (hs : ss ≤ 7000000) (hST : ST h B sz) (kk : ∀ (h1 : zH) (z1 : Nat), ST h1 B z1 → Z D B xL_law (cs + 29) (ss + 877) QL 2345 (LSc D B i) [] h1 z1) : Z D B xL_law cs ss QL 2250 (LSc D B i) [] h sz := by
  obtain ⟨ik, σ, κ, τ, ε, kp, tr, hX, hL, hK, ⟨ω, mv, hM⟩, hO, ⟨n, m, hW, hS⟩, hκ, hZ⟩ := hST
  refine z_aload_n (pc := 2250) (zk0 kL_law_99) rfl ?_
  refine z_arg (pc := 2251) (k := 1) (zk1 kL_law_99) (zk2 kL_law_99) (zk3 kL_law_99) (zk4 kL_law_99) (zk5 kL_law_99) rfl (by decide) hi hl ?_
  refine z_efV (pc := 2256) (st := []) (zk6 kL_law_99) lkL_261 ivX4_days hX.1 rfl rfl (cX_days (D := D) (B := B) (x := sC D (i + 1)) (hX := hX) (hL := hL) (hK := hK) (hB := (Nat.le_refl B)) (hn := hW.1) (h12 := hW.2.1.2) (hm := hW.2.2.1) (h8 := hW.2.2.2.1) (hbk := hW.2.2.2.2.1) (htn := hW.2.2.2.2.2.1) (hlen := hW.2.2.2.2.2.2.1) (h2 := hW.2.1.1) (hS := hS)) rfl ⟨rfl, rfl⟩ (zF_ok rfl hc hs) rfl (fun r_ h1 z_ q1 => ?_) rfl
  obtain ⟨rfl, x1, x2, x3, u1, rfl⟩ := q1
  have hM1 := hM.fr u1 (Or.inl (Nat.le_refl _))
  show Z D B xL_law _ _ QL 2259 (LSc D B i) [.int (sp_days σ τ ε (sC D (i + 1))).1] h1 _
  refine z_aload_n (pc := 2259) (zk7 kL_law_99) rfl ?_
  refine z_arg (pc := 2260) (k := 1) (zk8 kL_law_99) (zk9 kL_law_99) (zk10 kL_law_99) (zk11 kL_law_99) (zk12 kL_law_99) rfl (by decide) hi hl ?_
  refine z_efV (pc := 2265) (st := [.int (sp_days σ τ ε (sC D (i + 1))).1]) (zk13 kL_law_99) lkL_264 ivX5_days hM1.1 rfl rfl (cP_days (D := D) (B := B) (x := sC D (i + 1)) (hM := hM1) (hB := (Nat.le_add_right B 51)) (hn := hW.1) (h12 := hW.2.1.2) (hm := hW.2.2.1) (h8 := hW.2.2.2.1) (hto := hW.to) (h2 := hW.2.1.1)) rfl ⟨rfl, rfl⟩ (zF_ok rfl hc hs) rfl (fun r_ h2 z_ q2 => ?_) rfl
  obtain ⟨ω1, mv1, rfl, m1, u2, rfl⟩ := q2
  show Z D B xL_law _ _ QL 2268 (LSc D B i) [.int (sp_days σ τ ε (sC D (i + 1))).1, .int (sp_days σ τ ε (sC D (i + 1))).1] h2 _
  refine z_icmp_eq (pc := 2268) (tgt := 2345) (zk14 kL_law_99) rfl (fun _ => ?_) (fun q => absurd rfl q)
  exact z_wd (by omega) (by omega) (kk _ _ (ST.mk1 (q := sp_days σ τ ε (sC D (i + 1))) hO x1 x2 x3 u1 m1 u2 (pq_days ⟨n, m, hW, hS⟩) hκ hZ))
theorem lc_60 {D : zD} {B cs ss i : Nat} {h : zH} {sz : Nat} (hi : i + 6 ≤ D.2.2.2.2.2.2.2.1) (hl : D.2.2.2.2.2.2.2.1 ≤ 3072) (hc : cs ≤ 500000) (hs : ss ≤ 7000000) (hST : ST h B sz) (kk : ∀ (h1 : zH) (z1 : Nat), ST h1 B z1 → Z D B xL_law (cs + 29) (ss + 877) QL 2345 (LSc D B i) [] h1 z1) : Z D B xL_law cs ss QL 2273 (LSc D B i) [] h sz := by
  obtain ⟨ik, σ, κ, τ, ε, kp, tr, hX, hL, hK, ⟨ω, mv, hM⟩, hO, ⟨n, m, hW, hS⟩, hκ, hZ⟩ := hST
  refine z_aload_n (pc := 2273) (zk1 kL_law_100) rfl ?_
  refine z_arg (pc := 2274) (k := 1) (zk2 kL_law_100) (zk3 kL_law_100) (zk4 kL_law_100) (zk5 kL_law_100) (zk6 kL_law_100) rfl (by decide) hi hl ?_
  refine z_efV (pc := 2279) (st := []) (zk7 kL_law_100) lkL_265 ivX4_seed hX.1 rfl rfl (cX_seed (D := D) (B := B) (x := sC D (i + 1)) (hX := hX) (hL := hL) (hK := hK) (hB := (Nat.le_refl B))) rfl ⟨rfl, rfl⟩ (zF_ok rfl hc hs) rfl (fun r_ h1 z_ q1 => ?_) rfl
  obtain ⟨rfl, x1, x2, x3, u1, rfl⟩ := q1
  have hM1 := hM.fr u1 (Or.inl (Nat.le_refl _))
  show Z D B xL_law _ _ QL 2282 (LSc D B i) [.int (sp_seed σ τ ε (sC D (i + 1))).1] h1 _
  refine z_aload_n (pc := 2282) (zk8 kL_law_100) rfl ?_
  refine z_arg (pc := 2283) (k := 1) (zk9 kL_law_100) (zk10 kL_law_100) (zk11 kL_law_100) (zk12 kL_law_100) (zk13 kL_law_100) rfl (by decide) hi hl ?_
  refine z_efV (pc := 2288) (st := [.int (sp_seed σ τ ε (sC D (i + 1))).1]) (zk14 kL_law_100) lkL_268 ivX5_seed hM1.1 rfl rfl (cP_seed (D := D) (B := B) (x := sC D (i + 1)) (hM := hM1) (hB := (Nat.le_add_right B 51))) rfl ⟨rfl, rfl⟩ (zF_ok rfl hc hs) rfl (fun r_ h2 z_ q2 => ?_) rfl
  obtain ⟨ω1, mv1, rfl, m1, u2, rfl⟩ := q2
  show Z D B xL_law _ _ QL 2291 (LSc D B i) [.int (sp_seed σ τ ε (sC D (i + 1))).1, .int (sp_seed σ τ ε (sC D (i + 1))).1] h2 _
  refine z_icmp_eq (pc := 2291) (tgt := 2345) (zk15 kL_law_100) rfl (fun _ => ?_) (fun q => absurd rfl q)
  exact z_wd (by omega) (by omega) (kk _ _ (ST.mk1 (q := sp_seed σ τ ε (sC D (i + 1))) hO x1 x2 x3 u1 m1 u2 (pq_seed ⟨n, m, hW, hS⟩) hκ hZ))
theorem lc_61 {D : zD} {B cs ss i : Nat} {h : zH} {sz : Nat} (hi : i + 6 ≤ D.2.2.2.2.2.2.2.1) (hl : D.2.2.2.2.2.2.2.1 ≤ 3072) (hc : cs ≤ 500000) (hs : ss ≤ 7000000) (hST : ST h B sz) (kk : ∀ (h1 : zH) (z1 : Nat), ST h1 B z1 → Z D B xL_law (cs + 29) (ss + 877) QL 2345 (LSc D B i) [] h1 z1) : Z D B xL_law cs ss QL 2296 (LSc D B i) [] h sz := by
  obtain ⟨ik, σ, κ, τ, ε, kp, tr, hX, hL, hK, ⟨ω, mv, hM⟩, hO, ⟨n, m, hW, hS⟩, hκ, hZ⟩ := hST
  refine z_aload_n (pc := 2296) (zk2 kL_law_101) rfl ?_
  rcases hO.1 with ⟨rfl, hik⟩ | ⟨a, rfl, hik, ha1, ha2, τ2, ω2, ε2, mv2, kp2, tr2, hA⟩
  · refine z_efV (pc := 2297) (st := []) (zk3 kL_law_101) lkL_269 ivX4_image hX.1 rfl rfl (cX_image (D := D) (B := B) (hX := hX) (hL := hL) (hK := hK) (hB := Nat.le_refl B) (hbk := hW.2.2.2.2.1)) rfl ⟨rfl, rfl⟩ (zF_ok rfl hc hs) rfl (fun r_ h1 z_ q1 => ?_) rfl
    obtain ⟨rfl, x1, x2, x3, u1, rfl⟩ := q1
    have hM1 := hM.fr u1 (Or.inl (Nat.le_refl _))
    show Z D B xL_law _ _ QL 2300 (LSc D B i) [.int 1] h1 _
    refine z_aload_n (pc := 2300) (zk4 kL_law_101) rfl ?_
    refine z_callV (pc := 2301) (st := [.int 1]) (zk5 kL_law_101) lkL_272 ivX5_image hM1.1 rfl rfl (cP_image0 (D := D) (B := B) (hM := hM1) (hB := Nat.le_add_right B 51) (hp := by omega) (hbk := hW.2.2.2.2.1)) rfl (zF_ok rfl hc hs) rfl (fun r_ h2 z_ q2 => ?_) rfl
    refine z_cs (a := cs + 29) (b := ss + 877) rfl rfl ?_
    obtain ⟨rfl, m1, k1, u2, rfl⟩ := q2
    show Z D B xL_law _ _ QL 2304 (LSc D B i) [.int 1, .int 1] h2 _
    refine z_icmp_eq (pc := 2304) (tgt := 2345) (zk6 kL_law_101) rfl (fun _ => ?_) (fun q => absurd rfl q)
    obtain ⟨g, v1, v2⟩ := u2.sp
    exact kk _ _ (ST.mk2 (q := (1, σ, τ, ε)) x1 x2 x3 m1 v1 v2 hZ (hO.kp0 u1 v1 v2 k1 hZ) ⟨n, m, hW, hS⟩ (fun _ => ⟨n, m, hW⟩) (by omega))
  · refine z_efV (pc := 2297) (st := []) (zk3 kL_law_101) lkL_269 ivX4_image hX.1 rfl rfl (cX_image (D := D) (B := B) (hX := hX) (hL := hL) (hK := hK) (hB := Nat.le_refl B) (hbk := hW.2.2.2.2.1)) rfl ⟨rfl, rfl⟩ (zF_ok rfl hc hs) rfl (fun r_ h1 z_ q1 => ?_) rfl
    obtain ⟨rfl, x1, x2, x3, u1, rfl⟩ := q1
    have hM1 := hM.fr u1 (Or.inl (Nat.le_refl _))
    show Z D B xL_law _ _ QL 2300 (LSc D B i) [.int 1] h1 _
    refine z_aload_n (pc := 2300) (zk4 kL_law_101) rfl ?_
    refine z_callV (pc := 2301) (st := [.int 1]) (zk5 kL_law_101) lkL_272 ivX5_image hM1.1 rfl rfl (cP_image1 (D := D) (B := B) (hM := hM1) (hO := hA.fr u1 (Or.inl (by omega))) (hB := Nat.le_add_right B 51) (hBq := by omega) (hd := Or.inl (by omega)) (hbk := hW.2.2.2.2.1)) rfl (zF_ok rfl hc hs) rfl (fun r_ h2 z_ q2 => ?_) rfl
    refine z_cs (a := cs + 29) (b := ss + 877) rfl rfl ?_
    obtain ⟨rfl, m1, k1, u2, rfl⟩ := q2
    show Z D B xL_law _ _ QL 2304 (LSc D B i) [.int 1, .int 1] h2 _
    refine z_icmp_eq (pc := 2304) (tgt := 2345) (zk6 kL_law_101) rfl (fun _ => ?_) (fun q => absurd rfl q)
    obtain ⟨g, v1, v2⟩ := u2.sp
    exact kk _ _ (ST.mk2 (q := (1, σ, τ, ε)) x1 x2 x3 m1 v1 v2 ha1 (hO.kp1 u1 v1 v2 k1 ha1 ha2) ⟨n, m, hW, hS⟩ (fun _ => ⟨n, m, hW⟩) hZ)
theorem lc_62 {D : zD} {B cs ss i : Nat} {h : zH} {sz : Nat} (hi : i + 6 ≤ D.2.2.2.2.2.2.2.1) (hl : D.2.2.2.2.2.2.2.1 ≤ 3072) (hc : cs ≤ 500000) (hs : ss ≤ 7000000) (hST : ST h B sz) (kk : ∀ (h1 : zH) (z1 : Nat), ST h1 B z1 → Z D B xL_law (cs + 29) (ss + 877) QL 2345 (LSc D B i) [] h1 z1) : Z D B xL_law cs ss QL 2309 (LSc D B i) [] h sz := by
  obtain ⟨ik, σ, κ, τ, ε, kp, tr, hX, hL, hK, ⟨ω, mv, hM⟩, hO, ⟨n, m, hW, hS⟩, hκ, hZ⟩ := hST
  refine z_aload_n (pc := 2309) (zk9 kL_law_101) rfl ?_
  rcases hO.1 with ⟨rfl, hik⟩ | ⟨a, rfl, hik, ha1, ha2, τ2, ω2, ε2, mv2, kp2, tr2, hA⟩
  · refine z_efV (pc := 2310) (st := []) (zk10 kL_law_101) lkL_273 ivX4_back hX.1 rfl rfl (cX_back0 (D := D) (B := B) (hX := hX) (hL := hL) (hK := hK) (hB := Nat.le_refl B) (hik := hik)) rfl ⟨rfl, rfl⟩ (zF_ok rfl hc hs) rfl (fun r_ h1 z_ q1 => ?_) rfl
    obtain ⟨rfl, x1, x2, x3, u1, rfl⟩ := q1
    have hM1 := hM.fr u1 (Or.inl (Nat.le_refl _))
    show Z D B xL_law _ _ QL 2313 (LSc D B i) [.int (-5)] h1 _
    refine z_aload_n (pc := 2313) (zk11 kL_law_101) rfl ?_
    refine z_efV (pc := 2314) (st := [.int (-5)]) (zk12 kL_law_101) lkL_276 ivX5_back hM1.1 rfl rfl (cP_back0 (D := D) (B := B) (hM := hM1) (hB := Nat.le_add_right B 51)) rfl ⟨rfl, rfl⟩ (zF_ok rfl hc hs) rfl (fun r_ h2 z_ q2 => ?_) rfl
    obtain ⟨ω1, mv1, rfl, m1, u2, rfl⟩ := q2
    show Z D B xL_law _ _ QL 2317 (LSc D B i) [.int (-5), .int (-5)] h2 _
    refine z_icmp_eq (pc := 2317) (tgt := 2345) (zk13 kL_law_101) rfl (fun _ => ?_) (fun q => absurd rfl q)
    exact z_wd (by omega) (by omega) (kk _ _ (ST.mk1 (q := (-5, σ, rfN τ 5, ε)) hO x1 x2 x3 u1 m1 u2 (pq_r ⟨n, m, hW, hS⟩) hκ hZ))
  · obtain ⟨nk, mk, hk⟩ := hκ hik
    refine z_efV (pc := 2310) (st := []) (zk10 kL_law_101) lkL_273 ivX4_back hX.1 rfl rfl (cX_back1 (D := D) (B := B) (hX := hX) (hL := hL) (hK := hK) (hB := Nat.le_refl B) (hik := hik) (hS := hS) (h8 := hW.2.2.2.1) (hm2 := hk.2.2.1) (h82 := hk.2.2.2.1) (hbκ := hk.2.2.2.2.1)) rfl ⟨rfl, rfl⟩ (zF_ok rfl hc hs) rfl (fun r_ h1 z_ q1 => ?_) rfl
    obtain ⟨rfl, x1, x2, x3, u1, rfl⟩ := q1
    have hM1 := hM.fr u1 (Or.inl (Nat.le_refl _))
    show Z D B xL_law _ _ QL 2313 (LSc D B i) [.int 1] h1 _
    refine z_aload_n (pc := 2313) (zk11 kL_law_101) rfl ?_
    refine z_efV (pc := 2314) (st := [.int 1]) (zk12 kL_law_101) lkL_276 ivX5_back hM1.1 rfl rfl (cP_back1 (D := D) (B := B) (hM := hM1) (hO := hA.fr u1 (Or.inl (by omega))) (hB := Nat.le_add_right B 51) (hd := Or.inl (by omega)) (hbκ := hk.2.2.2.2.1)) rfl ⟨rfl, rfl⟩ (zF_ok rfl hc hs) rfl (fun r_ h2 z_ q2 => ?_) rfl
    obtain ⟨ω1, mv1, rfl, m1, u2, rfl⟩ := q2
    show Z D B xL_law _ _ QL 2317 (LSc D B i) [.int 1, .int 1] h2 _
    refine z_icmp_eq (pc := 2317) (tgt := 2345) (zk13 kL_law_101) rfl (fun _ => ?_) (fun q => absurd rfl q)
    exact z_wd (by omega) (by omega) (kk _ _ (ST.mk1 (q := (1, κ, flwT τ (κ 9 0) 8, ε)) hO x1 x2 x3 u1 m1 u2 (pw_back ⟨n, m, hW, hS⟩ hk) hκ hZ))
theorem lc_63 {D : zD} {B cs ss i : Nat} {h : zH} {sz : Nat} (hi : i + 6 ≤ D.2.2.2.2.2.2.2.1) (hl : D.2.2.2.2.2.2.2.1 ≤ 3072) (hc : cs ≤ 500000) (hs : ss ≤ 7000000) (hST : ST h B sz) (kk : ∀ (h1 : zH) (z1 : Nat), ST h1 B z1 → Z D B xL_law (cs + 29) (ss + 877) QL 2345 (LSc D B i) [] h1 z1) : Z D B xL_law cs ss QL 2322 (LSc D B i) [] h sz := by
  obtain ⟨ik, σ, κ, τ, ε, kp, tr, hX, hL, hK, ⟨ω, mv, hM⟩, hO, ⟨n, m, hW, hS⟩, hκ, hZ⟩ := hST
  refine z_aload_n (pc := 2322) (zk0 kL_law_102) rfl ?_
  refine z_arg (pc := 2323) (k := 1) (zk1 kL_law_102) (zk2 kL_law_102) (zk3 kL_law_102) (zk4 kL_law_102) (zk5 kL_law_102) rfl (by decide) hi hl ?_
  refine z_efV (pc := 2328) (st := []) (zk6 kL_law_102) lkL_277 ivX4_status hX.1 rfl rfl (cX_status (D := D) (B := B) (x := sC D (i + 1)) (hX := hX) (hL := hL) (hK := hK) (hB := (Nat.le_refl B)) (hn := hW.1) (h12 := hW.2.1.2) (hm := hW.2.2.1) (h8 := hW.2.2.2.1) (hbk := hW.2.2.2.2.1) (htn := hW.2.2.2.2.2.1) (hlen := hW.2.2.2.2.2.2.1) (h2 := hW.2.1.1) (hS := hS)) rfl ⟨rfl, rfl⟩ (zF_ok rfl hc hs) rfl (fun r_ h1 z_ q1 => ?_) rfl
  obtain ⟨rfl, x1, x2, x3, u1, rfl⟩ := q1
  have hM1 := hM.fr u1 (Or.inl (Nat.le_refl _))
  show Z D B xL_law _ _ QL 2331 (LSc D B i) [.int (sp_status σ τ ε (sC D (i + 1))).1] h1 _
  refine z_aload_n (pc := 2331) (zk7 kL_law_102) rfl ?_
  refine z_arg (pc := 2332) (k := 1) (zk8 kL_law_102) (zk9 kL_law_102) (zk10 kL_law_102) (zk11 kL_law_102) (zk12 kL_law_102) rfl (by decide) hi hl ?_
  refine z_efV (pc := 2337) (st := [.int (sp_status σ τ ε (sC D (i + 1))).1]) (zk13 kL_law_102) lkL_280 ivX5_status hM1.1 rfl rfl (cP_status (D := D) (B := B) (x := sC D (i + 1)) (hM := hM1) (hB := (Nat.le_add_right B 51)) (hn := hW.1) (h12 := hW.2.1.2) (hm := hW.2.2.1) (h8 := hW.2.2.2.1) (hto := hW.to) (hbk := hW.2.2.2.2.1)) rfl ⟨rfl, rfl⟩ (zF_ok rfl hc hs) rfl (fun r_ h2 z_ q2 => ?_) rfl
  obtain ⟨ω1, mv1, rfl, m1, u2, rfl⟩ := q2
  show Z D B xL_law _ _ QL 2340 (LSc D B i) [.int (sp_status σ τ ε (sC D (i + 1))).1, .int (sp_status σ τ ε (sC D (i + 1))).1] h2 _
  refine z_icmp_eq (pc := 2340) (tgt := 2345) (zk14 kL_law_102) rfl (fun _ => ?_) (fun q => absurd rfl q)
  exact z_wd (by omega) (by omega) (kk _ _ (ST.mk1 (q := sp_status σ τ ε (sC D (i + 1))) hO x1 x2 x3 u1 m1 u2 (pq_status ⟨n, m, hW, hS⟩) hκ hZ))
