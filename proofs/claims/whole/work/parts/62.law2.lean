theorem lc_0 {D : zD} {B cs ss i : Nat} {h : zH} {sz : Nat} (hi : i + 6 ≤ D.2.2.2.2.2.2.2.1) (hl : D.2.2.2.2.2.2.2.1 ≤ 3072) (hc : cs ≤ 500000) (hs : ss ≤ 7000000) (hST : ST h B sz) (kk : ∀ (h1 : zH) (z1 : Nat), ST h1 B z1 → Z D B xL_law (cs + 29) (ss + 877) QL 2345 (LSc D B i) [] h1 z1) : Z D B xL_law cs ss QL 304 (LSc D B i) [] h sz := by
  obtain ⟨ik, σ, κ, τ, ε, kp, tr, hX, hL, hK, ⟨ω, mv, hM⟩, hO, ⟨n, m, hW, hS⟩, hκ, hZ⟩ := hST
  refine z_aload_n (pc := 304) (zk6 kL_law_1) rfl ?_
  refine z_arg (pc := 305) (k := 1) (zk7 kL_law_1) (zk8 kL_law_1) (zk9 kL_law_1) (zk10 kL_law_1) (zk11 kL_law_1) rfl (by decide) hi hl ?_
  refine z_arg (pc := 310) (k := 2) (zk12 kL_law_1) (zk13 kL_law_1) (zk14 kL_law_1) (zk15 kL_law_1) (zk0 kL_law_2) rfl (by decide) hi hl ?_
  refine z_arg (pc := 315) (k := 3) (zk1 kL_law_2) (zk2 kL_law_2) (zk3 kL_law_2) (zk4 kL_law_2) (zk5 kL_law_2) rfl (by decide) hi hl ?_
  refine z_efV (pc := 320) (st := []) (zk6 kL_law_2) lkL_13 ivX4_row hX.1 rfl rfl (cX_row (D := D) (B := B) (x := sC D (i + 1)) (y := sC D (i + 2)) (z := sC D (i + 3)) (hX := hX) (hL := hL) (hK := hK) (hB := (Nat.le_refl B)) (hn := hW.1) (h12 := hW.2.1.2) (hm := hW.2.2.1) (h8 := hW.2.2.2.1) (hbk := hW.2.2.2.2.1) (htn := hW.2.2.2.2.2.1) (hlen := hW.2.2.2.2.2.2.1) (h2 := hW.2.1.1) (hS := hS)) rfl ⟨rfl, rfl⟩ (zF_ok rfl hc hs) rfl (fun r_ h1 z_ q1 => ?_) rfl
  obtain ⟨rfl, x1, x2, x3, u1, rfl⟩ := q1
  have hM1 := hM.fr u1 (Or.inl (Nat.le_refl _))
  show Z D B xL_law _ _ QL 323 (LSc D B i) [.int (sp_row σ τ ε (sC D (i + 1)) (sC D (i + 2)) (sC D (i + 3))).1] h1 _
  refine z_aload_n (pc := 323) (zk7 kL_law_2) rfl ?_
  refine z_arg (pc := 324) (k := 1) (zk8 kL_law_2) (zk9 kL_law_2) (zk10 kL_law_2) (zk11 kL_law_2) (zk12 kL_law_2) rfl (by decide) hi hl ?_
  refine z_arg (pc := 329) (k := 2) (zk13 kL_law_2) (zk14 kL_law_2) (zk15 kL_law_2) (zk0 kL_law_3) (zk1 kL_law_3) rfl (by decide) hi hl ?_
  refine z_arg (pc := 334) (k := 3) (zk2 kL_law_3) (zk3 kL_law_3) (zk4 kL_law_3) (zk5 kL_law_3) (zk6 kL_law_3) rfl (by decide) hi hl ?_
  refine z_efV (pc := 339) (st := [.int (sp_row σ τ ε (sC D (i + 1)) (sC D (i + 2)) (sC D (i + 3))).1]) (zk7 kL_law_3) lkL_17 ivX5_row hM1.1 rfl rfl (cP_row (D := D) (B := B) (x := sC D (i + 1)) (y := sC D (i + 2)) (z := sC D (i + 3)) (hM := hM1) (hB := (Nat.le_add_right B 51)) (hn := hW.1) (h12 := hW.2.1.2) (hm := hW.2.2.1) (h8 := hW.2.2.2.1) (hto := hW.to)) rfl ⟨rfl, rfl⟩ (zF_ok rfl hc hs) rfl (fun r_ h2 z_ q2 => ?_) rfl
  obtain ⟨ω1, mv1, rfl, m1, u2, rfl⟩ := q2
  show Z D B xL_law _ _ QL 342 (LSc D B i) [.int (sp_row σ τ ε (sC D (i + 1)) (sC D (i + 2)) (sC D (i + 3))).1, .int (sp_row σ τ ε (sC D (i + 1)) (sC D (i + 2)) (sC D (i + 3))).1] h2 _
  refine z_icmp_eq (pc := 342) (tgt := 2345) (zk8 kL_law_3) rfl (fun _ => ?_) (fun q => absurd rfl q)
  exact z_wd (by omega) (by omega) (kk _ _ (ST.mk1 (q := sp_row σ τ ε (sC D (i + 1)) (sC D (i + 2)) (sC D (i + 3))) hO x1 x2 x3 u1 m1 u2 (pq_row ⟨n, m, hW, hS⟩) hκ hZ))
theorem lc_1 {D : zD} {B cs ss i : Nat} {h : zH} {sz : Nat} (hi : i + 6 ≤ D.2.2.2.2.2.2.2.1) (hl : D.2.2.2.2.2.2.2.1 ≤ 3072) (hc : cs ≤ 500000) (hs : ss ≤ 7000000) (hST : ST h B sz) (kk : ∀ (h1 : zH) (z1 : Nat), ST h1 B z1 → Z D B xL_law (cs + 29) (ss + 877) QL 2345 (LSc D B i) [] h1 z1) : Z D B xL_law cs ss QL 347 (LSc D B i) [] h sz := by
  obtain ⟨ik, σ, κ, τ, ε, kp, tr, hX, hL, hK, ⟨ω, mv, hM⟩, hO, ⟨n, m, hW, hS⟩, hκ, hZ⟩ := hST
  refine z_aload_n (pc := 347) (zk11 kL_law_3) rfl ?_
  refine z_arg (pc := 348) (k := 1) (zk12 kL_law_3) (zk13 kL_law_3) (zk14 kL_law_3) (zk15 kL_law_3) (zk0 kL_law_4) rfl (by decide) hi hl ?_
  refine z_arg (pc := 353) (k := 2) (zk1 kL_law_4) (zk2 kL_law_4) (zk3 kL_law_4) (zk4 kL_law_4) (zk5 kL_law_4) rfl (by decide) hi hl ?_
  refine z_arg (pc := 358) (k := 3) (zk6 kL_law_4) (zk7 kL_law_4) (zk8 kL_law_4) (zk9 kL_law_4) (zk10 kL_law_4) rfl (by decide) hi hl ?_
  refine z_i2l (pc := 363) (zk11 kL_law_4) ?_
  refine z_bipush (pc := 364) (zk12 kL_law_4) (v := 32) (by decide) ?_
  refine z_lshl (pc := 366) (zk13 kL_law_4) ?_
  refine z_arg (pc := 367) (k := 4) (zk14 kL_law_4) (zk15 kL_law_4) (zk0 kL_law_5) (zk1 kL_law_5) (zk2 kL_law_5) rfl (by decide) hi hl ?_
  refine z_i2l (pc := 372) (zk3 kL_law_5) ?_
  refine z_ldc2 (pc := 373) (zk4 kL_law_5) klL_18 ?_
  refine z_land (pc := 376) (zk5 kL_law_5) ?_
  refine z_lor (pc := 377) (zk6 kL_law_5) ?_
  refine z_efV (pc := 378) (st := []) (zk7 kL_law_5) lkL_20 ivX4_set hX.1 rfl rfl (cX_set (D := D) (B := B) (x := sC D (i + 1)) (y := sC D (i + 2)) (v := (((sC D (i + 3)).toInt64 <<< ((32 : Int32).toInt64 &&& 63)) ||| ((sC D (i + 4)).toInt64 &&& 4294967295))) (hX := hX) (hL := hL) (hK := hK) (hB := (Nat.le_refl B)) (hn := hW.1) (h12 := hW.2.1.2) (hm := hW.2.2.1) (h8 := hW.2.2.2.1) (hbk := hW.2.2.2.2.1) (htn := hW.2.2.2.2.2.1) (hlen := hW.2.2.2.2.2.2.1) (h2 := hW.2.1.1) (hS := hS)) rfl ⟨rfl, rfl⟩ (zF_ok rfl hc hs) rfl (fun r_ h1 z_ q1 => ?_) rfl
  obtain ⟨rfl, x1, x2, x3, u1, rfl⟩ := q1
  have hM1 := hM.fr u1 (Or.inl (Nat.le_refl _))
  show Z D B xL_law _ _ QL 381 (LSc D B i) [.int (sp_set σ τ ε (sC D (i + 1)) (sC D (i + 2)) ((((sC D (i + 3)).toInt64 <<< ((32 : Int32).toInt64 &&& 63)) ||| ((sC D (i + 4)).toInt64 &&& 4294967295)))).1] h1 _
  refine z_aload_n (pc := 381) (zk8 kL_law_5) rfl ?_
  refine z_arg (pc := 382) (k := 1) (zk9 kL_law_5) (zk10 kL_law_5) (zk11 kL_law_5) (zk12 kL_law_5) (zk13 kL_law_5) rfl (by decide) hi hl ?_
  refine z_arg (pc := 387) (k := 2) (zk14 kL_law_5) (zk15 kL_law_5) (zk0 kL_law_6) (zk1 kL_law_6) (zk2 kL_law_6) rfl (by decide) hi hl ?_
  refine z_arg (pc := 392) (k := 3) (zk3 kL_law_6) (zk4 kL_law_6) (zk5 kL_law_6) (zk6 kL_law_6) (zk7 kL_law_6) rfl (by decide) hi hl ?_
  refine z_i2l (pc := 397) (zk8 kL_law_6) ?_
  refine z_bipush (pc := 398) (zk9 kL_law_6) (v := 32) (by decide) ?_
  refine z_lshl (pc := 400) (zk10 kL_law_6) ?_
  refine z_arg (pc := 401) (k := 4) (zk11 kL_law_6) (zk12 kL_law_6) (zk13 kL_law_6) (zk14 kL_law_6) (zk15 kL_law_6) rfl (by decide) hi hl ?_
  refine z_i2l (pc := 406) (zk0 kL_law_7) ?_
  refine z_ldc2 (pc := 407) (zk1 kL_law_7) klL_18 ?_
  refine z_land (pc := 410) (zk2 kL_law_7) ?_
  refine z_lor (pc := 411) (zk3 kL_law_7) ?_
  refine z_efV (pc := 412) (st := [.int (sp_set σ τ ε (sC D (i + 1)) (sC D (i + 2)) ((((sC D (i + 3)).toInt64 <<< ((32 : Int32).toInt64 &&& 63)) ||| ((sC D (i + 4)).toInt64 &&& 4294967295)))).1]) (zk4 kL_law_7) lkL_24 ivX5_set hM1.1 rfl rfl (cP_set (D := D) (B := B) (x := sC D (i + 1)) (y := sC D (i + 2)) (v := (((sC D (i + 3)).toInt64 <<< ((32 : Int32).toInt64 &&& 63)) ||| ((sC D (i + 4)).toInt64 &&& 4294967295))) (hM := hM1) (hB := (Nat.le_add_right B 51)) (hn := hW.1) (h12 := hW.2.1.2) (hm := hW.2.2.1) (h8 := hW.2.2.2.1) (hto := hW.to) (hS := hS)) rfl ⟨rfl, rfl⟩ (zF_ok rfl hc hs) rfl (fun r_ h2 z_ q2 => ?_) rfl
  obtain ⟨ω1, mv1, rfl, m1, u2, rfl⟩ := q2
  show Z D B xL_law _ _ QL 415 (LSc D B i) [.int (sp_set σ τ ε (sC D (i + 1)) (sC D (i + 2)) ((((sC D (i + 3)).toInt64 <<< ((32 : Int32).toInt64 &&& 63)) ||| ((sC D (i + 4)).toInt64 &&& 4294967295)))).1, .int (sp_set σ τ ε (sC D (i + 1)) (sC D (i + 2)) ((((sC D (i + 3)).toInt64 <<< ((32 : Int32).toInt64 &&& 63)) ||| ((sC D (i + 4)).toInt64 &&& 4294967295)))).1] h2 _
  refine z_icmp_eq (pc := 415) (tgt := 2345) (zk5 kL_law_7) rfl (fun _ => ?_) (fun q => absurd rfl q)
  exact z_wd (by omega) (by omega) (kk _ _ (ST.mk1 (q := sp_set σ τ ε (sC D (i + 1)) (sC D (i + 2)) ((((sC D (i + 3)).toInt64 <<< ((32 : Int32).toInt64 &&& 63)) ||| ((sC D (i + 4)).toInt64 &&& 4294967295)))) hO x1 x2 x3 u1 m1 u2 (pq_set ⟨n, m, hW, hS⟩) hκ hZ))
theorem lc_2 {D : zD} {B cs ss i : Nat} {h : zH} {sz : Nat} (hi : i + 6 ≤ D.2.2.2.2.2.2.2.1) (hl : D.2.2.2.2.2.2.2.1 ≤ 3072) (hc : cs ≤ 500000) (hs : ss ≤ 7000000) (hST : ST h B sz) (kk : ∀ (h1 : zH) (z1 : Nat), ST h1 B z1 → Z D B xL_law (cs + 29) (ss + 877) QL 2345 (LSc D B i) [] h1 z1) : Z D B xL_law cs ss QL 420 (LSc D B i) [] h sz := by
  obtain ⟨ik, σ, κ, τ, ε, kp, tr, hX, hL, hK, ⟨ω, mv, hM⟩, hO, ⟨n, m, hW, hS⟩, hκ, hZ⟩ := hST
  refine z_aload_n (pc := 420) (zk8 kL_law_7) rfl ?_
  refine z_arg (pc := 421) (k := 1) (zk9 kL_law_7) (zk10 kL_law_7) (zk11 kL_law_7) (zk12 kL_law_7) (zk13 kL_law_7) rfl (by decide) hi hl ?_
  refine z_arg (pc := 426) (k := 2) (zk14 kL_law_7) (zk15 kL_law_7) (zk0 kL_law_8) (zk1 kL_law_8) (zk2 kL_law_8) rfl (by decide) hi hl ?_
  refine z_arg (pc := 431) (k := 3) (zk3 kL_law_8) (zk4 kL_law_8) (zk5 kL_law_8) (zk6 kL_law_8) (zk7 kL_law_8) rfl (by decide) hi hl ?_
  refine z_arg (pc := 436) (k := 4) (zk8 kL_law_8) (zk9 kL_law_8) (zk10 kL_law_8) (zk11 kL_law_8) (zk12 kL_law_8) rfl (by decide) hi hl ?_
  refine z_arg (pc := 441) (k := 5) (zk13 kL_law_8) (zk14 kL_law_8) (zk15 kL_law_8) (zk0 kL_law_9) (zk1 kL_law_9) rfl (by decide) hi hl ?_
  refine z_efV (pc := 446) (st := []) (zk2 kL_law_9) lkL_25 ivX4_copy hX.1 rfl rfl (cX_copy (D := D) (B := B) (x := sC D (i + 1)) (y := sC D (i + 2)) (z := sC D (i + 3)) (u := sC D (i + 4)) (v := sC D (i + 5)) (hX := hX) (hL := hL) (hK := hK) (hB := (Nat.le_refl B)) (hn := hW.1) (h12 := hW.2.1.2) (hm := hW.2.2.1) (h8 := hW.2.2.2.1) (hbk := hW.2.2.2.2.1) (htn := hW.2.2.2.2.2.1) (hlen := hW.2.2.2.2.2.2.1) (h2 := hW.2.1.1) (hS := hS)) rfl ⟨rfl, rfl⟩ (zF_ok rfl hc hs) rfl (fun r_ h1 z_ q1 => ?_) rfl
  obtain ⟨rfl, x1, x2, x3, u1, rfl⟩ := q1
  have hM1 := hM.fr u1 (Or.inl (Nat.le_refl _))
  show Z D B xL_law _ _ QL 449 (LSc D B i) [.int (sp_copy σ τ ε (sC D (i + 1)) (sC D (i + 2)) (sC D (i + 3)) (sC D (i + 4)) (sC D (i + 5))).1] h1 _
  refine z_aload_n (pc := 449) (zk3 kL_law_9) rfl ?_
  refine z_arg (pc := 450) (k := 1) (zk4 kL_law_9) (zk5 kL_law_9) (zk6 kL_law_9) (zk7 kL_law_9) (zk8 kL_law_9) rfl (by decide) hi hl ?_
  refine z_arg (pc := 455) (k := 2) (zk9 kL_law_9) (zk10 kL_law_9) (zk11 kL_law_9) (zk12 kL_law_9) (zk13 kL_law_9) rfl (by decide) hi hl ?_
  refine z_arg (pc := 460) (k := 3) (zk14 kL_law_9) (zk15 kL_law_9) (zk0 kL_law_10) (zk1 kL_law_10) (zk2 kL_law_10) rfl (by decide) hi hl ?_
  refine z_arg (pc := 465) (k := 4) (zk3 kL_law_10) (zk4 kL_law_10) (zk5 kL_law_10) (zk6 kL_law_10) (zk7 kL_law_10) rfl (by decide) hi hl ?_
  refine z_arg (pc := 470) (k := 5) (zk8 kL_law_10) (zk9 kL_law_10) (zk10 kL_law_10) (zk11 kL_law_10) (zk12 kL_law_10) rfl (by decide) hi hl ?_
  refine z_efV (pc := 475) (st := [.int (sp_copy σ τ ε (sC D (i + 1)) (sC D (i + 2)) (sC D (i + 3)) (sC D (i + 4)) (sC D (i + 5))).1]) (zk13 kL_law_10) lkL_29 ivX5_copy hM1.1 rfl rfl (cP_copy (D := D) (B := B) (x := sC D (i + 1)) (y := sC D (i + 2)) (z := sC D (i + 3)) (u := sC D (i + 4)) (v := sC D (i + 5)) (hM := hM1) (hB := (Nat.le_add_right B 51)) (hn := hW.1) (h12 := hW.2.1.2) (hm := hW.2.2.1) (h8 := hW.2.2.2.1) (hto := hW.to) (hS := hS)) rfl ⟨rfl, rfl⟩ (zF_ok rfl hc hs) rfl (fun r_ h2 z_ q2 => ?_) rfl
  obtain ⟨ω1, mv1, rfl, m1, u2, rfl⟩ := q2
  show Z D B xL_law _ _ QL 478 (LSc D B i) [.int (sp_copy σ τ ε (sC D (i + 1)) (sC D (i + 2)) (sC D (i + 3)) (sC D (i + 4)) (sC D (i + 5))).1, .int (sp_copy σ τ ε (sC D (i + 1)) (sC D (i + 2)) (sC D (i + 3)) (sC D (i + 4)) (sC D (i + 5))).1] h2 _
  refine z_icmp_eq (pc := 478) (tgt := 2345) (zk14 kL_law_10) rfl (fun _ => ?_) (fun q => absurd rfl q)
  exact z_wd (by omega) (by omega) (kk _ _ (ST.mk1 (q := sp_copy σ τ ε (sC D (i + 1)) (sC D (i + 2)) (sC D (i + 3)) (sC D (i + 4)) (sC D (i + 5))) hO x1 x2 x3 u1 m1 u2 (pq_copy ⟨n, m, hW, hS⟩) hκ hZ))
theorem lc_3 {D : zD} {B cs ss i : Nat} {h : zH} {sz : Nat} (hi : i + 6 ≤ D.2.2.2.2.2.2.2.1) (hl : D.2.2.2.2.2.2.2.1 ≤ 3072) (hc : cs ≤ 500000) (hs : ss ≤ 7000000) (hST : ST h B sz) (kk : ∀ (h1 : zH) (z1 : Nat), ST h1 B z1 → Z D B xL_law (cs + 29) (ss + 877) QL 2345 (LSc D B i) [] h1 z1) : Z D B xL_law cs ss QL 483 (LSc D B i) [] h sz := by
  obtain ⟨ik, σ, κ, τ, ε, kp, tr, hX, hL, hK, ⟨ω, mv, hM⟩, hO, ⟨n, m, hW, hS⟩, hκ, hZ⟩ := hST
  refine z_aload_n (pc := 483) (zk1 kL_law_11) rfl ?_
  refine z_arg (pc := 484) (k := 1) (zk2 kL_law_11) (zk3 kL_law_11) (zk4 kL_law_11) (zk5 kL_law_11) (zk6 kL_law_11) rfl (by decide) hi hl ?_
  refine z_arg (pc := 489) (k := 2) (zk7 kL_law_11) (zk8 kL_law_11) (zk9 kL_law_11) (zk10 kL_law_11) (zk11 kL_law_11) rfl (by decide) hi hl ?_
  refine z_rdV (pc := 494) (st := []) (zk12 kL_law_11) lkL_30 ivX4_element hX.1 rfl rfl (cX_element (D := D) (B := B) (x := sC D (i + 1)) (y := sC D (i + 2)) (hX := hX) (hL := hL) (hK := hK) (hS := hS)) rfl ⟨rfl, rfl⟩ (zF_ok rfl hc hs) rfl ?_ rfl
  refine z_aload_n (pc := 497) (zk13 kL_law_11) rfl ?_
  refine z_arg (pc := 498) (k := 1) (zk14 kL_law_11) (zk15 kL_law_11) (zk0 kL_law_12) (zk1 kL_law_12) (zk2 kL_law_12) rfl (by decide) hi hl ?_
  refine z_arg (pc := 503) (k := 2) (zk3 kL_law_12) (zk4 kL_law_12) (zk5 kL_law_12) (zk6 kL_law_12) (zk7 kL_law_12) rfl (by decide) hi hl ?_
  refine z_rdV (pc := 508) (st := [.long (sp_element τ ε (sC D (i + 1)) (sC D (i + 2)))]) (zk8 kL_law_12) lkL_34 ivX5_element hM.1 rfl rfl (cP_element (D := D) (B := B) (x := sC D (i + 1)) (y := sC D (i + 2)) (hM := hM) (hS := hS)) rfl ⟨rfl, rfl⟩ (zF_ok rfl hc hs) rfl ?_ rfl
  refine z_lcmp (pc := 511) (zk9 kL_law_12) ?_
  refine z_lif_eq (pc := 512) (tgt := 2345) (zk10 kL_law_12) rfl (fun _ => ?_) (fun q => absurd rfl q)
  exact z_wd (by omega) (by omega) (kk _ _ ⟨ik, σ, κ, τ, ε, kp, tr, hX, hL, hK, ⟨ω, mv, hM⟩, hO, ⟨n, m, hW, hS⟩, hκ, hZ⟩)
theorem lc_4 {D : zD} {B cs ss i : Nat} {h : zH} {sz : Nat} (hi : i + 6 ≤ D.2.2.2.2.2.2.2.1) (hl : D.2.2.2.2.2.2.2.1 ≤ 3072) (hc : cs ≤ 500000) (hs : ss ≤ 7000000) (hST : ST h B sz) (kk : ∀ (h1 : zH) (z1 : Nat), ST h1 B z1 → Z D B xL_law (cs + 29) (ss + 877) QL 2345 (LSc D B i) [] h1 z1) : Z D B xL_law cs ss QL 517 (LSc D B i) [] h sz := by
  obtain ⟨ik, σ, κ, τ, ε, kp, tr, hX, hL, hK, ⟨ω, mv, hM⟩, hO, ⟨n, m, hW, hS⟩, hκ, hZ⟩ := hST
  refine z_aload_n (pc := 517) (zk13 kL_law_12) rfl ?_
  refine z_arg (pc := 518) (k := 1) (zk14 kL_law_12) (zk15 kL_law_12) (zk0 kL_law_13) (zk1 kL_law_13) (zk2 kL_law_13) rfl (by decide) hi hl ?_
  refine z_efV (pc := 523) (st := []) (zk3 kL_law_13) lkL_35 ivX4_holds hX.1 rfl rfl (cX_holds (D := D) (B := B) (x := sC D (i + 1)) (hX := hX) (hL := hL) (hK := hK) (hB := (Nat.le_refl B)) (hn := hW.1) (h12 := hW.2.1.2) (hm := hW.2.2.1) (h8 := hW.2.2.2.1) (hbk := hW.2.2.2.2.1) (htn := hW.2.2.2.2.2.1) (hlen := hW.2.2.2.2.2.2.1) (h2 := hW.2.1.1) (hS := hS)) rfl ⟨rfl, rfl⟩ (zF_ok rfl hc hs) rfl (fun r_ h1 z_ q1 => ?_) rfl
  obtain ⟨rfl, x1, x2, x3, u1, rfl⟩ := q1
  have hM1 := hM.fr u1 (Or.inl (Nat.le_refl _))
  show Z D B xL_law _ _ QL 526 (LSc D B i) [.int (sp_holds σ τ ε (sC D (i + 1))).1] h1 _
  refine z_aload_n (pc := 526) (zk4 kL_law_13) rfl ?_
  refine z_arg (pc := 527) (k := 1) (zk5 kL_law_13) (zk6 kL_law_13) (zk7 kL_law_13) (zk8 kL_law_13) (zk9 kL_law_13) rfl (by decide) hi hl ?_
  refine z_efV (pc := 532) (st := [.int (sp_holds σ τ ε (sC D (i + 1))).1]) (zk10 kL_law_13) lkL_39 ivX5_holds hM1.1 rfl rfl (cP_holds (D := D) (B := B) (x := sC D (i + 1)) (hM := hM1) (hB := (Nat.le_add_right B 51)) (hn := hW.1) (h12 := hW.2.1.2) (hm := hW.2.2.1) (h8 := hW.2.2.2.1) (hto := hW.to)) rfl ⟨rfl, rfl⟩ (zF_ok rfl hc hs) rfl (fun r_ h2 z_ q2 => ?_) rfl
  obtain ⟨ω1, mv1, rfl, m1, u2, rfl⟩ := q2
  show Z D B xL_law _ _ QL 535 (LSc D B i) [.int (sp_holds σ τ ε (sC D (i + 1))).1, .int (sp_holds σ τ ε (sC D (i + 1))).1] h2 _
  refine z_icmp_eq (pc := 535) (tgt := 2345) (zk11 kL_law_13) rfl (fun _ => ?_) (fun q => absurd rfl q)
  exact z_wd (by omega) (by omega) (kk _ _ (ST.mk1 (q := sp_holds σ τ ε (sC D (i + 1))) hO x1 x2 x3 u1 m1 u2 (pq_holds ⟨n, m, hW, hS⟩) hκ hZ))
theorem lc_5 {D : zD} {B cs ss i : Nat} {h : zH} {sz : Nat} (hi : i + 6 ≤ D.2.2.2.2.2.2.2.1) (hl : D.2.2.2.2.2.2.2.1 ≤ 3072) (hc : cs ≤ 500000) (hs : ss ≤ 7000000) (hST : ST h B sz) (kk : ∀ (h1 : zH) (z1 : Nat), ST h1 B z1 → Z D B xL_law (cs + 29) (ss + 877) QL 2345 (LSc D B i) [] h1 z1) : Z D B xL_law cs ss QL 540 (LSc D B i) [] h sz := by
  obtain ⟨ik, σ, κ, τ, ε, kp, tr, hX, hL, hK, ⟨ω, mv, hM⟩, hO, ⟨n, m, hW, hS⟩, hκ, hZ⟩ := hST
  refine z_aload_n (pc := 540) (zk14 kL_law_13) rfl ?_
  refine z_arg (pc := 541) (k := 1) (zk15 kL_law_13) (zk0 kL_law_14) (zk1 kL_law_14) (zk2 kL_law_14) (zk3 kL_law_14) rfl (by decide) hi hl ?_
  refine z_arg (pc := 546) (k := 2) (zk4 kL_law_14) (zk5 kL_law_14) (zk6 kL_law_14) (zk7 kL_law_14) (zk8 kL_law_14) rfl (by decide) hi hl ?_
  refine z_efV (pc := 551) (st := []) (zk9 kL_law_14) lkL_40 ivX4_show hX.1 rfl rfl (cX_show (D := D) (B := B) (x := sC D (i + 1)) (y := sC D (i + 2)) (hX := hX) (hL := hL) (hK := hK) (hB := (Nat.le_refl B)) (hn := hW.1) (h12 := hW.2.1.2) (hm := hW.2.2.1) (h8 := hW.2.2.2.1) (hbk := hW.2.2.2.2.1) (htn := hW.2.2.2.2.2.1) (hlen := hW.2.2.2.2.2.2.1) (h2 := hW.2.1.1) (hS := hS)) rfl ⟨rfl, rfl⟩ (zF_ok rfl hc hs) rfl (fun r_ h1 z_ q1 => ?_) rfl
  obtain ⟨rfl, x1, x2, x3, u1, rfl⟩ := q1
  have hM1 := hM.fr u1 (Or.inl (Nat.le_refl _))
  show Z D B xL_law _ _ QL 554 (LSc D B i) [.int (sp_show σ τ ε (sC D (i + 1)) (sC D (i + 2))).1] h1 _
  refine z_aload_n (pc := 554) (zk10 kL_law_14) rfl ?_
  refine z_arg (pc := 555) (k := 1) (zk11 kL_law_14) (zk12 kL_law_14) (zk13 kL_law_14) (zk14 kL_law_14) (zk15 kL_law_14) rfl (by decide) hi hl ?_
  refine z_arg (pc := 560) (k := 2) (zk0 kL_law_15) (zk1 kL_law_15) (zk2 kL_law_15) (zk3 kL_law_15) (zk4 kL_law_15) rfl (by decide) hi hl ?_
  refine z_efV (pc := 565) (st := [.int (sp_show σ τ ε (sC D (i + 1)) (sC D (i + 2))).1]) (zk5 kL_law_15) lkL_44 ivX5_show hM1.1 rfl rfl (cP_show (D := D) (B := B) (x := sC D (i + 1)) (y := sC D (i + 2)) (hM := hM1) (hB := (Nat.le_add_right B 51)) (hn := hW.1) (h12 := hW.2.1.2) (hm := hW.2.2.1) (h8 := hW.2.2.2.1) (hto := hW.to)) rfl ⟨rfl, rfl⟩ (zF_ok rfl hc hs) rfl (fun r_ h2 z_ q2 => ?_) rfl
  obtain ⟨ω1, mv1, rfl, m1, u2, rfl⟩ := q2
  show Z D B xL_law _ _ QL 568 (LSc D B i) [.int (sp_show σ τ ε (sC D (i + 1)) (sC D (i + 2))).1, .int (sp_show σ τ ε (sC D (i + 1)) (sC D (i + 2))).1] h2 _
  refine z_icmp_eq (pc := 568) (tgt := 2345) (zk6 kL_law_15) rfl (fun _ => ?_) (fun q => absurd rfl q)
  exact z_wd (by omega) (by omega) (kk _ _ (ST.mk1 (q := sp_show σ τ ε (sC D (i + 1)) (sC D (i + 2))) hO x1 x2 x3 u1 m1 u2 (pq_show ⟨n, m, hW, hS⟩) hκ hZ))
theorem lc_6 {D : zD} {B cs ss i : Nat} {h : zH} {sz : Nat} (hi : i + 6 ≤ D.2.2.2.2.2.2.2.1) (hl : D.2.2.2.2.2.2.2.1 ≤ 3072) (hc : cs ≤ 500000) (hs : ss ≤ 7000000) (hST : ST h B sz) (kk : ∀ (h1 : zH) (z1 : Nat), ST h1 B z1 → Z D B xL_law (cs + 29) (ss + 877) QL 2345 (LSc D B i) [] h1 z1) : Z D B xL_law cs ss QL 573 (LSc D B i) [] h sz := by
  obtain ⟨ik, σ, κ, τ, ε, kp, tr, hX, hL, hK, ⟨ω, mv, hM⟩, hO, ⟨n, m, hW, hS⟩, hκ, hZ⟩ := hST
  refine z_aload_n (pc := 573) (zk9 kL_law_15) rfl ?_
  refine z_arg (pc := 574) (k := 1) (zk10 kL_law_15) (zk11 kL_law_15) (zk12 kL_law_15) (zk13 kL_law_15) (zk14 kL_law_15) rfl (by decide) hi hl ?_
  refine z_arg (pc := 579) (k := 2) (zk15 kL_law_15) (zk0 kL_law_16) (zk1 kL_law_16) (zk2 kL_law_16) (zk3 kL_law_16) rfl (by decide) hi hl ?_
  refine z_efV (pc := 584) (st := []) (zk4 kL_law_16) lkL_45 ivX4_says hX.1 rfl rfl (cX_says (D := D) (B := B) (x := sC D (i + 1)) (y := sC D (i + 2)) (hX := hX) (hL := hL) (hK := hK) (hB := (Nat.le_refl B)) (hn := hW.1) (h12 := hW.2.1.2) (hm := hW.2.2.1) (h8 := hW.2.2.2.1) (hbk := hW.2.2.2.2.1) (htn := hW.2.2.2.2.2.1) (hlen := hW.2.2.2.2.2.2.1) (h2 := hW.2.1.1) (hS := hS) (hkd := hW.2.2.2.2.2.2.2.1)) rfl ⟨rfl, rfl⟩ (zF_ok rfl hc hs) rfl (fun r_ h1 z_ q1 => ?_) rfl
  obtain ⟨rfl, x1, x2, x3, u1, rfl⟩ := q1
  have hM1 := hM.fr u1 (Or.inl (Nat.le_refl _))
  show Z D B xL_law _ _ QL 587 (LSc D B i) [.int (sp_says σ τ ε (sC D (i + 1)) (sC D (i + 2))).1] h1 _
  refine z_aload_n (pc := 587) (zk5 kL_law_16) rfl ?_
  refine z_arg (pc := 588) (k := 1) (zk6 kL_law_16) (zk7 kL_law_16) (zk8 kL_law_16) (zk9 kL_law_16) (zk10 kL_law_16) rfl (by decide) hi hl ?_
  refine z_arg (pc := 593) (k := 2) (zk11 kL_law_16) (zk12 kL_law_16) (zk13 kL_law_16) (zk14 kL_law_16) (zk15 kL_law_16) rfl (by decide) hi hl ?_
  refine z_efV (pc := 598) (st := [.int (sp_says σ τ ε (sC D (i + 1)) (sC D (i + 2))).1]) (zk0 kL_law_17) lkL_48 ivX5_says hM1.1 rfl rfl (cP_says (D := D) (B := B) (x := sC D (i + 1)) (y := sC D (i + 2)) (hM := hM1) (hB := (Nat.le_add_right B 51)) (hn := hW.1) (h12 := hW.2.1.2) (hm := hW.2.2.1) (h8 := hW.2.2.2.1) (hto := hW.to) (hS := hS) (h2 := hW.2.1.1)) rfl ⟨rfl, rfl⟩ (zF_ok rfl hc hs) rfl (fun r_ h2 z_ q2 => ?_) rfl
  obtain ⟨ω1, mv1, rfl, m1, u2, rfl⟩ := q2
  show Z D B xL_law _ _ QL 601 (LSc D B i) [.int (sp_says σ τ ε (sC D (i + 1)) (sC D (i + 2))).1, .int (sp_says σ τ ε (sC D (i + 1)) (sC D (i + 2))).1] h2 _
  refine z_icmp_eq (pc := 601) (tgt := 2345) (zk1 kL_law_17) rfl (fun _ => ?_) (fun q => absurd rfl q)
  exact z_wd (by omega) (by omega) (kk _ _ (ST.mk1 (q := sp_says σ τ ε (sC D (i + 1)) (sC D (i + 2))) hO x1 x2 x3 u1 m1 u2 (pq_says ⟨n, m, hW, hS⟩) hκ hZ))
theorem lc_7 {D : zD} {B cs ss i : Nat} {h : zH} {sz : Nat} (hi : i + 6 ≤ D.2.2.2.2.2.2.2.1) (hl : D.2.2.2.2.2.2.2.1 ≤ 3072) (hc : cs ≤ 500000) (hs : ss ≤ 7000000) (hST : ST h B sz) (kk : ∀ (h1 : zH) (z1 : Nat), ST h1 B z1 → Z D B xL_law (cs + 29) (ss + 877) QL 2345 (LSc D B i) [] h1 z1) : Z D B xL_law cs ss QL 606 (LSc D B i) [] h sz := by
  obtain ⟨ik, σ, κ, τ, ε, kp, tr, hX, hL, hK, ⟨ω, mv, hM⟩, hO, ⟨n, m, hW, hS⟩, hκ, hZ⟩ := hST
  refine z_aload_n (pc := 606) (zk4 kL_law_17) rfl ?_
  refine z_arg (pc := 607) (k := 1) (zk5 kL_law_17) (zk6 kL_law_17) (zk7 kL_law_17) (zk8 kL_law_17) (zk9 kL_law_17) rfl (by decide) hi hl ?_
  refine z_efV (pc := 612) (st := []) (zk10 kL_law_17) lkL_49 ivX4_houses hX.1 rfl rfl (cX_houses (D := D) (B := B) (x := sC D (i + 1)) (hX := hX) (hL := hL) (hK := hK) (hB := (Nat.le_refl B))) rfl ⟨rfl, rfl⟩ (zF_ok rfl hc hs) rfl (fun r_ h1 z_ q1 => ?_) rfl
  obtain ⟨rfl, x1, x2, x3, u1, rfl⟩ := q1
  have hM1 := hM.fr u1 (Or.inl (Nat.le_refl _))
  show Z D B xL_law _ _ QL 615 (LSc D B i) [.int (sp_houses σ τ ε (sC D (i + 1))).1] h1 _
  refine z_aload_n (pc := 615) (zk11 kL_law_17) rfl ?_
  refine z_arg (pc := 616) (k := 1) (zk12 kL_law_17) (zk13 kL_law_17) (zk14 kL_law_17) (zk15 kL_law_17) (zk0 kL_law_18) rfl (by decide) hi hl ?_
  refine z_efV (pc := 621) (st := [.int (sp_houses σ τ ε (sC D (i + 1))).1]) (zk1 kL_law_18) lkL_52 ivX5_houses hM1.1 rfl rfl (cP_houses (D := D) (B := B) (x := sC D (i + 1)) (hM := hM1) (hB := (Nat.le_add_right B 51))) rfl ⟨rfl, rfl⟩ (zF_ok rfl hc hs) rfl (fun r_ h2 z_ q2 => ?_) rfl
  obtain ⟨ω1, mv1, rfl, m1, u2, rfl⟩ := q2
  show Z D B xL_law _ _ QL 624 (LSc D B i) [.int (sp_houses σ τ ε (sC D (i + 1))).1, .int (sp_houses σ τ ε (sC D (i + 1))).1] h2 _
  refine z_icmp_eq (pc := 624) (tgt := 2345) (zk2 kL_law_18) rfl (fun _ => ?_) (fun q => absurd rfl q)
  exact z_wd (by omega) (by omega) (kk _ _ (ST.mk1 (q := sp_houses σ τ ε (sC D (i + 1))) hO x1 x2 x3 u1 m1 u2 (pq_houses ⟨n, m, hW, hS⟩) hκ hZ))
theorem lc_8 {D : zD} {B cs ss i : Nat} {h : zH} {sz : Nat} (hi : i + 6 ≤ D.2.2.2.2.2.2.2.1) (hl : D.2.2.2.2.2.2.2.1 ≤ 3072) (hc : cs ≤ 500000) (hs : ss ≤ 7000000) (hST : ST h B sz) (kk : ∀ (h1 : zH) (z1 : Nat), ST h1 B z1 → Z D B xL_law (cs + 29) (ss + 877) QL 2345 (LSc D B i) [] h1 z1) : Z D B xL_law cs ss QL 629 (LSc D B i) [] h sz := by
  obtain ⟨ik, σ, κ, τ, ε, kp, tr, hX, hL, hK, ⟨ω, mv, hM⟩, hO, ⟨n, m, hW, hS⟩, hκ, hZ⟩ := hST
  refine z_aload_n (pc := 629) (zk5 kL_law_18) rfl ?_
  refine z_arg (pc := 630) (k := 1) (zk6 kL_law_18) (zk7 kL_law_18) (zk8 kL_law_18) (zk9 kL_law_18) (zk10 kL_law_18) rfl (by decide) hi hl ?_
  refine z_arg (pc := 635) (k := 2) (zk11 kL_law_18) (zk12 kL_law_18) (zk13 kL_law_18) (zk14 kL_law_18) (zk15 kL_law_18) rfl (by decide) hi hl ?_
  refine z_arg (pc := 640) (k := 3) (zk0 kL_law_19) (zk1 kL_law_19) (zk2 kL_law_19) (zk3 kL_law_19) (zk4 kL_law_19) rfl (by decide) hi hl ?_
  refine z_arg (pc := 645) (k := 4) (zk5 kL_law_19) (zk6 kL_law_19) (zk7 kL_law_19) (zk8 kL_law_19) (zk9 kL_law_19) rfl (by decide) hi hl ?_
  refine z_efV (pc := 650) (st := []) (zk10 kL_law_19) lkL_53 ivX4_letter hX.1 rfl rfl (cX_letter (D := D) (B := B) (x := sC D (i + 1)) (y := sC D (i + 2)) (z := sC D (i + 3)) (u := sC D (i + 4)) (hX := hX) (hL := hL) (hK := hK) (hB := (Nat.le_refl B)) (hn := hW.1) (h12 := hW.2.1.2) (hm := hW.2.2.1) (h8 := hW.2.2.2.1) (hbk := hW.2.2.2.2.1) (htn := hW.2.2.2.2.2.1) (hlen := hW.2.2.2.2.2.2.1) (h2 := hW.2.1.1) (hS := hS)) rfl ⟨rfl, rfl⟩ (zF_ok rfl hc hs) rfl (fun r_ h1 z_ q1 => ?_) rfl
  obtain ⟨rfl, x1, x2, x3, u1, rfl⟩ := q1
  have hM1 := hM.fr u1 (Or.inl (Nat.le_refl _))
  show Z D B xL_law _ _ QL 653 (LSc D B i) [.int (sp_letter σ τ ε (sC D (i + 1)) (sC D (i + 2)) (sC D (i + 3)) (sC D (i + 4))).1] h1 _
  refine z_aload_n (pc := 653) (zk11 kL_law_19) rfl ?_
  refine z_arg (pc := 654) (k := 1) (zk12 kL_law_19) (zk13 kL_law_19) (zk14 kL_law_19) (zk15 kL_law_19) (zk0 kL_law_20) rfl (by decide) hi hl ?_
  refine z_arg (pc := 659) (k := 2) (zk1 kL_law_20) (zk2 kL_law_20) (zk3 kL_law_20) (zk4 kL_law_20) (zk5 kL_law_20) rfl (by decide) hi hl ?_
  refine z_arg (pc := 664) (k := 3) (zk6 kL_law_20) (zk7 kL_law_20) (zk8 kL_law_20) (zk9 kL_law_20) (zk10 kL_law_20) rfl (by decide) hi hl ?_
  refine z_arg (pc := 669) (k := 4) (zk11 kL_law_20) (zk12 kL_law_20) (zk13 kL_law_20) (zk14 kL_law_20) (zk15 kL_law_20) rfl (by decide) hi hl ?_
  refine z_efV (pc := 674) (st := [.int (sp_letter σ τ ε (sC D (i + 1)) (sC D (i + 2)) (sC D (i + 3)) (sC D (i + 4))).1]) (zk0 kL_law_21) lkL_57 ivX5_letter hM1.1 rfl rfl (cP_letter (D := D) (B := B) (x := sC D (i + 1)) (y := sC D (i + 2)) (z := sC D (i + 3)) (u := sC D (i + 4)) (hM := hM1) (hB := (Nat.le_add_right B 51)) (hn := hW.1) (h12 := hW.2.1.2) (hm := hW.2.2.1) (h8 := hW.2.2.2.1) (hto := hW.to)) rfl ⟨rfl, rfl⟩ (zF_ok rfl hc hs) rfl (fun r_ h2 z_ q2 => ?_) rfl
  obtain ⟨ω1, mv1, rfl, m1, u2, rfl⟩ := q2
  show Z D B xL_law _ _ QL 677 (LSc D B i) [.int (sp_letter σ τ ε (sC D (i + 1)) (sC D (i + 2)) (sC D (i + 3)) (sC D (i + 4))).1, .int (sp_letter σ τ ε (sC D (i + 1)) (sC D (i + 2)) (sC D (i + 3)) (sC D (i + 4))).1] h2 _
  refine z_icmp_eq (pc := 677) (tgt := 2345) (zk1 kL_law_21) rfl (fun _ => ?_) (fun q => absurd rfl q)
  exact z_wd (by omega) (by omega) (kk _ _ (ST.mk1 (q := sp_letter σ τ ε (sC D (i + 1)) (sC D (i + 2)) (sC D (i + 3)) (sC D (i + 4))) hO x1 x2 x3 u1 m1 u2 (pq_letter ⟨n, m, hW, hS⟩) hκ hZ))
theorem lc_9 {D : zD} {B cs ss i : Nat} {h : zH} {sz : Nat} (hi : i + 6 ≤ D.2.2.2.2.2.2.2.1) (hl : D.2.2.2.2.2.2.2.1 ≤ 3072) (hc : cs ≤ 500000) (hs : ss ≤ 7000000) (hST : ST h B sz) (kk : ∀ (h1 : zH) (z1 : Nat), ST h1 B z1 → Z D B xL_law (cs + 29) (ss + 877) QL 2345 (LSc D B i) [] h1 z1) : Z D B xL_law cs ss QL 682 (LSc D B i) [] h sz := by
  obtain ⟨ik, σ, κ, τ, ε, kp, tr, hX, hL, hK, ⟨ω, mv, hM⟩, hO, ⟨n, m, hW, hS⟩, hκ, hZ⟩ := hST
  refine z_aload_n (pc := 682) (zk4 kL_law_21) rfl ?_
  refine z_arg (pc := 683) (k := 1) (zk5 kL_law_21) (zk6 kL_law_21) (zk7 kL_law_21) (zk8 kL_law_21) (zk9 kL_law_21) rfl (by decide) hi hl ?_
  refine z_arg (pc := 688) (k := 2) (zk10 kL_law_21) (zk11 kL_law_21) (zk12 kL_law_21) (zk13 kL_law_21) (zk14 kL_law_21) rfl (by decide) hi hl ?_
  refine z_arg (pc := 693) (k := 3) (zk15 kL_law_21) (zk0 kL_law_22) (zk1 kL_law_22) (zk2 kL_law_22) (zk3 kL_law_22) rfl (by decide) hi hl ?_
  refine z_efV (pc := 698) (st := []) (zk4 kL_law_22) lkL_58 ivX4_mend hX.1 rfl rfl (cX_mend (D := D) (B := B) (x := sC D (i + 1)) (y := sC D (i + 2)) (z := sC D (i + 3)) (hX := hX) (hL := hL) (hK := hK) (hB := (Nat.le_refl B)) (hn := hW.1) (h12 := hW.2.1.2) (hm := hW.2.2.1) (h8 := hW.2.2.2.1)) rfl ⟨rfl, rfl⟩ (zF_ok rfl hc hs) rfl (fun r_ h1 z_ q1 => ?_) rfl
  obtain ⟨rfl, x1, x2, x3, u1, rfl⟩ := q1
  have hM1 := hM.fr u1 (Or.inl (Nat.le_refl _))
  show Z D B xL_law _ _ QL 701 (LSc D B i) [.int (sp_mend σ τ ε (sC D (i + 1)) (sC D (i + 2)) (sC D (i + 3))).1] h1 _
  refine z_aload_n (pc := 701) (zk5 kL_law_22) rfl ?_
  refine z_arg (pc := 702) (k := 1) (zk6 kL_law_22) (zk7 kL_law_22) (zk8 kL_law_22) (zk9 kL_law_22) (zk10 kL_law_22) rfl (by decide) hi hl ?_
  refine z_arg (pc := 707) (k := 2) (zk11 kL_law_22) (zk12 kL_law_22) (zk13 kL_law_22) (zk14 kL_law_22) (zk15 kL_law_22) rfl (by decide) hi hl ?_
  refine z_arg (pc := 712) (k := 3) (zk0 kL_law_23) (zk1 kL_law_23) (zk2 kL_law_23) (zk3 kL_law_23) (zk4 kL_law_23) rfl (by decide) hi hl ?_
  refine z_efV (pc := 717) (st := [.int (sp_mend σ τ ε (sC D (i + 1)) (sC D (i + 2)) (sC D (i + 3))).1]) (zk5 kL_law_23) lkL_61 ivX5_mend hM1.1 rfl rfl (cP_mend (D := D) (B := B) (x := sC D (i + 1)) (y := sC D (i + 2)) (z := sC D (i + 3)) (hM := hM1) (hB := (Nat.le_add_right B 51)) (hn := hW.1) (h12 := hW.2.1.2) (hm := hW.2.2.1) (h8 := hW.2.2.2.1) (hto := hW.to)) rfl ⟨rfl, rfl⟩ (zF_ok rfl hc hs) rfl (fun r_ h2 z_ q2 => ?_) rfl
  obtain ⟨ω1, mv1, rfl, m1, u2, rfl⟩ := q2
  show Z D B xL_law _ _ QL 720 (LSc D B i) [.int (sp_mend σ τ ε (sC D (i + 1)) (sC D (i + 2)) (sC D (i + 3))).1, .int (sp_mend σ τ ε (sC D (i + 1)) (sC D (i + 2)) (sC D (i + 3))).1] h2 _
  refine z_icmp_eq (pc := 720) (tgt := 2345) (zk6 kL_law_23) rfl (fun _ => ?_) (fun q => absurd rfl q)
  exact z_wd (by omega) (by omega) (kk _ _ (ST.mk1 (q := sp_mend σ τ ε (sC D (i + 1)) (sC D (i + 2)) (sC D (i + 3))) hO x1 x2 x3 u1 m1 u2 (pq_mend ⟨n, m, hW, hS⟩) hκ hZ))
theorem lc_10 {D : zD} {B cs ss i : Nat} {h : zH} {sz : Nat} (hi : i + 6 ≤ D.2.2.2.2.2.2.2.1) (hl : D.2.2.2.2.2.2.2.1 ≤ 3072) (hc : cs ≤ 500000) (hs : ss ≤ 7000000) (hST : ST h B sz) (kk : ∀ (h1 : zH) (z1 : Nat), ST h1 B z1 → Z D B xL_law (cs + 29) (ss + 877) QL 2345 (LSc D B i) [] h1 z1) : Z D B xL_law cs ss QL 725 (LSc D B i) [] h sz := by
  obtain ⟨ik, σ, κ, τ, ε, kp, tr, hX, hL, hK, ⟨ω, mv, hM⟩, hO, ⟨n, m, hW, hS⟩, hκ, hZ⟩ := hST
  refine z_aload_n (pc := 725) (zk9 kL_law_23) rfl ?_
  refine z_arg (pc := 726) (k := 1) (zk10 kL_law_23) (zk11 kL_law_23) (zk12 kL_law_23) (zk13 kL_law_23) (zk14 kL_law_23) rfl (by decide) hi hl ?_
  refine z_arg (pc := 731) (k := 2) (zk15 kL_law_23) (zk0 kL_law_24) (zk1 kL_law_24) (zk2 kL_law_24) (zk3 kL_law_24) rfl (by decide) hi hl ?_
  refine z_arg (pc := 736) (k := 3) (zk4 kL_law_24) (zk5 kL_law_24) (zk6 kL_law_24) (zk7 kL_law_24) (zk8 kL_law_24) rfl (by decide) hi hl ?_
  refine z_efV (pc := 741) (st := []) (zk9 kL_law_24) lkL_62 ivX4_tell hX.1 rfl rfl (cX_tell (D := D) (B := B) (x := sC D (i + 1)) (y := sC D (i + 2)) (z := sC D (i + 3)) (hX := hX) (hL := hL) (hK := hK) (hB := (Nat.le_refl B)) (hn := hW.1) (h12 := hW.2.1.2) (hm := hW.2.2.1) (h8 := hW.2.2.2.1)) rfl ⟨rfl, rfl⟩ (zF_ok rfl hc hs) rfl (fun r_ h1 z_ q1 => ?_) rfl
  obtain ⟨rfl, x1, x2, x3, u1, rfl⟩ := q1
  have hM1 := hM.fr u1 (Or.inl (Nat.le_refl _))
  show Z D B xL_law _ _ QL 744 (LSc D B i) [.int (sp_tell σ τ ε (sC D (i + 1)) (sC D (i + 2)) (sC D (i + 3))).1] h1 _
  refine z_aload_n (pc := 744) (zk10 kL_law_24) rfl ?_
  refine z_arg (pc := 745) (k := 1) (zk11 kL_law_24) (zk12 kL_law_24) (zk13 kL_law_24) (zk14 kL_law_24) (zk15 kL_law_24) rfl (by decide) hi hl ?_
  refine z_arg (pc := 750) (k := 2) (zk0 kL_law_25) (zk1 kL_law_25) (zk2 kL_law_25) (zk3 kL_law_25) (zk4 kL_law_25) rfl (by decide) hi hl ?_
  refine z_arg (pc := 755) (k := 3) (zk5 kL_law_25) (zk6 kL_law_25) (zk7 kL_law_25) (zk8 kL_law_25) (zk9 kL_law_25) rfl (by decide) hi hl ?_
  refine z_efV (pc := 760) (st := [.int (sp_tell σ τ ε (sC D (i + 1)) (sC D (i + 2)) (sC D (i + 3))).1]) (zk10 kL_law_25) lkL_65 ivX5_tell hM1.1 rfl rfl (cP_tell (D := D) (B := B) (x := sC D (i + 1)) (y := sC D (i + 2)) (z := sC D (i + 3)) (hM := hM1) (hB := (Nat.le_add_right B 51)) (hn := hW.1) (h12 := hW.2.1.2) (hm := hW.2.2.1) (h8 := hW.2.2.2.1) (hto := hW.to)) rfl ⟨rfl, rfl⟩ (zF_ok rfl hc hs) rfl (fun r_ h2 z_ q2 => ?_) rfl
  obtain ⟨ω1, mv1, rfl, m1, u2, rfl⟩ := q2
  show Z D B xL_law _ _ QL 763 (LSc D B i) [.int (sp_tell σ τ ε (sC D (i + 1)) (sC D (i + 2)) (sC D (i + 3))).1, .int (sp_tell σ τ ε (sC D (i + 1)) (sC D (i + 2)) (sC D (i + 3))).1] h2 _
  refine z_icmp_eq (pc := 763) (tgt := 2345) (zk11 kL_law_25) rfl (fun _ => ?_) (fun q => absurd rfl q)
  exact z_wd (by omega) (by omega) (kk _ _ (ST.mk1 (q := sp_tell σ τ ε (sC D (i + 1)) (sC D (i + 2)) (sC D (i + 3))) hO x1 x2 x3 u1 m1 u2 (pq_tell ⟨n, m, hW, hS⟩) hκ hZ))
theorem lc_11 {D : zD} {B cs ss i : Nat} {h : zH} {sz : Nat} (hi : i + 6 ≤ D.2.2.2.2.2.2.2.1) (hl : D.2.2.2.2.2.2.2.1 ≤ 3072) (hc : cs ≤ 500000) (hs : ss ≤ 7000000) (hST : ST h B sz) (kk : ∀ (h1 : zH) (z1 : Nat), ST h1 B z1 → Z D B xL_law (cs + 29) (ss + 877) QL 2345 (LSc D B i) [] h1 z1) : Z D B xL_law cs ss QL 768 (LSc D B i) [] h sz := by
  obtain ⟨ik, σ, κ, τ, ε, kp, tr, hX, hL, hK, ⟨ω, mv, hM⟩, hO, ⟨n, m, hW, hS⟩, hκ, hZ⟩ := hST
  refine z_aload_n (pc := 768) (zk14 kL_law_25) rfl ?_
  refine z_arg (pc := 769) (k := 1) (zk15 kL_law_25) (zk0 kL_law_26) (zk1 kL_law_26) (zk2 kL_law_26) (zk3 kL_law_26) rfl (by decide) hi hl ?_
  refine z_arg (pc := 774) (k := 2) (zk4 kL_law_26) (zk5 kL_law_26) (zk6 kL_law_26) (zk7 kL_law_26) (zk8 kL_law_26) rfl (by decide) hi hl ?_
  refine z_arg (pc := 779) (k := 3) (zk9 kL_law_26) (zk10 kL_law_26) (zk11 kL_law_26) (zk12 kL_law_26) (zk13 kL_law_26) rfl (by decide) hi hl ?_
  refine z_arb (pc := 784) (zk14 kL_law_26) rfl (zk15 kL_law_26) (zk0 kL_law_27) rfl (zk1 kL_law_27) ?_
  refine z_efV (pc := 792) (st := []) (zk2 kL_law_27) lkL_66 ivX4_code hX.1 rfl rfl (cX_code (D := D) (B := B) (x := sC D (i + 1)) (y := sC D (i + 2)) (b := !decide (sC D (i + 3) = 0)) (hX := hX) (hL := hL) (hK := hK) (hB := (Nat.le_refl B)) (hn := hW.1) (h12 := hW.2.1.2) (hm := hW.2.2.1) (h8 := hW.2.2.2.1) (hbk := hW.2.2.2.2.1) (htn := hW.2.2.2.2.2.1) (hlen := hW.2.2.2.2.2.2.1) (h2 := hW.2.1.1) (hS := hS)) rfl ⟨rfl, rfl⟩ (zF_ok rfl hc hs) rfl (fun r_ h1 z_ q1 => ?_) rfl
  obtain ⟨rfl, x1, x2, x3, u1, rfl⟩ := q1
  have hM1 := hM.fr u1 (Or.inl (Nat.le_refl _))
  show Z D B xL_law _ _ QL 795 (LSc D B i) [.int (sp_code σ τ ε (sC D (i + 1)) (sC D (i + 2)) (!decide (sC D (i + 3) = 0))).1] h1 _
  refine z_aload_n (pc := 795) (zk3 kL_law_27) rfl ?_
  refine z_arg (pc := 796) (k := 1) (zk4 kL_law_27) (zk5 kL_law_27) (zk6 kL_law_27) (zk7 kL_law_27) (zk8 kL_law_27) rfl (by decide) hi hl ?_
  refine z_arg (pc := 801) (k := 2) (zk9 kL_law_27) (zk10 kL_law_27) (zk11 kL_law_27) (zk12 kL_law_27) (zk13 kL_law_27) rfl (by decide) hi hl ?_
  refine z_arg (pc := 806) (k := 3) (zk14 kL_law_27) (zk15 kL_law_27) (zk0 kL_law_28) (zk1 kL_law_28) (zk2 kL_law_28) rfl (by decide) hi hl ?_
  refine z_arb (pc := 811) (zk3 kL_law_28) rfl (zk4 kL_law_28) (zk5 kL_law_28) rfl (zk6 kL_law_28) ?_
  refine z_efV (pc := 819) (st := [.int (sp_code σ τ ε (sC D (i + 1)) (sC D (i + 2)) (!decide (sC D (i + 3) = 0))).1]) (zk7 kL_law_28) lkL_70 ivX5_code hM1.1 rfl rfl (cP_code (D := D) (B := B) (x := sC D (i + 1)) (y := sC D (i + 2)) (b := !decide (sC D (i + 3) = 0)) (hM := hM1) (hB := (Nat.le_add_right B 51)) (hn := hW.1) (h12 := hW.2.1.2) (hm := hW.2.2.1) (h8 := hW.2.2.2.1) (hto := hW.to)) rfl ⟨rfl, rfl⟩ (zF_ok rfl hc hs) rfl (fun r_ h2 z_ q2 => ?_) rfl
  obtain ⟨ω1, mv1, rfl, m1, u2, rfl⟩ := q2
  show Z D B xL_law _ _ QL 822 (LSc D B i) [.int (sp_code σ τ ε (sC D (i + 1)) (sC D (i + 2)) (!decide (sC D (i + 3) = 0))).1, .int (sp_code σ τ ε (sC D (i + 1)) (sC D (i + 2)) (!decide (sC D (i + 3) = 0))).1] h2 _
  refine z_icmp_eq (pc := 822) (tgt := 2345) (zk8 kL_law_28) rfl (fun _ => ?_) (fun q => absurd rfl q)
  exact z_wd (by omega) (by omega) (kk _ _ (ST.mk1 (q := sp_code σ τ ε (sC D (i + 1)) (sC D (i + 2)) (!decide (sC D (i + 3) = 0))) hO x1 x2 x3 u1 m1 u2 (pq_code ⟨n, m, hW, hS⟩) hκ hZ))
theorem lc_12 {D : zD} {B cs ss i : Nat} {h : zH} {sz : Nat} (hi : i + 6 ≤ D.2.2.2.2.2.2.2.1) (hl : D.2.2.2.2.2.2.2.1 ≤ 3072) (hc : cs ≤ 500000) (hs : ss ≤ 7000000) (hST : ST h B sz) (kk : ∀ (h1 : zH) (z1 : Nat), ST h1 B z1 → Z D B xL_law (cs + 29) (ss + 877) QL 2345 (LSc D B i) [] h1 z1) : Z D B xL_law cs ss QL 827 (LSc D B i) [] h sz := by
  obtain ⟨ik, σ, κ, τ, ε, kp, tr, hX, hL, hK, ⟨ω, mv, hM⟩, hO, ⟨n, m, hW, hS⟩, hκ, hZ⟩ := hST
  refine z_aload_n (pc := 827) (zk11 kL_law_28) rfl ?_
  refine z_arg (pc := 828) (k := 1) (zk12 kL_law_28) (zk13 kL_law_28) (zk14 kL_law_28) (zk15 kL_law_28) (zk0 kL_law_29) rfl (by decide) hi hl ?_
  refine z_efV (pc := 833) (st := []) (zk1 kL_law_29) lkL_71 ivX4_cold hX.1 rfl rfl (cX_cold (D := D) (B := B) (x := sC D (i + 1)) (hX := hX) (hL := hL) (hK := hK) (hB := (Nat.le_refl B))) rfl ⟨rfl, rfl⟩ (zF_ok rfl hc hs) rfl (fun r_ h1 z_ q1 => ?_) rfl
  obtain ⟨rfl, x1, x2, x3, u1, rfl⟩ := q1
  have hM1 := hM.fr u1 (Or.inl (Nat.le_refl _))
  show Z D B xL_law _ _ QL 836 (LSc D B i) [.int (sp_cold σ τ ε (sC D (i + 1))).1] h1 _
  refine z_aload_n (pc := 836) (zk2 kL_law_29) rfl ?_
  refine z_arg (pc := 837) (k := 1) (zk3 kL_law_29) (zk4 kL_law_29) (zk5 kL_law_29) (zk6 kL_law_29) (zk7 kL_law_29) rfl (by decide) hi hl ?_
  refine z_efV (pc := 842) (st := [.int (sp_cold σ τ ε (sC D (i + 1))).1]) (zk8 kL_law_29) lkL_74 ivX5_cold hM1.1 rfl rfl (cP_cold (D := D) (B := B) (x := sC D (i + 1)) (hM := hM1) (hB := (Nat.le_add_right B 51))) rfl ⟨rfl, rfl⟩ (zF_ok rfl hc hs) rfl (fun r_ h2 z_ q2 => ?_) rfl
  obtain ⟨ω1, mv1, rfl, m1, u2, rfl⟩ := q2
  show Z D B xL_law _ _ QL 845 (LSc D B i) [.int (sp_cold σ τ ε (sC D (i + 1))).1, .int (sp_cold σ τ ε (sC D (i + 1))).1] h2 _
  refine z_icmp_eq (pc := 845) (tgt := 2345) (zk9 kL_law_29) rfl (fun _ => ?_) (fun q => absurd rfl q)
  exact z_wd (by omega) (by omega) (kk _ _ (ST.mk1 (q := sp_cold σ τ ε (sC D (i + 1))) hO x1 x2 x3 u1 m1 u2 (pq_cold ⟨n, m, hW, hS⟩) hκ hZ))
theorem lc_13 {D : zD} {B cs ss i : Nat} {h : zH} {sz : Nat} (hi : i + 6 ≤ D.2.2.2.2.2.2.2.1) (hl : D.2.2.2.2.2.2.2.1 ≤ 3072) (hc : cs ≤ 500000) (hs : ss ≤ 7000000) (hST : ST h B sz) (kk : ∀ (h1 : zH) (z1 : Nat), ST h1 B z1 → Z D B xL_law (cs + 29) (ss + 877) QL 2345 (LSc D B i) [] h1 z1) : Z D B xL_law cs ss QL 850 (LSc D B i) [] h sz := by
  obtain ⟨ik, σ, κ, τ, ε, kp, tr, hX, hL, hK, ⟨ω, mv, hM⟩, hO, ⟨n, m, hW, hS⟩, hκ, hZ⟩ := hST
  refine z_aload_n (pc := 850) (zk12 kL_law_29) rfl ?_
  refine z_arg (pc := 851) (k := 1) (zk13 kL_law_29) (zk14 kL_law_29) (zk15 kL_law_29) (zk0 kL_law_30) (zk1 kL_law_30) rfl (by decide) hi hl ?_
  refine z_arb (pc := 856) (zk2 kL_law_30) rfl (zk3 kL_law_30) (zk4 kL_law_30) rfl (zk5 kL_law_30) ?_
  refine z_efV (pc := 864) (st := []) (zk6 kL_law_30) lkL_75 ivX4_way hX.1 rfl rfl (cX_way (D := D) (B := B) (b := !decide (sC D (i + 1) = 0)) (hX := hX) (hL := hL) (hK := hK) (hB := (Nat.le_refl B)) (hn := hW.1) (h12 := hW.2.1.2) (hm := hW.2.2.1) (h8 := hW.2.2.2.1) (hbk := hW.2.2.2.2.1) (htn := hW.2.2.2.2.2.1) (hlen := hW.2.2.2.2.2.2.1) (h2 := hW.2.1.1) (hS := hS)) rfl ⟨rfl, rfl⟩ (zF_ok rfl hc hs) rfl (fun r_ h1 z_ q1 => ?_) rfl
  obtain ⟨rfl, x1, x2, x3, u1, rfl⟩ := q1
  have hM1 := hM.fr u1 (Or.inl (Nat.le_refl _))
  show Z D B xL_law _ _ QL 867 (LSc D B i) [.int (sp_way σ τ ε (!decide (sC D (i + 1) = 0))).1] h1 _
  refine z_aload_n (pc := 867) (zk7 kL_law_30) rfl ?_
  refine z_arg (pc := 868) (k := 1) (zk8 kL_law_30) (zk9 kL_law_30) (zk10 kL_law_30) (zk11 kL_law_30) (zk12 kL_law_30) rfl (by decide) hi hl ?_
  refine z_arb (pc := 873) (zk13 kL_law_30) rfl (zk14 kL_law_30) (zk15 kL_law_30) rfl (zk0 kL_law_31) ?_
  refine z_efV (pc := 881) (st := [.int (sp_way σ τ ε (!decide (sC D (i + 1) = 0))).1]) (zk1 kL_law_31) lkL_79 ivX5_way hM1.1 rfl rfl (cP_way (D := D) (B := B) (b := !decide (sC D (i + 1) = 0)) (hM := hM1) (hB := (Nat.le_add_right B 51)) (hbk := hW.2.2.2.2.1)) rfl ⟨rfl, rfl⟩ (zF_ok rfl hc hs) rfl (fun r_ h2 z_ q2 => ?_) rfl
  obtain ⟨ω1, mv1, rfl, m1, u2, rfl⟩ := q2
  show Z D B xL_law _ _ QL 884 (LSc D B i) [.int (sp_way σ τ ε (!decide (sC D (i + 1) = 0))).1, .int (sp_way σ τ ε (!decide (sC D (i + 1) = 0))).1] h2 _
  refine z_icmp_eq (pc := 884) (tgt := 2345) (zk2 kL_law_31) rfl (fun _ => ?_) (fun q => absurd rfl q)
  exact z_wd (by omega) (by omega) (kk _ _ (ST.mk1 (q := sp_way σ τ ε (!decide (sC D (i + 1) = 0))) hO x1 x2 x3 u1 m1 u2 (pq_way ⟨n, m, hW, hS⟩) hκ hZ))
theorem lc_14 {D : zD} {B cs ss i : Nat} {h : zH} {sz : Nat} (hi : i + 6 ≤ D.2.2.2.2.2.2.2.1) (hl : D.2.2.2.2.2.2.2.1 ≤ 3072) (hc : cs ≤ 500000) (hs : ss ≤ 7000000) (hST : ST h B sz) (kk : ∀ (h1 : zH) (z1 : Nat), ST h1 B z1 → Z D B xL_law (cs + 29) (ss + 877) QL 2345 (LSc D B i) [] h1 z1) : Z D B xL_law cs ss QL 889 (LSc D B i) [] h sz := by
  obtain ⟨ik, σ, κ, τ, ε, kp, tr, hX, hL, hK, ⟨ω, mv, hM⟩, hO, ⟨n, m, hW, hS⟩, hκ, hZ⟩ := hST
  refine z_aload_n (pc := 889) (zk5 kL_law_31) rfl ?_
  refine z_arg (pc := 890) (k := 1) (zk6 kL_law_31) (zk7 kL_law_31) (zk8 kL_law_31) (zk9 kL_law_31) (zk10 kL_law_31) rfl (by decide) hi hl ?_
  refine z_efV (pc := 895) (st := []) (zk11 kL_law_31) lkL_80 ivX4_feed hX.1 rfl rfl (cX_feed (D := D) (B := B) (x := sC D (i + 1)) (hX := hX) (hL := hL) (hK := hK) (hB := (Nat.le_refl B)) (hn := hW.1) (h12 := hW.2.1.2) (hm := hW.2.2.1) (h8 := hW.2.2.2.1) (hbk := hW.2.2.2.2.1) (htn := hW.2.2.2.2.2.1) (hlen := hW.2.2.2.2.2.2.1) (h2 := hW.2.1.1) (hS := hS)) rfl ⟨rfl, rfl⟩ (zF_ok rfl hc hs) rfl (fun r_ h1 z_ q1 => ?_) rfl
  obtain ⟨rfl, x1, x2, x3, u1, rfl⟩ := q1
  have hM1 := hM.fr u1 (Or.inl (Nat.le_refl _))
  show Z D B xL_law _ _ QL 898 (LSc D B i) [.int (sp_feed σ τ ε (sC D (i + 1))).1] h1 _
  refine z_aload_n (pc := 898) (zk12 kL_law_31) rfl ?_
  refine z_arg (pc := 899) (k := 1) (zk13 kL_law_31) (zk14 kL_law_31) (zk15 kL_law_31) (zk0 kL_law_32) (zk1 kL_law_32) rfl (by decide) hi hl ?_
  refine z_efV (pc := 904) (st := [.int (sp_feed σ τ ε (sC D (i + 1))).1]) (zk2 kL_law_32) lkL_83 ivX5_feed hM1.1 rfl rfl (cP_feed (D := D) (B := B) (x := sC D (i + 1)) (hM := hM1) (hB := (Nat.le_add_right B 51)) (hS := hS)) rfl ⟨rfl, rfl⟩ (zF_ok rfl hc hs) rfl (fun r_ h2 z_ q2 => ?_) rfl
  obtain ⟨ω1, mv1, rfl, m1, u2, rfl⟩ := q2
  show Z D B xL_law _ _ QL 907 (LSc D B i) [.int (sp_feed σ τ ε (sC D (i + 1))).1, .int (sp_feed σ τ ε (sC D (i + 1))).1] h2 _
  refine z_icmp_eq (pc := 907) (tgt := 2345) (zk3 kL_law_32) rfl (fun _ => ?_) (fun q => absurd rfl q)
  exact z_wd (by omega) (by omega) (kk _ _ (ST.mk1 (q := sp_feed σ τ ε (sC D (i + 1))) hO x1 x2 x3 u1 m1 u2 (pq_feed ⟨n, m, hW, hS⟩) hκ hZ))
theorem lc_15 {D : zD} {B cs ss i : Nat} {h : zH} {sz : Nat} (hi : i + 6 ≤ D.2.2.2.2.2.2.2.1) (hl : D.2.2.2.2.2.2.2.1 ≤ 3072) (hc : cs ≤ 500000) (hs : ss ≤ 7000000) (hST : ST h B sz) (kk : ∀ (h1 : zH) (z1 : Nat), ST h1 B z1 → Z D B xL_law (cs + 29) (ss + 877) QL 2345 (LSc D B i) [] h1 z1) : Z D B xL_law cs ss QL 912 (LSc D B i) [] h sz := by
  obtain ⟨ik, σ, κ, τ, ε, kp, tr, hX, hL, hK, ⟨ω, mv, hM⟩, hO, ⟨n, m, hW, hS⟩, hκ, hZ⟩ := hST
  refine z_aload_n (pc := 912) (zk6 kL_law_32) rfl ?_
  refine z_efV (pc := 913) (st := []) (zk7 kL_law_32) lkL_84 ivX4_wipe hX.1 rfl rfl (cX_wipe (D := D) (B := B) (hX := hX) (hL := hL) (hK := hK) (hB := (Nat.le_refl B)) (hn := hW.1) (h12 := hW.2.1.2) (hm := hW.2.2.1) (h8 := hW.2.2.2.1) (hbk := hW.2.2.2.2.1) (htn := hW.2.2.2.2.2.1) (hlen := hW.2.2.2.2.2.2.1) (h2 := hW.2.1.1) (hS := hS)) rfl ⟨rfl, rfl⟩ (zF_ok rfl hc hs) rfl (fun r_ h1 z_ q1 => ?_) rfl
  obtain ⟨rfl, x1, x2, x3, u1, rfl⟩ := q1
  have hM1 := hM.fr u1 (Or.inl (Nat.le_refl _))
  show Z D B xL_law _ _ QL 916 (LSc D B i) [.int (sp_wipe σ τ ε).1] h1 _
  refine z_aload_n (pc := 916) (zk8 kL_law_32) rfl ?_
  refine z_efV (pc := 917) (st := [.int (sp_wipe σ τ ε).1]) (zk9 kL_law_32) lkL_88 ivX5_wipe hM1.1 rfl rfl (cP_wipe (D := D) (B := B) (hM := hM1) (hB := (Nat.le_add_right B 51))) rfl ⟨rfl, rfl⟩ (zF_ok rfl hc hs) rfl (fun r_ h2 z_ q2 => ?_) rfl
  obtain ⟨ω1, mv1, rfl, m1, u2, rfl⟩ := q2
  show Z D B xL_law _ _ QL 920 (LSc D B i) [.int (sp_wipe σ τ ε).1, .int (sp_wipe σ τ ε).1] h2 _
  refine z_icmp_eq (pc := 920) (tgt := 2345) (zk10 kL_law_32) rfl (fun _ => ?_) (fun q => absurd rfl q)
  exact z_wd (by omega) (by omega) (kk _ _ (ST.mk1 (q := sp_wipe σ τ ε) hO x1 x2 x3 u1 m1 u2 (pq_wipe ⟨n, m, hW, hS⟩) hκ hZ))
