/-! ===== the law's loop ===== -/
theorem sw_s {P : Nat → Prop} {n : Nat} (h : ∀ c, c < n → P c) (hn : P n) : ∀ c, c < n + 1 → P c := fun c hc => by
  rcases Nat.lt_or_ge c n with q | q
  · exact h c q
  · rw [show c = n by omega]; exact hn
theorem and63 (x : Int32) : ∃ c, c < 64 ∧ x &&& 63 = nI c := by
  refine ⟨(x &&& 63).toBitVec.toNat, ?_, ?_⟩
  · rw [Int32.toBitVec_and, BitVec.toNat_and]
    exact Nat.lt_of_le_of_lt Nat.and_le_right (by decide)
  · apply Int32.toBitVec_inj.mp
    show _ = BitVec.ofNat 32 _
    rw [BitVec.ofNat_toNat, BitVec.setWidth_eq]
theorem i6 {a b : Nat} (ha : a ≤ 5000) (hb : b ≤ 5000) : nI a - 6 < nI b ↔ a < b + 6 := by
  rw [Int32.lt_iff_toInt_lt, show (6 : Int32) = nI 6 from rfl, pk_sub_toInt (by omega) (by omega), nI_toInt (by omega)]
  omega
theorem PW_0 : PW σ0 τ0 := by
  refine ⟨8, 0, ⟨rfl, ⟨by omega, by omega⟩, rfl, by omega, Or.inl rfl, fun l hl => absurd hl (Nat.not_lt_zero _), fun l hl => absurd hl (Nat.not_lt_zero _), fun l hl => absurd hl (Nat.not_lt_zero _), fun l hl => absurd hl (Nat.not_lt_zero _)⟩, fun s hs => Or.inl rfl, ⟨0, by omega, rfl⟩, fun j hj => ⟨0, by omega, rfl⟩⟩
theorem law_sw {D : zD} {B cs ss i : Nat} {h : zH} {sz : Nat} (hi : i + 6 ≤ D.2.2.2.2.2.2.2.1) (hl : D.2.2.2.2.2.2.2.1 ≤ 3072) (hc : cs ≤ 500000) (hs : ss ≤ 7000000) (hST : ST h B sz) (kk : ∀ (h1 : zH) (z1 : Nat), ST h1 B z1 → Z D B xL_law (cs + 29) (ss + 877) QL 2345 (LSc D B i) [] h1 z1) : ∀ c, c < 64 → Z D B xL_law cs ss QL 33 (LSc D B i) [.int (nI c)] h sz :=
  (sw_s (n := 63) (sw_s (n := 62) (sw_s (n := 61) (sw_s (n := 60) (sw_s (n := 59) (sw_s (n := 58) (sw_s (n := 57) (sw_s (n := 56) (sw_s (n := 55) (sw_s (n := 54) (sw_s (n := 53) (sw_s (n := 52) (sw_s (n := 51) (sw_s (n := 50) (sw_s (n := 49) (sw_s (n := 48) (sw_s (n := 47) (sw_s (n := 46) (sw_s (n := 45) (sw_s (n := 44) (sw_s (n := 43) (sw_s (n := 42) (sw_s (n := 41) (sw_s (n := 40) (sw_s (n := 39) (sw_s (n := 38) (sw_s (n := 37) (sw_s (n := 36) (sw_s (n := 35) (sw_s (n := 34) (sw_s (n := 33) (sw_s (n := 32) (sw_s (n := 31) (sw_s (n := 30) (sw_s (n := 29) (sw_s (n := 28) (sw_s (n := 27) (sw_s (n := 26) (sw_s (n := 25) (sw_s (n := 24) (sw_s (n := 23) (sw_s (n := 22) (sw_s (n := 21) (sw_s (n := 20) (sw_s (n := 19) (sw_s (n := 18) (sw_s (n := 17) (sw_s (n := 16) (sw_s (n := 15) (sw_s (n := 14) (sw_s (n := 13) (sw_s (n := 12) (sw_s (n := 11) (sw_s (n := 10) (sw_s (n := 9) (sw_s (n := 8) (sw_s (n := 7) (sw_s (n := 6) (sw_s (n := 5) (sw_s (n := 4) (sw_s (n := 3) (sw_s (n := 2) (sw_s (n := 1) (sw_s (n := 0) (fun c hc => absurd hc (Nat.not_lt_zero c))
  (z_tableIn (pc := 33) (x := nI 0) (off := 271) (tgt := 304) (zk5 kL_law_1) (by decide) (by decide) (by rfl) (by decide) (lc_0 hi hl hc hs hST kk)))
  (z_tableIn (pc := 33) (x := nI 1) (off := 314) (tgt := 347) (zk5 kL_law_1) (by decide) (by decide) (by rfl) (by decide) (lc_1 hi hl hc hs hST kk)))
  (z_tableIn (pc := 33) (x := nI 2) (off := 387) (tgt := 420) (zk5 kL_law_1) (by decide) (by decide) (by rfl) (by decide) (lc_2 hi hl hc hs hST kk)))
  (z_tableIn (pc := 33) (x := nI 3) (off := 450) (tgt := 483) (zk5 kL_law_1) (by decide) (by decide) (by rfl) (by decide) (lc_3 hi hl hc hs hST kk)))
  (z_tableIn (pc := 33) (x := nI 4) (off := 484) (tgt := 517) (zk5 kL_law_1) (by decide) (by decide) (by rfl) (by decide) (lc_4 hi hl hc hs hST kk)))
  (z_tableIn (pc := 33) (x := nI 5) (off := 507) (tgt := 540) (zk5 kL_law_1) (by decide) (by decide) (by rfl) (by decide) (lc_5 hi hl hc hs hST kk)))
  (z_tableIn (pc := 33) (x := nI 6) (off := 540) (tgt := 573) (zk5 kL_law_1) (by decide) (by decide) (by rfl) (by decide) (lc_6 hi hl hc hs hST kk)))
  (z_tableIn (pc := 33) (x := nI 7) (off := 573) (tgt := 606) (zk5 kL_law_1) (by decide) (by decide) (by rfl) (by decide) (lc_7 hi hl hc hs hST kk)))
  (z_tableIn (pc := 33) (x := nI 8) (off := 596) (tgt := 629) (zk5 kL_law_1) (by decide) (by decide) (by rfl) (by decide) (lc_8 hi hl hc hs hST kk)))
  (z_tableIn (pc := 33) (x := nI 9) (off := 649) (tgt := 682) (zk5 kL_law_1) (by decide) (by decide) (by rfl) (by decide) (lc_9 hi hl hc hs hST kk)))
  (z_tableIn (pc := 33) (x := nI 10) (off := 692) (tgt := 725) (zk5 kL_law_1) (by decide) (by decide) (by rfl) (by decide) (lc_10 hi hl hc hs hST kk)))
  (z_tableIn (pc := 33) (x := nI 11) (off := 735) (tgt := 768) (zk5 kL_law_1) (by decide) (by decide) (by rfl) (by decide) (lc_11 hi hl hc hs hST kk)))
  (z_tableIn (pc := 33) (x := nI 12) (off := 794) (tgt := 827) (zk5 kL_law_1) (by decide) (by decide) (by rfl) (by decide) (lc_12 hi hl hc hs hST kk)))
  (z_tableIn (pc := 33) (x := nI 13) (off := 817) (tgt := 850) (zk5 kL_law_1) (by decide) (by decide) (by rfl) (by decide) (lc_13 hi hl hc hs hST kk)))
  (z_tableIn (pc := 33) (x := nI 14) (off := 856) (tgt := 889) (zk5 kL_law_1) (by decide) (by decide) (by rfl) (by decide) (lc_14 hi hl hc hs hST kk)))
  (z_tableIn (pc := 33) (x := nI 15) (off := 879) (tgt := 912) (zk5 kL_law_1) (by decide) (by decide) (by rfl) (by decide) (lc_15 hi hl hc hs hST kk)))
  (z_tableIn (pc := 33) (x := nI 16) (off := 892) (tgt := 925) (zk5 kL_law_1) (by decide) (by decide) (by rfl) (by decide) (lc_16 hi hl hc hs hST kk)))
  (z_tableIn (pc := 33) (x := nI 17) (off := 905) (tgt := 938) (zk5 kL_law_1) (by decide) (by decide) (by rfl) (by decide) (lc_17 hi hl hc hs hST kk)))
  (z_tableIn (pc := 33) (x := nI 18) (off := 938) (tgt := 971) (zk5 kL_law_1) (by decide) (by decide) (by rfl) (by decide) (lc_18 hi hl hc hs hST kk)))
  (z_tableIn (pc := 33) (x := nI 19) (off := 971) (tgt := 1004) (zk5 kL_law_1) (by decide) (by decide) (by rfl) (by decide) (lc_19 hi hl hc hs hST kk)))
  (z_tableIn (pc := 33) (x := nI 20) (off := 1004) (tgt := 1037) (zk5 kL_law_1) (by decide) (by decide) (by rfl) (by decide) (lc_20 hi hl hc hs hST kk)))
  (z_tableIn (pc := 33) (x := nI 21) (off := 1037) (tgt := 1070) (zk5 kL_law_1) (by decide) (by decide) (by rfl) (by decide) (lc_21 hi hl hc hs hST kk)))
  (z_tableIn (pc := 33) (x := nI 22) (off := 1060) (tgt := 1093) (zk5 kL_law_1) (by decide) (by decide) (by rfl) (by decide) (lc_22 hi hl hc hs hST kk)))
  (z_tableIn (pc := 33) (x := nI 23) (off := 1083) (tgt := 1116) (zk5 kL_law_1) (by decide) (by decide) (by rfl) (by decide) (lc_23 hi hl hc hs hST kk)))
  (z_tableIn (pc := 33) (x := nI 24) (off := 1116) (tgt := 1149) (zk5 kL_law_1) (by decide) (by decide) (by rfl) (by decide) (lc_24 hi hl hc hs hST kk)))
  (z_tableIn (pc := 33) (x := nI 25) (off := 1139) (tgt := 1172) (zk5 kL_law_1) (by decide) (by decide) (by rfl) (by decide) (lc_25 hi hl hc hs hST kk)))
  (z_tableIn (pc := 33) (x := nI 26) (off := 1162) (tgt := 1195) (zk5 kL_law_1) (by decide) (by decide) (by rfl) (by decide) (lc_26 hi hl hc hs hST kk)))
  (z_tableIn (pc := 33) (x := nI 27) (off := 1185) (tgt := 1218) (zk5 kL_law_1) (by decide) (by decide) (by rfl) (by decide) (lc_27 hi hl hc hs hST kk)))
  (z_tableIn (pc := 33) (x := nI 28) (off := 1218) (tgt := 1251) (zk5 kL_law_1) (by decide) (by decide) (by rfl) (by decide) (lc_28 hi hl hc hs hST kk)))
  (z_tableIn (pc := 33) (x := nI 29) (off := 1261) (tgt := 1294) (zk5 kL_law_1) (by decide) (by decide) (by rfl) (by decide) (lc_29 hi hl hc hs hST kk)))
  (z_tableIn (pc := 33) (x := nI 30) (off := 1294) (tgt := 1327) (zk5 kL_law_1) (by decide) (by decide) (by rfl) (by decide) (lc_30 hi hl hc hs hST kk)))
  (z_tableIn (pc := 33) (x := nI 31) (off := 1327) (tgt := 1360) (zk5 kL_law_1) (by decide) (by decide) (by rfl) (by decide) (lc_31 hi hl hc hs hST kk)))
  (z_tableIn (pc := 33) (x := nI 32) (off := 1380) (tgt := 1413) (zk5 kL_law_1) (by decide) (by decide) (by rfl) (by decide) (lc_32 hi hl hc hs hST kk)))
  (z_tableIn (pc := 33) (x := nI 33) (off := 1433) (tgt := 1466) (zk5 kL_law_1) (by decide) (by decide) (by rfl) (by decide) (lc_33 hi hl hc hs hST kk)))
  (z_tableIn (pc := 33) (x := nI 34) (off := 1476) (tgt := 1509) (zk5 kL_law_1) (by decide) (by decide) (by rfl) (by decide) (lc_34 hi hl hc hs hST kk)))
  (z_tableIn (pc := 33) (x := nI 35) (off := 1519) (tgt := 1552) (zk5 kL_law_1) (by decide) (by decide) (by rfl) (by decide) (lc_35 hi hl hc hs hST kk)))
  (z_tableIn (pc := 33) (x := nI 36) (off := 1582) (tgt := 1615) (zk5 kL_law_1) (by decide) (by decide) (by rfl) (by decide) (lc_36 hi hl hc hs hST kk)))
  (z_tableIn (pc := 33) (x := nI 37) (off := 1645) (tgt := 1678) (zk5 kL_law_1) (by decide) (by decide) (by rfl) (by decide) (lc_37 hi hl hc hs hST kk)))
  (z_tableIn (pc := 33) (x := nI 38) (off := 1678) (tgt := 1711) (zk5 kL_law_1) (by decide) (by decide) (by rfl) (by decide) (lc_38 hi hl hc hs hST kk)))
  (z_tableIn (pc := 33) (x := nI 39) (off := 1701) (tgt := 1734) (zk5 kL_law_1) (by decide) (by decide) (by rfl) (by decide) (lc_39 hi hl hc hs hST kk)))
  (z_tableIn (pc := 33) (x := nI 40) (off := 1724) (tgt := 1757) (zk5 kL_law_1) (by decide) (by decide) (by rfl) (by decide) (lc_40 hi hl hc hs hST kk)))
  (z_tableIn (pc := 33) (x := nI 41) (off := 1737) (tgt := 1770) (zk5 kL_law_1) (by decide) (by decide) (by rfl) (by decide) (lc_41 hi hl hc hs hST kk)))
  (z_tableIn (pc := 33) (x := nI 42) (off := 1770) (tgt := 1803) (zk5 kL_law_1) (by decide) (by decide) (by rfl) (by decide) (lc_42 hi hl hc hs hST kk)))
  (z_tableIn (pc := 33) (x := nI 43) (off := 1803) (tgt := 1836) (zk5 kL_law_1) (by decide) (by decide) (by rfl) (by decide) (lc_43 hi hl hc hs hST kk)))
  (z_tableIn (pc := 33) (x := nI 44) (off := 1816) (tgt := 1849) (zk5 kL_law_1) (by decide) (by decide) (by rfl) (by decide) (lc_44 hi hl hc hs hST kk)))
  (z_tableIn (pc := 33) (x := nI 45) (off := 1829) (tgt := 1862) (zk5 kL_law_1) (by decide) (by decide) (by rfl) (by decide) (lc_45 hi hl hc hs hST kk)))
  (z_tableIn (pc := 33) (x := nI 46) (off := 1842) (tgt := 1875) (zk5 kL_law_1) (by decide) (by decide) (by rfl) (by decide) (lc_46 hi hl hc hs hST kk)))
  (z_tableIn (pc := 33) (x := nI 47) (off := 1875) (tgt := 1908) (zk5 kL_law_1) (by decide) (by decide) (by rfl) (by decide) (lc_47 hi hl hc hs hST kk)))
  (z_tableIn (pc := 33) (x := nI 48) (off := 1908) (tgt := 1941) (zk5 kL_law_1) (by decide) (by decide) (by rfl) (by decide) (lc_48 hi hl hc hs hST kk)))
  (z_tableIn (pc := 33) (x := nI 49) (off := 1941) (tgt := 1974) (zk5 kL_law_1) (by decide) (by decide) (by rfl) (by decide) (lc_49 hi hl hc hs hST kk)))
  (z_tableIn (pc := 33) (x := nI 50) (off := 1964) (tgt := 1997) (zk5 kL_law_1) (by decide) (by decide) (by rfl) (by decide) (lc_50 hi hl hc hs hST kk)))
  (z_tableIn (pc := 33) (x := nI 51) (off := 1987) (tgt := 2020) (zk5 kL_law_1) (by decide) (by decide) (by rfl) (by decide) (lc_51 hi hl hc hs hST kk)))
  (z_tableIn (pc := 33) (x := nI 52) (off := 2010) (tgt := 2043) (zk5 kL_law_1) (by decide) (by decide) (by rfl) (by decide) (lc_52 hi hl hc hs hST kk)))
  (z_tableIn (pc := 33) (x := nI 53) (off := 2043) (tgt := 2076) (zk5 kL_law_1) (by decide) (by decide) (by rfl) (by decide) (lc_53 hi hl hc hs hST kk)))
  (z_tableIn (pc := 33) (x := nI 54) (off := 2066) (tgt := 2099) (zk5 kL_law_1) (by decide) (by decide) (by rfl) (by decide) (lc_54 hi hl hc hs hST kk)))
  (z_tableIn (pc := 33) (x := nI 55) (off := 2099) (tgt := 2132) (zk5 kL_law_1) (by decide) (by decide) (by rfl) (by decide) (lc_55 hi hl hc hs hST kk)))
  (z_tableIn (pc := 33) (x := nI 56) (off := 2122) (tgt := 2155) (zk5 kL_law_1) (by decide) (by decide) (by rfl) (by decide) (lc_56 hi hl hc hs hST kk)))
  (z_tableIn (pc := 33) (x := nI 57) (off := 2145) (tgt := 2178) (zk5 kL_law_1) (by decide) (by decide) (by rfl) (by decide) (lc_57 hi hl hc hs hST kk)))
  (z_tableIn (pc := 33) (x := nI 58) (off := 2178) (tgt := 2211) (zk5 kL_law_1) (by decide) (by decide) (by rfl) (by decide) (lc_58 hi hl hc hs hST kk)))
  (z_tableIn (pc := 33) (x := nI 59) (off := 2217) (tgt := 2250) (zk5 kL_law_1) (by decide) (by decide) (by rfl) (by decide) (lc_59 hi hl hc hs hST kk)))
  (z_tableIn (pc := 33) (x := nI 60) (off := 2240) (tgt := 2273) (zk5 kL_law_1) (by decide) (by decide) (by rfl) (by decide) (lc_60 hi hl hc hs hST kk)))
  (z_tableIn (pc := 33) (x := nI 61) (off := 2263) (tgt := 2296) (zk5 kL_law_1) (by decide) (by decide) (by rfl) (by decide) (lc_61 hi hl hc hs hST kk)))
  (z_tableIn (pc := 33) (x := nI 62) (off := 2276) (tgt := 2309) (zk5 kL_law_1) (by decide) (by decide) (by rfl) (by decide) (lc_62 hi hl hc hs hST kk)))
  (z_tableIn (pc := 33) (x := nI 63) (off := 2289) (tgt := 2322) (zk5 kL_law_1) (by decide) (by decide) (by rfl) (by decide) (lc_63 hi hl hc hs hST kk)))
theorem law_lp {D : zD} {B : Nat} (hl : D.2.2.2.2.2.2.2.1 ≤ 3072) : ∀ (f k : Nat) (h : zH) (sz : Nat), D.2.2.2.2.2.2.2.1 < 6 * k + f → 6 * k ≤ D.2.2.2.2.2.2.2.1 → ST h B sz → Z D B xL_law (80 + 29 * k) (3000 + 877 * k) QL 18 (LSc D B (6 * k)) [] h sz := by
  intro f
  induction f with
  | zero => intro k h sz h1 h2; omega
  | succ f ih =>
    intro k h sz h1 h2 hST
    refine z_iload_n (pc := 18) (zk10 kL_law_0) rfl ?_
    refine z_aload_n (pc := 19) (zk11 kL_law_0) rfl ?_
    refine z_slen (pc := 20) (zk12 kL_law_0) ?_
    refine z_bipush (pc := 21) (zk13 kL_law_0) (v := 6) (by decide) ?_
    refine z_isub (pc := 23) (zk14 kL_law_0) ?_
    refine z_icmp_gt (pc := 24) (tgt := 2351) (zk15 kL_law_0) rfl (fun _ => ?_) (fun q => ?_)
    · refine z_iconst (pc := 2351) (zk3 kL_law_103) (v := 1) (by decide) ?_
      exact z_zret (pc := 2352) (zk4 kL_law_103) rfl (show 80 + 29 * k ≤ 600000 by omega) (show 3000 + 877 * k ≤ 7302250 by omega) (Or.inr rfl) rfl
    · have hi : 6 * k + 6 ≤ D.2.2.2.2.2.2.2.1 := by
        rcases Nat.lt_or_ge D.2.2.2.2.2.2.2.1 (6 * k + 6) with r | r
        · exact absurd ((i6 (by omega) (by omega)).mpr r) q
        · exact r
      refine z_aload_n (pc := 27) (zk0 kL_law_1) rfl ?_
      refine z_iload_n (pc := 28) (zk1 kL_law_1) rfl ?_
      refine z_sld (pc := 29) (zk2 kL_law_1) (vp_in_nI (by omega) (by omega)) ?_
      refine z_bipush (pc := 30) (zk3 kL_law_1) (v := 63) (by decide) ?_
      refine z_iand (pc := 32) (zk4 kL_law_1) ?_
      obtain ⟨c, hc, e⟩ := and63 (D.2.2.2.2.2.2.2.2 (nI (6 * k)).toNatClampNeg)
      rw [e]
      refine law_sw hi hl (by omega) (by omega) hST (fun h3 z3 hS3 => ?_) c hc
      refine z_iinc (pc := 2345) (zk1 kL_law_103) (x := nI (6 * k)) (v := nI (6 * (k + 1))) rfl (show nI (6 * k) + nI 6 = _ by rw [nI_add]; rfl) rfl rfl ?_
      refine z_goto (pc := 2348) (tgt := 18) (zk2 kL_law_103) rfl ?_
      exact z_cs (by omega) (by omega) (ih (k + 1) h3 z3 (by omega) (by omega) hS3)
theorem law_Z {D : zD} {B : Nat} (hl : D.2.2.2.2.2.2.2.1 ≤ 3072) : Z D B xL_law 0 0 QL 0 [some (.ref D.2.2.2.2.2.2.1), none, none, none] [] (fun _ => none) B := by
  refine z_new (pc := 0) (ci := 4) (N := 7) (fs := fs0X4) (zk0 kL_law_0) nwL_7 rfl (by decide) rfl rfl (fun _ => ?_)
  refine z_dup (pc := 3) (zk1 kL_law_0) rfl ?_
  refine z_callI (pc := 4) (st := [.ref B]) (zk2 kL_law_0) lkL_9 iiX4_init (c_I4 (p := B) zup_s (Nat.le_refl B)) rfl rfl rfl (fun r_ h1 z1 q1 => ?_) rfl
  obtain ⟨rfl, x1, x2, x3, u1, rfl⟩ := q1
  refine z_cs (a := 51) (b := 987) rfl rfl ?_
  show Z D B xL_law _ _ _ 7 [some (.ref D.2.2.2.2.2.2.1), none, none, none] [.ref B] _ _
  refine z_astore_n (pc := 7) (zk3 kL_law_0) rfl rfl ?_
  show Z D B xL_law _ _ _ 8 [some (.ref D.2.2.2.2.2.2.1), some (.ref B), none, none] [] _ _
  refine z_new (pc := 8) (ci := 5) (N := 41) (fs := fs0X5) (zk4 kL_law_0) nwL_10 rfl (by decide) rfl rfl (fun _ => ?_)
  have hU : Upd h1 (zup h1 (B + 51) (zO 5 fs0X5)) (B + 51) 1 := Upd.one
  have hno : (zup h1 (B + 51) (zO 5 fs0X5)) (B + 51) = some (zO 5 fs0X5) := zup_s
  generalize zup h1 (B + 51) (zO 5 fs0X5) = h2 at hU hno ⊢
  refine z_dup (pc := 11) (zk5 kL_law_0) rfl ?_
  refine z_callI (pc := 12) (st := [.ref (B + 51)]) (zk6 kL_law_0) lkL_12 iiX5_init (c_I5 (p := B + 51) hno (Nat.le_add_right B 51)) rfl rfl rfl (fun r_ h3 z3 q3 => ?_) rfl
  obtain ⟨rfl, m1, u2, rfl⟩ := q3
  refine z_cs (a := 80) (b := 1864) rfl rfl ?_
  show Z D B xL_law _ _ _ 15 [some (.ref D.2.2.2.2.2.2.1), some (.ref B), none, none] [.ref (B + 51)] _ _
  refine z_astore_n (pc := 15) (zk7 kL_law_0) rfl rfl ?_
  refine z_iconst (pc := 16) (zk8 kL_law_0) (v := 0) (by decide) ?_
  refine z_istore_n (pc := 17) (zk9 kL_law_0) rfl rfl ?_
  show Z D B xL_law _ _ _ 18 (LSc D B (6 * 0)) [] _ _
  refine z_wd (a := 80 + 29 * 0) (b := 3000 + 877 * 0) (by omega) (by omega) ?_
  refine law_lp hl (D.2.2.2.2.2.2.2.1 + 1) 0 _ _ (by omega) (by omega) ?_
  exact ⟨0, σ0, σ0, τ0, ε0, none, none, (x1.fr hU ⟨Or.inr (by omega), Or.inr (by omega), Or.inr (by omega)⟩).fr u2 ⟨Or.inr (by omega), Or.inr (by omega), Or.inr (by omega)⟩, (x2.fr hU (Or.inr (by omega))).fr u2 (Or.inr (by omega)), (x3.fr hU (Or.inr (by omega))).fr u2 (Or.inr (by omega)), ⟨τ0, fun _ => 0, m1⟩, ⟨Or.inl ⟨rfl, rfl⟩, Or.inl rfl, fun a b ha => by cases ha⟩, PW_0, fun q => absurd rfl q, by omega⟩
