set_option maxRecDepth 20000 in
theorem c_statement {D : zD} {B : Nat} {h : zH} {sz : Nat} {p : Nat} {σ τ ω : Ln} {ε : El} {mv : Nat → Int64} {kp tr : Option Nat} {N a n m : Nat} (hM : MoAt h p σ τ ω ε mv kp tr) (hN : τ 6 0 = nI N) (hN2 : N ≤ 250) (hLK : LK (τ 5) N ω a) (ha2 : a ≤ N) (hB : B ≤ p) (hn : σ 0 0 = nI n) (h12 : n ≤ 12) (hm : σ 9 0 = nI m) (h8 : m ≤ 8)  : zM D B xX5_statement [.ref p] h sz (mdQ h p sz N τ ω ε mv kp tr (stT (τ 5) N σ (skp (τ 5) N a))) := by
  have hU : Upd h h p 29 := Upd.rf
  obtain ⟨s_0, es_0⟩ : ∃ s_, s_ = skp (τ 5) N a := ⟨_, rfl⟩
  obtain ⟨l8_0, l9_0, l10_0, l11_0⟩ := id hLK
  rw [← es_0] at l8_0 l9_0 l10_0 l11_0
  have hs_0 := skp_ge (f := τ 5) (N := N) (a := a) (by omega)
  rw [← es_0] at hs_0
  have ht_0 := tkE_le (f := τ 5) (N := N) (s := s_0) hs_0.2
  have hk_0 := tkS_le (τ 5) N s_0
  refine zM.of (by decide) rfl (n := 2) ?_
  show Z D B xX5_statement 0 0 _ 0 [some (.ref p), none, none] [] h sz
  by_cases h1_ : tkS (τ 5) N s_0 = 1
  · have h9_ : ω 9 0 = nI 1 := by rw [l9_0, h1_]
    refine z_aload_n (pc := 0) (zk0 kX5_statement_0) rfl ?_
    refine z_ldcS (pc := 1) (zk1 kX5_statement_0) (tx := "houses") (i := 0) (by decide +kernel) ?_
    refine z_rdV (pc := 3) (zk2 kX5_statement_0) (st := []) lkX5_192 ivX5_isWord hM.1 rfl rfl (c_misW hM h9_ l10_0 l8_0 (by omega) (by decide)) rfl ⟨rfl, rfl⟩ rfl rfl ?_ rfl
    refine z_oif_eq (pc := 6) (zk3 kX5_statement_0) (tgt := 43) (by decide) (fun c_1 => ?_) (fun c_1 => ?_)
    · refine z_aload_n (pc := 43) (zk7 kX5_statement_1) rfl ?_
      refine z_ldcS (pc := 44) (zk8 kX5_statement_1) (tx := "letter") (i := 1) (by decide +kernel) ?_
      refine z_rdV (pc := 46) (zk9 kX5_statement_1) (st := []) lkX5_192 ivX5_isWord hM.1 rfl rfl (c_misW hM h9_ l10_0 l8_0 (by omega) (by decide)) rfl ⟨rfl, rfl⟩ rfl rfl ?_ rfl
      refine z_oif_eq (pc := 49) (zk10 kX5_statement_1) (tgt := 66) (by decide) (fun c_2 => ?_) (fun c_2 => ?_)
      · refine z_aload_n (pc := 66) (zk2 kX5_statement_2) rfl ?_
        refine z_ldcS (pc := 67) (zk3 kX5_statement_2) (tx := "wind") (i := 2) (by decide +kernel) ?_
        refine z_rdV (pc := 69) (zk4 kX5_statement_2) (st := []) lkX5_192 ivX5_isWord hM.1 rfl rfl (c_misW hM h9_ l10_0 l8_0 (by omega) (by decide)) rfl ⟨rfl, rfl⟩ rfl rfl ?_ rfl
        refine z_oif_ne (pc := 72) (zk5 kX5_statement_2) (tgt := 93) (by decide) (fun c_3 => ?_) (fun c_3 => ?_)
        · refine z_aload_n (pc := 93) (zk14 kX5_statement_2) rfl ?_
          refine z_efV (pc := 94) (zk15 kX5_statement_2) (st := []) lkX5_205 ivX5_tellsHouse hM.1 rfl rfl (c_tellsH2 hM hN hN2 l8_0 (by omega) (by omega) h9_ l10_0 ht_0.1 c_3 hn h12) rfl ⟨rfl, rfl⟩ rfl rfl (fun r_ h_5 z_ q_4 => ?_) rfl
          obtain ⟨⟨w_k_6, hq_, e14_k_6⟩, hU_7, ez_⟩ := q_4
          rw [ez_]
          clear ez_
          rcases hq_ with ⟨σ_k_6, e_k_6, hst_k_6, er_, hR, hLK_k_6⟩ | ⟨x_k_6, γ_k_6, hst_k_6, er_, hR, ef_k_6⟩
          · rw [er_]
            clear er_
            replace hU := hU.tr hU_7 (by omega) (by omega)
            replace hM := hR; clear hR
            show Z D B xX5_statement _ _ _ 97 _ [.int 1] _ _
            exact z_zret (pc := 97) (zk0 kX5_statement_3) rfl (Nat.zero_le _) (Nat.zero_le _) (by decide) ⟨⟨_, Or.inl ⟨_, _, by rw [stT, ← es_0, if_pos h1_, stW, if_neg (show ¬ wrd (τ 5) s_0 (tkE (τ 5) N s_0) 0 = true from by rw [c_1]; decide), if_neg (show ¬ wrd (τ 5) s_0 (tkE (τ 5) N s_0) 1 = true from by rw [c_2]; decide), if_pos c_3]; exact hst_k_6, rfl, hM, hLK_k_6⟩, e14_k_6⟩, hU, rfl⟩
          · rw [er_]
            clear er_
            replace hU := hU.tr hU_7 (by omega) (by omega)
            replace hM := hR; clear hR
            show Z D B xX5_statement _ _ _ 97 _ [.int 0] _ _
            exact z_zret (pc := 97) (zk0 kX5_statement_3) rfl (Nat.zero_le _) (Nat.zero_le _) (by decide) ⟨⟨_, Or.inr ⟨_, _, by rw [stT, ← es_0, if_pos h1_, stW, if_neg (show ¬ wrd (τ 5) s_0 (tkE (τ 5) N s_0) 0 = true from by rw [c_1]; decide), if_neg (show ¬ wrd (τ 5) s_0 (tkE (τ 5) N s_0) 1 = true from by rw [c_2]; decide), if_pos c_3]; exact hst_k_6, rfl, hM, ef_k_6⟩, e14_k_6⟩, hU, rfl⟩
        · refine z_aload_n (pc := 75) (zk6 kX5_statement_2) rfl ?_
          refine z_ldcS (pc := 76) (zk7 kX5_statement_2) (tx := "drink") (i := 3) (by decide +kernel) ?_
          refine z_rdV (pc := 78) (zk8 kX5_statement_2) (st := []) lkX5_192 ivX5_isWord hM.1 rfl rfl (c_misW hM h9_ l10_0 l8_0 (by omega) (by decide)) rfl ⟨rfl, rfl⟩ rfl rfl ?_ rfl
          refine z_oif_ne (pc := 81) (zk9 kX5_statement_2) (tgt := 93) (by decide) (fun c_8 => ?_) (fun c_8 => ?_)
          · refine z_aload_n (pc := 93) (zk14 kX5_statement_2) rfl ?_
            refine z_efV (pc := 94) (zk15 kX5_statement_2) (st := []) lkX5_205 ivX5_tellsHouse hM.1 rfl rfl (c_tellsH3 hM hN hN2 l8_0 (by omega) (by omega) h9_ l10_0 ht_0.1 c_8 hn h12) rfl ⟨rfl, rfl⟩ rfl rfl (fun r_ h_10 z_ q_9 => ?_) rfl
            obtain ⟨⟨w_k_11, hq_, e14_k_11⟩, hU_12, ez_⟩ := q_9
            rw [ez_]
            clear ez_
            rcases hq_ with ⟨σ_k_11, e_k_11, hst_k_11, er_, hR, hLK_k_11⟩ | ⟨x_k_11, γ_k_11, hst_k_11, er_, hR, ef_k_11⟩
            · rw [er_]
              clear er_
              replace hU := hU.tr hU_12 (by omega) (by omega)
              replace hM := hR; clear hR
              show Z D B xX5_statement _ _ _ 97 _ [.int 1] _ _
              exact z_zret (pc := 97) (zk0 kX5_statement_3) rfl (Nat.zero_le _) (Nat.zero_le _) (by decide) ⟨⟨_, Or.inl ⟨_, _, by rw [stT, ← es_0, if_pos h1_, stW, if_neg (show ¬ wrd (τ 5) s_0 (tkE (τ 5) N s_0) 0 = true from by rw [c_1]; decide), if_neg (show ¬ wrd (τ 5) s_0 (tkE (τ 5) N s_0) 1 = true from by rw [c_2]; decide), if_neg (show ¬ wrd (τ 5) s_0 (tkE (τ 5) N s_0) 2 = true from by rw [c_3]; decide), if_pos c_8]; exact hst_k_11, rfl, hM, hLK_k_11⟩, e14_k_11⟩, hU, rfl⟩
            · rw [er_]
              clear er_
              replace hU := hU.tr hU_12 (by omega) (by omega)
              replace hM := hR; clear hR
              show Z D B xX5_statement _ _ _ 97 _ [.int 0] _ _
              exact z_zret (pc := 97) (zk0 kX5_statement_3) rfl (Nat.zero_le _) (Nat.zero_le _) (by decide) ⟨⟨_, Or.inr ⟨_, _, by rw [stT, ← es_0, if_pos h1_, stW, if_neg (show ¬ wrd (τ 5) s_0 (tkE (τ 5) N s_0) 0 = true from by rw [c_1]; decide), if_neg (show ¬ wrd (τ 5) s_0 (tkE (τ 5) N s_0) 1 = true from by rw [c_2]; decide), if_neg (show ¬ wrd (τ 5) s_0 (tkE (τ 5) N s_0) 2 = true from by rw [c_3]; decide), if_pos c_8]; exact hst_k_11, rfl, hM, ef_k_11⟩, e14_k_11⟩, hU, rfl⟩
          · refine z_aload_n (pc := 84) (zk10 kX5_statement_2) rfl ?_
            refine z_ldcS (pc := 85) (zk11 kX5_statement_2) (tx := "code") (i := 4) (by decide +kernel) ?_
            refine z_rdV (pc := 87) (zk12 kX5_statement_2) (st := []) lkX5_192 ivX5_isWord hM.1 rfl rfl (c_misW hM h9_ l10_0 l8_0 (by omega) (by decide)) rfl ⟨rfl, rfl⟩ rfl rfl ?_ rfl
            refine z_oif_eq (pc := 90) (zk13 kX5_statement_2) (tgt := 98) (by decide) (fun c_13 => ?_) (fun c_13 => ?_)
            · refine z_aload_n (pc := 98) (zk1 kX5_statement_3) rfl ?_
              refine z_ldcS (pc := 99) (zk2 kX5_statement_3) (tx := "cold") (i := 5) (by decide +kernel) ?_
              refine z_rdV (pc := 101) (zk3 kX5_statement_3) (st := []) lkX5_192 ivX5_isWord hM.1 rfl rfl (c_misW hM h9_ l10_0 l8_0 (by omega) (by decide)) rfl ⟨rfl, rfl⟩ rfl rfl ?_ rfl
              refine z_oif_eq (pc := 104) (zk4 kX5_statement_3) (tgt := 138) (by decide) (fun c_14 => ?_) (fun c_14 => ?_)
              · refine z_aload_n (pc := 138) (zk7 kX5_statement_4) rfl ?_
                refine z_ldcS (pc := 139) (zk8 kX5_statement_4) (tx := "back") (i := 6) (by decide +kernel) ?_
                refine z_rdV (pc := 141) (zk9 kX5_statement_4) (st := []) lkX5_192 ivX5_isWord hM.1 rfl rfl (c_misW hM h9_ l10_0 l8_0 (by omega) (by decide)) rfl ⟨rfl, rfl⟩ rfl rfl ?_ rfl
                refine z_istore_n (pc := 144) (zk10 kX5_statement_4) rfl rfl ?_
                show Z D B xX5_statement _ _ _ 145 [some (.ref p), none, some (.int (oI (wrd (τ 5) s_0 (tkE (τ 5) N s_0) 6)))] _ _ _
                refine z_iload_n (pc := 145) (zk11 kX5_statement_4) rfl ?_
                refine z_oif_ne (pc := 146) (zk12 kX5_statement_4) (tgt := 158) (by decide) (fun c_15 => ?_) (fun c_15 => ?_)
                · rw [show wrd (τ 5) s_0 (tkE (τ 5) N s_0) 6 = true from c_15]
                  refine z_aload_n (pc := 158) (zk1 kX5_statement_5) rfl ?_
                  refine z_iload_n (pc := 159) (zk2 kX5_statement_5) rfl ?_
                  refine z_Mo_w15 (pc := 160) (zk3 kX5_statement_5) flX5_138 hM (by omega) (oI_01 _) (fun h_16 hR hU_17 => ?_)
                  replace hU := hU.tr hU_17 (by omega) (by omega)
                  replace hM := hR; clear hR
                  rw [show oI true = 1 from rfl] at hM
                  refine z_aload_n (pc := 163) (zk4 kX5_statement_5) rfl ?_
                  refine z_efV (pc := 164) (zk5 kX5_statement_5) (st := []) lkX5_181 ivX5_look hM.1 rfl rfl (c_look (a := tkE (τ 5) N s_0) hM hN hN2 l8_0 (by omega) (by omega)) rfl ⟨rfl, rfl⟩ rfl rfl (fun r_ h_19 z_ q_18 => ?_) rfl
                  obtain ⟨w_k_21, er_, hR, hLK_k_21, e12_k_21, e13_k_21, e14_k_21, hU_20, ez_⟩ := q_18
                  rw [er_, ez_]
                  clear er_ ez_
                  replace hU := hU.tr hU_20 (by omega) (by omega)
                  replace hM := hR; clear hR
                  obtain ⟨s_k_21, es_k_21⟩ : ∃ s_, s_ = skp (τ 5) N (tkE (τ 5) N s_0) := ⟨_, rfl⟩
                  obtain ⟨l8_k_21, l9_k_21, l10_k_21, l11_k_21⟩ := id hLK_k_21
                  rw [← es_k_21] at l8_k_21 l9_k_21 l10_k_21 l11_k_21
                  have hs_k_21 := skp_ge (f := τ 5) (N := N) (a := tkE (τ 5) N s_0) (by omega)
                  rw [← es_k_21] at hs_k_21
                  have ht_k_21 := tkE_le (f := τ 5) (N := N) (s := s_k_21) hs_k_21.2
                  have hk_k_21 := tkS_le (τ 5) N s_k_21
                  show Z D B xX5_statement _ _ _ 167 _ [] _ _
                  refine z_iconst (pc := 167) (zk6 kX5_statement_5) (v := 1) (by decide) ?_
                  exact z_zret (pc := 168) (zk7 kX5_statement_5) rfl (Nat.zero_le _) (Nat.zero_le _) (by decide) ⟨⟨_, Or.inl ⟨_, _, by rw [stT, ← es_0, if_pos h1_, stW, if_neg (show ¬ wrd (τ 5) s_0 (tkE (τ 5) N s_0) 0 = true from by rw [c_1]; decide), if_neg (show ¬ wrd (τ 5) s_0 (tkE (τ 5) N s_0) 1 = true from by rw [c_2]; decide), if_neg (show ¬ wrd (τ 5) s_0 (tkE (τ 5) N s_0) 2 = true from by rw [c_3]; decide), if_neg (show ¬ wrd (τ 5) s_0 (tkE (τ 5) N s_0) 3 = true from by rw [c_8]; decide), if_neg (show ¬ wrd (τ 5) s_0 (tkE (τ 5) N s_0) 4 = true from by rw [c_13]; decide), if_neg (show ¬ wrd (τ 5) s_0 (tkE (τ 5) N s_0) 5 = true from by rw [c_14]; decide), if_pos c_15], rfl, hM, hLK_k_21⟩, e14_k_21⟩, hU, rfl⟩
                · refine z_aload_n (pc := 149) (zk13 kX5_statement_4) rfl ?_
                  refine z_ldcS (pc := 150) (zk14 kX5_statement_4) (tx := "forth") (i := 7) (by decide +kernel) ?_
                  refine z_rdV (pc := 152) (zk15 kX5_statement_4) (st := []) lkX5_192 ivX5_isWord hM.1 rfl rfl (c_misW hM h9_ l10_0 l8_0 (by omega) (by decide)) rfl ⟨rfl, rfl⟩ rfl rfl ?_ rfl
                  refine z_oif_eq (pc := 155) (zk0 kX5_statement_5) (tgt := 169) (by decide) (fun c_22 => ?_) (fun c_22 => ?_)
                  · refine z_aload_n (pc := 169) (zk8 kX5_statement_5) rfl ?_
                    refine z_efV (pc := 170) (zk9 kX5_statement_5) (st := []) lkX5_177 ivX5_wrong hM.1 rfl rfl (c_wrong hM l10_0 (by omega)) rfl ⟨rfl, rfl⟩ rfl rfl (fun r_ h_24 z_ q_23 => ?_) rfl
                    obtain ⟨er_, hR, hU_25, ez_⟩ := q_23
                    rw [er_, ez_]
                    clear er_ ez_
                    replace hU := hU.tr hU_25 (by omega) (by omega)
                    replace hM := hR; clear hR
                    show Z D B xX5_statement _ _ _ 173 _ [.int 0] _ _
                    exact z_zret (pc := 173) (zk10 kX5_statement_5) rfl (Nat.zero_le _) (Nat.zero_le _) (by decide) ⟨⟨_, Or.inr ⟨_, _, by rw [stT, ← es_0, if_pos h1_, stW, if_neg (show ¬ wrd (τ 5) s_0 (tkE (τ 5) N s_0) 0 = true from by rw [c_1]; decide), if_neg (show ¬ wrd (τ 5) s_0 (tkE (τ 5) N s_0) 1 = true from by rw [c_2]; decide), if_neg (show ¬ wrd (τ 5) s_0 (tkE (τ 5) N s_0) 2 = true from by rw [c_3]; decide), if_neg (show ¬ wrd (τ 5) s_0 (tkE (τ 5) N s_0) 3 = true from by rw [c_8]; decide), if_neg (show ¬ wrd (τ 5) s_0 (tkE (τ 5) N s_0) 4 = true from by rw [c_13]; decide), if_neg (show ¬ wrd (τ 5) s_0 (tkE (τ 5) N s_0) 5 = true from by rw [c_14]; decide), if_neg (show ¬ wrd (τ 5) s_0 (tkE (τ 5) N s_0) 6 = true from by rw [c_15]; decide), if_neg (show ¬ wrd (τ 5) s_0 (tkE (τ 5) N s_0) 7 = true from by rw [c_22]; decide)], rfl, hM, rfl⟩, rfl⟩, hU, rfl⟩
                  · rw [show wrd (τ 5) s_0 (tkE (τ 5) N s_0) 6 = false from c_15]
                    refine z_aload_n (pc := 158) (zk1 kX5_statement_5) rfl ?_
                    refine z_iload_n (pc := 159) (zk2 kX5_statement_5) rfl ?_
                    refine z_Mo_w15 (pc := 160) (zk3 kX5_statement_5) flX5_138 hM (by omega) (oI_01 _) (fun h_26 hR hU_27 => ?_)
                    replace hU := hU.tr hU_27 (by omega) (by omega)
                    replace hM := hR; clear hR
                    rw [show oI false = 0 from rfl] at hM
                    refine z_aload_n (pc := 163) (zk4 kX5_statement_5) rfl ?_
                    refine z_efV (pc := 164) (zk5 kX5_statement_5) (st := []) lkX5_181 ivX5_look hM.1 rfl rfl (c_look (a := tkE (τ 5) N s_0) hM hN hN2 l8_0 (by omega) (by omega)) rfl ⟨rfl, rfl⟩ rfl rfl (fun r_ h_29 z_ q_28 => ?_) rfl
                    obtain ⟨w_k_31, er_, hR, hLK_k_31, e12_k_31, e13_k_31, e14_k_31, hU_30, ez_⟩ := q_28
                    rw [er_, ez_]
                    clear er_ ez_
                    replace hU := hU.tr hU_30 (by omega) (by omega)
                    replace hM := hR; clear hR
                    obtain ⟨s_k_31, es_k_31⟩ : ∃ s_, s_ = skp (τ 5) N (tkE (τ 5) N s_0) := ⟨_, rfl⟩
                    obtain ⟨l8_k_31, l9_k_31, l10_k_31, l11_k_31⟩ := id hLK_k_31
                    rw [← es_k_31] at l8_k_31 l9_k_31 l10_k_31 l11_k_31
                    have hs_k_31 := skp_ge (f := τ 5) (N := N) (a := tkE (τ 5) N s_0) (by omega)
                    rw [← es_k_31] at hs_k_31
                    have ht_k_31 := tkE_le (f := τ 5) (N := N) (s := s_k_31) hs_k_31.2
                    have hk_k_31 := tkS_le (τ 5) N s_k_31
                    show Z D B xX5_statement _ _ _ 167 _ [] _ _
                    refine z_iconst (pc := 167) (zk6 kX5_statement_5) (v := 1) (by decide) ?_
                    exact z_zret (pc := 168) (zk7 kX5_statement_5) rfl (Nat.zero_le _) (Nat.zero_le _) (by decide) ⟨⟨_, Or.inl ⟨_, _, by rw [stT, ← es_0, if_pos h1_, stW, if_neg (show ¬ wrd (τ 5) s_0 (tkE (τ 5) N s_0) 0 = true from by rw [c_1]; decide), if_neg (show ¬ wrd (τ 5) s_0 (tkE (τ 5) N s_0) 1 = true from by rw [c_2]; decide), if_neg (show ¬ wrd (τ 5) s_0 (tkE (τ 5) N s_0) 2 = true from by rw [c_3]; decide), if_neg (show ¬ wrd (τ 5) s_0 (tkE (τ 5) N s_0) 3 = true from by rw [c_8]; decide), if_neg (show ¬ wrd (τ 5) s_0 (tkE (τ 5) N s_0) 4 = true from by rw [c_13]; decide), if_neg (show ¬ wrd (τ 5) s_0 (tkE (τ 5) N s_0) 5 = true from by rw [c_14]; decide), if_neg (show ¬ wrd (τ 5) s_0 (tkE (τ 5) N s_0) 6 = true from by rw [c_15]; decide), if_pos c_22], rfl, hM, hLK_k_31⟩, e14_k_31⟩, hU, rfl⟩
              · refine z_aload_n (pc := 107) (zk5 kX5_statement_3) rfl ?_
                refine z_iconst (pc := 108) (zk6 kX5_statement_3) (v := 0) (by decide) ?_
                refine z_bipush (pc := 109) (zk7 kX5_statement_3) (v := 9) (by decide) ?_
                refine z_efV (pc := 111) (zk8 kX5_statement_3) (st := []) lkX5_188 ivX5_tells hM.1 rfl rfl (c_tells hM hN hN2 l8_0 (by omega) (by omega)) rfl ⟨rfl, rfl⟩ rfl rfl (fun r_ h_33 z_ q_32 => ?_) rfl
                obtain ⟨q_, hU_35, ez_⟩ := q_32
                rw [ez_]
                clear ez_
                rcases q_ with ⟨v_k_34, e_k_34, w_k_34, en_k_34, er_, hR, hLK_k_34, et_k_34, e14_k_34⟩ | ⟨x_k_34, w_k_34, en_k_34, er_, hR, ef_k_34, e14_k_34⟩
                · rw [er_]
                  clear er_
                  replace hU := hU.tr hU_35 (by omega) (by omega)
                  replace hM := hR; clear hR
                  have ho_k_34 := numR_ok (by omega) en_k_34
                  show Z D B xX5_statement _ _ _ 114 _ [.int 1] _ _
                  refine z_istore_n (pc := 114) (zk9 kX5_statement_3) rfl rfl ?_
                  show Z D B xX5_statement _ _ _ 115 [some (.ref p), some (.int 1), none] _ _ _
                  refine z_aload_n (pc := 115) (zk10 kX5_statement_3) rfl ?_
                  refine z_iload_n (pc := 116) (zk11 kX5_statement_3) rfl ?_
                  refine z_if_eq (pc := 117) (zk12 kX5_statement_3) (tgt := 129) (by decide) (fun q => absurd q (by decide)) (fun _ => ?_)
                  refine z_aload_n (pc := 120) (zk13 kX5_statement_3) rfl ?_
                  refine z_getf (pc := 121) (zk14 kX5_statement_3) flX5_68 hM.1 gMo_30 ?_
                  refine z_iconst (pc := 124) (zk15 kX5_statement_3) (v := 0) (by decide) ?_
                  refine z_ialdN (pc := 125) (zk0 kX5_statement_4) (f := w_k_34 13) (j := 0) hM.2.2.2.2.2.2.2.2.2.2.2.2.2.2.2.2.2.2.1 (by decide) rfl ?_
                  refine z_top (congrArg Value.int (show w_k_34 13 0 = v_k_34 from by simp [et_k_34, upd])) ?_
                  refine z_goto (pc := 126) (zk1 kX5_statement_4) (tgt := 133) (by decide) ?_
                  refine z_Mo_w14 (pc := 133) (zk4 kX5_statement_4) flX5_135 hM (by omega) (fun h_36 hR hU_37 => ?_)
                  replace hU := hU.tr hU_37 (by omega) (by omega)
                  replace hM := hR; clear hR
                  refine z_iload_n (pc := 136) (zk5 kX5_statement_4) rfl ?_
                  exact z_zret (pc := 137) (zk6 kX5_statement_4) rfl (Nat.zero_le _) (Nat.zero_le _) (by decide) ⟨⟨_, Or.inl ⟨_, _, by rw [stT, ← es_0, if_pos h1_, stW, if_neg (show ¬ wrd (τ 5) s_0 (tkE (τ 5) N s_0) 0 = true from by rw [c_1]; decide), if_neg (show ¬ wrd (τ 5) s_0 (tkE (τ 5) N s_0) 1 = true from by rw [c_2]; decide), if_neg (show ¬ wrd (τ 5) s_0 (tkE (τ 5) N s_0) 2 = true from by rw [c_3]; decide), if_neg (show ¬ wrd (τ 5) s_0 (tkE (τ 5) N s_0) 3 = true from by rw [c_8]; decide), if_neg (show ¬ wrd (τ 5) s_0 (tkE (τ 5) N s_0) 4 = true from by rw [c_13]; decide), if_pos c_14, st_cold, stN_y en_k_34], rfl, hM, hLK_k_34⟩, e14_k_34⟩, hU, rfl⟩
                · rw [er_]
                  clear er_
                  replace hU := hU.tr hU_35 (by omega) (by omega)
                  replace hM := hR; clear hR
                  show Z D B xX5_statement _ _ _ 114 _ [.int 0] _ _
                  refine z_istore_n (pc := 114) (zk9 kX5_statement_3) rfl rfl ?_
                  show Z D B xX5_statement _ _ _ 115 [some (.ref p), some (.int 0), none] _ _ _
                  refine z_aload_n (pc := 115) (zk10 kX5_statement_3) rfl ?_
                  refine z_iload_n (pc := 116) (zk11 kX5_statement_3) rfl ?_
                  refine z_if_eq (pc := 117) (zk12 kX5_statement_3) (tgt := 129) (by decide) (fun _ => ?_) (fun q => absurd (by decide) q)
                  refine z_aload_n (pc := 129) (zk2 kX5_statement_4) rfl ?_
                  refine z_getf (pc := 130) (zk3 kX5_statement_4) flX5_135 hM.1 (v := .int (σ 5 0)) rfl ?_
                  refine z_Mo_w14 (pc := 133) (zk4 kX5_statement_4) flX5_135 hM (by omega) (fun h_38 hR hU_39 => ?_)
                  replace hU := hU.tr hU_39 (by omega) (by omega)
                  replace hM := hR; clear hR
                  refine z_iload_n (pc := 136) (zk5 kX5_statement_4) rfl ?_
                  exact z_zret (pc := 137) (zk6 kX5_statement_4) rfl (Nat.zero_le _) (Nat.zero_le _) (by decide) ⟨⟨_, Or.inr ⟨_, _, by rw [stT, ← es_0, if_pos h1_, stW, if_neg (show ¬ wrd (τ 5) s_0 (tkE (τ 5) N s_0) 0 = true from by rw [c_1]; decide), if_neg (show ¬ wrd (τ 5) s_0 (tkE (τ 5) N s_0) 1 = true from by rw [c_2]; decide), if_neg (show ¬ wrd (τ 5) s_0 (tkE (τ 5) N s_0) 2 = true from by rw [c_3]; decide), if_neg (show ¬ wrd (τ 5) s_0 (tkE (τ 5) N s_0) 3 = true from by rw [c_8]; decide), if_neg (show ¬ wrd (τ 5) s_0 (tkE (τ 5) N s_0) 4 = true from by rw [c_13]; decide), if_pos c_14, st_cold, stN_n en_k_34], rfl, hM, ef_k_34⟩, e14_k_34⟩, hU, rfl⟩
            · refine z_aload_n (pc := 93) (zk14 kX5_statement_2) rfl ?_
              refine z_efV (pc := 94) (zk15 kX5_statement_2) (st := []) lkX5_205 ivX5_tellsHouse hM.1 rfl rfl (c_tellsH4 hM hN hN2 l8_0 (by omega) (by omega) h9_ l10_0 ht_0.1 c_13 hn h12) rfl ⟨rfl, rfl⟩ rfl rfl (fun r_ h_41 z_ q_40 => ?_) rfl
              obtain ⟨⟨w_k_42, hq_, e14_k_42⟩, hU_43, ez_⟩ := q_40
              rw [ez_]
              clear ez_
              rcases hq_ with ⟨σ_k_42, e_k_42, hst_k_42, er_, hR, hLK_k_42⟩ | ⟨x_k_42, γ_k_42, hst_k_42, er_, hR, ef_k_42⟩
              · rw [er_]
                clear er_
                replace hU := hU.tr hU_43 (by omega) (by omega)
                replace hM := hR; clear hR
                show Z D B xX5_statement _ _ _ 97 _ [.int 1] _ _
                exact z_zret (pc := 97) (zk0 kX5_statement_3) rfl (Nat.zero_le _) (Nat.zero_le _) (by decide) ⟨⟨_, Or.inl ⟨_, _, by rw [stT, ← es_0, if_pos h1_, stW, if_neg (show ¬ wrd (τ 5) s_0 (tkE (τ 5) N s_0) 0 = true from by rw [c_1]; decide), if_neg (show ¬ wrd (τ 5) s_0 (tkE (τ 5) N s_0) 1 = true from by rw [c_2]; decide), if_neg (show ¬ wrd (τ 5) s_0 (tkE (τ 5) N s_0) 2 = true from by rw [c_3]; decide), if_neg (show ¬ wrd (τ 5) s_0 (tkE (τ 5) N s_0) 3 = true from by rw [c_8]; decide), if_pos c_13]; exact hst_k_42, rfl, hM, hLK_k_42⟩, e14_k_42⟩, hU, rfl⟩
              · rw [er_]
                clear er_
                replace hU := hU.tr hU_43 (by omega) (by omega)
                replace hM := hR; clear hR
                show Z D B xX5_statement _ _ _ 97 _ [.int 0] _ _
                exact z_zret (pc := 97) (zk0 kX5_statement_3) rfl (Nat.zero_le _) (Nat.zero_le _) (by decide) ⟨⟨_, Or.inr ⟨_, _, by rw [stT, ← es_0, if_pos h1_, stW, if_neg (show ¬ wrd (τ 5) s_0 (tkE (τ 5) N s_0) 0 = true from by rw [c_1]; decide), if_neg (show ¬ wrd (τ 5) s_0 (tkE (τ 5) N s_0) 1 = true from by rw [c_2]; decide), if_neg (show ¬ wrd (τ 5) s_0 (tkE (τ 5) N s_0) 2 = true from by rw [c_3]; decide), if_neg (show ¬ wrd (τ 5) s_0 (tkE (τ 5) N s_0) 3 = true from by rw [c_8]; decide), if_pos c_13]; exact hst_k_42, rfl, hM, ef_k_42⟩, e14_k_42⟩, hU, rfl⟩
      · refine z_aload_n (pc := 52) (zk11 kX5_statement_1) rfl ?_
        refine z_getf (pc := 53) (zk12 kX5_statement_1) flX5_85 hM.1 (v := .int (nI m)) (by rw [← hm]; rfl) ?_
        refine z_bipush (pc := 56) (zk13 kX5_statement_1) (v := 8) (by decide) ?_
        refine z_icmp_ge (pc := 58) (zk14 kX5_statement_1) (tgt := 66) (by decide) (fun c_44 => ?_) (fun c_44 => ?_)
        · refine z_aload_n (pc := 66) (zk2 kX5_statement_2) rfl ?_
          refine z_ldcS (pc := 67) (zk3 kX5_statement_2) (tx := "wind") (i := 2) (by decide +kernel) ?_
          refine z_rdV (pc := 69) (zk4 kX5_statement_2) (st := []) lkX5_192 ivX5_isWord hM.1 rfl rfl (c_misW hM h9_ l10_0 l8_0 (by omega) (by decide)) rfl ⟨rfl, rfl⟩ rfl rfl ?_ rfl
          refine z_oif_ne (pc := 72) (zk5 kX5_statement_2) (tgt := 93) (by decide) (fun q => by rw [(wrd_ne (j := 2) c_2 (by decide))] at q; cases q) (fun _ => ?_)
          refine z_aload_n (pc := 75) (zk6 kX5_statement_2) rfl ?_
          refine z_ldcS (pc := 76) (zk7 kX5_statement_2) (tx := "drink") (i := 3) (by decide +kernel) ?_
          refine z_rdV (pc := 78) (zk8 kX5_statement_2) (st := []) lkX5_192 ivX5_isWord hM.1 rfl rfl (c_misW hM h9_ l10_0 l8_0 (by omega) (by decide)) rfl ⟨rfl, rfl⟩ rfl rfl ?_ rfl
          refine z_oif_ne (pc := 81) (zk9 kX5_statement_2) (tgt := 93) (by decide) (fun q => by rw [(wrd_ne (j := 3) c_2 (by decide))] at q; cases q) (fun _ => ?_)
          refine z_aload_n (pc := 84) (zk10 kX5_statement_2) rfl ?_
          refine z_ldcS (pc := 85) (zk11 kX5_statement_2) (tx := "code") (i := 4) (by decide +kernel) ?_
          refine z_rdV (pc := 87) (zk12 kX5_statement_2) (st := []) lkX5_192 ivX5_isWord hM.1 rfl rfl (c_misW hM h9_ l10_0 l8_0 (by omega) (by decide)) rfl ⟨rfl, rfl⟩ rfl rfl ?_ rfl
          refine z_oif_eq (pc := 90) (zk13 kX5_statement_2) (tgt := 98) (by decide) (fun _ => ?_) (fun q => by rw [(wrd_ne (j := 4) c_2 (by decide))] at q; cases q)
          refine z_aload_n (pc := 98) (zk1 kX5_statement_3) rfl ?_
          refine z_ldcS (pc := 99) (zk2 kX5_statement_3) (tx := "cold") (i := 5) (by decide +kernel) ?_
          refine z_rdV (pc := 101) (zk3 kX5_statement_3) (st := []) lkX5_192 ivX5_isWord hM.1 rfl rfl (c_misW hM h9_ l10_0 l8_0 (by omega) (by decide)) rfl ⟨rfl, rfl⟩ rfl rfl ?_ rfl
          refine z_oif_eq (pc := 104) (zk4 kX5_statement_3) (tgt := 138) (by decide) (fun _ => ?_) (fun q => by rw [(wrd_ne (j := 5) c_2 (by decide))] at q; cases q)
          refine z_aload_n (pc := 138) (zk7 kX5_statement_4) rfl ?_
          refine z_ldcS (pc := 139) (zk8 kX5_statement_4) (tx := "back") (i := 6) (by decide +kernel) ?_
          refine z_rdV (pc := 141) (zk9 kX5_statement_4) (st := []) lkX5_192 ivX5_isWord hM.1 rfl rfl (c_misW hM h9_ l10_0 l8_0 (by omega) (by decide)) rfl ⟨rfl, rfl⟩ rfl rfl ?_ rfl
          refine z_istore_n (pc := 144) (zk10 kX5_statement_4) rfl rfl ?_
          show Z D B xX5_statement _ _ _ 145 [some (.ref p), none, some (.int (oI (wrd (τ 5) s_0 (tkE (τ 5) N s_0) 6)))] _ _ _
          refine z_iload_n (pc := 145) (zk11 kX5_statement_4) rfl ?_
          refine z_oif_ne (pc := 146) (zk12 kX5_statement_4) (tgt := 158) (by decide) (fun q => by rw [(wrd_ne (j := 6) c_2 (by decide))] at q; cases q) (fun _ => ?_)
          refine z_aload_n (pc := 149) (zk13 kX5_statement_4) rfl ?_
          refine z_ldcS (pc := 150) (zk14 kX5_statement_4) (tx := "forth") (i := 7) (by decide +kernel) ?_
          refine z_rdV (pc := 152) (zk15 kX5_statement_4) (st := []) lkX5_192 ivX5_isWord hM.1 rfl rfl (c_misW hM h9_ l10_0 l8_0 (by omega) (by decide)) rfl ⟨rfl, rfl⟩ rfl rfl ?_ rfl
          refine z_oif_eq (pc := 155) (zk0 kX5_statement_5) (tgt := 169) (by decide) (fun _ => ?_) (fun q => by rw [(wrd_ne (j := 7) c_2 (by decide))] at q; cases q)
          refine z_aload_n (pc := 169) (zk8 kX5_statement_5) rfl ?_
          refine z_efV (pc := 170) (zk9 kX5_statement_5) (st := []) lkX5_177 ivX5_wrong hM.1 rfl rfl (c_wrong hM l10_0 (by omega)) rfl ⟨rfl, rfl⟩ rfl rfl (fun r_ h_46 z_ q_45 => ?_) rfl
          obtain ⟨er_, hR, hU_47, ez_⟩ := q_45
          rw [er_, ez_]
          clear er_ ez_
          replace hU := hU.tr hU_47 (by omega) (by omega)
          replace hM := hR; clear hR
          show Z D B xX5_statement _ _ _ 173 _ [.int 0] _ _
          exact z_zret (pc := 173) (zk10 kX5_statement_5) rfl (Nat.zero_le _) (Nat.zero_le _) (by decide) ⟨⟨_, Or.inr ⟨_, _, by rw [stT, ← es_0, if_pos h1_, stW, if_neg (show ¬ wrd (τ 5) s_0 (tkE (τ 5) N s_0) 0 = true from by rw [c_1]; decide), if_pos c_2, if_pos (show σ 9 0 = 8 from by rw [hm, nI_ge_yes (a := 8) (i := m) (by omega) (by omega) (by omega) c_44]; rfl)], rfl, hM, rfl⟩, rfl⟩, hU, rfl⟩
        · have hm8 : m < 8 := nI_ge_not (a := 8) (by omega) (by omega) c_44
          refine z_aload_n (pc := 61) (zk15 kX5_statement_1) rfl ?_
          refine z_efV (pc := 62) (zk0 kX5_statement_2) (st := []) lkX5_201 ivX5_tellsLetter hM.1 rfl rfl (c_tellsLetter (n := n) hM hN hN2 l8_0 (by omega) (by omega) hm hm8) rfl ⟨rfl, rfl⟩ rfl rfl (fun r_ h_49 z_ q_48 => ?_) rfl
          obtain ⟨⟨w_k_50, hq_, e14_k_50⟩, hU_51, ez_⟩ := q_48
          rw [ez_]
          clear ez_
          rcases hq_ with ⟨σ_k_50, e_k_50, hst_k_50, er_, hR, hLK_k_50⟩ | ⟨x_k_50, γ_k_50, hst_k_50, er_, hR, ef_k_50⟩
          · rw [er_]
            clear er_
            replace hU := hU.tr hU_51 (by omega) (by omega)
            replace hM := hR; clear hR
            show Z D B xX5_statement _ _ _ 65 _ [.int 1] _ _
            exact z_zret (pc := 65) (zk1 kX5_statement_2) rfl (Nat.zero_le _) (Nat.zero_le _) (by decide) ⟨⟨_, Or.inl ⟨_, _, by rw [stT, ← es_0, if_pos h1_, stW, if_neg (show ¬ wrd (τ 5) s_0 (tkE (τ 5) N s_0) 0 = true from by rw [c_1]; decide), if_pos c_2, if_neg (show ¬ σ 9 0 = 8 from by rw [hm]; intro q; have := (nI_eqI (a := m) (b := 8) (by omega) (by omega)).mp q; omega)]; exact hst_k_50, rfl, hM, hLK_k_50⟩, e14_k_50⟩, hU, rfl⟩
          · rw [er_]
            clear er_
            replace hU := hU.tr hU_51 (by omega) (by omega)
            replace hM := hR; clear hR
            show Z D B xX5_statement _ _ _ 65 _ [.int 0] _ _
            exact z_zret (pc := 65) (zk1 kX5_statement_2) rfl (Nat.zero_le _) (Nat.zero_le _) (by decide) ⟨⟨_, Or.inr ⟨_, _, by rw [stT, ← es_0, if_pos h1_, stW, if_neg (show ¬ wrd (τ 5) s_0 (tkE (τ 5) N s_0) 0 = true from by rw [c_1]; decide), if_pos c_2, if_neg (show ¬ σ 9 0 = 8 from by rw [hm]; intro q; have := (nI_eqI (a := m) (b := 8) (by omega) (by omega)).mp q; omega)]; exact hst_k_50, rfl, hM, ef_k_50⟩, e14_k_50⟩, hU, rfl⟩
    · refine z_aload_n (pc := 9) (zk4 kX5_statement_0) rfl ?_
      refine z_aload_n (pc := 10) (zk5 kX5_statement_0) rfl ?_
      refine z_getf (pc := 11) (zk6 kX5_statement_0) flX5_37 hM.1 (v := .int (σ 0 0)) rfl ?_
      refine z_bipush (pc := 14) (zk7 kX5_statement_0) (v := 12) (by decide) ?_
      refine z_efV (pc := 16) (zk8 kX5_statement_0) (st := []) lkX5_188 ivX5_tells hM.1 rfl rfl (c_tells hM hN hN2 l8_0 (by omega) (by omega)) rfl ⟨rfl, rfl⟩ rfl rfl (fun r_ h_53 z_ q_52 => ?_) rfl
      obtain ⟨q_, hU_55, ez_⟩ := q_52
      rw [ez_]
      clear ez_
      rcases q_ with ⟨v_k_54, e_k_54, w_k_54, en_k_54, er_, hR, hLK_k_54, et_k_54, e14_k_54⟩ | ⟨x_k_54, w_k_54, en_k_54, er_, hR, ef_k_54, e14_k_54⟩
      · rw [er_]
        clear er_
        replace hU := hU.tr hU_55 (by omega) (by omega)
        replace hM := hR; clear hR
        have ho_k_54 := numR_ok (by omega) en_k_54
        show Z D B xX5_statement _ _ _ 19 _ [.int 1] _ _
        refine z_istore_n (pc := 19) (zk9 kX5_statement_0) rfl rfl ?_
        show Z D B xX5_statement _ _ _ 20 [some (.ref p), some (.int 1), none] _ _ _
        refine z_aload_n (pc := 20) (zk10 kX5_statement_0) rfl ?_
        refine z_iload_n (pc := 21) (zk11 kX5_statement_0) rfl ?_
        refine z_if_eq (pc := 22) (zk12 kX5_statement_0) (tgt := 34) (by decide) (fun q => absurd q (by decide)) (fun _ => ?_)
        refine z_aload_n (pc := 25) (zk13 kX5_statement_0) rfl ?_
        refine z_getf (pc := 26) (zk14 kX5_statement_0) flX5_68 hM.1 gMo_30 ?_
        refine z_iconst (pc := 29) (zk15 kX5_statement_0) (v := 0) (by decide) ?_
        refine z_ialdN (pc := 30) (zk0 kX5_statement_1) (f := w_k_54 13) (j := 0) hM.2.2.2.2.2.2.2.2.2.2.2.2.2.2.2.2.2.2.1 (by decide) rfl ?_
        refine z_top (congrArg Value.int (show w_k_54 13 0 = v_k_54 from by simp [et_k_54, upd])) ?_
        refine z_goto (pc := 31) (zk1 kX5_statement_1) (tgt := 38) (by decide) ?_
        refine z_Mo_w9 (pc := 38) (zk4 kX5_statement_1) flX5_37 hM (by omega) (fun h_56 hR hU_57 => ?_)
        replace hU := hU.tr hU_57 (by omega) (by omega)
        replace hM := hR; clear hR
        refine z_iload_n (pc := 41) (zk5 kX5_statement_1) rfl ?_
        exact z_zret (pc := 42) (zk6 kX5_statement_1) rfl (Nat.zero_le _) (Nat.zero_le _) (by decide) ⟨⟨_, Or.inl ⟨_, _, by rw [stT, ← es_0, if_pos h1_, stW, if_pos c_1, st_houses, stN_y en_k_54], rfl, hM, hLK_k_54⟩, e14_k_54⟩, hU, rfl⟩
      · rw [er_]
        clear er_
        replace hU := hU.tr hU_55 (by omega) (by omega)
        replace hM := hR; clear hR
        show Z D B xX5_statement _ _ _ 19 _ [.int 0] _ _
        refine z_istore_n (pc := 19) (zk9 kX5_statement_0) rfl rfl ?_
        show Z D B xX5_statement _ _ _ 20 [some (.ref p), some (.int 0), none] _ _ _
        refine z_aload_n (pc := 20) (zk10 kX5_statement_0) rfl ?_
        refine z_iload_n (pc := 21) (zk11 kX5_statement_0) rfl ?_
        refine z_if_eq (pc := 22) (zk12 kX5_statement_0) (tgt := 34) (by decide) (fun _ => ?_) (fun q => absurd (by decide) q)
        refine z_aload_n (pc := 34) (zk2 kX5_statement_1) rfl ?_
        refine z_getf (pc := 35) (zk3 kX5_statement_1) flX5_37 hM.1 (v := .int (σ 0 0)) rfl ?_
        refine z_Mo_w9 (pc := 38) (zk4 kX5_statement_1) flX5_37 hM (by omega) (fun h_58 hR hU_59 => ?_)
        replace hU := hU.tr hU_59 (by omega) (by omega)
        replace hM := hR; clear hR
        refine z_iload_n (pc := 41) (zk5 kX5_statement_1) rfl ?_
        exact z_zret (pc := 42) (zk6 kX5_statement_1) rfl (Nat.zero_le _) (Nat.zero_le _) (by decide) ⟨⟨_, Or.inr ⟨_, _, by rw [stT, ← es_0, if_pos h1_, stW, if_pos c_1, st_houses, stN_n en_k_54], rfl, hM, ef_k_54⟩, e14_k_54⟩, hU, rfl⟩
  · have h9_ : ¬ ω 9 0 = 1 := by rw [l9_0]; exact fun q => h1_ ((nI_eqI (b := 1) (by omega) (by omega)).mp q)
    refine z_aload_n (pc := 0) (zk0 kX5_statement_0) rfl ?_
    refine z_ldcS (pc := 1) (zk1 kX5_statement_0) (tx := "houses") (i := 0) (by decide +kernel) ?_
    refine z_rdV (pc := 3) (zk2 kX5_statement_0) (st := []) lkX5_192 ivX5_isWord hM.1 rfl rfl (c_misN (x := 0) hM h9_ (by decide)) rfl ⟨rfl, rfl⟩ rfl rfl ?_ rfl
    refine z_if_eq (pc := 6) (zk3 kX5_statement_0) (tgt := 43) (by decide) (fun _ => ?_) (fun q => absurd (by decide) q)
    refine z_aload_n (pc := 43) (zk7 kX5_statement_1) rfl ?_
    refine z_ldcS (pc := 44) (zk8 kX5_statement_1) (tx := "letter") (i := 1) (by decide +kernel) ?_
    refine z_rdV (pc := 46) (zk9 kX5_statement_1) (st := []) lkX5_192 ivX5_isWord hM.1 rfl rfl (c_misN (x := 0) hM h9_ (by decide)) rfl ⟨rfl, rfl⟩ rfl rfl ?_ rfl
    refine z_if_eq (pc := 49) (zk10 kX5_statement_1) (tgt := 66) (by decide) (fun _ => ?_) (fun q => absurd (by decide) q)
    refine z_aload_n (pc := 66) (zk2 kX5_statement_2) rfl ?_
    refine z_ldcS (pc := 67) (zk3 kX5_statement_2) (tx := "wind") (i := 2) (by decide +kernel) ?_
    refine z_rdV (pc := 69) (zk4 kX5_statement_2) (st := []) lkX5_192 ivX5_isWord hM.1 rfl rfl (c_misN (x := 0) hM h9_ (by decide)) rfl ⟨rfl, rfl⟩ rfl rfl ?_ rfl
    refine z_if_ne (pc := 72) (zk5 kX5_statement_2) (tgt := 93) (by decide) (fun q => absurd (by decide) q) (fun _ => ?_)
    refine z_aload_n (pc := 75) (zk6 kX5_statement_2) rfl ?_
    refine z_ldcS (pc := 76) (zk7 kX5_statement_2) (tx := "drink") (i := 3) (by decide +kernel) ?_
    refine z_rdV (pc := 78) (zk8 kX5_statement_2) (st := []) lkX5_192 ivX5_isWord hM.1 rfl rfl (c_misN (x := 0) hM h9_ (by decide)) rfl ⟨rfl, rfl⟩ rfl rfl ?_ rfl
    refine z_if_ne (pc := 81) (zk9 kX5_statement_2) (tgt := 93) (by decide) (fun q => absurd (by decide) q) (fun _ => ?_)
    refine z_aload_n (pc := 84) (zk10 kX5_statement_2) rfl ?_
    refine z_ldcS (pc := 85) (zk11 kX5_statement_2) (tx := "code") (i := 4) (by decide +kernel) ?_
    refine z_rdV (pc := 87) (zk12 kX5_statement_2) (st := []) lkX5_192 ivX5_isWord hM.1 rfl rfl (c_misN (x := 0) hM h9_ (by decide)) rfl ⟨rfl, rfl⟩ rfl rfl ?_ rfl
    refine z_if_eq (pc := 90) (zk13 kX5_statement_2) (tgt := 98) (by decide) (fun _ => ?_) (fun q => absurd (by decide) q)
    refine z_aload_n (pc := 98) (zk1 kX5_statement_3) rfl ?_
    refine z_ldcS (pc := 99) (zk2 kX5_statement_3) (tx := "cold") (i := 5) (by decide +kernel) ?_
    refine z_rdV (pc := 101) (zk3 kX5_statement_3) (st := []) lkX5_192 ivX5_isWord hM.1 rfl rfl (c_misN (x := 0) hM h9_ (by decide)) rfl ⟨rfl, rfl⟩ rfl rfl ?_ rfl
    refine z_if_eq (pc := 104) (zk4 kX5_statement_3) (tgt := 138) (by decide) (fun _ => ?_) (fun q => absurd (by decide) q)
    refine z_aload_n (pc := 138) (zk7 kX5_statement_4) rfl ?_
    refine z_ldcS (pc := 139) (zk8 kX5_statement_4) (tx := "back") (i := 6) (by decide +kernel) ?_
    refine z_rdV (pc := 141) (zk9 kX5_statement_4) (st := []) lkX5_192 ivX5_isWord hM.1 rfl rfl (c_misN (x := 0) hM h9_ (by decide)) rfl ⟨rfl, rfl⟩ rfl rfl ?_ rfl
    refine z_istore_n (pc := 144) (zk10 kX5_statement_4) rfl rfl ?_
    show Z D B xX5_statement _ _ _ 145 [some (.ref p), none, some (.int 0)] _ _ _
    refine z_iload_n (pc := 145) (zk11 kX5_statement_4) rfl ?_
    refine z_if_ne (pc := 146) (zk12 kX5_statement_4) (tgt := 158) (by decide) (fun q => absurd (by decide) q) (fun _ => ?_)
    refine z_aload_n (pc := 149) (zk13 kX5_statement_4) rfl ?_
    refine z_ldcS (pc := 150) (zk14 kX5_statement_4) (tx := "forth") (i := 7) (by decide +kernel) ?_
    refine z_rdV (pc := 152) (zk15 kX5_statement_4) (st := []) lkX5_192 ivX5_isWord hM.1 rfl rfl (c_misN (x := 0) hM h9_ (by decide)) rfl ⟨rfl, rfl⟩ rfl rfl ?_ rfl
    refine z_if_eq (pc := 155) (zk0 kX5_statement_5) (tgt := 169) (by decide) (fun _ => ?_) (fun q => absurd (by decide) q)
    refine z_aload_n (pc := 169) (zk8 kX5_statement_5) rfl ?_
    refine z_efV (pc := 170) (zk9 kX5_statement_5) (st := []) lkX5_177 ivX5_wrong hM.1 rfl rfl (c_wrong hM l10_0 (by omega)) rfl ⟨rfl, rfl⟩ rfl rfl (fun r_ h_61 z_ q_60 => ?_) rfl
    obtain ⟨er_, hR, hU_62, ez_⟩ := q_60
    rw [er_, ez_]
    clear er_ ez_
    replace hU := hU.tr hU_62 (by omega) (by omega)
    replace hM := hR; clear hR
    show Z D B xX5_statement _ _ _ 173 _ [.int 0] _ _
    exact z_zret (pc := 173) (zk10 kX5_statement_5) rfl (Nat.zero_le _) (Nat.zero_le _) (by decide) ⟨⟨_, Or.inr ⟨_, _, by rw [stT, ← es_0, if_neg h1_], rfl, hM, rfl⟩, rfl⟩, hU, rfl⟩
def rdC (f : Nat → Int32) (N d : Nat) (σ : Ln) (e c : Nat) : Except Nat (Ln × Nat) := if tkS f N (skp f N e) = 0 then .ok (σ, c) else if tkS f N (skp f N e) = 3 then rdA f N d σ (tkE f N (skp f N e)) c else .error (skp f N e)
theorem rdA_c {f : Nat → Int32} {N d a c e : Nat} {σ σ1 : Ln} (h : stT f N σ (skp f N a) = .ok (σ1, e)) : rdA f N (d + 1) σ a c = rdC f N d σ1 e (c + 1) := by rw [rdA, h]; rfl
set_option maxRecDepth 20000 in
theorem c_readAll {D : zD} {B : Nat} {h : zH} {sz : Nat} {p : Nat} {σ τ ω : Ln} {ε : El} {mv : Nat → Int64} {kp tr : Option Nat} {N n m : Nat} (hM : MoAt h p σ τ ω ε mv kp tr) (hN : τ 6 0 = nI N) (hN2 : N ≤ 250) (hB : B ≤ p) (hW : LW σ n m) : zM D B xX5_readAll [.ref p] h sz (fun r h1 z1 => (∃ ω1 : Ln, (∃ σ1 c, rdA (τ 5) N 251 σ 0 0 = .ok (σ1, c) ∧ r = some (.int 1) ∧ MoAt h1 p σ1 τ ω1 ε mv kp tr ∧ ω1 14 0 = nI c) ∨ (∃ x γ, rdA (τ 5) N 251 σ 0 0 = .error x ∧ r = some (.int 0) ∧ MoAt h1 p γ τ ω1 ε mv kp tr ∧ ω1 12 0 = nI x)) ∧ Upd h h1 p 29 ∧ z1 = sz) := by
  have hU : Upd h h p 29 := Upd.rf
  refine zM.of (by decide) rfl (n := 0) ?_
  show Z D B xX5_readAll 0 0 _ 0 [some (.ref p)] [] h sz
  refine z_aload_n (pc := 0) (zk0 kX5_readAll_0) rfl ?_
  refine z_iconst (pc := 1) (zk1 kX5_readAll_0) (v := 1) (by decide) ?_
  refine z_Mo_w31 (pc := 2) (zk2 kX5_readAll_0) flX5_213 hM (by omega) (fun h_1 hR hU_2 => ?_)
  replace hU := hU.tr hU_2 (by omega) (by omega)
  replace hM := hR; clear hR
  refine z_aload_n (pc := 5) (zk3 kX5_readAll_0) rfl ?_
  refine z_iconst (pc := 6) (zk4 kX5_readAll_0) (v := 0) (by decide) ?_
  refine z_Mo_w25 (pc := 7) (zk5 kX5_readAll_0) flX5_147 hM (by omega) (fun h_3 hR hU_4 => ?_)
  replace hU := hU.tr hU_4 (by omega) (by omega)
  replace hM := hR; clear hR
  refine z_aload_n (pc := 10) (zk6 kX5_readAll_0) rfl ?_
  refine z_efV (pc := 11) (zk7 kX5_readAll_0) (st := []) lkX5_181 ivX5_look hM.1 rfl rfl (c_look (a := 0) hM hN hN2 rfl (by omega) (by omega)) rfl ⟨rfl, rfl⟩ rfl rfl (fun r_ h_6 z_ q_5 => ?_) rfl
  obtain ⟨w_k_8, er_, hR, hLK_k_8, e12_k_8, e13_k_8, e14_k_8, hU_7, ez_⟩ := q_5
  rw [er_, ez_]
  clear er_ ez_
  replace hU := hU.tr hU_7 (by omega) (by omega)
  replace hM := hR; clear hR
  obtain ⟨s_k_8, es_k_8⟩ : ∃ s_, s_ = skp (τ 5) N 0 := ⟨_, rfl⟩
  obtain ⟨l8_k_8, l9_k_8, l10_k_8, l11_k_8⟩ := id hLK_k_8
  rw [← es_k_8] at l8_k_8 l9_k_8 l10_k_8 l11_k_8
  have hs_k_8 := skp_ge (f := τ 5) (N := N) (a := 0) (by omega)
  rw [← es_k_8] at hs_k_8
  have ht_k_8 := tkE_le (f := τ 5) (N := N) (s := s_k_8) hs_k_8.2
  have hk_k_8 := tkS_le (τ 5) N s_k_8
  show Z D B xX5_readAll _ _ _ 14 _ [] _ _
  refine z_aload_n (pc := 14) (zk8 kX5_readAll_0) rfl ?_
  refine z_efV (pc := 15) (zk9 kX5_readAll_0) (st := []) lkX5_216 ivX5_statement hM.1 rfl rfl (c_statement (a := 0) hM hN hN2 hLK_k_8 (by omega) (by omega) hW.1 hW.2.1.2 hW.2.2.1 hW.2.2.2.1) rfl ⟨rfl, rfl⟩ rfl rfl (fun r_ h_10 z_ q_9 => ?_) rfl
  obtain ⟨⟨w_k_11, hq_, e14_k_11⟩, hU_12, ez_⟩ := q_9
  rw [ez_]
  clear ez_
  rcases hq_ with ⟨σ_k_11, e_k_11, hst_k_11, er_, hR, hLK_k_11⟩ | ⟨x_k_11, γ_k_11, hst_k_11, er_, hR, ef_k_11⟩
  · rw [er_]
    clear er_
    replace hU := hU.tr hU_12 (by omega) (by omega)
    replace hM := hR; clear hR
    show Z D B xX5_readAll _ _ _ 18 _ [.int 1] _ _
    refine z_if_ne (pc := 18) (zk10 kX5_readAll_0) (tgt := 23) (by decide) (fun _ => ?_) (fun q => absurd q (by decide))
    have hse_k_11 := (stT_ok (a := 0) (by omega)).2 _ _ hst_k_11
    have hW1 := stT_lw hW (skp_ge (a := 0) (by omega)).2 _ _ hst_k_11
    have lp23 : ∀ (n_ : Nat) (g : zH) (w1 : Ln) (s1 : Ln) (e : Nat) (k : Nat), 251 - k < n_ → (MoAt g p s1 τ w1 ε mv kp tr) → (LK (τ 5) N w1 e) → (w1 14 0 = nI k) → (∃ n m, LW s1 n m) → (k ≤ e ∧ e ≤ N) → (rdC (τ 5) N (251 - k) s1 e k = rdA (τ 5) N 251 σ 0 0) → (Upd h g p 29) → Z D B xX5_readAll 0 0 (fun r h1 z1 => (∃ ω1 : Ln, (∃ σ1 c, rdA (τ 5) N 251 σ 0 0 = .ok (σ1, c) ∧ r = some (.int 1) ∧ MoAt h1 p σ1 τ ω1 ε mv kp tr ∧ ω1 14 0 = nI c) ∨ (∃ x γ, rdA (τ 5) N 251 σ 0 0 = .error x ∧ r = some (.int 0) ∧ MoAt h1 p γ τ ω1 ε mv kp tr ∧ ω1 12 0 = nI x)) ∧ Upd h h1 p 29 ∧ z1 = sz) 23 [some (.ref p)] [] g sz := by
      intro n_
      induction n_ with
      | zero => intro g w1 s1 e k hm_; exact absurd hm_ (Nat.not_lt_zero _)
      | succ n_ ih23 =>
        intro g w1 s1 e k hm_ hM hLK h14 hW hk hR hU
        obtain ⟨n, m, hW⟩ := hW
        obtain ⟨s_l, es_l⟩ : ∃ s_, s_ = skp (τ 5) N e := ⟨_, rfl⟩
        obtain ⟨l8_l, l9_l, l10_l, l11_l⟩ := id hLK
        rw [← es_l] at l8_l l9_l l10_l l11_l
        have hs_l := skp_ge (f := τ 5) (N := N) (a := e) (by omega)
        rw [← es_l] at hs_l
        have ht_l := tkE_le (f := τ 5) (N := N) (s := s_l) hs_l.2
        have hk_l := tkS_le (τ 5) N s_l
        refine z_aload_n (pc := 23) (zk13 kX5_readAll_0) rfl ?_
        refine z_getf (pc := 24) (zk14 kX5_readAll_0) flX5_156 hM.1 (v := .int (nI (tkS (τ 5) N s_l))) (by rw [← l9_l]; rfl) ?_
        refine z_if_eq (pc := 27) (zk15 kX5_readAll_0) (tgt := 69) (by decide) (fun c_13 => ?_) (fun c_13 => ?_)
        · refine z_iconst (pc := 69) (zk5 kX5_readAll_2) (v := 1) (by decide) ?_
          exact z_zret (pc := 70) (zk6 kX5_readAll_2) rfl (Nat.zero_le _) (Nat.zero_le _) (by decide) ⟨⟨_, Or.inl ⟨_, _, by rw [← hR, rdC, ← es_l, if_pos ((nI_eqI (b := 0) (by omega) (by omega)).mp c_13)], rfl, hM, h14⟩⟩, hU, rfl⟩
        · refine z_aload_n (pc := 30) (zk0 kX5_readAll_1) rfl ?_
          refine z_getf (pc := 31) (zk1 kX5_readAll_1) flX5_156 hM.1 (v := .int (nI (tkS (τ 5) N s_l))) (by rw [← l9_l]; rfl) ?_
          refine z_iconst (pc := 34) (zk2 kX5_readAll_1) (v := 3) (by decide) ?_
          refine z_icmp_eq (pc := 35) (zk3 kX5_readAll_1) (tgt := 43) (by decide) (fun c_14 => ?_) (fun c_14 => ?_)
          · have hk3 : tkS (τ 5) N s_l = 3 := (nI_eqI (b := 3) (by omega) (by omega)).mp c_14
            refine z_aload_n (pc := 43) (zk7 kX5_readAll_1) rfl ?_
            refine z_efV (pc := 44) (zk8 kX5_readAll_1) (st := []) lkX5_181 ivX5_look hM.1 rfl rfl (c_look (a := tkE (τ 5) N s_l) hM hN hN2 l8_l (by omega) (by omega)) rfl ⟨rfl, rfl⟩ rfl rfl (fun r_ h_16 z_ q_15 => ?_) rfl
            obtain ⟨w_k_18, er_, hR, hLK_k_18, e12_k_18, e13_k_18, e14_k_18, hU_17, ez_⟩ := q_15
            rw [er_, ez_]
            clear er_ ez_
            replace hU := hU.tr hU_17 (by omega) (by omega)
            replace hM := hR; clear hR
            obtain ⟨s_k_18, es_k_18⟩ : ∃ s_, s_ = skp (τ 5) N (tkE (τ 5) N s_l) := ⟨_, rfl⟩
            obtain ⟨l8_k_18, l9_k_18, l10_k_18, l11_k_18⟩ := id hLK_k_18
            rw [← es_k_18] at l8_k_18 l9_k_18 l10_k_18 l11_k_18
            have hs_k_18 := skp_ge (f := τ 5) (N := N) (a := tkE (τ 5) N s_l) (by omega)
            rw [← es_k_18] at hs_k_18
            have ht_k_18 := tkE_le (f := τ 5) (N := N) (s := s_k_18) hs_k_18.2
            have hk_k_18 := tkS_le (τ 5) N s_k_18
            show Z D B xX5_readAll _ _ _ 47 _ [] _ _
            refine z_aload_n (pc := 47) (zk9 kX5_readAll_1) rfl ?_
            refine z_efV (pc := 48) (zk10 kX5_readAll_1) (st := []) lkX5_216 ivX5_statement hM.1 rfl rfl (c_statement (a := (tkE (τ 5) N s_l)) hM hN hN2 hLK_k_18 (by omega) (by omega) hW.1 hW.2.1.2 hW.2.2.1 hW.2.2.2.1) rfl ⟨rfl, rfl⟩ rfl rfl (fun r_ h_20 z_ q_19 => ?_) rfl
            obtain ⟨⟨w_k_21, hq_, e14_k_21⟩, hU_22, ez_⟩ := q_19
            rw [ez_]
            clear ez_
            rcases hq_ with ⟨σ_k_21, e_k_21, hst_k_21, er_, hR, hLK_k_21⟩ | ⟨x_k_21, γ_k_21, hst_k_21, er_, hR, ef_k_21⟩
            · rw [er_]
              clear er_
              replace hU := hU.tr hU_22 (by omega) (by omega)
              replace hM := hR; clear hR
              show Z D B xX5_readAll _ _ _ 51 _ [.int 1] _ _
              refine z_if_ne (pc := 51) (zk11 kX5_readAll_1) (tgt := 56) (by decide) (fun _ => ?_) (fun q => absurd q (by decide))
              have hse_k_21 := (stT_ok (a := (tkE (τ 5) N s_l)) (by omega)).2 _ _ hst_k_21
              have hW1 := stT_lw hW (skp_ge (a := (tkE (τ 5) N s_l)) (by omega)).2 _ _ hst_k_21
              refine z_aload_n (pc := 56) (zk14 kX5_readAll_1) rfl ?_
              refine z_dup (pc := 57) (zk15 kX5_readAll_1) rfl ?_
              refine z_getf (pc := 58) (zk0 kX5_readAll_2) flX5_213 hM.1 (v := .int (nI k)) (by rw [← (e14_k_21.trans (e14_k_18.trans h14))]; rfl) ?_
              refine z_iconst (pc := 61) (zk1 kX5_readAll_2) (v := 1) (by decide) ?_
              refine z_iadd (pc := 62) (zk2 kX5_readAll_2) ?_
              refine z_top (congrArg Value.int (nI_1 k)) ?_
              refine z_Mo_w31 (pc := 63) (zk3 kX5_readAll_2) flX5_213 hM (by omega) (fun h_23 hR hU_24 => ?_)
              replace hU := hU.tr hU_24 (by omega) (by omega)
              replace hM := hR; clear hR
              refine z_goto (pc := 66) (zk4 kX5_readAll_2) (tgt := 23) (by decide) ?_
              exact ih23 h_23 (up2 w_k_21 14 0 (nI (k + 1))) σ_k_21 e_k_21 (k + 1) (by omega) hM hLK_k_21 rfl hW1 (by have := tkE_gt (f := τ 5) (N := N) (s := s_l) (by rw [hk3]; decide); omega) (by rw [← hR]; symm; rw [rdC, ← es_l, if_neg (by rw [hk3]; decide), if_pos hk3, show 251 - k = (251 - (k + 1)) + 1 by omega, rdA_c hst_k_21]) hU
            · rw [er_]
              clear er_
              replace hU := hU.tr hU_22 (by omega) (by omega)
              replace hM := hR; clear hR
              show Z D B xX5_readAll _ _ _ 51 _ [.int 0] _ _
              refine z_if_ne (pc := 51) (zk11 kX5_readAll_1) (tgt := 56) (by decide) (fun q => absurd (by decide) q) (fun _ => ?_)
              refine z_iconst (pc := 54) (zk12 kX5_readAll_1) (v := 0) (by decide) ?_
              exact z_zret (pc := 55) (zk13 kX5_readAll_1) rfl (Nat.zero_le _) (Nat.zero_le _) (by decide) ⟨⟨_, Or.inr ⟨_, _, by rw [← hR, rdC, ← es_l, if_neg (by rw [hk3]; decide), if_pos hk3, show 251 - k = (250 - k) + 1 by omega, rdA_x hst_k_21], rfl, hM, ef_k_21⟩⟩, hU, rfl⟩
          · refine z_aload_n (pc := 38) (zk4 kX5_readAll_1) rfl ?_
            refine z_efV (pc := 39) (zk5 kX5_readAll_1) (st := []) lkX5_177 ivX5_wrong hM.1 rfl rfl (c_wrong hM l10_l (by omega)) rfl ⟨rfl, rfl⟩ rfl rfl (fun r_ h_26 z_ q_25 => ?_) rfl
            obtain ⟨er_, hR, hU_27, ez_⟩ := q_25
            rw [er_, ez_]
            clear er_ ez_
            replace hU := hU.tr hU_27 (by omega) (by omega)
            replace hM := hR; clear hR
            show Z D B xX5_readAll _ _ _ 42 _ [.int 0] _ _
            exact z_zret (pc := 42) (zk6 kX5_readAll_1) rfl (Nat.zero_le _) (Nat.zero_le _) (by decide) ⟨⟨_, Or.inr ⟨_, _, by rw [← hR, rdC, ← es_l, if_neg (fun q => c_13 (congrArg nI q)), if_neg (fun q => c_14 (congrArg nI q))], rfl, hM, rfl⟩⟩, hU, rfl⟩
    exact lp23 _ h_10 w_k_11 σ_k_11 e_k_11 1 (Nat.lt_succ_self _) hM hLK_k_11 (e14_k_11.trans (e14_k_8.trans rfl)) hW1 (by omega) (by rw [rdA_c hst_k_11]) hU
  · rw [er_]
    clear er_
    replace hU := hU.tr hU_12 (by omega) (by omega)
    replace hM := hR; clear hR
    show Z D B xX5_readAll _ _ _ 18 _ [.int 0] _ _
    refine z_if_ne (pc := 18) (zk10 kX5_readAll_0) (tgt := 23) (by decide) (fun q => absurd (by decide) q) (fun _ => ?_)
    refine z_iconst (pc := 21) (zk11 kX5_readAll_0) (v := 0) (by decide) ?_
    exact z_zret (pc := 22) (zk12 kX5_readAll_0) rfl (Nat.zero_le _) (Nat.zero_le _) (by decide) ⟨⟨_, Or.inr ⟨_, _, by rw [rdA_x hst_k_11], rfl, hM, ef_k_11⟩⟩, hU, rfl⟩
