def fhO (σ : Ln) (l : Nat) (t : Int32) (i : Nat) (a b : Int32) : Prop := (a = -1 ∧ b = -1 ∧ hshF σ l t i (41 - i) = hshA σ l t) ∨ (¬ a = -1 ∧ hshA σ l t = (a, b))
def fhI (σ : Ln) (l : Nat) (t : Int32) (n i j : Nat) (a b : Int32) : Prop := (a = -1 ∧ b = -1 ∧ hshF σ l t i (41 - i) = hshA σ l t ∧ lstD (fun k => hushB (pourD σ k (nI i)) l t) j (n - j) = lstD (fun k => hushB (pourD σ k (nI i)) l t) 0 n) ∨ (¬ a = -1 ∧ hshA σ l t = (a, b))
theorem fh_base (σ : Ln) (l : Nat) (t : Int32) : fhO σ l t 1 (if hushB σ l t = true then 0 else -1) (-1) := by
  by_cases h : hushB σ l t = true
  · rw [if_pos h]; exact Or.inr ⟨by decide, by rw [hshA, if_pos h]⟩
  · rw [if_neg h]; exact Or.inl ⟨rfl, rfl, by rw [hshA, if_neg h]⟩
theorem fh_in {σ : Ln} {l : Nat} {t : Int32} {n i : Nat} {a b : Int32} (h : fhO σ l t i a b) : fhI σ l t n i 0 a b := h.elim (fun q => Or.inl ⟨q.1, q.2.1, q.2.2, rfl⟩) Or.inr
theorem fh_no {σ : Ln} {l : Nat} {t : Int32} {n i j : Nat} {a b : Int32} (h : fhI σ l t n i j a b) (c : a = -1) (hj : j < n) (hq : hushB (pourD σ j (nI i)) l t = false) : fhI σ l t n i (j + 1) a b := by
  rcases h with q | q
  · refine Or.inl ⟨q.1, q.2.1, q.2.2.1, ?_⟩
    rw [← q.2.2.2, ← lstD_s (fun k => hushB (pourD σ k (nI i)) l t) (n := n) (i := j) (by omega), if_neg (by rw [hq]; decide)]
  · exact absurd c q.1
theorem fh_yes {σ : Ln} {l : Nat} {t : Int32} {n i j : Nat} {a b : Int32} (h : fhI σ l t n i j a b) (c : a = -1) (hn : σ 0 0 = nI n) (h12 : n ≤ 12) (hj : j < n) (hi : i ≤ 40) (hq : hushB (pourD σ j (nI i)) l t = true) (j2 : Nat) : fhI σ l t n i j2 (nI i) (nI j) := by
  rcases h with q | q
  · refine Or.inr ⟨nI_ne_m1 (by omega), ?_⟩
    have e : hshW σ l t i = nI j := by
      rw [hshW, hsN_eq hn h12, ← q.2.2.2, ← lstD_s (fun k => hushB (pourD σ k (nI i)) l t) (n := n) (i := j) (by omega), if_pos hq]
    rw [← q.2.2.1, show 41 - i = (40 - i) + 1 by omega, hshF, e, if_neg (nI_ne_m1 (by omega))]
  · exact absurd c q.1
theorem fh_end {σ : Ln} {l : Nat} {t : Int32} {n i j : Nat} {a b : Int32} (h : fhI σ l t n i j a b) (hn : σ 0 0 = nI n) (h12 : n ≤ 12) (hj : j = n) (hi : i ≤ 40) : fhO σ l t (i + 1) a b := by
  subst hj
  rcases h with q | q
  · refine Or.inl ⟨q.1, q.2.1, ?_⟩
    have e : hshW σ l t i = -1 := by rw [hshW, hsN_eq hn h12, ← q.2.2.2, Nat.sub_self]; rfl
    rw [← q.2.2.1, show 41 - i = (41 - (i + 1)) + 1 by omega, hshF, if_pos e]
  · exact Or.inr q
theorem fh_brk {σ : Ln} {l : Nat} {t : Int32} {n i j : Nat} {a b : Int32} (h : fhI σ l t n i j a b) (c : ¬ a = -1) (i2 : Nat) : fhO σ l t i2 a b := h.elim (fun q => absurd q.1 c) Or.inr
theorem fh_out {σ : Ln} {l : Nat} {t : Int32} {i : Nat} {a b : Int32} (h : fhO σ l t i a b) (c : ¬ a = -1 ∨ i = 41) : a = (hshA σ l t).1 ∧ b = (hshA σ l t).2 := by
  rcases h with q | q
  · rcases c with c | c
    · exact absurd q.1 c
    · subst c
      rw [← q.2.2]; exact ⟨q.1, q.2.1⟩
  · rw [q.2]; exact ⟨rfl, rfl⟩
set_option maxRecDepth 20000 in
theorem c_findHush {D : zD} {B : Nat} {h : zH} {sz : Nat} {p : Nat} {σ τ ω : Ln} {ε : El} {mv : Nat → Int64} {kp tr : Option Nat} {n l : Nat} {t : Int32} (hM : MoAt h p σ τ ω ε mv kp tr) (hn : σ 0 0 = nI n) (h12 : n ≤ 12) (hl : l < 8) (hto : ToOk σ l) (htl : ∃ t, t < n ∧ σ 12 l = nI t) (hB : B ≤ p) : zM D B xX5_findHush [.ref p, .int (nI l), .int t] h sz (fun r h1 z1 => ∃ ω1 : Ln, r = none ∧ MoAt h1 p σ τ ω1 ε mv kp tr ∧ ω1 15 0 = (hshA σ l t).1 ∧ ω1 16 0 = (hshA σ l t).2 ∧ Upd h h1 p 29 ∧ z1 = sz) := by
  have hU : Upd h h p 29 := Upd.rf
  refine zM.of (by decide) rfl (n := 2) ?_
  show Z D B xX5_findHush 0 0 _ 0 [some (.ref p), some (.int (nI l)), some (.int t), none, none] [] h sz
  refine z_aload_n (pc := 0) (zk0 kX5_findHush_0) rfl ?_
  suffices hJ : Z D B xX5_findHush 0 0 (fun r h1 z1 => ∃ ω1 : Ln, r = none ∧ MoAt h1 p σ τ ω1 ε mv kp tr ∧ ω1 15 0 = (hshA σ l t).1 ∧ ω1 16 0 = (hshA σ l t).2 ∧ Upd h h1 p 29 ∧ z1 = sz) 15 [some (.ref p), some (.int (nI l)), some (.int t), none, none] [.int (if hushB σ l t = true then 0 else -1), .ref p] h sz from by
    refine z_aload_n (pc := 1) (zk1 kX5_findHush_0) rfl ?_
    refine z_iload_n (pc := 2) (zk2 kX5_findHush_0) rfl ?_
    refine z_iload_n (pc := 3) (zk3 kX5_findHush_0) rfl ?_
    refine z_rdV (pc := 4) (zk4 kX5_findHush_0) (st := [.ref p]) lkX5_268 ivX5_isHushed hM.1 rfl rfl (c_isHushed hM hn h12 hl hto htl) rfl ⟨rfl, rfl⟩ rfl rfl ?_ rfl
    refine z_oif_eq (pc := 7) (zk5 kX5_findHush_0) (tgt := 14) (by decide) (fun c_1 => ?_) (fun c_1 => ?_)
    · refine z_iconst (pc := 14) (zk8 kX5_findHush_0) (v := (-1)) (by decide) ?_
      exact z_top (congrArg Value.int (by simp [c_1])) hJ
    · refine z_iconst (pc := 10) (zk6 kX5_findHush_0) (v := 0) (by decide) ?_
      refine z_goto (pc := 11) (zk7 kX5_findHush_0) (tgt := 15) (by decide) ?_
      exact z_top (congrArg Value.int (by simp [c_1])) hJ
  refine z_Mo_w32 (pc := 15) (zk9 kX5_findHush_0) flX5_271 hM (by omega) (fun h_2 hR hU_3 => ?_)
  replace hU := hU.tr hU_3 (by omega) (by omega)
  replace hM := hR; clear hR
  refine z_aload_n (pc := 18) (zk10 kX5_findHush_0) rfl ?_
  refine z_iconst (pc := 19) (zk11 kX5_findHush_0) (v := (-1)) (by decide) ?_
  refine z_Mo_w33 (pc := 20) (zk12 kX5_findHush_0) flX5_274 hM (by omega) (fun h_4 hR hU_5 => ?_)
  replace hU := hU.tr hU_5 (by omega) (by omega)
  replace hM := hR; clear hR
  refine z_iconst (pc := 23) (zk13 kX5_findHush_0) (v := 1) (by decide) ?_
  refine z_istore_n (pc := 24) (zk14 kX5_findHush_0) rfl rfl ?_
  show Z D B xX5_findHush _ _ _ 25 [some (.ref p), some (.int (nI l)), some (.int t), some (.int 1), none] _ _ _
  have lp25 : ∀ (n_ : Nat) (g : zH) (w1 : Ln) (i : Nat), 41 - i < n_ → (1 ≤ i) → (i ≤ 41) → (fhO σ l t i (w1 15 0) (w1 16 0)) → (MoAt g p σ τ w1 ε mv kp tr) → (Upd h g p 29) → Z D B xX5_findHush 0 0 (fun r h1 z1 => ∃ ω1 : Ln, r = none ∧ MoAt h1 p σ τ ω1 ε mv kp tr ∧ ω1 15 0 = (hshA σ l t).1 ∧ ω1 16 0 = (hshA σ l t).2 ∧ Upd h h1 p 29 ∧ z1 = sz) 25 [some (.ref p), some (.int (nI l)), some (.int t), some (.int (nI i)), none] [] g sz := by
    intro n_
    induction n_ with
    | zero => intro g w1 i hm_; exact absurd hm_ (Nat.not_lt_zero _)
    | succ n_ ih25 =>
      intro g w1 i hm_ h0_i hi_i hO hM hU
      refine z_iload_n (pc := 25) (zk15 kX5_findHush_0) rfl ?_
      refine z_bipush (pc := 26) (zk0 kX5_findHush_1) (v := 40) (by decide) ?_
      refine z_icmp_gt (pc := 28) (zk1 kX5_findHush_1) (tgt := 113) (by decide) (fun c_6 => ?_) (fun c_6 => ?_)
      · have hie_i : i = 41 := nI_gt_yes (a := 40) (by omega) (by omega) c_6
        exact z_vret (pc := 113) (zk15 kX5_findHush_3) rfl (Nat.zero_le _) (Nat.zero_le _) ⟨_, rfl, hM, (fh_out hO (Or.inr hie_i)).1, (fh_out hO (Or.inr hie_i)).2, hU, rfl⟩
      · have hlt_i : i < 41 := nI_gt_not (a := 40) (by omega) c_6
        refine z_aload_n (pc := 31) (zk2 kX5_findHush_1) rfl ?_
        refine z_getf (pc := 32) (zk3 kX5_findHush_1) flX5_271 hM.1 (v := .int (w1 15 0)) rfl ?_
        refine z_iconst (pc := 35) (zk4 kX5_findHush_1) (v := (-1)) (by decide) ?_
        refine z_icmp_ne (pc := 36) (zk5 kX5_findHush_1) (tgt := 113) (by decide) (fun c_7 => ?_) (fun c_7 => ?_)
        · exact z_vret (pc := 113) (zk15 kX5_findHush_3) rfl (Nat.zero_le _) (Nat.zero_le _) ⟨_, rfl, hM, (fh_out hO (Or.inl c_7)).1, (fh_out hO (Or.inl c_7)).2, hU, rfl⟩
        · refine z_iconst (pc := 39) (zk6 kX5_findHush_1) (v := 0) (by decide) ?_
          refine z_istore (pc := 40) (zk7 kX5_findHush_1) rfl rfl ?_
          show Z D B xX5_findHush _ _ _ 42 [some (.ref p), some (.int (nI l)), some (.int t), some (.int (nI i)), some (.int 0)] _ _ _
          have lp42 : ∀ (n_ : Nat) (g2 : zH) (w2 : Ln) (j : Nat), n - j < n_ → (j ≤ n) → (fhI σ l t n i j (w2 15 0) (w2 16 0)) → (MoAt g2 p σ τ w2 ε mv kp tr) → (Upd h g2 p 29) → Z D B xX5_findHush 0 0 (fun r h1 z1 => ∃ ω1 : Ln, r = none ∧ MoAt h1 p σ τ ω1 ε mv kp tr ∧ ω1 15 0 = (hshA σ l t).1 ∧ ω1 16 0 = (hshA σ l t).2 ∧ Upd h h1 p 29 ∧ z1 = sz) 42 [some (.ref p), some (.int (nI l)), some (.int t), some (.int (nI i)), some (.int (nI j))] [] g2 sz := by
            intro n_
            induction n_ with
            | zero => intro g2 w2 j hm_; exact absurd hm_ (Nat.not_lt_zero _)
            | succ n_ ih42 =>
              intro g2 w2 j hm_ hi_j hI hM hU
              refine z_iload (pc := 42) (zk8 kX5_findHush_1) rfl ?_
              refine z_aload_n (pc := 44) (zk9 kX5_findHush_1) rfl ?_
              refine z_getf (pc := 45) (zk10 kX5_findHush_1) flX5_37 hM.1 (v := .int (nI n)) (by rw [← hn]; rfl) ?_
              refine z_icmp_ge (pc := 48) (zk11 kX5_findHush_1) (tgt := 107) (by decide) (fun c_8 => ?_) (fun c_8 => ?_)
              · have hie_j : j = n := nI_ge_yes (a := n) (by omega) (by omega) (by omega) c_8
                refine z_iinc (pc := 107) (zk13 kX5_findHush_3) (v := nI (i + 1)) rfl zinc rfl rfl ?_
                show Z D B xX5_findHush _ _ _ 110 [some (.ref p), some (.int (nI l)), some (.int t), some (.int (nI (i + 1))), some (.int (nI j))] _ _ _
                refine z_goto (pc := 110) (zk14 kX5_findHush_3) (tgt := 25) (by decide) ?_
                refine z_kill 4 ?_
                show Z D B xX5_findHush _ _ _ 25 [some (.ref p), some (.int (nI l)), some (.int t), some (.int (nI (i + 1))), none] _ _ _
                exact ih25 g2 w2 (i + 1) (by omega) (by omega) (by omega) (fh_end hI hn h12 hie_j (by omega)) hM hU
              · have hlt_j : j < n := nI_ge_not (a := n) (by omega) (by omega) c_8
                refine z_aload_n (pc := 51) (zk12 kX5_findHush_1) rfl ?_
                refine z_getf (pc := 52) (zk13 kX5_findHush_1) flX5_271 hM.1 (v := .int (w2 15 0)) rfl ?_
                refine z_iconst (pc := 55) (zk14 kX5_findHush_1) (v := (-1)) (by decide) ?_
                refine z_icmp_ne (pc := 56) (zk15 kX5_findHush_1) (tgt := 107) (by decide) (fun c_9 => ?_) (fun c_9 => ?_)
                · refine z_iinc (pc := 107) (zk13 kX5_findHush_3) (v := nI (i + 1)) rfl zinc rfl rfl ?_
                  show Z D B xX5_findHush _ _ _ 110 [some (.ref p), some (.int (nI l)), some (.int t), some (.int (nI (i + 1))), some (.int (nI j))] _ _ _
                  refine z_goto (pc := 110) (zk14 kX5_findHush_3) (tgt := 25) (by decide) ?_
                  refine z_kill 4 ?_
                  show Z D B xX5_findHush _ _ _ 25 [some (.ref p), some (.int (nI l)), some (.int t), some (.int (nI (i + 1))), none] _ _ _
                  exact ih25 g2 w2 (i + 1) (by omega) (by omega) (by omega) (fh_brk hI c_9 _) hM hU
                · refine z_aload_n (pc := 59) (zk0 kX5_findHush_2) rfl ?_
                  refine z_getf (pc := 60) (zk1 kX5_findHush_2) flX5_44 hM.1 gMo_11 ?_
                  refine z_iload (pc := 63) (zk2 kX5_findHush_2) rfl ?_
                  refine z_dup2 (pc := 65) (zk3 kX5_findHush_2) rfl rfl ?_
                  refine z_ialdN (pc := 66) (zk4 kX5_findHush_2) (f := σ 2) (j := j) hM.2.2.2.2.2.2.2.2.2.2.2.1 (show j < 12 by omega) rfl ?_
                  refine z_iload_n (pc := 67) (zk5 kX5_findHush_2) rfl ?_
                  refine z_iadd (pc := 68) (zk6 kX5_findHush_2) ?_
                  refine z_Mo_s18 (pc := 69) (zk7 kX5_findHush_2) (j := j) hM (by omega) (show j < 12 by omega) (fun h_10 hR hU_11 => ?_)
                  replace hU := hU.tr hU_11 (by omega) (by omega)
                  replace hM := hR; clear hR
                  refine z_aload_n (pc := 70) (zk8 kX5_findHush_2) rfl ?_
                  refine z_iload_n (pc := 71) (zk9 kX5_findHush_2) rfl ?_
                  refine z_iload_n (pc := 72) (zk10 kX5_findHush_2) rfl ?_
                  refine z_rdV (pc := 73) (zk11 kX5_findHush_2) (st := []) lkX5_268 ivX5_isHushed hM.1 rfl rfl (c_isHushed hM hn h12 hl hto htl) rfl ⟨rfl, rfl⟩ rfl rfl ?_ rfl
                  refine z_oif_eq (pc := 76) (zk12 kX5_findHush_2) (tgt := 90) (by decide) (fun c_12 => ?_) (fun c_12 => ?_)
                  · refine z_aload_n (pc := 90) (zk3 kX5_findHush_3) rfl ?_
                    refine z_getf (pc := 91) (zk4 kX5_findHush_3) flX5_44 hM.1 gMo_11 ?_
                    refine z_iload (pc := 94) (zk5 kX5_findHush_3) rfl ?_
                    refine z_dup2 (pc := 96) (zk6 kX5_findHush_3) rfl rfl ?_
                    refine z_ialdN (pc := 97) (zk7 kX5_findHush_3) (f := upd (σ 2) j ((σ 2 j) + (nI i))) (j := j) hM.2.2.2.2.2.2.2.2.2.2.2.1 (show j < 12 by omega) rfl ?_
                    refine z_top (congrArg Value.int (upd_i _ _ _)) ?_
                    refine z_iload_n (pc := 98) (zk8 kX5_findHush_3) rfl ?_
                    refine z_isub (pc := 99) (zk9 kX5_findHush_3) ?_
                    refine z_top (congrArg Value.int (Int32.add_sub_cancel _ _)) ?_
                    refine z_Mo_s18 (pc := 100) (zk10 kX5_findHush_3) (j := j) hM (by omega) (show j < 12 by omega) (fun h_13 hR hU_14 => ?_)
                    replace hU := hU.tr hU_14 (by omega) (by omega)
                    replace hM := hR; clear hR
                    rw [up2_up2, up2_id] at hM
                    refine z_iinc (pc := 101) (zk11 kX5_findHush_3) (v := nI (j + 1)) rfl zinc rfl rfl ?_
                    show Z D B xX5_findHush _ _ _ 104 [some (.ref p), some (.int (nI l)), some (.int t), some (.int (nI i)), some (.int (nI (j + 1)))] _ _ _
                    refine z_goto (pc := 104) (zk12 kX5_findHush_3) (tgt := 42) (by decide) ?_
                    exact ih42 h_13 w2 (j + 1) (by omega) (by omega) (fh_no hI c_9 (by omega) c_12) hM hU
                  · refine z_aload_n (pc := 79) (zk13 kX5_findHush_2) rfl ?_
                    refine z_iload_n (pc := 80) (zk14 kX5_findHush_2) rfl ?_
                    refine z_Mo_w32 (pc := 81) (zk15 kX5_findHush_2) flX5_271 hM (by omega) (fun h_15 hR hU_16 => ?_)
                    replace hU := hU.tr hU_16 (by omega) (by omega)
                    replace hM := hR; clear hR
                    refine z_aload_n (pc := 84) (zk0 kX5_findHush_3) rfl ?_
                    refine z_iload (pc := 85) (zk1 kX5_findHush_3) rfl ?_
                    refine z_Mo_w33 (pc := 87) (zk2 kX5_findHush_3) flX5_274 hM (by omega) (fun h_17 hR hU_18 => ?_)
                    replace hU := hU.tr hU_18 (by omega) (by omega)
                    replace hM := hR; clear hR
                    refine z_aload_n (pc := 90) (zk3 kX5_findHush_3) rfl ?_
                    refine z_getf (pc := 91) (zk4 kX5_findHush_3) flX5_44 hM.1 gMo_11 ?_
                    refine z_iload (pc := 94) (zk5 kX5_findHush_3) rfl ?_
                    refine z_dup2 (pc := 96) (zk6 kX5_findHush_3) rfl rfl ?_
                    refine z_ialdN (pc := 97) (zk7 kX5_findHush_3) (f := upd (σ 2) j ((σ 2 j) + (nI i))) (j := j) hM.2.2.2.2.2.2.2.2.2.2.2.1 (show j < 12 by omega) rfl ?_
                    refine z_top (congrArg Value.int (upd_i _ _ _)) ?_
                    refine z_iload_n (pc := 98) (zk8 kX5_findHush_3) rfl ?_
                    refine z_isub (pc := 99) (zk9 kX5_findHush_3) ?_
                    refine z_top (congrArg Value.int (Int32.add_sub_cancel _ _)) ?_
                    refine z_Mo_s18 (pc := 100) (zk10 kX5_findHush_3) (j := j) hM (by omega) (show j < 12 by omega) (fun h_19 hR hU_20 => ?_)
                    replace hU := hU.tr hU_20 (by omega) (by omega)
                    replace hM := hR; clear hR
                    rw [up2_up2, up2_id] at hM
                    refine z_iinc (pc := 101) (zk11 kX5_findHush_3) (v := nI (j + 1)) rfl zinc rfl rfl ?_
                    show Z D B xX5_findHush _ _ _ 104 [some (.ref p), some (.int (nI l)), some (.int t), some (.int (nI i)), some (.int (nI (j + 1)))] _ _ _
                    refine z_goto (pc := 104) (zk12 kX5_findHush_3) (tgt := 42) (by decide) ?_
                    exact ih42 h_19 (up2 (up2 w2 15 0 (nI i)) 16 0 (nI j)) (j + 1) (by omega) (by omega) (fh_yes hI c_9 hn h12 (by omega) (by omega) c_12 _) hM hU
          exact lp42 _ g w1 0 (Nat.lt_succ_self _) (by omega) (fh_in hO) hM hU
  exact lp25 _ h_4 (up2 (up2 ω 15 0 (if hushB σ l t = true then 0 else -1)) 16 0 (-1)) 1 (Nat.lt_succ_self _) (by omega) (by omega) (fh_base σ l t) hM hU
set_option maxRecDepth 20000 in
theorem cP_hush {D : zD} {B : Nat} {h : zH} {sz : Nat} {p : Nat} {σ τ ω : Ln} {ε : El} {mv : Nat → Int64} {kp tr : Option Nat} {x : Int32} {y : Int32} {z : Int32} {n m : Nat} (hM : MoAt h p σ τ ω ε mv kp tr) (hB : B ≤ p) (hn : σ 0 0 = nI n) (h12 : n ≤ 12) (hm : σ 9 0 = nI m) (h8 : m ≤ 8) (hto : ∀ l, l < m → ToOk σ l) (htn : ∀ l, l < m → ∃ t, t < n ∧ σ 12 l = nI t) : zM D B xX5_hush [.ref p, .int x, .int y, .int z] h sz (mQ h p sz kp tr (sp_hush σ τ ε x y z)) := by
  have hU : Upd h h p 29 := Upd.rf
  refine zM.of (by decide) rfl (n := 0) ?_
  show Z D B xX5_hush 0 0 _ 0 [some (.ref p), some (.int x), some (.int y), some (.int z)] [] h sz
  refine z_aload_n (pc := 0) (zk0 kX5_hush_0) rfl ?_
  refine z_iload_n (pc := 1) (zk1 kX5_hush_0) rfl ?_
  refine z_i2l (pc := 2) (zk2 kX5_hush_0) ?_
  refine z_rdV (pc := 3) (zk3 kX5_hush_0) (st := []) lkX5_105 ivX5_isLetter hM.1 rfl rfl (c_isLetter hM) rfl ⟨rfl, rfl⟩ rfl rfl ?_ rfl
  refine z_oif_eq (pc := 6) (zk4 kX5_hush_0) (tgt := 27) (by decide) (fun c_1 => ?_) (fun c_1 => ?_)
  · refine z_aload_n (pc := 27) (zk15 kX5_hush_0) rfl ?_
    refine z_bipush (pc := 28) (zk0 kX5_hush_1) (v := (-2)) (by decide) ?_
    refine z_efV (pc := 30) (zk1 kX5_hush_1) (st := []) lkX5_94 ivX5_refuse hM.1 rfl rfl (c_refuse hM (by omega) (j := 2) (by decide) (by decide)) rfl ⟨rfl, rfl⟩ rfl rfl (fun r_ h_3 z_ q_2 => ?_) rfl
    obtain ⟨er_, hR, hU_4, ez_⟩ := q_2
    rw [er_, ez_]
    clear er_ ez_
    replace hU := hU.tr hU_4 (by omega) (by omega)
    replace hM := hR; clear hR
    show Z D B xX5_hush _ _ _ 33 _ [.int (-2)] _ _
    exact z_iret (pc := 33) (zk2 kX5_hush_1) rfl (Nat.zero_le _) (Nat.zero_le _) (by
            rw [show sp_hush σ τ ε x y z = ((-2), σ, rfN τ 2, ε) from by simp [sp_hush, sBad, okS, okH, okL, okT, okB, sRd, up2_id, up2_id2, oI, sOther, sNone, sFull, c_1]]
            exact ⟨_, _, rfl, hM, hU, rfl⟩)
  · refine z_aload_n (pc := 9) (zk5 kX5_hush_0) rfl ?_
    refine z_iload_n (pc := 10) (zk6 kX5_hush_0) rfl ?_
    refine z_rdV (pc := 11) (zk7 kX5_hush_0) (st := []) lkX5_265 ivX5_isSet hM.1 rfl rfl (c_isSet hM) rfl ⟨rfl, rfl⟩ rfl rfl ?_ rfl
    refine z_oif_eq (pc := 14) (zk8 kX5_hush_0) (tgt := 27) (by decide) (fun c_5 => ?_) (fun c_5 => ?_)
    · refine z_aload_n (pc := 27) (zk15 kX5_hush_0) rfl ?_
      refine z_bipush (pc := 28) (zk0 kX5_hush_1) (v := (-2)) (by decide) ?_
      refine z_efV (pc := 30) (zk1 kX5_hush_1) (st := []) lkX5_94 ivX5_refuse hM.1 rfl rfl (c_refuse hM (by omega) (j := 2) (by decide) (by decide)) rfl ⟨rfl, rfl⟩ rfl rfl (fun r_ h_7 z_ q_6 => ?_) rfl
      obtain ⟨er_, hR, hU_8, ez_⟩ := q_6
      rw [er_, ez_]
      clear er_ ez_
      replace hU := hU.tr hU_8 (by omega) (by omega)
      replace hM := hR; clear hR
      show Z D B xX5_hush _ _ _ 33 _ [.int (-2)] _ _
      exact z_iret (pc := 33) (zk2 kX5_hush_1) rfl (Nat.zero_le _) (Nat.zero_le _) (by
                rw [show sp_hush σ τ ε x y z = ((-2), σ, rfN τ 2, ε) from by simp [sp_hush, sBad, okS, okH, okL, okT, okB, sRd, up2_id, up2_id2, oI, sOther, sNone, sFull, c_1, c_5]]
                exact ⟨_, _, rfl, hM, hU, rfl⟩)
    · refine z_iload_n (pc := 17) (zk9 kX5_hush_0) rfl ?_
      refine z_i2l (pc := 18) (zk10 kX5_hush_0) ?_
      refine z_lconst (pc := 19) (zk11 kX5_hush_0) (v := 0) (by decide) ?_
      refine z_lconst (pc := 20) (zk12 kX5_hush_0) (v := 1) (by decide) ?_
      refine z_rdS (pc := 21) (zk13 kX5_hush_0) (st := []) lkX5_81 isX5_in (c_inI (x := z) (a := 0) (b := 1) (by decide) (by decide)) rfl ⟨rfl, rfl⟩ rfl rfl ?_ rfl
      refine z_oif_ne (pc := 24) (zk14 kX5_hush_0) (tgt := 34) (by decide) (fun c_9 => ?_) (fun c_9 => ?_)
      · refine z_aload_n (pc := 34) (zk3 kX5_hush_1) rfl ?_
        refine z_iload_n (pc := 35) (zk4 kX5_hush_1) rfl ?_
        refine z_iload_n (pc := 36) (zk5 kX5_hush_1) rfl ?_
        obtain ⟨kx, hkx, rfl⟩ := okR_nI (n := m) (by omega) (by rw [← hm]; exact c_1)
        refine z_efV (pc := 37) (zk6 kX5_hush_1) (st := []) lkX5_277 ivX5_findHush hM.1 rfl rfl (c_findHush hM hn h12 (show kx < 8 by omega) (hto _ (by omega)) (htn _ (by omega)) hB) rfl ⟨rfl, rfl⟩ rfl rfl (fun r_ h_11 z_ q_10 => ?_) rfl
        obtain ⟨w_13, er_, hR, e1_, e2_, hU_12, ez_⟩ := q_10
        rw [er_, ez_]
        clear er_ ez_
        replace hU := hU.tr hU_12 (by omega) (by omega)
        replace hM := hR; clear hR
        show Z D B xX5_hush _ _ _ 40 _ [] _ _
        refine z_iload_n (pc := 40) (zk7 kX5_hush_1) rfl ?_
        rcases okR_01 c_9 with rfl | rfl
        · refine z_if_ne (pc := 41) (zk8 kX5_hush_1) (tgt := 51) (by decide) (fun q => absurd (by decide) q) (fun _ => ?_)
          refine z_aload_n (pc := 44) (zk9 kX5_hush_1) rfl ?_
          refine z_getf (pc := 45) (zk10 kX5_hush_1) flX5_271 hM.1 (v := .int ((hshA σ kx y).1)) (by rw [← e1_]; rfl) ?_
          refine z_goto (pc := 48) (zk11 kX5_hush_1) (tgt := 55) (by decide) ?_
          generalize he_ : (hshA σ kx y).1 = a_
          exact z_iret (pc := 55) (zk14 kX5_hush_1) rfl (Nat.zero_le _) (Nat.zero_le _) (by
                        rw [show sp_hush σ τ ε (nI kx) y 0 = (a_, σ, τ, ε) from by simp [sp_hush, sBad, okS, okH, okL, okT, okB, sRd, up2_id, up2_id2, oI, sOther, sNone, sFull, c_1, c_5, c_9, ix_nI (show kx ≤ 1000 by omega), he_]]
                        exact ⟨_, _, rfl, hM, hU, rfl⟩)
        · refine z_if_ne (pc := 41) (zk8 kX5_hush_1) (tgt := 51) (by decide) (fun _ => ?_) (fun q => absurd q (by decide))
          refine z_aload_n (pc := 51) (zk12 kX5_hush_1) rfl ?_
          refine z_getf (pc := 52) (zk13 kX5_hush_1) flX5_274 hM.1 (v := .int ((hshA σ kx y).2)) (by rw [← e2_]; rfl) ?_
          generalize he_ : (hshA σ kx y).2 = a_
          exact z_iret (pc := 55) (zk14 kX5_hush_1) rfl (Nat.zero_le _) (Nat.zero_le _) (by
                        rw [show sp_hush σ τ ε (nI kx) y 1 = (a_, σ, τ, ε) from by simp [sp_hush, sBad, okS, okH, okL, okT, okB, sRd, up2_id, up2_id2, oI, sOther, sNone, sFull, c_1, c_5, c_9, ix_nI (show kx ≤ 1000 by omega), he_]]
                        exact ⟨_, _, rfl, hM, hU, rfl⟩)
      · refine z_aload_n (pc := 27) (zk15 kX5_hush_0) rfl ?_
        refine z_bipush (pc := 28) (zk0 kX5_hush_1) (v := (-2)) (by decide) ?_
        refine z_efV (pc := 30) (zk1 kX5_hush_1) (st := []) lkX5_94 ivX5_refuse hM.1 rfl rfl (c_refuse hM (by omega) (j := 2) (by decide) (by decide)) rfl ⟨rfl, rfl⟩ rfl rfl (fun r_ h_15 z_ q_14 => ?_) rfl
        obtain ⟨er_, hR, hU_16, ez_⟩ := q_14
        rw [er_, ez_]
        clear er_ ez_
        replace hU := hU.tr hU_16 (by omega) (by omega)
        replace hM := hR; clear hR
        show Z D B xX5_hush _ _ _ 33 _ [.int (-2)] _ _
        exact z_iret (pc := 33) (zk2 kX5_hush_1) rfl (Nat.zero_le _) (Nat.zero_le _) (by
                    rw [show sp_hush σ τ ε x y z = ((-2), σ, rfN τ 2, ε) from by simp [sp_hush, sBad, okS, okH, okL, okT, okB, sRd, up2_id, up2_id2, oI, sOther, sNone, sFull, c_1, c_5, c_9]]
                    exact ⟨_, _, rfl, hM, hU, rfl⟩)
