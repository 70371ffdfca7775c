def cF (pm : Nat → Bool) (F : Nat → Int32) (x : Int32) : Int32 := sum0 (fun j => oI (pm (j + 1) && decide (F (j + 1) = x))) 40
def wF (pm : Nat → Bool) (F : Nat → Int32) : Nat → Int32
  | 0 => 0
  | g + 1 => if pm (g + 1) = true then (if wF pm F g < cF pm F (F (g + 1)) then cF pm F (F (g + 1)) else wF pm F g) else wF pm F g
theorem wF_nn (pm : Nat → Bool) (F : Nat → Int32) : ∀ g, 0 ≤ wF pm F g
  | 0 => Int32.le_refl _
  | g + 1 => by
    rw [wF]
    by_cases h : pm (g + 1) = true
    · rw [if_pos h]
      by_cases c : wF pm F g < cF pm F (F (g + 1))
      · rw [if_pos c]; exact Int32.le_trans (wF_nn pm F g) (Int32.le_of_lt c)
      · rw [if_neg c]; exact wF_nn pm F g
    · rw [if_neg h]; exact wF_nn pm F g
theorem wF_s {pm : Nat → Bool} {F : Nat → Int32} {b : Nat} {v : Int32} (hb : 1 ≤ b) (hv : v = wF pm F (b - 1)) : (if pm b = true then (if v < cF pm F (F b) then cF pm F (F b) else v) else v) = wF pm F (b + 1 - 1) := by
  subst hv
  obtain ⟨g, rfl⟩ : ∃ g, b = g + 1 := ⟨b - 1, by omega⟩
  rw [show g + 1 + 1 - 1 = g + 1 by omega, show g + 1 - 1 = g by omega, wF]
theorem wc_s {pm : Nat → Bool} {F : Nat → Int32} {j : Nat} {c x : Int32} (hj : 1 ≤ j) (hc : c = sum0 (fun y => oI (pm (y + 1) && decide (F (y + 1) = x))) (j - 1)) : c + oI (pm j && decide (F j = x)) = sum0 (fun y => oI (pm (y + 1) && decide (F (y + 1) = x))) (j + 1 - 1) := by
  subst hc
  obtain ⟨g, rfl⟩ : ∃ g, j = g + 1 := ⟨j - 1, by omega⟩
  rfl
theorem hb_s {w : Ln} {F : Nat → Int32} {i : Nat} (h : ∀ a, 1 ≤ a → a < i → w 22 a = F a) : ∀ a, 1 ≤ a → a < i + 1 → up2 w 22 i (F i) 22 a = F a := by
  intro a h1 h2
  by_cases e : a = i
  · subst e; rw [up2_eq]
  · have : up2 w 22 i (F i) 22 a = w 22 a := by simp [up2, upd, e]
    rw [this, h a h1 (by omega)]
theorem wF_eq (σ : Ln) (e : Nat → Int64) (n l k : Nat) : ∀ g, wrstF σ e n l k g = wF (lenB σ e n l) (fun g => heardF (up2 σ 13 l (nI g)) l k) g
  | 0 => rfl
  | g + 1 => by rw [wrstF, wF, wF_eq σ e n l k g]; rfl
set_option maxRecDepth 20000 in
theorem c_worstAt {D : zD} {B : Nat} {h : zH} {sz : Nat} {p : Nat} {σ τ ω : Ln} {ε : El} {mv : Nat → Int64} {kp tr : Option Nat} {n l k : Nat} {pm : Nat → Bool} (hM : MoAt h p σ τ ω ε mv kp tr) (hn : σ 0 0 = nI n) (h12 : n ≤ 12) (hl : l < 8) (hk : k < n) (hto : ToOk σ l) (hmy : ∀ a, 1 ≤ a → a ≤ 40 → ω 18 a = oI (pm a)) (hB : B ≤ p) : zM D B xX5_worstAt [.ref p, .int (nI l), .int (nI k)] h sz (fun r h1 z1 => ∃ (ω1 : Ln) (q1 : Int32), r = some (.int (wF pm (fun g => heardF (up2 σ 13 l (nI g)) l k) 40)) ∧ MoAt h1 p (up2 σ 13 l q1) τ ω1 ε mv kp tr ∧ (∀ a, 1 ≤ a → a ≤ 40 → ω1 18 a = oI (pm a)) ∧ ω1 19 0 = ω 19 0 ∧ Upd h h1 p 29 ∧ z1 = sz) := by
  have hU : Upd h h p 29 := Upd.rf
  refine zM.of (by decide) rfl (n := 4) ?_
  show Z D B xX5_worstAt 0 0 _ 0 [some (.ref p), some (.int (nI l)), some (.int (nI k)), none, none, none, none] [] h sz
  refine z_iconst (pc := 0) (zk0 kX5_worstAt_0) (v := 1) (by decide) ?_
  refine z_istore_n (pc := 1) (zk1 kX5_worstAt_0) rfl rfl ?_
  show Z D B xX5_worstAt _ _ _ 2 [some (.ref p), some (.int (nI l)), some (.int (nI k)), some (.int 1), none, none, none] _ _ _
  have lp2 : ∀ (n_ : Nat) (w1 : Ln) (g : zH) (q : Int32) (i : Nat), 41 - i < n_ → (1 ≤ i) → (i ≤ 41) → (∀ a, 1 ≤ a → a < i → w1 22 a = (fun g => heardF (up2 σ 13 l (nI g)) l k) a) → (∀ a, 1 ≤ a → a ≤ 40 → w1 18 a = oI (pm a)) → (w1 19 0 = ω 19 0) → (MoAt g p (up2 σ 13 l q) τ w1 ε mv kp tr) → (Upd h g p 29) → Z D B xX5_worstAt 0 0 (fun r h1 z1 => ∃ (ω1 : Ln) (q1 : Int32), r = some (.int (wF pm (fun g => heardF (up2 σ 13 l (nI g)) l k) 40)) ∧ MoAt h1 p (up2 σ 13 l q1) τ ω1 ε mv kp tr ∧ (∀ a, 1 ≤ a → a ≤ 40 → ω1 18 a = oI (pm a)) ∧ ω1 19 0 = ω 19 0 ∧ Upd h h1 p 29 ∧ z1 = sz) 2 [some (.ref p), some (.int (nI l)), some (.int (nI k)), some (.int (nI i)), none, none, none] [] g sz := by
    intro n_
    induction n_ with
    | zero => intro w1 g q i hm_; exact absurd hm_ (Nat.not_lt_zero _)
    | succ n_ ih2 =>
      intro w1 g q i hm_ h0_i hi_i hh_ hmy h19 hM hU
      refine z_iload_n (pc := 2) (zk2 kX5_worstAt_0) rfl ?_
      refine z_bipush (pc := 3) (zk3 kX5_worstAt_0) (v := 40) (by decide) ?_
      refine z_icmp_gt (pc := 5) (zk4 kX5_worstAt_0) (tgt := 33) (by decide) (fun c_1 => ?_) (fun c_1 => ?_)
      · have hie_i : i = 41 := nI_gt_yes (a := 40) (by omega) (by omega) c_1
        refine z_iconst (pc := 33) (zk4 kX5_worstAt_1) (v := 0) (by decide) ?_
        refine z_istore_n (pc := 34) (zk5 kX5_worstAt_1) rfl rfl ?_
        show Z D B xX5_worstAt _ _ _ 35 [some (.ref p), some (.int (nI l)), some (.int (nI k)), some (.int 0), none, none, none] _ _ _
        refine z_iconst (pc := 35) (zk6 kX5_worstAt_1) (v := 1) (by decide) ?_
        refine z_istore (pc := 36) (zk7 kX5_worstAt_1) rfl rfl ?_
        show Z D B xX5_worstAt _ _ _ 38 [some (.ref p), some (.int (nI l)), some (.int (nI k)), some (.int 0), some (.int 1), none, none] _ _ _
        have lp38 : ∀ (n_ : Nat) (v : Int32) (b : Nat), 41 - b < n_ → (1 ≤ b) → (b ≤ 41) → (v = wF pm (fun g => heardF (up2 σ 13 l (nI g)) l k) (b - 1)) → Z D B xX5_worstAt 0 0 (fun r h1 z1 => ∃ (ω1 : Ln) (q1 : Int32), r = some (.int (wF pm (fun g => heardF (up2 σ 13 l (nI g)) l k) 40)) ∧ MoAt h1 p (up2 σ 13 l q1) τ ω1 ε mv kp tr ∧ (∀ a, 1 ≤ a → a ≤ 40 → ω1 18 a = oI (pm a)) ∧ ω1 19 0 = ω 19 0 ∧ Upd h h1 p 29 ∧ z1 = sz) 38 [some (.ref p), some (.int (nI l)), some (.int (nI k)), some (.int v), some (.int (nI b)), none, none] [] g sz := by
          intro n_
          induction n_ with
          | zero => intro v b hm_; exact absurd hm_ (Nat.not_lt_zero _)
          | succ n_ ih38 =>
            intro v b hm_ h0_b hi_b hv
            refine z_iload (pc := 38) (zk8 kX5_worstAt_1) rfl ?_
            refine z_bipush (pc := 40) (zk9 kX5_worstAt_1) (v := 40) (by decide) ?_
            refine z_icmp_gt (pc := 42) (zk10 kX5_worstAt_1) (tgt := 130) (by decide) (fun c_2 => ?_) (fun c_2 => ?_)
            · have hie_b : b = 41 := nI_gt_yes (a := 40) (by omega) (by omega) c_2
              refine z_iload_n (pc := 130) (zk6 kX5_worstAt_4) rfl ?_
              exact z_iret (pc := 131) (zk7 kX5_worstAt_4) rfl (Nat.zero_le _) (Nat.zero_le _) ⟨_, q, by rw [hv, hie_b], hM, hmy, h19, hU, rfl⟩
            · have hlt_b : b < 41 := nI_gt_not (a := 40) (by omega) c_2
              refine z_iconst (pc := 45) (zk11 kX5_worstAt_1) (v := 0) (by decide) ?_
              refine z_istore (pc := 46) (zk12 kX5_worstAt_1) rfl rfl ?_
              show Z D B xX5_worstAt _ _ _ 48 [some (.ref p), some (.int (nI l)), some (.int (nI k)), some (.int v), some (.int (nI b)), some (.int 0), none] _ _ _
              refine z_iconst (pc := 48) (zk13 kX5_worstAt_1) (v := 1) (by decide) ?_
              refine z_istore (pc := 49) (zk14 kX5_worstAt_1) rfl rfl ?_
              show Z D B xX5_worstAt _ _ _ 51 [some (.ref p), some (.int (nI l)), some (.int (nI k)), some (.int v), some (.int (nI b)), some (.int 0), some (.int 1)] _ _ _
              have lp51 : ∀ (n_ : Nat) (c : Int32) (j : Nat), 41 - j < n_ → (1 ≤ j) → (j ≤ 41) → (c = sum0 (fun y => oI (pm (y + 1) && decide ((fun g => heardF (up2 σ 13 l (nI g)) l k) (y + 1) = (fun g => heardF (up2 σ 13 l (nI g)) l k) b))) (j - 1)) → (pm b = false → j = 1) → Z D B xX5_worstAt 0 0 (fun r h1 z1 => ∃ (ω1 : Ln) (q1 : Int32), r = some (.int (wF pm (fun g => heardF (up2 σ 13 l (nI g)) l k) 40)) ∧ MoAt h1 p (up2 σ 13 l q1) τ ω1 ε mv kp tr ∧ (∀ a, 1 ≤ a → a ≤ 40 → ω1 18 a = oI (pm a)) ∧ ω1 19 0 = ω 19 0 ∧ Upd h h1 p 29 ∧ z1 = sz) 51 [some (.ref p), some (.int (nI l)), some (.int (nI k)), some (.int v), some (.int (nI b)), some (.int c), some (.int (nI j))] [] g sz := by
                intro n_
                induction n_ with
                | zero => intro c j hm_; exact absurd hm_ (Nat.not_lt_zero _)
                | succ n_ ih51 =>
                  intro c j hm_ h0_j hi_j hc hp1
                  refine z_iload (pc := 51) (zk15 kX5_worstAt_1) rfl ?_
                  refine z_bipush (pc := 53) (zk0 kX5_worstAt_2) (v := 40) (by decide) ?_
                  refine z_icmp_gt (pc := 55) (zk1 kX5_worstAt_2) (tgt := 111) (by decide) (fun c_3 => ?_) (fun c_3 => ?_)
                  · suffices hJ : Z D B xX5_worstAt 0 0 (fun r h1 z1 => ∃ (ω1 : Ln) (q1 : Int32), r = some (.int (wF pm (fun g => heardF (up2 σ 13 l (nI g)) l k) 40)) ∧ MoAt h1 p (up2 σ 13 l q1) τ ω1 ε mv kp tr ∧ (∀ a, 1 ≤ a → a ≤ 40 → ω1 18 a = oI (pm a)) ∧ ω1 19 0 = ω 19 0 ∧ Upd h h1 p 29 ∧ z1 = sz) 123 [some (.ref p), some (.int (nI l)), some (.int (nI k)), some (.int v), some (.int (nI b)), some (.int c), some (.int (nI j))] [.int (if pm b = true then (if v < cF pm (fun g => heardF (up2 σ 13 l (nI g)) l k) ((fun g => heardF (up2 σ 13 l (nI g)) l k) b) then cF pm (fun g => heardF (up2 σ 13 l (nI g)) l k) ((fun g => heardF (up2 σ 13 l (nI g)) l k) b) else v) else v)] g sz from by
                      have hie_j : j = 41 := nI_gt_yes (a := 40) (by omega) (by omega) c_3
                      refine z_iload (pc := 111) (zk13 kX5_worstAt_3) rfl ?_
                      refine z_iload_n (pc := 113) (zk14 kX5_worstAt_3) rfl ?_
                      refine z_icmp_le (pc := 114) (zk15 kX5_worstAt_3) (tgt := 122) (by decide) (fun c_4 => ?_) (fun c_4 => ?_)
                      · refine z_iload_n (pc := 122) (zk2 kX5_worstAt_4) rfl ?_
                        exact z_top (congrArg Value.int (by have hpt : pm b = true := (by cases hq : pm b with | true => rfl | false => exact absurd (hp1 hq) (by omega)); have e_ : c = cF pm (fun g => heardF (up2 σ 13 l (nI g)) l k) ((fun g => heardF (up2 σ 13 l (nI g)) l k) b) := (by rw [hc, hie_j]; rfl); rw [← e_]; simp [hpt, c_1, Int32.not_le.mpr c_1, c_2, Int32.not_lt.mp c_2, c_3, Int32.not_le.mpr c_3, c_4, Int32.not_lt.mpr c_4])) hJ
                      · refine z_iload (pc := 117) (zk0 kX5_worstAt_4) rfl ?_
                        refine z_goto (pc := 119) (zk1 kX5_worstAt_4) (tgt := 123) (by decide) ?_
                        exact z_top (congrArg Value.int (by have hpt : pm b = true := (by cases hq : pm b with | true => rfl | false => exact absurd (hp1 hq) (by omega)); have e_ : c = cF pm (fun g => heardF (up2 σ 13 l (nI g)) l k) ((fun g => heardF (up2 σ 13 l (nI g)) l k) b) := (by rw [hc, hie_j]; rfl); rw [← e_]; simp [hpt, c_1, Int32.not_le.mpr c_1, c_2, Int32.not_lt.mp c_2, c_3, Int32.not_le.mpr c_3, c_4, Int32.not_le.mp c_4])) hJ
                    refine z_istore_n (pc := 123) (zk3 kX5_worstAt_4) rfl rfl ?_
                    show Z D B xX5_worstAt _ _ _ 124 [some (.ref p), some (.int (nI l)), some (.int (nI k)), some (.int (if pm b = true then (if v < cF pm (fun g => heardF (up2 σ 13 l (nI g)) l k) ((fun g => heardF (up2 σ 13 l (nI g)) l k) b) then cF pm (fun g => heardF (up2 σ 13 l (nI g)) l k) ((fun g => heardF (up2 σ 13 l (nI g)) l k) b) else v) else v)), some (.int (nI b)), some (.int c), some (.int (nI j))] _ _ _
                    refine z_iinc (pc := 124) (zk4 kX5_worstAt_4) (v := nI (b + 1)) rfl zinc rfl rfl ?_
                    show Z D B xX5_worstAt _ _ _ 127 [some (.ref p), some (.int (nI l)), some (.int (nI k)), some (.int (if pm b = true then (if v < cF pm (fun g => heardF (up2 σ 13 l (nI g)) l k) ((fun g => heardF (up2 σ 13 l (nI g)) l k) b) then cF pm (fun g => heardF (up2 σ 13 l (nI g)) l k) ((fun g => heardF (up2 σ 13 l (nI g)) l k) b) else v) else v)), some (.int (nI (b + 1))), some (.int c), some (.int (nI j))] _ _ _
                    refine z_goto (pc := 127) (zk5 kX5_worstAt_4) (tgt := 38) (by decide) ?_
                    refine z_kill 5 ?_
                    show Z D B xX5_worstAt _ _ _ 38 [some (.ref p), some (.int (nI l)), some (.int (nI k)), some (.int (if pm b = true then (if v < cF pm (fun g => heardF (up2 σ 13 l (nI g)) l k) ((fun g => heardF (up2 σ 13 l (nI g)) l k) b) then cF pm (fun g => heardF (up2 σ 13 l (nI g)) l k) ((fun g => heardF (up2 σ 13 l (nI g)) l k) b) else v) else v)), some (.int (nI (b + 1))), none, some (.int (nI j))] _ _ _
                    refine z_kill 6 ?_
                    show Z D B xX5_worstAt _ _ _ 38 [some (.ref p), some (.int (nI l)), some (.int (nI k)), some (.int (if pm b = true then (if v < cF pm (fun g => heardF (up2 σ 13 l (nI g)) l k) ((fun g => heardF (up2 σ 13 l (nI g)) l k) b) then cF pm (fun g => heardF (up2 σ 13 l (nI g)) l k) ((fun g => heardF (up2 σ 13 l (nI g)) l k) b) else v) else v)), some (.int (nI (b + 1))), none, none] _ _ _
                    exact ih38 (if pm b = true then (if v < cF pm (fun g => heardF (up2 σ 13 l (nI g)) l k) ((fun g => heardF (up2 σ 13 l (nI g)) l k) b) then cF pm (fun g => heardF (up2 σ 13 l (nI g)) l k) ((fun g => heardF (up2 σ 13 l (nI g)) l k) b) else v) else v) (b + 1) (by omega) (by omega) (by omega) (wF_s (F := (fun g => heardF (up2 σ 13 l (nI g)) l k)) (by omega) hv)
                  · have hlt_j : j < 41 := nI_gt_not (a := 40) (by omega) c_3
                    refine z_aload_n (pc := 58) (zk2 kX5_worstAt_2) rfl ?_
                    refine z_getf (pc := 59) (zk3 kX5_worstAt_2) flX5_74 hM.1 gMo_35 ?_
                    refine z_iload (pc := 62) (zk4 kX5_worstAt_2) rfl ?_
                    refine z_zaldN (pc := 64) (zk5 kX5_worstAt_2) (f := w1 18) (j := b) hM.2.2.2.2.2.2.2.2.2.2.2.2.2.2.2.2.2.2.2.2.1 (show b < 41 by omega) rfl ?_
                    refine z_top (congrArg Value.int (hmy b (by omega) (by omega))) ?_
                    refine z_oif_eq (pc := 65) (zk6 kX5_worstAt_2) (tgt := 111) (by decide) (fun c_5 => ?_) (fun c_5 => ?_)
                    · suffices hJ : Z D B xX5_worstAt 0 0 (fun r h1 z1 => ∃ (ω1 : Ln) (q1 : Int32), r = some (.int (wF pm (fun g => heardF (up2 σ 13 l (nI g)) l k) 40)) ∧ MoAt h1 p (up2 σ 13 l q1) τ ω1 ε mv kp tr ∧ (∀ a, 1 ≤ a → a ≤ 40 → ω1 18 a = oI (pm a)) ∧ ω1 19 0 = ω 19 0 ∧ Upd h h1 p 29 ∧ z1 = sz) 123 [some (.ref p), some (.int (nI l)), some (.int (nI k)), some (.int v), some (.int (nI b)), some (.int c), some (.int (nI j))] [.int (if pm b = true then (if v < cF pm (fun g => heardF (up2 σ 13 l (nI g)) l k) ((fun g => heardF (up2 σ 13 l (nI g)) l k) b) then cF pm (fun g => heardF (up2 σ 13 l (nI g)) l k) ((fun g => heardF (up2 σ 13 l (nI g)) l k) b) else v) else v)] g sz from by
                        refine z_iload (pc := 111) (zk13 kX5_worstAt_3) rfl ?_
                        refine z_iload_n (pc := 113) (zk14 kX5_worstAt_3) rfl ?_
                        refine z_icmp_le (pc := 114) (zk15 kX5_worstAt_3) (tgt := 122) (by decide) (fun c_6 => ?_) (fun c_6 => ?_)
                        · refine z_iload_n (pc := 122) (zk2 kX5_worstAt_4) rfl ?_
                          exact z_top (congrArg Value.int (by simp [c_5])) hJ
                        · refine z_iload (pc := 117) (zk0 kX5_worstAt_4) rfl ?_
                          refine z_goto (pc := 119) (zk1 kX5_worstAt_4) (tgt := 123) (by decide) ?_
                          exact z_top (congrArg Value.int (absurd (Int32.not_le.mp c_6) (Int32.not_lt.mpr (by rw [show c = 0 from by rw [hc, hp1 c_5]; rfl, hv]; exact wF_nn _ _ _)))) hJ
                      refine z_istore_n (pc := 123) (zk3 kX5_worstAt_4) rfl rfl ?_
                      show Z D B xX5_worstAt _ _ _ 124 [some (.ref p), some (.int (nI l)), some (.int (nI k)), some (.int (if pm b = true then (if v < cF pm (fun g => heardF (up2 σ 13 l (nI g)) l k) ((fun g => heardF (up2 σ 13 l (nI g)) l k) b) then cF pm (fun g => heardF (up2 σ 13 l (nI g)) l k) ((fun g => heardF (up2 σ 13 l (nI g)) l k) b) else v) else v)), some (.int (nI b)), some (.int c), some (.int (nI j))] _ _ _
                      refine z_iinc (pc := 124) (zk4 kX5_worstAt_4) (v := nI (b + 1)) rfl zinc rfl rfl ?_
                      show Z D B xX5_worstAt _ _ _ 127 [some (.ref p), some (.int (nI l)), some (.int (nI k)), some (.int (if pm b = true then (if v < cF pm (fun g => heardF (up2 σ 13 l (nI g)) l k) ((fun g => heardF (up2 σ 13 l (nI g)) l k) b) then cF pm (fun g => heardF (up2 σ 13 l (nI g)) l k) ((fun g => heardF (up2 σ 13 l (nI g)) l k) b) else v) else v)), some (.int (nI (b + 1))), some (.int c), some (.int (nI j))] _ _ _
                      refine z_goto (pc := 127) (zk5 kX5_worstAt_4) (tgt := 38) (by decide) ?_
                      refine z_kill 5 ?_
                      show Z D B xX5_worstAt _ _ _ 38 [some (.ref p), some (.int (nI l)), some (.int (nI k)), some (.int (if pm b = true then (if v < cF pm (fun g => heardF (up2 σ 13 l (nI g)) l k) ((fun g => heardF (up2 σ 13 l (nI g)) l k) b) then cF pm (fun g => heardF (up2 σ 13 l (nI g)) l k) ((fun g => heardF (up2 σ 13 l (nI g)) l k) b) else v) else v)), some (.int (nI (b + 1))), none, some (.int (nI j))] _ _ _
                      refine z_kill 6 ?_
                      show Z D B xX5_worstAt _ _ _ 38 [some (.ref p), some (.int (nI l)), some (.int (nI k)), some (.int (if pm b = true then (if v < cF pm (fun g => heardF (up2 σ 13 l (nI g)) l k) ((fun g => heardF (up2 σ 13 l (nI g)) l k) b) then cF pm (fun g => heardF (up2 σ 13 l (nI g)) l k) ((fun g => heardF (up2 σ 13 l (nI g)) l k) b) else v) else v)), some (.int (nI (b + 1))), none, none] _ _ _
                      exact ih38 (if pm b = true then (if v < cF pm (fun g => heardF (up2 σ 13 l (nI g)) l k) ((fun g => heardF (up2 σ 13 l (nI g)) l k) b) then cF pm (fun g => heardF (up2 σ 13 l (nI g)) l k) ((fun g => heardF (up2 σ 13 l (nI g)) l k) b) else v) else v) (b + 1) (by omega) (by omega) (by omega) (wF_s (F := (fun g => heardF (up2 σ 13 l (nI g)) l k)) (by omega) hv)
                    · refine z_iload (pc := 68) (zk7 kX5_worstAt_2) rfl ?_
                      suffices hJ : Z D B xX5_worstAt 0 0 (fun r h1 z1 => ∃ (ω1 : Ln) (q1 : Int32), r = some (.int (wF pm (fun g => heardF (up2 σ 13 l (nI g)) l k) 40)) ∧ MoAt h1 p (up2 σ 13 l q1) τ ω1 ε mv kp tr ∧ (∀ a, 1 ≤ a → a ≤ 40 → ω1 18 a = oI (pm a)) ∧ ω1 19 0 = ω 19 0 ∧ Upd h h1 p 29 ∧ z1 = sz) 102 [some (.ref p), some (.int (nI l)), some (.int (nI k)), some (.int v), some (.int (nI b)), some (.int c), some (.int (nI j))] [.int (oI (pm j && decide (heardF (up2 σ 13 l (nI j)) l k = heardF (up2 σ 13 l (nI b)) l k))), .int c] g sz from by
                        refine z_aload_n (pc := 70) (zk8 kX5_worstAt_2) rfl ?_
                        refine z_getf (pc := 71) (zk9 kX5_worstAt_2) flX5_74 hM.1 gMo_35 ?_
                        refine z_iload (pc := 74) (zk10 kX5_worstAt_2) rfl ?_
                        refine z_zaldN (pc := 76) (zk11 kX5_worstAt_2) (f := w1 18) (j := j) hM.2.2.2.2.2.2.2.2.2.2.2.2.2.2.2.2.2.2.2.2.1 (show j < 41 by omega) rfl ?_
                        refine z_top (congrArg Value.int (hmy j (by omega) (by omega))) ?_
                        refine z_oif_eq (pc := 77) (zk12 kX5_worstAt_2) (tgt := 101) (by decide) (fun c_7 => ?_) (fun c_7 => ?_)
                        · refine z_iconst (pc := 101) (zk8 kX5_worstAt_3) (v := 0) (by decide) ?_
                          exact z_top (congrArg Value.int (by simp [oI, c_1, Int32.not_le.mpr c_1, c_2, Int32.not_lt.mp c_2, c_3, Int32.not_lt.mp c_3, c_5, c_7])) hJ
                        · refine z_aload_n (pc := 80) (zk13 kX5_worstAt_2) rfl ?_
                          refine z_getf (pc := 81) (zk14 kX5_worstAt_2) flX5_78 hM.1 gMo_39 ?_
                          refine z_iload (pc := 84) (zk15 kX5_worstAt_2) rfl ?_
                          refine z_ialdN (pc := 86) (zk0 kX5_worstAt_3) (f := w1 22) (j := j) hM.2.2.2.2.2.2.2.2.2.2.2.2.2.2.2.2.2.2.2.2.2 (show j < 41 by omega) rfl ?_
                          refine z_top (congrArg Value.int (hh_ j (by omega) (by omega))) ?_
                          refine z_aload_n (pc := 87) (zk1 kX5_worstAt_3) rfl ?_
                          refine z_getf (pc := 88) (zk2 kX5_worstAt_3) flX5_78 hM.1 gMo_39 ?_
                          refine z_iload (pc := 91) (zk3 kX5_worstAt_3) rfl ?_
                          refine z_ialdN (pc := 93) (zk4 kX5_worstAt_3) (f := w1 22) (j := b) hM.2.2.2.2.2.2.2.2.2.2.2.2.2.2.2.2.2.2.2.2.2 (show b < 41 by omega) rfl ?_
                          refine z_top (congrArg Value.int (hh_ b (by omega) (by omega))) ?_
                          refine z_icmp_ne (pc := 94) (zk5 kX5_worstAt_3) (tgt := 101) (by decide) (fun c_8 => ?_) (fun c_8 => ?_)
                          · refine z_iconst (pc := 101) (zk8 kX5_worstAt_3) (v := 0) (by decide) ?_
                            exact z_top (congrArg Value.int (by simp [oI, c_1, Int32.not_le.mpr c_1, c_2, Int32.not_lt.mp c_2, c_3, Int32.not_lt.mp c_3, c_5, c_7, c_8])) hJ
                          · refine z_iconst (pc := 97) (zk6 kX5_worstAt_3) (v := 1) (by decide) ?_
                            refine z_goto (pc := 98) (zk7 kX5_worstAt_3) (tgt := 102) (by decide) ?_
                            exact z_top (congrArg Value.int (by simp [oI, c_1, Int32.not_le.mpr c_1, c_2, Int32.not_lt.mp c_2, c_3, Int32.not_lt.mp c_3, c_5, c_7, c_8])) hJ
                      refine z_iadd (pc := 102) (zk9 kX5_worstAt_3) ?_
                      refine z_istore (pc := 103) (zk10 kX5_worstAt_3) rfl rfl ?_
                      show Z D B xX5_worstAt _ _ _ 105 [some (.ref p), some (.int (nI l)), some (.int (nI k)), some (.int v), some (.int (nI b)), some (.int (c + (oI (pm j && decide (heardF (up2 σ 13 l (nI j)) l k = heardF (up2 σ 13 l (nI b)) l k))))), some (.int (nI j))] _ _ _
                      refine z_iinc (pc := 105) (zk11 kX5_worstAt_3) (v := nI (j + 1)) rfl zinc rfl rfl ?_
                      show Z D B xX5_worstAt _ _ _ 108 [some (.ref p), some (.int (nI l)), some (.int (nI k)), some (.int v), some (.int (nI b)), some (.int (c + (oI (pm j && decide (heardF (up2 σ 13 l (nI j)) l k = heardF (up2 σ 13 l (nI b)) l k))))), some (.int (nI (j + 1)))] _ _ _
                      refine z_goto (pc := 108) (zk12 kX5_worstAt_3) (tgt := 51) (by decide) ?_
                      exact ih51 (c + (oI (pm j && decide (heardF (up2 σ 13 l (nI j)) l k = heardF (up2 σ 13 l (nI b)) l k)))) (j + 1) (by omega) (by omega) (by omega) (wc_s (F := (fun g => heardF (up2 σ 13 l (nI g)) l k)) (by omega) hc) (fun q => absurd q (by rw [c_5]; decide))
              exact lp51 _ 0 1 (Nat.lt_succ_self _) (by omega) (by omega) rfl (fun _ => rfl)
        exact lp38 _ 0 1 (Nat.lt_succ_self _) (by omega) (by omega) rfl
      · have hlt_i : i < 41 := nI_gt_not (a := 40) (by omega) c_1
        refine z_aload_n (pc := 8) (zk5 kX5_worstAt_0) rfl ?_
        refine z_getf (pc := 9) (zk6 kX5_worstAt_0) flX5_62 hM.1 gMo_21 ?_
        refine z_iload_n (pc := 12) (zk7 kX5_worstAt_0) rfl ?_
        refine z_iload_n (pc := 13) (zk8 kX5_worstAt_0) rfl ?_
        refine z_Mo_s24 (pc := 14) (zk9 kX5_worstAt_0) (j := l) hM (by omega) (show l < 8 by omega) (fun h_9 hR hU_10 => ?_)
        replace hU := hU.tr hU_10 (by omega) (by omega)
        replace hM := hR; clear hR
        rw [up2_up2] at hM
        refine z_aload_n (pc := 15) (zk10 kX5_worstAt_0) rfl ?_
        refine z_getf (pc := 16) (zk11 kX5_worstAt_0) flX5_78 hM.1 gMo_39 ?_
        refine z_iload_n (pc := 19) (zk12 kX5_worstAt_0) rfl ?_
        refine z_aload_n (pc := 20) (zk13 kX5_worstAt_0) rfl ?_
        refine z_iload_n (pc := 21) (zk14 kX5_worstAt_0) rfl ?_
        refine z_iload_n (pc := 22) (zk15 kX5_worstAt_0) rfl ?_
        refine z_rdV (pc := 23) (zk0 kX5_worstAt_1) (st := [.int (nI i), .ref (p + 28)]) lkX5_115 ivX5_heardAt hM.1 rfl rfl (c_mheardAt hM hn h12 (show l < 8 by omega) (show k < n by omega) hto) rfl ⟨rfl, rfl⟩ rfl rfl ?_ rfl
        refine z_Mo_s28 (pc := 26) (zk1 kX5_worstAt_1) (j := i) hM (by omega) (show i < 41 by omega) (fun h_11 hR hU_12 => ?_)
        replace hU := hU.tr hU_12 (by omega) (by omega)
        replace hM := hR; clear hR
        refine z_iinc (pc := 27) (zk2 kX5_worstAt_1) (v := nI (i + 1)) rfl zinc rfl rfl ?_
        show Z D B xX5_worstAt _ _ _ 30 [some (.ref p), some (.int (nI l)), some (.int (nI k)), some (.int (nI (i + 1))), none, none, none] _ _ _
        refine z_goto (pc := 30) (zk3 kX5_worstAt_1) (tgt := 2) (by decide) ?_
        exact ih2 (up2 w1 22 i (heardF (up2 σ 13 l (nI i)) l k)) h_11 (nI i) (i + 1) (by omega) (by omega) (by omega) (hb_s (F := (fun g => heardF (up2 σ 13 l (nI g)) l k)) hh_) hmy h19 hM hU
  exact lp2 _ ω h (σ 13 l) 1 (Nat.lt_succ_self _) (by omega) (by omega) (fun a q r => by omega) hmy rfl (by rw [up2_id]; exact hM) hU
