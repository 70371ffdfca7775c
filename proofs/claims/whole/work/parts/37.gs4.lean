theorem mk_st {σ : Ln} {e : Nat → Int64} {q l i : Nat} {m : Nat → Int32} (h : ∀ a, 1 ≤ a → a < i → m a = oI (lenB σ e q l a)) : ∀ a, 1 ≤ a → a < i + 1 → upd m i (oI (sndB (up2 σ 13 l (nI i)) e l q)) a = oI (lenB σ e q l a) := by
  intro a h1 h2
  by_cases c : a = i
  · subst c; rw [upd_i]; rfl
  · rw [show upd m i (oI (sndB (up2 σ 13 l (nI i)) e l q)) a = m a by simp [upd, c], h a h1 (by omega)]
set_option maxRecDepth 20000 in
theorem c_markLengths {D : zD} {B : Nat} {h : zH} {sz : Nat} {p po : Nat} {σ γ : Ln} {mk tl : Nat → Int32} {ps : Nat} {he sn : Int32} {el : Nat → Int64} {n ct l : Nat} (hG : GuAt h p mk tl) (hγ : LnAt h (p + 1) γ) (hL : LnAt h po σ) (hB : B ≤ p) (hd : p + 12 ≤ po ∨ po + 9 ≤ p) (hbk : σ 6 0 = 0 ∨ σ 6 0 = 1) (hS : ShAt h ps he sn el) (hds : p + 12 ≤ ps ∨ ps + 2 ≤ p) (hn : σ 0 0 = nI n) (h12 : n ≤ 12) (hl : l < 8) (hq : ct ≤ n) : zM D B xX0_markLengths [.ref p, .ref po, .ref ps, .int (nI ct), .int (nI l)] h sz (fun r h1 z1 => ∃ (mk1 : Nat → Int32) (q1 : Int32), r = some (.int (lenC σ el ct l)) ∧ GuAt h1 p mk1 tl ∧ LnAt h1 (p + 1) (up2 σ 13 l q1) ∧ (∀ a, 1 ≤ a → a ≤ 40 → mk1 a = oI (lenB σ el ct l a)) ∧ Upd h h1 p 12 ∧ z1 = sz) := by
  have hU : Upd h h p 12 := Upd.rf
  refine zM.of (by decide) rfl (n := 2) ?_
  show Z D B xX0_markLengths 0 0 _ 0 [some (.ref p), some (.ref po), some (.ref ps), some (.int (nI ct)), some (.int (nI l)), none, none] [] h sz
  refine z_aload_n (pc := 0) (zk0 kX0_markLengths_0) rfl ?_
  refine z_aload_n (pc := 1) (zk1 kX0_markLengths_0) rfl ?_
  refine z_efV (pc := 2) (zk2 kX0_markLengths_0) (st := []) lkX0_30 ivX0_freshFrom hG.1 rfl rfl (c_fresh hG hγ hL (by omega) (by omega) hbk) rfl ⟨rfl, rfl⟩ rfl rfl (fun r_ h_2 z_ q_1 => ?_) rfl
  obtain ⟨er_, hR, hU_3, ez_⟩ := q_1
  rw [er_, ez_]
  clear er_ ez_
  replace hG := GuAt.fr hG hU_3 (by omega)
  replace hL := LnAt.fr hL hU_3 (by omega)
  replace hS := ShAt.fr hS hU_3 (by omega)
  replace hU := hU.tr hU_3 (by omega) (by omega)
  replace hγ := hR; clear hR
  show Z D B xX0_markLengths _ _ _ 5 _ [.ref (p + 1)] _ _
  refine z_pop (pc := 5) (zk3 kX0_markLengths_0) rfl ?_
  refine z_iconst (pc := 6) (zk4 kX0_markLengths_0) (v := 0) (by decide) ?_
  refine z_istore (pc := 7) (zk5 kX0_markLengths_0) rfl rfl ?_
  show Z D B xX0_markLengths _ _ _ 9 [some (.ref p), some (.ref po), some (.ref ps), some (.int (nI ct)), some (.int (nI l)), some (.int 0), none] _ _ _
  refine z_iconst (pc := 9) (zk6 kX0_markLengths_0) (v := 1) (by decide) ?_
  refine z_istore (pc := 10) (zk7 kX0_markLengths_0) rfl rfl ?_
  show Z D B xX0_markLengths _ _ _ 12 [some (.ref p), some (.ref po), some (.ref ps), some (.int (nI ct)), some (.int (nI l)), some (.int 0), some (.int 1)] _ _ _
  have lp12 : ∀ (n_ : Nat) (mk1 : Nat → Int32) (g : zH) (q : Int32) (t : Int32) (i : Nat), 41 - i < n_ → (1 ≤ i) → (i ≤ 41) → (t = sum0 (fun j => oI ((lenB σ el ct l) (j + 1))) (i - 1)) → (∀ a, 1 ≤ a → a < i → mk1 a = oI ((lenB σ el ct l) a)) → (LnAt g (p + 1) (up2 σ 13 l q)) → (GuAt g p mk1 tl) → (LnAt g po σ) → (Upd h g p 12) → (ShAt g ps he sn el) → Z D B xX0_markLengths 0 0 (fun r h1 z1 => ∃ (mk1 : Nat → Int32) (q1 : Int32), r = some (.int (lenC σ el ct l)) ∧ GuAt h1 p mk1 tl ∧ LnAt h1 (p + 1) (up2 σ 13 l q1) ∧ (∀ a, 1 ≤ a → a ≤ 40 → mk1 a = oI (lenB σ el ct l a)) ∧ Upd h h1 p 12 ∧ z1 = sz) 12 [some (.ref p), some (.ref po), some (.ref ps), some (.int (nI ct)), some (.int (nI l)), some (.int t), some (.int (nI i))] [] g sz := by
    intro n_
    induction n_ with
    | zero => intro mk1 g q t i hm_; exact absurd hm_ (Nat.not_lt_zero _)
    | succ n_ ih12 =>
      intro mk1 g q t i hm_ h0_i hi_i ht hmk hγ hG hL hU hS
      refine z_iload (pc := 12) (zk8 kX0_markLengths_0) rfl ?_
      refine z_bipush (pc := 14) (zk9 kX0_markLengths_0) (v := 40) (by decide) ?_
      refine z_icmp_gt (pc := 16) (zk10 kX0_markLengths_0) (tgt := 67) (by decide) (fun c_4 => ?_) (fun c_4 => ?_)
      · have hie_i : i = 41 := nI_gt_yes (a := 40) (by omega) (by omega) c_4
        refine z_iload (pc := 67) (zk4 kX0_markLengths_2) rfl ?_
        exact z_iret (pc := 69) (zk5 kX0_markLengths_2) rfl (Nat.zero_le _) (Nat.zero_le _) ⟨_, _, by rw [ht, hie_i]; rfl, hG, hγ, fun a q r => hmk a q (by omega), hU, rfl⟩
      · have hlt_i : i < 41 := nI_gt_not (a := 40) (by omega) c_4
        refine z_aload_n (pc := 19) (zk11 kX0_markLengths_0) rfl ?_
        refine z_getf (pc := 20) (zk12 kX0_markLengths_0) flX0_12 hG.1 gGu_0 ?_
        refine z_getf (pc := 23) (zk13 kX0_markLengths_0) flX0_59 hγ.1 gLn_13 ?_
        refine z_iload (pc := 26) (zk14 kX0_markLengths_0) rfl ?_
        refine z_iload (pc := 28) (zk15 kX0_markLengths_0) rfl ?_
        refine z_Ln_s8 (pc := 30) (zk0 kX0_markLengths_1) (j := l) hγ (by omega) (show l < 8 by omega) (fun h_5 hR hU_6 => ?_)
        replace hG := GuAt.fr hG hU_6 (by omega)
        replace hL := LnAt.fr hL hU_6 (by omega)
        replace hS := ShAt.fr hS hU_6 (by omega)
        replace hU := hU.tr hU_6 (by omega) (by omega)
        replace hγ := hR; clear hR
        rw [up2_up2] at hγ
        refine z_aload_n (pc := 31) (zk1 kX0_markLengths_1) rfl ?_
        refine z_getf (pc := 32) (zk2 kX0_markLengths_1) flX0_18 hG.1 gGu_1 ?_
        refine z_iload (pc := 35) (zk3 kX0_markLengths_1) rfl ?_
        refine z_aload_n (pc := 37) (zk4 kX0_markLengths_1) rfl ?_
        refine z_aload_n (pc := 38) (zk5 kX0_markLengths_1) rfl ?_
        refine z_iload_n (pc := 39) (zk6 kX0_markLengths_1) rfl ?_
        refine z_iload (pc := 40) (zk7 kX0_markLengths_1) rfl ?_
        refine z_rdV (pc := 42) (zk8 kX0_markLengths_1) (st := [.int (nI i), .ref (p + 10)]) lkX0_75 ivX0_fitsHeard hG.1 rfl rfl (c_fitsHeard hG hγ hS hn h12 (show l < 8 by omega) (by omega)) rfl ⟨rfl, rfl⟩ rfl rfl ?_ rfl
        refine z_Gu_s10 (pc := 45) (zk9 kX0_markLengths_1) (j := i) hG (by omega) (show i < 41 by omega) (oI_01 _) (fun h_7 hR hU_8 => ?_)
        replace hγ := LnAt.fr hγ hU_8 (by omega)
        replace hL := LnAt.fr hL hU_8 (by omega)
        replace hS := ShAt.fr hS hU_8 (by omega)
        replace hU := hU.tr hU_8 (by omega) (by omega)
        replace hG := hR; clear hR
        refine z_iload (pc := 46) (zk10 kX0_markLengths_1) rfl ?_
        refine z_aload_n (pc := 48) (zk11 kX0_markLengths_1) rfl ?_
        refine z_getf (pc := 49) (zk12 kX0_markLengths_1) flX0_18 hG.1 gGu_1 ?_
        refine z_iload (pc := 52) (zk13 kX0_markLengths_1) rfl ?_
        refine z_zaldN (pc := 54) (zk14 kX0_markLengths_1) (f := (upd mk1 i (oI (sndB (up2 σ 13 l (nI i)) el l ct)))) (j := i) hG.2.1 (show i < 41 by omega) rfl ?_
        refine z_top (congrArg Value.int (upd_i _ _ _)) ?_
        refine z_rdSN (pc := 55) (zk15 kX0_markLengths_1) (st := [.int t]) lkX0_79 isX4_asNumber (c_asNumber) rfl ⟨rfl, rfl⟩ rfl rfl ?_ rfl
        refine z_iadd (pc := 58) (zk0 kX0_markLengths_2) ?_
        refine z_istore (pc := 59) (zk1 kX0_markLengths_2) rfl rfl ?_
        show Z D B xX0_markLengths _ _ _ 61 [some (.ref p), some (.ref po), some (.ref ps), some (.int (nI ct)), some (.int (nI l)), some (.int (t + (oI (sndB (up2 σ 13 l (nI i)) el l ct)))), some (.int (nI i))] _ _ _
        refine z_iinc (pc := 61) (zk2 kX0_markLengths_2) (v := nI (i + 1)) rfl zinc rfl rfl ?_
        show Z D B xX0_markLengths _ _ _ 64 [some (.ref p), some (.ref po), some (.ref ps), some (.int (nI ct)), some (.int (nI l)), some (.int (t + (oI (sndB (up2 σ 13 l (nI i)) el l ct)))), some (.int (nI (i + 1)))] _ _ _
        refine z_goto (pc := 64) (zk3 kX0_markLengths_2) (tgt := 12) (by decide) ?_
        exact ih12 (upd mk1 i (oI (sndB (up2 σ 13 l (nI i)) el l ct))) h_7 (nI i) (t + (oI (sndB (up2 σ 13 l (nI i)) el l ct))) (i + 1) (by omega) (by omega) (by omega) (fl_1 (by omega) ht) (mk_st hmk) hγ hG hL hU hS
  exact lp12 _ mk h_2 (σ 13 l) 0 1 (Nat.lt_succ_self _) (by omega) (by omega) rfl (fun a q r => by omega) (by rw [up2_id]; exact hγ) hG hL hU hS
set_option maxRecDepth 20000 in
theorem c_leastMarked {D : zD} {B : Nat} {h : zH} {sz : Nat} {p : Nat} {mk tl : Nat → Int32} {P : Nat → Bool} (hG : GuAt h p mk tl) (hmk : ∀ a, 1 ≤ a → a ≤ 40 → mk a = oI (P a))  : zRd D B xX0_leastMarked [.ref p] h sz (.int (lstD P 1 40)) := by
  refine zM.of (by decide) rfl (n := 1) ?_
  show Z D B xX0_leastMarked 0 0 _ 0 [some (.ref p), none] [] h sz
  refine z_iconst (pc := 0) (zk0 kX0_leastMarked_0) (v := 1) (by decide) ?_
  refine z_istore_n (pc := 1) (zk1 kX0_leastMarked_0) rfl rfl ?_
  show Z D B xX0_leastMarked _ _ _ 2 [some (.ref p), some (.int 1)] _ _ _
  have lp2 : ∀ (n_ : Nat) (i : Nat), 41 - i < n_ → (1 ≤ i) → (i ≤ 41) → (lstD P i (41 - i) = lstD P 1 40) → Z D B xX0_leastMarked 0 0 (fun r h1 z1 => r = some (.int (lstD P 1 40)) ∧ h1 = h ∧ z1 = sz) 2 [some (.ref p), some (.int (nI i))] [] h sz := by
    intro n_
    induction n_ with
    | zero => intro i hm_; exact absurd hm_ (Nat.not_lt_zero _)
    | succ n_ ih2 =>
      intro i hm_ h0_i hi_i ha_
      refine z_iload_n (pc := 2) (zk2 kX0_leastMarked_0) rfl ?_
      refine z_bipush (pc := 3) (zk3 kX0_leastMarked_0) (v := 40) (by decide) ?_
      refine z_icmp_gt (pc := 5) (zk4 kX0_leastMarked_0) (tgt := 25) (by decide) (fun c_1 => ?_) (fun c_1 => ?_)
      · have hie_i : i = 41 := nI_gt_yes (a := 40) (by omega) (by omega) c_1
        refine z_iconst (pc := 25) (zk14 kX0_leastMarked_0) (v := (-1)) (by decide) ?_
        exact z_iret (pc := 26) (zk15 kX0_leastMarked_0) rfl (Nat.zero_le _) (Nat.zero_le _) ⟨by rw [← ha_, lstD_e hie_i], rfl, rfl⟩
      · have hlt_i : i < 41 := nI_gt_not (a := 40) (by omega) c_1
        refine z_aload_n (pc := 8) (zk5 kX0_leastMarked_0) rfl ?_
        refine z_getf (pc := 9) (zk6 kX0_leastMarked_0) flX0_18 hG.1 gGu_1 ?_
        refine z_iload_n (pc := 12) (zk7 kX0_leastMarked_0) rfl ?_
        refine z_zaldN (pc := 13) (zk8 kX0_leastMarked_0) (f := mk) (j := i) hG.2.1 (show i < 41 by omega) rfl ?_
        refine z_top (congrArg Value.int (hmk (i) (by omega) (by omega))) ?_
        refine z_oif_eq (pc := 14) (zk9 kX0_leastMarked_0) (tgt := 19) (by decide) (fun c_2 => ?_) (fun c_2 => ?_)
        · refine z_iinc (pc := 19) (zk12 kX0_leastMarked_0) (v := nI (i + 1)) rfl zinc rfl rfl ?_
          show Z D B xX0_leastMarked _ _ _ 22 [some (.ref p), some (.int (nI (i + 1)))] _ _ _
          refine z_goto (pc := 22) (zk13 kX0_leastMarked_0) (tgt := 2) (by decide) ?_
          exact ih2 (i + 1) (by omega) (by omega) (by omega) (by rw [← ha_]; exact (lstD_n hlt_i c_2).symm)
        · refine z_iload_n (pc := 17) (zk10 kX0_leastMarked_0) rfl ?_
          exact z_iret (pc := 18) (zk11 kX0_leastMarked_0) rfl (Nat.zero_le _) (Nat.zero_le _) ⟨by rw [← ha_, lstD_h hlt_i c_2], rfl, rfl⟩
  exact lp2 _ 1 (Nat.lt_succ_self _) (by omega) (by omega) rfl
set_option maxRecDepth 20000 in
theorem c_greatestMarked {D : zD} {B : Nat} {h : zH} {sz : Nat} {p : Nat} {mk tl : Nat → Int32} {P : Nat → Bool} (hG : GuAt h p mk tl) (hmk : ∀ a, 1 ≤ a → a ≤ 40 → mk a = oI (P a))  : zRd D B xX0_greatestMarked [.ref p] h sz (.int (lstU P 40)) := by
  refine zM.of (by decide) rfl (n := 1) ?_
  show Z D B xX0_greatestMarked 0 0 _ 0 [some (.ref p), none] [] h sz
  refine z_bipush (pc := 0) (zk0 kX0_greatestMarked_0) (v := 40) (by decide) ?_
  refine z_istore_n (pc := 2) (zk1 kX0_greatestMarked_0) rfl rfl ?_
  show Z D B xX0_greatestMarked _ _ _ 3 [some (.ref p), some (.int 40)] _ _ _
  have lp3 : ∀ (n_ : Nat) (d : Nat), d < n_ → (d ≤ 40) → (lstU P d = lstU P 40) → Z D B xX0_greatestMarked 0 0 (fun r h1 z1 => r = some (.int (lstU P 40)) ∧ h1 = h ∧ z1 = sz) 3 [some (.ref p), some (.int (nI d))] [] h sz := by
    intro n_
    induction n_ with
    | zero => intro d hm_; exact absurd hm_ (Nat.not_lt_zero _)
    | succ n_ ih3 =>
      intro d hm_ hd_ ha_
      refine z_iload_n (pc := 3) (zk2 kX0_greatestMarked_0) rfl ?_
      refine z_iconst (pc := 4) (zk3 kX0_greatestMarked_0) (v := 1) (by decide) ?_
      refine z_icmp_lt (pc := 5) (zk4 kX0_greatestMarked_0) (tgt := 25) (by decide) (fun c_1 => ?_) (fun c_1 => ?_)
      · have hd0 : d = 0 := dn_01 (by omega) c_1
        refine z_iconst (pc := 25) (zk14 kX0_greatestMarked_0) (v := (-1)) (by decide) ?_
        exact z_iret (pc := 26) (zk15 kX0_greatestMarked_0) rfl (Nat.zero_le _) (Nat.zero_le _) ⟨by rw [← ha_, hd0]; rfl, rfl, rfl⟩
      · obtain ⟨i, rfl⟩ : ∃ i, d = i + 1 := ⟨d - 1, by have := dn_pos1 c_1; omega⟩
        refine z_aload_n (pc := 8) (zk5 kX0_greatestMarked_0) rfl ?_
        refine z_getf (pc := 9) (zk6 kX0_greatestMarked_0) flX0_18 hG.1 gGu_1 ?_
        refine z_iload_n (pc := 12) (zk7 kX0_greatestMarked_0) rfl ?_
        refine z_zaldN (pc := 13) (zk8 kX0_greatestMarked_0) (f := mk) (j := i + 1) hG.2.1 (show i + 1 < 41 by omega) rfl ?_
        refine z_top (congrArg Value.int (hmk (i + 1) (by omega) (by omega))) ?_
        refine z_oif_eq (pc := 14) (zk9 kX0_greatestMarked_0) (tgt := 19) (by decide) (fun c_2 => ?_) (fun c_2 => ?_)
        · refine z_iinc (pc := 19) (zk12 kX0_greatestMarked_0) (v := nI i) rfl zdp rfl rfl ?_
          show Z D B xX0_greatestMarked _ _ _ 22 [some (.ref p), some (.int (nI i))] _ _ _
          refine z_goto (pc := 22) (zk13 kX0_greatestMarked_0) (tgt := 3) (by decide) ?_
          exact ih3 i (by omega) (by omega) (by rw [← ha_, lstU, c_2]; rfl)
        · refine z_iload_n (pc := 17) (zk10 kX0_greatestMarked_0) rfl ?_
          exact z_iret (pc := 18) (zk11 kX0_greatestMarked_0) rfl (Nat.zero_le _) (Nat.zero_le _) ⟨by rw [← ha_, lstU, if_pos c_2], rfl, rfl⟩
  exact lp3 _ 40 (Nat.lt_succ_self _) (by omega) rfl
theorem wthn_le {w a : Int32} (h : 0 ≤ a) : wthn w a ≤ a := by
  unfold wthn
  by_cases c : w < 0
  · rw [if_pos c]; exact h
  · rw [if_neg c]
    by_cases d : a < w
    · rw [if_pos d]; exact Int32.le_refl _
    · rw [if_neg d]; exact Int32.not_lt.mp d
theorem ite_le {c : Prop} [Decidable c] {a b x : Int32} (ha : a ≤ x) (hb : b ≤ x) : (if c then a else b) ≤ x := by
  by_cases q : c
  · rw [if_pos q]; exact ha
  · rw [if_neg q]; exact hb
theorem heard_le {σ : Ln} {l k : Nat} (h : 0 ≤ σ 13 l) : heardF σ l k ≤ σ 13 l := by
  unfold heardF heardW
  refine ite_le ?_ h
  refine ite_le (wthn_le h) ?_
  refine ite_le (wthn_le h) ?_
  refine ite_le (ite_le (wthn_le h) h) ?_
  refine ite_le (ite_le (wthn_le h) h) ?_
  exact ite_le (ite_le (Int32.le_refl _) h) (wthn_le h)
theorem nI_rng {x : Int32} {g : Nat} (hg : g ≤ 900) (h0 : 0 ≤ x) (h1 : x ≤ nI g) : ∃ w, w ≤ g ∧ x = nI w := by
  obtain ⟨k, hk, e⟩ := okR_c (c := g) (x := x) hg (by unfold okR; rw [decide_eq_true h0, decide_eq_true h1]; rfl)
  exact ⟨k, by omega, e⟩
theorem heard_rng {σ : Ln} {l k g : Nat} (hg : g ≤ 40) : ∃ w, w ≤ g ∧ heardF (up2 σ 13 l (nI g)) l k = nI w := by
  have e : up2 σ 13 l (nI g) 13 l = nI g := up2_eq _ _ _ _
  have h0 : 0 ≤ up2 σ 13 l (nI g) 13 l := by rw [e]; exact Int32.not_lt.mp (nI_pos (n := g) (by omega))
  refine nI_rng (by omega) (heard_nn h0) ?_
  have := heard_le (k := k) h0
  rwa [e] at this
/-- of 1 to i, how many that p says are heard as w is -/
def cnN (p : Nat → Bool) (f : Nat → Nat) (w : Nat) : Nat → Nat
  | 0 => 0
  | i + 1 => if p (i + 1) = true ∧ f (i + 1) = w then cnN p f w i + 1 else cnN p f w i
theorem cnN_le (p : Nat → Bool) (f : Nat → Nat) (w : Nat) : ∀ i, cnN p f w i ≤ i
  | 0 => Nat.le_refl _
  | i + 1 => by
    have := cnN_le p f w i
    rw [cnN]; split <;> omega
theorem cnN_mono (p : Nat → Bool) (f : Nat → Nat) (w : Nat) {i : Nat} : ∀ d, cnN p f w i ≤ cnN p f w (i + d)
  | 0 => Nat.le_refl _
  | d + 1 => by
    have := cnN_mono p f w (i := i) d
    rw [show i + (d + 1) = (i + d) + 1 by omega, cnN]; split <;> omega
/-- the most at once, by going along -/
def mxN (p : Nat → Bool) (f : Nat → Nat) : Nat → Nat
  | 0 => 0
  | i + 1 => if p (i + 1) = true then (if mxN p f i < cnN p f (f (i + 1)) (i + 1) then cnN p f (f (i + 1)) (i + 1) else mxN p f i) else mxN p f i
/-- the most in the end -/
def wrN (p : Nat → Bool) (f : Nat → Nat) (m : Nat) : Nat → Nat
  | 0 => 0
  | i + 1 => if p (i + 1) = true then (if wrN p f m i < cnN p f (f (i + 1)) m then cnN p f (f (i + 1)) m else wrN p f m i) else wrN p f m i
theorem mxN_A (p : Nat → Bool) (f : Nat → Nat) : ∀ i v, 1 ≤ v → v ≤ i → p v = true → cnN p f (f v) i ≤ mxN p f i
  | 0, v, h1, h2, _ => by omega
  | i + 1, v, h1, h2, hp => by
    rw [mxN]
    by_cases c : p (i + 1) = true
    · rw [if_pos c]
      by_cases e : f (i + 1) = f v
      · rw [e]; split <;> omega
      · have hv : v ≤ i := by
          rcases Nat.lt_or_ge i v with q | q
          · exact absurd (by rw [show v = i + 1 by omega]) e
          · exact q
        have ih := mxN_A p f i v h1 hv hp
        have e2 : cnN p f (f v) (i + 1) = cnN p f (f v) i := by rw [cnN, if_neg (fun q => e q.2)]
        rw [e2]; split <;> omega
    · rw [if_neg c]
      have hv : v ≤ i := by
        rcases Nat.lt_or_ge i v with q | q
        · rw [show v = i + 1 by omega] at hp; exact absurd hp c
        · exact q
      have e2 : cnN p f (f v) (i + 1) = cnN p f (f v) i := by rw [cnN, if_neg (fun q => c q.1)]
      rw [e2]; exact mxN_A p f i v h1 hv hp
theorem mxN_B (p : Nat → Bool) (f : Nat → Nat) : ∀ i, mxN p f i = 0 ∨ ∃ v, 1 ≤ v ∧ v ≤ i ∧ p v = true ∧ mxN p f i ≤ cnN p f (f v) i
  | 0 => Or.inl rfl
  | i + 1 => by
    have old : mxN p f i = 0 ∨ ∃ v, 1 ≤ v ∧ v ≤ i + 1 ∧ p v = true ∧ mxN p f i ≤ cnN p f (f v) (i + 1) := by
      rcases mxN_B p f i with q | ⟨v, h1, h2, h3, h4⟩
      · exact Or.inl q
      · exact Or.inr ⟨v, h1, by omega, h3, Nat.le_trans h4 (cnN_mono p f (f v) 1)⟩
    rw [mxN]
    by_cases c : p (i + 1) = true
    · rw [if_pos c]
      by_cases d : mxN p f i < cnN p f (f (i + 1)) (i + 1)
      · rw [if_pos d]; exact Or.inr ⟨i + 1, by omega, by omega, c, Nat.le_refl _⟩
      · rw [if_neg d]; exact old
    · rw [if_neg c]; exact old
theorem wrN_A (p : Nat → Bool) (f : Nat → Nat) (m : Nat) : ∀ i v, 1 ≤ v → v ≤ i → p v = true → cnN p f (f v) m ≤ wrN p f m i
  | 0, v, h1, h2, _ => by omega
  | i + 1, v, h1, h2, hp => by
    rw [wrN]
    by_cases e : v = i + 1
    · subst e; rw [if_pos hp]; split <;> omega
    · have ih := wrN_A p f m i v h1 (by omega) hp
      split
      · split <;> omega
      · exact ih
theorem wrN_B (p : Nat → Bool) (f : Nat → Nat) (m : Nat) : ∀ i, wrN p f m i = 0 ∨ ∃ v, 1 ≤ v ∧ v ≤ i ∧ p v = true ∧ wrN p f m i ≤ cnN p f (f v) m
  | 0 => Or.inl rfl
  | i + 1 => by
    have old : wrN p f m i = 0 ∨ ∃ v, 1 ≤ v ∧ v ≤ i + 1 ∧ p v = true ∧ wrN p f m i ≤ cnN p f (f v) m := by
      rcases wrN_B p f m i with q | ⟨v, h1, h2, h3, h4⟩
      · exact Or.inl q
      · exact Or.inr ⟨v, h1, by omega, h3, h4⟩
    rw [wrN]
    by_cases c : p (i + 1) = true
    · rw [if_pos c]
      by_cases d : wrN p f m i < cnN p f (f (i + 1)) m
      · rw [if_pos d]; exact Or.inr ⟨i + 1, by omega, by omega, c, Nat.le_refl _⟩
      · rw [if_neg d]; exact old
    · rw [if_neg c]; exact old
theorem mx_wr (p : Nat → Bool) (f : Nat → Nat) (m : Nat) : mxN p f m = wrN p f m m := by
  refine Nat.le_antisymm ?_ ?_
  · rcases mxN_B p f m with q | ⟨v, h1, h2, h3, h4⟩
    · omega
    · exact Nat.le_trans h4 (wrN_A p f m m v h1 h2 h3)
  · rcases wrN_B p f m m with q | ⟨v, h1, h2, h3, h4⟩
    · omega
    · exact Nat.le_trans h4 (mxN_A p f m v h1 h2 h3)
/-- what is heard of length g, as a Nat -/
def hrN (σ : Ln) (l k g : Nat) : Nat := (heardF (up2 σ 13 l (nI g)) l k).toNatClampNeg
theorem hrN_eq {σ : Ln} {l k g : Nat} (hg : g ≤ 40) : heardF (up2 σ 13 l (nI g)) l k = nI (hrN σ l k g) ∧ hrN σ l k g ≤ 40 := by
  obtain ⟨w, hw, e⟩ := heard_rng (σ := σ) (l := l) (k := k) hg
  have : hrN σ l k g = w := by rw [hrN, e, nI_clamp (by omega)]
  rw [this]; exact ⟨e, by omega⟩
theorem like_cn {σ : Ln} {e : Nat → Int64} {n l k g : Nat} (hg : g ≤ 40) : ∀ i, i ≤ 40 → sum0 (fun j => oI (lenB σ e n l (j + 1) && decide (heardF (up2 σ 13 l (nI (j + 1))) l k = heardF (up2 σ 13 l (nI g)) l k))) i = nI (cnN (lenB σ e n l) (hrN σ l k) (hrN σ l k g) i)
  | 0, _ => rfl
  | i + 1, hi => by
    rw [sum0, like_cn hg i (by omega), cnN]
    have e1 := hrN_eq (σ := σ) (l := l) (k := k) (g := i + 1) hi
    have e2 := hrN_eq (σ := σ) (l := l) (k := k) hg
    have hd : decide (heardF (up2 σ 13 l (nI (i + 1))) l k = heardF (up2 σ 13 l (nI g)) l k) = decide (hrN σ l k (i + 1) = hrN σ l k g) := by
      rw [e1.1, e2.1]; exact decide_eq_decide.mpr (nI_eqI (by omega) (by omega))
    rw [hd]
    by_cases c : lenB σ e n l (i + 1) = true
    · by_cases d : hrN σ l k (i + 1) = hrN σ l k g
      · rw [if_pos ⟨c, d⟩, c, decide_eq_true d]; exact nI_1 _
      · rw [if_neg (fun q => d q.2), c, decide_eq_false d]; exact Int32.add_zero _
    · rw [if_neg (fun q => c q.1), Bool.not_eq_true _ |>.mp c]; exact Int32.add_zero _
theorem wrst_wr {σ : Ln} {e : Nat → Int64} {n l k : Nat} : ∀ g, g ≤ 40 → wrstF σ e n l k g = nI (wrN (lenB σ e n l) (hrN σ l k) 40 g)
  | 0, _ => rfl
  | g + 1, hg => by
    have h1 : likeC σ e n l k (g + 1) = nI (cnN (lenB σ e n l) (hrN σ l k) (hrN σ l k (g + 1)) 40) := like_cn hg 40 (Nat.le_refl _)
    have b1 := cnN_le (lenB σ e n l) (hrN σ l k) (hrN σ l k (g + 1)) 40
    have b2 : wrN (lenB σ e n l) (hrN σ l k) 40 g ≤ 40 := by
      rcases wrN_B (lenB σ e n l) (hrN σ l k) 40 g with q | ⟨v, _, _, _, h4⟩
      · omega
      · exact Nat.le_trans h4 (cnN_le _ _ _ _)
    rw [wrstF, wrN, h1, wrst_wr g (by omega)]
    by_cases c : lenB σ e n l (g + 1) = true
    · rw [if_pos c, if_pos c]
      by_cases d : wrN (lenB σ e n l) (hrN σ l k) 40 g < cnN (lenB σ e n l) (hrN σ l k) (hrN σ l k (g + 1)) 40
      · rw [if_pos d, if_pos ((nI_ltI (by omega) (by omega)).mpr d)]
      · rw [if_neg d, if_neg (fun q => d ((nI_ltI (by omega) (by omega)).mp q))]
    · rw [if_neg c, if_neg c]
theorem mx_fin {σ : Ln} {e : Nat → Int64} {n l k : Nat} : nI (mxN (lenB σ e n l) (hrN σ l k) 40) = wrstF σ e n l k 40 := by
  rw [wrst_wr 40 (Nat.le_refl _), mx_wr]
theorem mxN_le (p : Nat → Bool) (f : Nat → Nat) (i : Nat) : mxN p f i ≤ i := by
  rcases mxN_B p f i with q | ⟨v, _, _, _, h4⟩
  · omega
  · exact Nat.le_trans h4 (cnN_le _ _ _ _)
theorem zr_st {t : Nat → Int32} {i : Nat} (h : ∀ a, a < i → t a = 0) : ∀ a, a < i + 1 → upd t i 0 a = 0 := by
  intro a ha
  by_cases c : a = i
  · subst c; exact upd_i _ _ _
  · rw [show upd t i 0 a = t a by simp [upd, c]]; exact h a (by omega)
theorem tl_st {p : Nat → Bool} {f : Nat → Nat} {t : Nat → Int32} {i w : Nat} (hi : 1 ≤ i) (hw : w = f i) (hp : p i = true) (h : ∀ a, a ≤ 40 → t a = nI (cnN p f a (i - 1))) : ∀ a, a ≤ 40 → upd t w (t w + 1) a = nI (cnN p f a (i + 1 - 1)) := by
  intro a ha
  obtain ⟨j, rfl⟩ : ∃ j, i = j + 1 := ⟨i - 1, by omega⟩
  rw [show j + 1 + 1 - 1 = j + 1 by omega, cnN]
  rw [show j + 1 - 1 = j by omega] at h
  by_cases c : a = w
  · subst c
    rw [upd_i, if_pos ⟨hp, hw.symm⟩, h a ha]; exact nI_1 _
  · rw [show upd t w (t w + 1) a = t a by simp [upd, c], if_neg (fun q : p (j + 1) = true ∧ f (j + 1) = a => c (by rw [hw]; exact q.2.symm)), h a ha]
theorem tl_sk {p : Nat → Bool} {f : Nat → Nat} {t : Nat → Int32} {i : Nat} (hi : 1 ≤ i) (hp : p i = false) (h : ∀ a, a ≤ 40 → t a = nI (cnN p f a (i - 1))) : ∀ a, a ≤ 40 → t a = nI (cnN p f a (i + 1 - 1)) := by
  intro a ha
  obtain ⟨j, rfl⟩ : ∃ j, i = j + 1 := ⟨i - 1, by omega⟩
  rw [show j + 1 + 1 - 1 = j + 1 by omega, cnN, if_neg (fun q => by rw [hp] at q; exact absurd q.1 (by decide))]
  exact h a ha
theorem mx_st {p : Nat → Bool} {f : Nat → Nat} {t : Nat → Int32} {i w : Nat} {m : Int32} (hi : 1 ≤ i) (hi2 : i ≤ 40) (hw : w = f i) (hw2 : w ≤ 40) (hp : p i = true) (h : ∀ a, a ≤ 40 → t a = nI (cnN p f a (i - 1))) (hm : m = nI (mxN p f (i - 1))) : (if m < t w + 1 then t w + 1 else m) = nI (mxN p f (i + 1 - 1)) := by
  have h2 := tl_st hi hw hp h w hw2
  rw [upd_i] at h2
  rw [h2, hm]
  obtain ⟨j, rfl⟩ : ∃ j, i = j + 1 := ⟨i - 1, by omega⟩
  have b1 := cnN_le p f w (j + 1)
  have b2 := mxN_le p f j
  rw [show j + 1 + 1 - 1 = j + 1 by omega, show j + 1 - 1 = j by omega, mxN, if_pos hp, ← hw]
  by_cases d : mxN p f j < cnN p f w (j + 1)
  · rw [if_pos d, if_pos ((nI_ltI (by omega) (by omega)).mpr d)]
  · rw [if_neg d, if_neg (fun q => d ((nI_ltI (by omega) (by omega)).mp q))]
theorem mx_sk {p : Nat → Bool} {f : Nat → Nat} {i : Nat} {m : Int32} (hi : 1 ≤ i) (hp : p i = false) (hm : m = nI (mxN p f (i - 1))) : m = nI (mxN p f (i + 1 - 1)) := by
  obtain ⟨j, rfl⟩ : ∃ j, i = j + 1 := ⟨i - 1, by omega⟩
  rw [show j + 1 + 1 - 1 = j + 1 by omega, mxN, if_neg (by rw [hp]; decide)]
  exact hm
set_option maxRecDepth 20000 in
theorem c_mostLeft {D : zD} {B : Nat} {h : zH} {sz : Nat} {p n ct l k : Nat} {σ : Ln} {mk tl : Nat → Int32} {q : Int32} {e : Nat → Int64} (hG : GuAt h p mk tl) (hγ : LnAt h (p + 1) (up2 σ 13 l q)) (hB : B ≤ p) (hn : σ 0 0 = nI n) (h12 : n ≤ 12) (hl : l < 8) (hk : k < n) (hmk : ∀ a, 1 ≤ a → a ≤ 40 → mk a = oI (lenB σ e ct l a))  : zM D B xX0_mostLeft [.ref p, .int (nI l), .int (nI k)] h sz (fun r h1 z1 => ∃ (tl1 : Nat → Int32) (q1 : Int32), r = some (.int (wrstF σ e ct l k 40)) ∧ GuAt h1 p mk tl1 ∧ LnAt h1 (p + 1) (up2 σ 13 l q1) ∧ Upd h h1 p 12 ∧ z1 = sz) := by
  have hU : Upd h h p 12 := Upd.rf
  refine zM.of (by decide) rfl (n := 3) ?_
  show Z D B xX0_mostLeft 0 0 _ 0 [some (.ref p), some (.int (nI l)), some (.int (nI k)), none, none, none] [] h sz
  refine z_iconst (pc := 0) (zk0 kX0_mostLeft_0) (v := 0) (by decide) ?_
  refine z_istore_n (pc := 1) (zk1 kX0_mostLeft_0) rfl rfl ?_
  show Z D B xX0_mostLeft _ _ _ 2 [some (.ref p), some (.int (nI l)), some (.int (nI k)), some (.int 0), none, none] _ _ _
  have lp2 : ∀ (n_ : Nat) (g : zH) (tl1 : Nat → Int32) (i : Nat), 41 - i < n_ → (i ≤ 41) → (∀ a, a < i → tl1 a = 0) → (LnAt g (p + 1) (up2 σ 13 l q)) → (GuAt g p mk tl1) → (Upd h g p 12) → Z D B xX0_mostLeft 0 0 (fun r h1 z1 => ∃ (tl1 : Nat → Int32) (q1 : Int32), r = some (.int (wrstF σ e ct l k 40)) ∧ GuAt h1 p mk tl1 ∧ LnAt h1 (p + 1) (up2 σ 13 l q1) ∧ Upd h h1 p 12 ∧ z1 = sz) 2 [some (.ref p), some (.int (nI l)), some (.int (nI k)), some (.int (nI i)), none, none] [] g sz := by
    intro n_
    induction n_ with
    | zero => intro g tl1 i hm_; exact absurd hm_ (Nat.not_lt_zero _)
    | succ n_ ih2 =>
      intro g tl1 i hm_ hi_i hz_ hγ hG hU
      refine z_iload_n (pc := 2) (zk2 kX0_mostLeft_0) rfl ?_
      refine z_bipush (pc := 3) (zk3 kX0_mostLeft_0) (v := 40) (by decide) ?_
      refine z_icmp_gt (pc := 5) (zk4 kX0_mostLeft_0) (tgt := 21) (by decide) (fun c_1 => ?_) (fun c_1 => ?_)
      · have hie_i : i = 41 := nI_gt_yes (a := 40) (by omega) (by omega) c_1
        refine z_iconst (pc := 21) (zk12 kX0_mostLeft_0) (v := 0) (by decide) ?_
        refine z_istore_n (pc := 22) (zk13 kX0_mostLeft_0) rfl rfl ?_
        show Z D B xX0_mostLeft _ _ _ 23 [some (.ref p), some (.int (nI l)), some (.int (nI k)), some (.int 0), none, none] _ _ _
        refine z_iconst (pc := 23) (zk14 kX0_mostLeft_0) (v := 1) (by decide) ?_
        refine z_istore (pc := 24) (zk15 kX0_mostLeft_0) rfl rfl ?_
        show Z D B xX0_mostLeft _ _ _ 26 [some (.ref p), some (.int (nI l)), some (.int (nI k)), some (.int 0), some (.int 1), none] _ _ _
        have lp26 : ∀ (n_ : Nat) (g2 : zH) (q2 : Int32) (tl2 : Nat → Int32) (m_ : Int32) (i : Nat), 41 - i < n_ → (1 ≤ i) → (i ≤ 41) → (∀ a, a ≤ 40 → tl2 a = nI (cnN (lenB σ e ct l) (hrN σ l k) a (i - 1))) → (m_ = nI (mxN (lenB σ e ct l) (hrN σ l k) (i - 1))) → (LnAt g2 (p + 1) (up2 σ 13 l q2)) → (GuAt g2 p mk tl2) → (Upd h g2 p 12) → Z D B xX0_mostLeft 0 0 (fun r h1 z1 => ∃ (tl1 : Nat → Int32) (q1 : Int32), r = some (.int (wrstF σ e ct l k 40)) ∧ GuAt h1 p mk tl1 ∧ LnAt h1 (p + 1) (up2 σ 13 l q1) ∧ Upd h h1 p 12 ∧ z1 = sz) 26 [some (.ref p), some (.int (nI l)), some (.int (nI k)), some (.int m_), some (.int (nI i)), none] [] g2 sz := by
          intro n_
          induction n_ with
          | zero => intro g2 q2 tl2 m_ i hm_; exact absurd hm_ (Nat.not_lt_zero _)
          | succ n_ ih26 =>
            intro g2 q2 tl2 m_ i hm_ h0_i hi_i ht hm_2 hγ hG hU
            refine z_iload (pc := 26) (zk0 kX0_mostLeft_1) rfl ?_
            refine z_bipush (pc := 28) (zk1 kX0_mostLeft_1) (v := 40) (by decide) ?_
            refine z_icmp_gt (pc := 30) (zk2 kX0_mostLeft_1) (tgt := 94) (by decide) (fun c_2 => ?_) (fun c_2 => ?_)
            · have hie_i : i = 41 := nI_gt_yes (a := 40) (by omega) (by omega) c_2
              refine z_iload_n (pc := 94) (zk5 kX0_mostLeft_3) rfl ?_
              exact z_iret (pc := 95) (zk6 kX0_mostLeft_3) rfl (Nat.zero_le _) (Nat.zero_le _) ⟨_, _, by rw [hm_2, hie_i, show 41 - 1 = 40 from rfl, mx_fin], hG, hγ, hU, rfl⟩
            · have hlt_i : i < 41 := nI_gt_not (a := 40) (by omega) c_2
              refine z_aload_n (pc := 33) (zk3 kX0_mostLeft_1) rfl ?_
              refine z_getf (pc := 34) (zk4 kX0_mostLeft_1) flX0_18 hG.1 gGu_1 ?_
              refine z_iload (pc := 37) (zk5 kX0_mostLeft_1) rfl ?_
              refine z_zaldN (pc := 39) (zk6 kX0_mostLeft_1) (f := mk) (j := i) hG.2.1 (show i < 41 by omega) rfl ?_
              refine z_top (congrArg Value.int (hmk i (by omega) (by omega))) ?_
              refine z_oif_eq (pc := 40) (zk7 kX0_mostLeft_1) (tgt := 88) (by decide) (fun c_3 => ?_) (fun c_3 => ?_)
              · refine z_iinc (pc := 88) (zk3 kX0_mostLeft_3) (v := nI (i + 1)) rfl zinc rfl rfl ?_
                show Z D B xX0_mostLeft _ _ _ 91 [some (.ref p), some (.int (nI l)), some (.int (nI k)), some (.int m_), some (.int (nI (i + 1))), none] _ _ _
                refine z_goto (pc := 91) (zk4 kX0_mostLeft_3) (tgt := 26) (by decide) ?_
                exact ih26 g2 q2 tl2 m_ (i + 1) (by omega) (by omega) (by omega) (tl_sk (by omega) c_3 ht) (mx_sk (by omega) c_3 hm_2) hγ hG hU
              · refine z_aload_n (pc := 43) (zk8 kX0_mostLeft_1) rfl ?_
                refine z_getf (pc := 44) (zk9 kX0_mostLeft_1) flX0_12 hG.1 gGu_0 ?_
                refine z_getf (pc := 47) (zk10 kX0_mostLeft_1) flX0_59 hγ.1 gLn_13 ?_
                refine z_iload_n (pc := 50) (zk11 kX0_mostLeft_1) rfl ?_
                refine z_iload (pc := 51) (zk12 kX0_mostLeft_1) rfl ?_
                refine z_Ln_s8 (pc := 53) (zk13 kX0_mostLeft_1) (j := l) hγ (by omega) (show l < 8 by omega) (fun h_4 hR hU_5 => ?_)
                replace hG := GuAt.fr hG hU_5 (by omega)
                replace hU := hU.tr hU_5 (by omega) (by omega)
                replace hγ := hR; clear hR
                rw [up2_up2] at hγ
                refine z_aload_n (pc := 54) (zk14 kX0_mostLeft_1) rfl ?_
                refine z_getf (pc := 55) (zk15 kX0_mostLeft_1) flX0_12 hG.1 gGu_0 ?_
                refine z_iload_n (pc := 58) (zk0 kX0_mostLeft_2) rfl ?_
                refine z_iload_n (pc := 59) (zk1 kX0_mostLeft_2) rfl ?_
                refine z_rdV (pc := 60) (zk2 kX0_mostLeft_2) (st := []) lkX0_65 ivX1_heardAt hγ.1 rfl rfl (c_heardAt hγ hn h12 (show l < 8 by omega) (show k < n by omega)) rfl ⟨rfl, rfl⟩ rfl rfl ?_ rfl
                obtain ⟨w_, ew2_⟩ : ∃ w_, w_ = hrN σ l k i := ⟨_, rfl⟩
                have hw_ : w_ ≤ 40 := by rw [ew2_]; exact (hrN_eq (by omega)).2
                refine z_top (congrArg Value.int (show heardF (up2 σ 13 l (nI i)) l k = nI w_ by rw [ew2_]; exact (hrN_eq (by omega)).1)) ?_
                refine z_istore (pc := 63) (zk3 kX0_mostLeft_2) rfl rfl ?_
                show Z D B xX0_mostLeft _ _ _ 65 [some (.ref p), some (.int (nI l)), some (.int (nI k)), some (.int m_), some (.int (nI i)), some (.int (nI w_))] _ _ _
                refine z_aload_n (pc := 65) (zk4 kX0_mostLeft_2) rfl ?_
                refine z_getf (pc := 66) (zk5 kX0_mostLeft_2) flX0_22 hG.1 gGu_2 ?_
                refine z_iload (pc := 69) (zk6 kX0_mostLeft_2) rfl ?_
                refine z_dup2 (pc := 71) (zk7 kX0_mostLeft_2) rfl rfl ?_
                refine z_ialdN (pc := 72) (zk8 kX0_mostLeft_2) (f := tl2) (j := w_) hG.2.2 (show w_ < 41 by omega) rfl ?_
                refine z_iconst (pc := 73) (zk9 kX0_mostLeft_2) (v := 1) (by decide) ?_
                refine z_iadd (pc := 74) (zk10 kX0_mostLeft_2) ?_
                refine z_Gu_s11 (pc := 75) (zk11 kX0_mostLeft_2) (j := w_) hG (by omega) (show w_ < 41 by omega) (fun h_6 hR hU_7 => ?_)
                replace hγ := LnAt.fr hγ hU_7 (by omega)
                replace hU := hU.tr hU_7 (by omega) (by omega)
                replace hG := hR; clear hR
                refine z_iload_n (pc := 76) (zk12 kX0_mostLeft_2) rfl ?_
                refine z_aload_n (pc := 77) (zk13 kX0_mostLeft_2) rfl ?_
                refine z_getf (pc := 78) (zk14 kX0_mostLeft_2) flX0_22 hG.1 gGu_2 ?_
                refine z_iload (pc := 81) (zk15 kX0_mostLeft_2) rfl ?_
                refine z_ialdN (pc := 83) (zk0 kX0_mostLeft_3) (f := (upd tl2 w_ ((tl2 w_) + 1))) (j := w_) hG.2.2 (show w_ < 41 by omega) rfl ?_
                refine z_top (congrArg Value.int (upd_i _ _ _)) ?_
                refine z_mmax (pc := 84) (zk1 kX0_mostLeft_3) mmX0_86 rfl rfl (Nat.zero_le _) (Nat.zero_le _) ?_
                refine z_istore_n (pc := 87) (zk2 kX0_mostLeft_3) rfl rfl ?_
                show Z D B xX0_mostLeft _ _ _ 88 [some (.ref p), some (.int (nI l)), some (.int (nI k)), some (.int (if m_ < ((tl2 w_) + 1) then ((tl2 w_) + 1) else m_)), some (.int (nI i)), some (.int (nI w_))] _ _ _
                refine z_iinc (pc := 88) (zk3 kX0_mostLeft_3) (v := nI (i + 1)) rfl zinc rfl rfl ?_
                show Z D B xX0_mostLeft _ _ _ 91 [some (.ref p), some (.int (nI l)), some (.int (nI k)), some (.int (if m_ < ((tl2 w_) + 1) then ((tl2 w_) + 1) else m_)), some (.int (nI (i + 1))), some (.int (nI w_))] _ _ _
                refine z_goto (pc := 91) (zk4 kX0_mostLeft_3) (tgt := 26) (by decide) ?_
                refine z_kill 5 ?_
                show Z D B xX0_mostLeft _ _ _ 26 [some (.ref p), some (.int (nI l)), some (.int (nI k)), some (.int (if m_ < ((tl2 w_) + 1) then ((tl2 w_) + 1) else m_)), some (.int (nI (i + 1))), none] _ _ _
                exact ih26 h_6 (nI i) (upd tl2 w_ ((tl2 w_) + 1)) (if m_ < ((tl2 w_) + 1) then ((tl2 w_) + 1) else m_) (i + 1) (by omega) (by omega) (by omega) (tl_st (by omega) ew2_ c_3 ht) (mx_st (by omega) (by omega) ew2_ hw_ c_3 ht hm_2) hγ hG hU
        exact lp26 _ g q tl1 0 1 (Nat.lt_succ_self _) (by omega) (by omega) (fun a ha => by rw [hz_ a (by omega)]; rfl) rfl hγ hG hU
      · have hlt_i : i < 41 := nI_gt_not (a := 40) (by omega) c_1
        refine z_aload_n (pc := 8) (zk5 kX0_mostLeft_0) rfl ?_
        refine z_getf (pc := 9) (zk6 kX0_mostLeft_0) flX0_22 hG.1 gGu_2 ?_
        refine z_iload_n (pc := 12) (zk7 kX0_mostLeft_0) rfl ?_
        refine z_iconst (pc := 13) (zk8 kX0_mostLeft_0) (v := 0) (by decide) ?_
        refine z_Gu_s11 (pc := 14) (zk9 kX0_mostLeft_0) (j := i) hG (by omega) (show i < 41 by omega) (fun h_8 hR hU_9 => ?_)
        replace hγ := LnAt.fr hγ hU_9 (by omega)
        replace hU := hU.tr hU_9 (by omega) (by omega)
        replace hG := hR; clear hR
        refine z_iinc (pc := 15) (zk10 kX0_mostLeft_0) (v := nI (i + 1)) rfl zinc rfl rfl ?_
        show Z D B xX0_mostLeft _ _ _ 18 [some (.ref p), some (.int (nI l)), some (.int (nI k)), some (.int (nI (i + 1))), none, none] _ _ _
        refine z_goto (pc := 18) (zk11 kX0_mostLeft_0) (tgt := 2) (by decide) ?_
        exact ih2 h_8 (upd tl1 i 0) (i + 1) (by omega) (by omega) (zr_st hz_) hγ hG hU
  exact lp2 _ h tl 0 (Nat.lt_succ_self _) (by omega) (fun a q => absurd q (Nat.not_lt_zero _)) hγ hG hU
