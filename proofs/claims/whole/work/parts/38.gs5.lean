theorem amn_t {f : Nat → Int32} {m b : Int32} {n : Nat} (h : f n < (amn f m b n).1) : amn f m b (n + 1) = (f n, nI n) := if_pos h
theorem amn_f {f : Nat → Int32} {m b : Int32} {n : Nat} (h : ¬ f n < (amn f m b n).1) : amn f m b (n + 1) = amn f m b n := if_neg h
theorem amn_s (f : Nat → Int32) (m b : Int32) (n : Nat) : amn f m b (n + 1) = if f n < (amn f m b n).1 then (f n, nI n) else amn f m b n := rfl
theorem amn_0 {f : Nat → Int32} {m : Int32} (h : f 0 < m) : ∀ n, amn f m 0 (n + 1) = amn f (f 0) 0 (n + 1)
  | 0 => by
    show (if f 0 < m then (f 0, nI 0) else (m, 0)) = (if f 0 < f 0 then (f 0, nI 0) else (f 0, 0))
    rw [if_pos h, if_neg Int32.lt_irrefl]; rfl
  | n + 1 => by rw [amn_s f m 0 (n + 1), amn_s f (f 0) 0 (n + 1), amn_0 h n]
theorem amn_w (f : Nat → Int32) : ∀ n, ∃ b, b ≤ n ∧ amn f (f 0) 0 n = (f b, nI b)
  | 0 => ⟨0, Nat.le_refl _, rfl⟩
  | n + 1 => by
    obtain ⟨b, h1, h2⟩ := amn_w f n
    rw [amn]
    by_cases c : f n < (amn f (f 0) 0 n).1
    · rw [if_pos c]; exact ⟨n, by omega, rfl⟩
    · rw [if_neg c]; exact ⟨b, by omega, h2⟩
theorem amn_w9 (f : Nat → Int32) : ∃ b, b < 10 ∧ amn f (f 0) 0 10 = (f b, nI b) := by
  obtain ⟨b, h1, h2⟩ := amn_w f 9
  rw [amn]
  by_cases c : f 9 < (amn f (f 0) 0 9).1
  · rw [if_pos c]; exact ⟨9, by omega, rfl⟩
  · rw [if_neg c]; exact ⟨b, by omega, h2⟩
theorem amx_w {f : Nat → Int32} (hf : ∀ k, 0 ≤ f k) : ∀ n, ∃ b, b < n + 1 ∧ amx f (-1) 0 (n + 1) = (f b, nI b)
  | 0 => ⟨0, by omega, if_pos (show (-1 : Int32) < f 0 from Int32.lt_of_lt_of_le (by decide) (hf 0))⟩
  | n + 1 => by
    obtain ⟨b, h1, h2⟩ := amx_w hf n
    rw [amx]
    by_cases c : (amx f (-1) 0 (n + 1)).1 < f (n + 1)
    · rw [if_pos c]; exact ⟨n + 1, by omega, rfl⟩
    · rw [if_neg c]; exact ⟨b, by omega, h2⟩
set_option maxRecDepth 20000 in
theorem c_bestParting {D : zD} {B : Nat} {h : zH} {sz : Nat} {p n ct l : Nat} {σ : Ln} {mk tl : Nat → Int32} {q : Int32} {e : Nat → Int64} (hG : GuAt h p mk tl) (hγ : LnAt h (p + 1) (up2 σ 13 l q)) (hB : B ≤ p) (hn : σ 0 0 = nI n) (h12 : n ≤ 12) (hl : l < 8) (hmk : ∀ a, 1 ≤ a → a ≤ 40 → mk a = oI (lenB σ e ct l a))  : zM D B xX0_bestParting [.ref p, .int (nI l)] h sz (gQ h p sz (amn (fun k => wrstF σ e ct l k 40) 41 (-1) (hsN σ)).2) := by
  have hU : Upd h h p 12 := Upd.rf
  refine zM.of (by decide) rfl (n := 4) ?_
  show Z D B xX0_bestParting 0 0 _ 0 [some (.ref p), some (.int (nI l)), none, none, none, none] [] h sz
  refine z_bipush (pc := 0) (zk0 kX0_bestParting_0) (v := 41) (by decide) ?_
  refine z_istore_n (pc := 2) (zk1 kX0_bestParting_0) rfl rfl ?_
  show Z D B xX0_bestParting _ _ _ 3 [some (.ref p), some (.int (nI l)), some (.int 41), none, none, none] _ _ _
  refine z_iconst (pc := 3) (zk2 kX0_bestParting_0) (v := (-1)) (by decide) ?_
  refine z_istore_n (pc := 4) (zk3 kX0_bestParting_0) rfl rfl ?_
  show Z D B xX0_bestParting _ _ _ 5 [some (.ref p), some (.int (nI l)), some (.int 41), some (.int (-1)), none, none] _ _ _
  refine z_iconst (pc := 5) (zk4 kX0_bestParting_0) (v := 0) (by decide) ?_
  refine z_istore (pc := 6) (zk5 kX0_bestParting_0) rfl rfl ?_
  show Z D B xX0_bestParting _ _ _ 8 [some (.ref p), some (.int (nI l)), some (.int 41), some (.int (-1)), some (.int 0), none] _ _ _
  have lp8 : ∀ (n_ : Nat) (g : zH) (q2 : Int32) (tl1 : Nat → Int32) (x : Int32) (y : Int32) (i : Nat), n - i < n_ → (i ≤ n) → (x = (amn (fun k => wrstF σ e ct l k 40) 41 (-1) i).1) → (y = (amn (fun k => wrstF σ e ct l k 40) 41 (-1) i).2) → (LnAt g (p + 1) (up2 σ 13 l q2)) → (GuAt g p mk tl1) → (Upd h g p 12) → Z D B xX0_bestParting 0 0 (gQ h p sz (amn (fun k => wrstF σ e ct l k 40) 41 (-1) (hsN σ)).2) 8 [some (.ref p), some (.int (nI l)), some (.int x), some (.int y), some (.int (nI i)), none] [] g sz := by
    intro n_
    induction n_ with
    | zero => intro g q2 tl1 x y i hm_; exact absurd hm_ (Nat.not_lt_zero _)
    | succ n_ ih8 =>
      intro g q2 tl1 x y i hm_ hi_i hx hy hγ hG hU
      refine z_iload (pc := 8) (zk6 kX0_bestParting_0) rfl ?_
      refine z_aload_n (pc := 10) (zk7 kX0_bestParting_0) rfl ?_
      refine z_getf (pc := 11) (zk8 kX0_bestParting_0) flX0_12 hG.1 gGu_0 ?_
      refine z_getf (pc := 14) (zk9 kX0_bestParting_0) flX0_34 hγ.1 (v := .int (nI n)) (by rw [← hn]; rfl) ?_
      refine z_icmp_ge (pc := 17) (zk10 kX0_bestParting_0) (tgt := 47) (by decide) (fun c_1 => ?_) (fun c_1 => ?_)
      · have hie_i : i = n := nI_ge_yes (a := n) (by omega) (by omega) (by omega) c_1
        refine z_iload_n (pc := 47) (zk9 kX0_bestParting_1) rfl ?_
        exact z_iret (pc := 48) (zk10 kX0_bestParting_1) rfl (Nat.zero_le _) (Nat.zero_le _) ⟨by rw [hy, hie_i, hsN_eq hn h12], ⟨_, _, _, hG, hγ⟩, hU, rfl⟩
      · have hlt_i : i < n := nI_ge_not (a := n) (by omega) (by omega) c_1
        refine z_aload_n (pc := 20) (zk11 kX0_bestParting_0) rfl ?_
        refine z_iload_n (pc := 21) (zk12 kX0_bestParting_0) rfl ?_
        refine z_iload (pc := 22) (zk13 kX0_bestParting_0) rfl ?_
        refine z_efV (pc := 24) (zk14 kX0_bestParting_0) (st := []) lkX0_83 ivX0_mostLeft hG.1 rfl rfl (c_mostLeft hG hγ (by omega) hn h12 (show l < 8 by omega) (show i < n by omega) hmk) rfl ⟨rfl, rfl⟩ rfl rfl (fun r_ h_3 z_ q_2 => ?_) rfl
        obtain ⟨tl_5, q_6, er_, hG_, hγ_, hU_4, ez_⟩ := q_2
        rw [er_, ez_]
        clear er_ ez_
        replace hU := hU.tr hU_4 (by omega) (by omega)
        replace hG := hG_; replace hγ := hγ_; clear hG_ hγ_
        show Z D B xX0_bestParting _ _ _ 27 _ [.int (wrstF σ e ct l i 40)] _ _
        refine z_istore (pc := 27) (zk15 kX0_bestParting_0) rfl rfl ?_
        show Z D B xX0_bestParting _ _ _ 29 [some (.ref p), some (.int (nI l)), some (.int x), some (.int y), some (.int (nI i)), some (.int (wrstF σ e ct l i 40))] _ _ _
        refine z_iload (pc := 29) (zk0 kX0_bestParting_1) rfl ?_
        refine z_iload_n (pc := 31) (zk1 kX0_bestParting_1) rfl ?_
        refine z_icmp_ge (pc := 32) (zk2 kX0_bestParting_1) (tgt := 41) (by decide) (fun c_7 => ?_) (fun c_7 => ?_)
        · refine z_iinc (pc := 41) (zk7 kX0_bestParting_1) (v := nI (i + 1)) rfl zinc rfl rfl ?_
          show Z D B xX0_bestParting _ _ _ 44 [some (.ref p), some (.int (nI l)), some (.int x), some (.int y), some (.int (nI (i + 1))), some (.int (wrstF σ e ct l i 40))] _ _ _
          refine z_goto (pc := 44) (zk8 kX0_bestParting_1) (tgt := 8) (by decide) ?_
          refine z_kill 5 ?_
          show Z D B xX0_bestParting _ _ _ 8 [some (.ref p), some (.int (nI l)), some (.int x), some (.int y), some (.int (nI (i + 1))), none] _ _ _
          exact ih8 h_3 q_6 tl_5 x y (i + 1) (by omega) (by omega) (by rw [amn_f (by rw [← hx]; exact Int32.not_lt.mpr c_7)]; exact hx) (by rw [amn_f (by rw [← hx]; exact Int32.not_lt.mpr c_7)]; exact hy) hγ hG hU
        · refine z_iload (pc := 35) (zk3 kX0_bestParting_1) rfl ?_
          refine z_istore_n (pc := 37) (zk4 kX0_bestParting_1) rfl rfl ?_
          show Z D B xX0_bestParting _ _ _ 38 [some (.ref p), some (.int (nI l)), some (.int (wrstF σ e ct l i 40)), some (.int y), some (.int (nI i)), some (.int (wrstF σ e ct l i 40))] _ _ _
          refine z_iload (pc := 38) (zk5 kX0_bestParting_1) rfl ?_
          refine z_istore_n (pc := 40) (zk6 kX0_bestParting_1) rfl rfl ?_
          show Z D B xX0_bestParting _ _ _ 41 [some (.ref p), some (.int (nI l)), some (.int (wrstF σ e ct l i 40)), some (.int (nI i)), some (.int (nI i)), some (.int (wrstF σ e ct l i 40))] _ _ _
          refine z_iinc (pc := 41) (zk7 kX0_bestParting_1) (v := nI (i + 1)) rfl zinc rfl rfl ?_
          show Z D B xX0_bestParting _ _ _ 44 [some (.ref p), some (.int (nI l)), some (.int (wrstF σ e ct l i 40)), some (.int (nI i)), some (.int (nI (i + 1))), some (.int (wrstF σ e ct l i 40))] _ _ _
          refine z_goto (pc := 44) (zk8 kX0_bestParting_1) (tgt := 8) (by decide) ?_
          refine z_kill 5 ?_
          show Z D B xX0_bestParting _ _ _ 8 [some (.ref p), some (.int (nI l)), some (.int (wrstF σ e ct l i 40)), some (.int (nI i)), some (.int (nI (i + 1))), none] _ _ _
          exact ih8 h_3 q_6 tl_5 (wrstF σ e ct l i 40) (nI i) (i + 1) (by omega) (by omega) (by rw [amn_t (by rw [← hx]; exact Int32.not_le.mp c_7)]) (by rw [amn_t (by rw [← hx]; exact Int32.not_le.mp c_7)]) hγ hG hU
  exact lp8 _ h q tl 41 (-1) 0 (Nat.lt_succ_self _) (by omega) rfl rfl hγ hG hU
theorem amn_41 (F : Nat → Int32) (a : Int32) (ha : a = F 0) (h : F 0 < 41) : (amn F 41 0 10).2 = (amn F a 0 10).2 := by
  subst ha
  rw [amn_0 h 9]
theorem lstH_41 {σ : Ln} {d l k : Nat} (h0 : 0 < σ 13 l) (h41 : σ 13 l < 41) : (amn (fun j => heardF (up2 σ 2 d (nI j)) l k) 41 0 10).2 = (lstH σ d l k).2 := by
  have e : 0 ≤ up2 σ 2 d (nI 0) 13 l := Int32.le_of_lt h0
  have h : heardF (up2 σ 2 d (nI 0)) l k < 41 := Int32.lt_of_le_of_lt (heard_le (σ := up2 σ 2 d (nI 0)) e) h41
  unfold lstH
  exact amn_41 (fun j => heardF (up2 σ 2 d (nI j)) l k) _ (congrArg (fun z => heardF (up2 σ 2 d z) l k) nI_0.symm) h
set_option maxRecDepth 20000 in
theorem c_answerTo {D : zD} {B : Nat} {h : zH} {sz : Nat} {p po : Nat} {σ γ : Ln} {mk tl : Nat → Int32} {n c v d l k : Nat} (hG : GuAt h p mk tl) (hγ : LnAt h (p + 1) γ) (hL : LnAt h po σ) (hB : B ≤ p) (hd : p + 12 ≤ po ∨ po + 9 ≤ p) (hbk : σ 6 0 = 0 ∨ σ 6 0 = 1) (hn : σ 0 0 = nI n) (h12 : n ≤ 12) (hc : c < n) (hdn : d < n) (hl : l < 8) (hk : k < n) (h0 : 0 < σ 13 l) (h41 : σ 13 l < 41)  : zM D B xX0_answerTo [.ref p, .ref po, .int (nI c), .int (nI v), .int (nI d), .int (nI l), .int (nI k)] h sz (fun r h1 z1 => ∃ q1 : Int32, r = some (.int (lstH (up2 σ 2 c (nI v)) d l k).2) ∧ GuAt h1 p mk tl ∧ LnAt h1 (p + 1) (up2 (up2 σ 2 c (nI v)) 2 d q1) ∧ Upd h h1 p 12 ∧ z1 = sz) := by
  have hU : Upd h h p 12 := Upd.rf
  refine zM.of (by decide) rfl (n := 4) ?_
  show Z D B xX0_answerTo 0 0 _ 0 [some (.ref p), some (.ref po), some (.int (nI c)), some (.int (nI v)), some (.int (nI d)), some (.int (nI l)), some (.int (nI k)), none, none, none, none] [] h sz
  refine z_aload_n (pc := 0) (zk0 kX0_answerTo_0) rfl ?_
  refine z_aload_n (pc := 1) (zk1 kX0_answerTo_0) rfl ?_
  refine z_efV (pc := 2) (zk2 kX0_answerTo_0) (st := []) lkX0_30 ivX0_freshFrom hG.1 rfl rfl (c_fresh hG hγ hL (by omega) (by omega) hbk) rfl ⟨rfl, rfl⟩ rfl rfl (fun r_ h_2 z_ q_1 => ?_) rfl
  obtain ⟨er_, hR, hU_3, ez_⟩ := q_1
  rw [er_, ez_]
  clear er_ ez_
  replace hG := GuAt.fr hG hU_3 (by omega)
  replace hL := LnAt.fr hL hU_3 (by omega)
  replace hU := hU.tr hU_3 (by omega) (by omega)
  replace hγ := hR; clear hR
  show Z D B xX0_answerTo _ _ _ 5 _ [.ref (p + 1)] _ _
  refine z_pop (pc := 5) (zk3 kX0_answerTo_0) rfl ?_
  refine z_aload_n (pc := 6) (zk4 kX0_answerTo_0) rfl ?_
  refine z_getf (pc := 7) (zk5 kX0_answerTo_0) flX0_12 hG.1 gGu_0 ?_
  refine z_getf (pc := 10) (zk6 kX0_answerTo_0) flX0_53 hγ.1 gLn_2 ?_
  refine z_iload_n (pc := 13) (zk7 kX0_answerTo_0) rfl ?_
  refine z_iload_n (pc := 14) (zk8 kX0_answerTo_0) rfl ?_
  refine z_Ln_s2 (pc := 15) (zk9 kX0_answerTo_0) (j := c) hγ (by omega) (show c < 12 by omega) (fun h_4 hR hU_5 => ?_)
  replace hG := GuAt.fr hG hU_5 (by omega)
  replace hL := LnAt.fr hL hU_5 (by omega)
  replace hU := hU.tr hU_5 (by omega) (by omega)
  replace hγ := hR; clear hR
  refine z_bipush (pc := 16) (zk10 kX0_answerTo_0) (v := 41) (by decide) ?_
  refine z_istore (pc := 18) (zk11 kX0_answerTo_0) rfl rfl ?_
  show Z D B xX0_answerTo _ _ _ 20 [some (.ref p), some (.ref po), some (.int (nI c)), some (.int (nI v)), some (.int (nI d)), some (.int (nI l)), some (.int (nI k)), some (.int 41), none, none, none] _ _ _
  refine z_iconst (pc := 20) (zk12 kX0_answerTo_0) (v := 0) (by decide) ?_
  refine z_istore (pc := 21) (zk13 kX0_answerTo_0) rfl rfl ?_
  show Z D B xX0_answerTo _ _ _ 23 [some (.ref p), some (.ref po), some (.int (nI c)), some (.int (nI v)), some (.int (nI d)), some (.int (nI l)), some (.int (nI k)), some (.int 41), some (.int 0), none, none] _ _ _
  refine z_iconst (pc := 23) (zk14 kX0_answerTo_0) (v := 0) (by decide) ?_
  refine z_istore (pc := 24) (zk15 kX0_answerTo_0) rfl rfl ?_
  show Z D B xX0_answerTo _ _ _ 26 [some (.ref p), some (.ref po), some (.int (nI c)), some (.int (nI v)), some (.int (nI d)), some (.int (nI l)), some (.int (nI k)), some (.int 41), some (.int 0), some (.int 0), none] _ _ _
  have lp26 : ∀ (n_ : Nat) (g : zH) (q : Int32) (x : Int32) (y : Int32) (i : Nat), 10 - i < n_ → (i ≤ 10) → (x = (amn (fun j => heardF (up2 (up2 σ 2 c (nI v)) 2 d (nI j)) l k) 41 0 i).1) → (y = (amn (fun j => heardF (up2 (up2 σ 2 c (nI v)) 2 d (nI j)) l k) 41 0 i).2) → (LnAt g (p + 1) (up2 (up2 σ 2 c (nI v)) 2 d q)) → (GuAt g p mk tl) → (LnAt g po σ) → (Upd h g p 12) → Z D B xX0_answerTo 0 0 (fun r h1 z1 => ∃ q1 : Int32, r = some (.int (lstH (up2 σ 2 c (nI v)) d l k).2) ∧ GuAt h1 p mk tl ∧ LnAt h1 (p + 1) (up2 (up2 σ 2 c (nI v)) 2 d q1) ∧ Upd h h1 p 12 ∧ z1 = sz) 26 [some (.ref p), some (.ref po), some (.int (nI c)), some (.int (nI v)), some (.int (nI d)), some (.int (nI l)), some (.int (nI k)), some (.int x), some (.int y), some (.int (nI i)), none] [] g sz := by
    intro n_
    induction n_ with
    | zero => intro g q x y i hm_; exact absurd hm_ (Nat.not_lt_zero _)
    | succ n_ ih26 =>
      intro g q x y i hm_ hi_i hx hy hγ hG hL hU
      refine z_iload (pc := 26) (zk0 kX0_answerTo_1) rfl ?_
      refine z_bipush (pc := 28) (zk1 kX0_answerTo_1) (v := 9) (by decide) ?_
      refine z_icmp_gt (pc := 30) (zk2 kX0_answerTo_1) (tgt := 79) (by decide) (fun c_6 => ?_) (fun c_6 => ?_)
      · have hie_i : i = 10 := nI_gt_yes (a := 9) (by omega) (by omega) c_6
        refine z_iload (pc := 79) (zk8 kX0_answerTo_2) rfl ?_
        exact z_iret (pc := 81) (zk9 kX0_answerTo_2) rfl (Nat.zero_le _) (Nat.zero_le _) ⟨_, by rw [hy, hie_i, lstH_41 (σ := (up2 σ 2 c (nI v))) h0 h41], hG, hγ, hU, rfl⟩
      · have hlt_i : i < 10 := nI_gt_not (a := 9) (by omega) c_6
        refine z_aload_n (pc := 33) (zk3 kX0_answerTo_1) rfl ?_
        refine z_getf (pc := 34) (zk4 kX0_answerTo_1) flX0_12 hG.1 gGu_0 ?_
        refine z_getf (pc := 37) (zk5 kX0_answerTo_1) flX0_53 hγ.1 gLn_2 ?_
        refine z_iload (pc := 40) (zk6 kX0_answerTo_1) rfl ?_
        refine z_iload (pc := 42) (zk7 kX0_answerTo_1) rfl ?_
        refine z_Ln_s2 (pc := 44) (zk8 kX0_answerTo_1) (j := d) hγ (by omega) (show d < 12 by omega) (fun h_7 hR hU_8 => ?_)
        replace hG := GuAt.fr hG hU_8 (by omega)
        replace hL := LnAt.fr hL hU_8 (by omega)
        replace hU := hU.tr hU_8 (by omega) (by omega)
        replace hγ := hR; clear hR
        rw [up2_up2] at hγ
        refine z_aload_n (pc := 45) (zk9 kX0_answerTo_1) rfl ?_
        refine z_getf (pc := 46) (zk10 kX0_answerTo_1) flX0_12 hG.1 gGu_0 ?_
        refine z_iload (pc := 49) (zk11 kX0_answerTo_1) rfl ?_
        refine z_iload (pc := 51) (zk12 kX0_answerTo_1) rfl ?_
        refine z_rdV (pc := 53) (zk13 kX0_answerTo_1) (st := []) lkX0_65 ivX1_heardAt hγ.1 rfl rfl (c_heardAt hγ hn h12 (show l < 8 by omega) (show k < n by omega)) rfl ⟨rfl, rfl⟩ rfl rfl ?_ rfl
        refine z_istore (pc := 56) (zk14 kX0_answerTo_1) rfl rfl ?_
        show Z D B xX0_answerTo _ _ _ 58 [some (.ref p), some (.ref po), some (.int (nI c)), some (.int (nI v)), some (.int (nI d)), some (.int (nI l)), some (.int (nI k)), some (.int x), some (.int y), some (.int (nI i)), some (.int (heardF (up2 (up2 σ 2 c (nI v)) 2 d (nI i)) l k))] _ _ _
        refine z_iload (pc := 58) (zk15 kX0_answerTo_1) rfl ?_
        refine z_iload (pc := 60) (zk0 kX0_answerTo_2) rfl ?_
        refine z_icmp_ge (pc := 62) (zk1 kX0_answerTo_2) (tgt := 73) (by decide) (fun c_9 => ?_) (fun c_9 => ?_)
        · refine z_iinc (pc := 73) (zk6 kX0_answerTo_2) (v := nI (i + 1)) rfl zinc rfl rfl ?_
          show Z D B xX0_answerTo _ _ _ 76 [some (.ref p), some (.ref po), some (.int (nI c)), some (.int (nI v)), some (.int (nI d)), some (.int (nI l)), some (.int (nI k)), some (.int x), some (.int y), some (.int (nI (i + 1))), some (.int (heardF (up2 (up2 σ 2 c (nI v)) 2 d (nI i)) l k))] _ _ _
          refine z_goto (pc := 76) (zk7 kX0_answerTo_2) (tgt := 26) (by decide) ?_
          refine z_kill 10 ?_
          show Z D B xX0_answerTo _ _ _ 26 [some (.ref p), some (.ref po), some (.int (nI c)), some (.int (nI v)), some (.int (nI d)), some (.int (nI l)), some (.int (nI k)), some (.int x), some (.int y), some (.int (nI (i + 1))), none] _ _ _
          exact ih26 h_7 (nI i) x y (i + 1) (by omega) (by omega) (by rw [amn_f (by rw [← hx]; exact Int32.not_lt.mpr c_9)]; exact hx) (by rw [amn_f (by rw [← hx]; exact Int32.not_lt.mpr c_9)]; exact hy) hγ hG hL hU
        · refine z_iload (pc := 65) (zk2 kX0_answerTo_2) rfl ?_
          refine z_istore (pc := 67) (zk3 kX0_answerTo_2) rfl rfl ?_
          show Z D B xX0_answerTo _ _ _ 69 [some (.ref p), some (.ref po), some (.int (nI c)), some (.int (nI v)), some (.int (nI d)), some (.int (nI l)), some (.int (nI k)), some (.int (heardF (up2 (up2 σ 2 c (nI v)) 2 d (nI i)) l k)), some (.int y), some (.int (nI i)), some (.int (heardF (up2 (up2 σ 2 c (nI v)) 2 d (nI i)) l k))] _ _ _
          refine z_iload (pc := 69) (zk4 kX0_answerTo_2) rfl ?_
          refine z_istore (pc := 71) (zk5 kX0_answerTo_2) rfl rfl ?_
          show Z D B xX0_answerTo _ _ _ 73 [some (.ref p), some (.ref po), some (.int (nI c)), some (.int (nI v)), some (.int (nI d)), some (.int (nI l)), some (.int (nI k)), some (.int (heardF (up2 (up2 σ 2 c (nI v)) 2 d (nI i)) l k)), some (.int (nI i)), some (.int (nI i)), some (.int (heardF (up2 (up2 σ 2 c (nI v)) 2 d (nI i)) l k))] _ _ _
          refine z_iinc (pc := 73) (zk6 kX0_answerTo_2) (v := nI (i + 1)) rfl zinc rfl rfl ?_
          show Z D B xX0_answerTo _ _ _ 76 [some (.ref p), some (.ref po), some (.int (nI c)), some (.int (nI v)), some (.int (nI d)), some (.int (nI l)), some (.int (nI k)), some (.int (heardF (up2 (up2 σ 2 c (nI v)) 2 d (nI i)) l k)), some (.int (nI i)), some (.int (nI (i + 1))), some (.int (heardF (up2 (up2 σ 2 c (nI v)) 2 d (nI i)) l k))] _ _ _
          refine z_goto (pc := 76) (zk7 kX0_answerTo_2) (tgt := 26) (by decide) ?_
          refine z_kill 10 ?_
          show Z D B xX0_answerTo _ _ _ 26 [some (.ref p), some (.ref po), some (.int (nI c)), some (.int (nI v)), some (.int (nI d)), some (.int (nI l)), some (.int (nI k)), some (.int (heardF (up2 (up2 σ 2 c (nI v)) 2 d (nI i)) l k)), some (.int (nI i)), some (.int (nI (i + 1))), none] _ _ _
          exact ih26 h_7 (nI i) (heardF (up2 (up2 σ 2 c (nI v)) 2 d (nI i)) l k) (nI i) (i + 1) (by omega) (by omega) (by rw [amn_t (by rw [← hx]; exact Int32.not_le.mp c_9)]) (by rw [amn_t (by rw [← hx]; exact Int32.not_le.mp c_9)]) hγ hG hL hU
  exact lp26 _ h_4 ((up2 σ 2 c (nI v)) 2 d) 41 0 0 (Nat.lt_succ_self _) (by omega) rfl rfl (by rw [up2_id]; exact hγ) hG hL hU
theorem lstH_w (σ : Ln) (d l k : Nat) : ∃ b, b < 10 ∧ lstH σ d l k = (heardF (up2 σ 2 d (nI b)) l k, nI b) := amn_w9 (fun v => heardF (up2 σ 2 d (nI v)) l k)
set_option maxRecDepth 20000 in
theorem c_poured {D : zD} {B : Nat} {h : zH} {sz : Nat} {p po : Nat} {σ γ : Ln} {mk tl : Nat → Int32} {n c v d l k : Nat} (hG : GuAt h p mk tl) (hγ : LnAt h (p + 1) γ) (hL : LnAt h po σ) (hB : B ≤ p) (hd : p + 12 ≤ po ∨ po + 9 ≤ p) (hbk : σ 6 0 = 0 ∨ σ 6 0 = 1) (hn : σ 0 0 = nI n) (h12 : n ≤ 12) (hc : c < n) (hdn : d < n) (hl : l < 8) (hk : k < n) (h0 : 0 < σ 13 l) (h41 : σ 13 l < 41)  : zM D B xX0_heardOfPoured [.ref p, .ref po, .int (nI c), .int (nI v), .int (nI d), .int (nI l), .int (nI k)] h sz (gQ h p sz ((lstH (up2 σ 2 c (nI v)) d l k).1)) := by
  have hU : Upd h h p 12 := Upd.rf
  refine zM.of (by decide) rfl (n := 1) ?_
  show Z D B xX0_heardOfPoured 0 0 _ 0 [some (.ref p), some (.ref po), some (.int (nI c)), some (.int (nI v)), some (.int (nI d)), some (.int (nI l)), some (.int (nI k)), none] [] h sz
  refine z_aload_n (pc := 0) (zk0 kX0_heardOfPoured_0) rfl ?_
  refine z_aload_n (pc := 1) (zk1 kX0_heardOfPoured_0) rfl ?_
  refine z_iload_n (pc := 2) (zk2 kX0_heardOfPoured_0) rfl ?_
  refine z_iload_n (pc := 3) (zk3 kX0_heardOfPoured_0) rfl ?_
  refine z_iload (pc := 4) (zk4 kX0_heardOfPoured_0) rfl ?_
  refine z_iload (pc := 6) (zk5 kX0_heardOfPoured_0) rfl ?_
  refine z_iload (pc := 8) (zk6 kX0_heardOfPoured_0) rfl ?_
  refine z_efV (pc := 10) (zk7 kX0_heardOfPoured_0) (st := []) lkX0_101 ivX0_answerTo hG.1 rfl rfl (c_answerTo hG hγ hL (by omega) (by omega) hbk hn h12 (show c < n by omega) (show d < n by omega) (show l < 8 by omega) (show k < n by omega) h0 h41) rfl ⟨rfl, rfl⟩ rfl rfl (fun r_ h_2 z_ q_1 => ?_) rfl
  obtain ⟨q_4, er_, hG_, hγ_, hU_3, ez_⟩ := q_1
  rw [er_, ez_]
  clear er_ ez_
  replace hL := LnAt.fr hL hU_3 (by omega)
  replace hU := hU.tr hU_3 (by omega) (by omega)
  replace hG := hG_; replace hγ := hγ_; clear hG_ hγ_
  show Z D B xX0_heardOfPoured _ _ _ 13 _ [.int ((lstH (up2 σ 2 c (nI v)) d l k).2)] _ _
  obtain ⟨b_, hb_, eb_⟩ := lstH_w (up2 σ 2 c (nI v)) d l k
  refine z_top (congrArg Value.int (show (lstH (up2 σ 2 c (nI v)) d l k).2 = nI b_ by rw [eb_])) ?_
  refine z_istore (pc := 13) (zk8 kX0_heardOfPoured_0) rfl rfl ?_
  show Z D B xX0_heardOfPoured _ _ _ 15 [some (.ref p), some (.ref po), some (.int (nI c)), some (.int (nI v)), some (.int (nI d)), some (.int (nI l)), some (.int (nI k)), some (.int (nI b_))] _ _ _
  refine z_aload_n (pc := 15) (zk9 kX0_heardOfPoured_0) rfl ?_
  refine z_getf (pc := 16) (zk10 kX0_heardOfPoured_0) flX0_12 hG.1 gGu_0 ?_
  refine z_getf (pc := 19) (zk11 kX0_heardOfPoured_0) flX0_53 hγ.1 gLn_2 ?_
  refine z_iload (pc := 22) (zk12 kX0_heardOfPoured_0) rfl ?_
  refine z_iload (pc := 24) (zk13 kX0_heardOfPoured_0) rfl ?_
  refine z_Ln_s2 (pc := 26) (zk14 kX0_heardOfPoured_0) (j := d) hγ (by omega) (show d < 12 by omega) (fun h_5 hR hU_6 => ?_)
  replace hG := GuAt.fr hG hU_6 (by omega)
  replace hL := LnAt.fr hL hU_6 (by omega)
  replace hU := hU.tr hU_6 (by omega) (by omega)
  replace hγ := hR; clear hR
  rw [up2_up2] at hγ
  refine z_aload_n (pc := 27) (zk15 kX0_heardOfPoured_0) rfl ?_
  refine z_getf (pc := 28) (zk0 kX0_heardOfPoured_1) flX0_12 hG.1 gGu_0 ?_
  refine z_iload (pc := 31) (zk1 kX0_heardOfPoured_1) rfl ?_
  refine z_iload (pc := 33) (zk2 kX0_heardOfPoured_1) rfl ?_
  refine z_rdV (pc := 35) (zk3 kX0_heardOfPoured_1) (st := []) lkX0_65 ivX1_heardAt hγ.1 rfl rfl (c_heardAt hγ hn h12 (show l < 8 by omega) (show k < n by omega)) rfl ⟨rfl, rfl⟩ rfl rfl ?_ rfl
  exact z_iret (pc := 38) (zk4 kX0_heardOfPoured_1) rfl (Nat.zero_le _) (Nat.zero_le _) ⟨by rw [eb_], ⟨_, _, _, hG, hγ⟩, hU, rfl⟩
set_option maxRecDepth 20000 in
theorem c_bestDrink {D : zD} {B : Nat} {h : zH} {sz : Nat} {p po : Nat} {σ γ : Ln} {mk tl : Nat → Int32} {n c d l k : Nat} (hG : GuAt h p mk tl) (hγ : LnAt h (p + 1) γ) (hL : LnAt h po σ) (hB : B ≤ p) (hd : p + 12 ≤ po ∨ po + 9 ≤ p) (hbk : σ 6 0 = 0 ∨ σ 6 0 = 1) (hn : σ 0 0 = nI n) (h12 : n ≤ 12) (hc : c < n) (hdn : d < n) (hl : l < 8) (hk : k < n) (h0 : 0 < σ 13 l) (h41 : σ 13 l < 41)  : zM D B xX0_bestDrink [.ref p, .ref po, .int (nI c), .int (nI d), .int (nI l), .int (nI k)] h sz (gQ h p sz ((pourA σ c d l k).2)) := by
  have hU : Upd h h p 12 := Upd.rf
  refine zM.of (by decide) rfl (n := 4) ?_
  show Z D B xX0_bestDrink 0 0 _ 0 [some (.ref p), some (.ref po), some (.int (nI c)), some (.int (nI d)), some (.int (nI l)), some (.int (nI k)), none, none, none, none] [] h sz
  refine z_iconst (pc := 0) (zk0 kX0_bestDrink_0) (v := (-1)) (by decide) ?_
  refine z_istore (pc := 1) (zk1 kX0_bestDrink_0) rfl rfl ?_
  show Z D B xX0_bestDrink _ _ _ 3 [some (.ref p), some (.ref po), some (.int (nI c)), some (.int (nI d)), some (.int (nI l)), some (.int (nI k)), some (.int (-1)), none, none, none] _ _ _
  refine z_iconst (pc := 3) (zk2 kX0_bestDrink_0) (v := 0) (by decide) ?_
  refine z_istore (pc := 4) (zk3 kX0_bestDrink_0) rfl rfl ?_
  show Z D B xX0_bestDrink _ _ _ 6 [some (.ref p), some (.ref po), some (.int (nI c)), some (.int (nI d)), some (.int (nI l)), some (.int (nI k)), some (.int (-1)), some (.int 0), none, none] _ _ _
  refine z_iconst (pc := 6) (zk4 kX0_bestDrink_0) (v := 0) (by decide) ?_
  refine z_istore (pc := 7) (zk5 kX0_bestDrink_0) rfl rfl ?_
  show Z D B xX0_bestDrink _ _ _ 9 [some (.ref p), some (.ref po), some (.int (nI c)), some (.int (nI d)), some (.int (nI l)), some (.int (nI k)), some (.int (-1)), some (.int 0), some (.int 0), none] _ _ _
  have lp9 : ∀ (n_ : Nat) (g : zH) (mk1 : Nat → Int32) (tl1 : Nat → Int32) (g1 : Ln) (x : Int32) (y : Int32) (i : Nat), 10 - i < n_ → (i ≤ 10) → (x = (amx (fun j => (lstH (up2 σ 2 c (nI j)) d l k).1) (-1) 0 i).1) → (y = (amx (fun j => (lstH (up2 σ 2 c (nI j)) d l k).1) (-1) 0 i).2) → (LnAt g (p + 1) g1) → (GuAt g p mk1 tl1) → (LnAt g po σ) → (Upd h g p 12) → Z D B xX0_bestDrink 0 0 (gQ h p sz ((pourA σ c d l k).2)) 9 [some (.ref p), some (.ref po), some (.int (nI c)), some (.int (nI d)), some (.int (nI l)), some (.int (nI k)), some (.int x), some (.int y), some (.int (nI i)), none] [] g sz := by
    intro n_
    induction n_ with
    | zero => intro g mk1 tl1 g1 x y i hm_; exact absurd hm_ (Nat.not_lt_zero _)
    | succ n_ ih9 =>
      intro g mk1 tl1 g1 x y i hm_ hi_i hx hy hγ hG hL hU
      refine z_iload (pc := 9) (zk6 kX0_bestDrink_0) rfl ?_
      refine z_bipush (pc := 11) (zk7 kX0_bestDrink_0) (v := 9) (by decide) ?_
      refine z_icmp_gt (pc := 13) (zk8 kX0_bestDrink_0) (tgt := 52) (by decide) (fun c_1 => ?_) (fun c_1 => ?_)
      · have hie_i : i = 10 := nI_gt_yes (a := 9) (by omega) (by omega) c_1
        refine z_iload (pc := 52) (zk11 kX0_bestDrink_1) rfl ?_
        exact z_iret (pc := 54) (zk12 kX0_bestDrink_1) rfl (Nat.zero_le _) (Nat.zero_le _) ⟨by rw [hy, hie_i]; rfl, ⟨_, _, _, hG, hγ⟩, hU, rfl⟩
      · have hlt_i : i < 10 := nI_gt_not (a := 9) (by omega) c_1
        refine z_aload_n (pc := 16) (zk9 kX0_bestDrink_0) rfl ?_
        refine z_aload_n (pc := 17) (zk10 kX0_bestDrink_0) rfl ?_
        refine z_iload_n (pc := 18) (zk11 kX0_bestDrink_0) rfl ?_
        refine z_iload (pc := 19) (zk12 kX0_bestDrink_0) rfl ?_
        refine z_iload_n (pc := 21) (zk13 kX0_bestDrink_0) rfl ?_
        refine z_iload (pc := 22) (zk14 kX0_bestDrink_0) rfl ?_
        refine z_iload (pc := 24) (zk15 kX0_bestDrink_0) rfl ?_
        refine z_efV (pc := 26) (zk0 kX0_bestDrink_1) (st := []) lkX0_97 ivX0_heardOfPoured hG.1 rfl rfl (c_poured hG hγ hL (by omega) (by omega) hbk hn h12 (show c < n by omega) (show d < n by omega) (show l < 8 by omega) (show k < n by omega) h0 h41) rfl ⟨rfl, rfl⟩ rfl rfl (fun r_ h_3 z_ q_2 => ?_) rfl
        obtain ⟨er_, ⟨mk_5, tl_6, γ_7, hG_, hγ_⟩, hU_4, ez_⟩ := q_2
        rw [er_, ez_]
        clear er_ ez_
        replace hL := LnAt.fr hL hU_4 (by omega)
        replace hU := hU.tr hU_4 (by omega) (by omega)
        replace hG := hG_; replace hγ := hγ_; clear hG_ hγ_
        show Z D B xX0_bestDrink _ _ _ 29 _ [.int ((lstH (up2 σ 2 c (nI i)) d l k).1)] _ _
        refine z_istore (pc := 29) (zk1 kX0_bestDrink_1) rfl rfl ?_
        show Z D B xX0_bestDrink _ _ _ 31 [some (.ref p), some (.ref po), some (.int (nI c)), some (.int (nI d)), some (.int (nI l)), some (.int (nI k)), some (.int x), some (.int y), some (.int (nI i)), some (.int ((lstH (up2 σ 2 c (nI i)) d l k).1))] _ _ _
        refine z_iload (pc := 31) (zk2 kX0_bestDrink_1) rfl ?_
        refine z_iload (pc := 33) (zk3 kX0_bestDrink_1) rfl ?_
        refine z_icmp_le (pc := 35) (zk4 kX0_bestDrink_1) (tgt := 46) (by decide) (fun c_8 => ?_) (fun c_8 => ?_)
        · refine z_iinc (pc := 46) (zk9 kX0_bestDrink_1) (v := nI (i + 1)) rfl zinc rfl rfl ?_
          show Z D B xX0_bestDrink _ _ _ 49 [some (.ref p), some (.ref po), some (.int (nI c)), some (.int (nI d)), some (.int (nI l)), some (.int (nI k)), some (.int x), some (.int y), some (.int (nI (i + 1))), some (.int ((lstH (up2 σ 2 c (nI i)) d l k).1))] _ _ _
          refine z_goto (pc := 49) (zk10 kX0_bestDrink_1) (tgt := 9) (by decide) ?_
          refine z_kill 9 ?_
          show Z D B xX0_bestDrink _ _ _ 9 [some (.ref p), some (.ref po), some (.int (nI c)), some (.int (nI d)), some (.int (nI l)), some (.int (nI k)), some (.int x), some (.int y), some (.int (nI (i + 1))), none] _ _ _
          exact ih9 h_3 mk_5 tl_6 γ_7 x y (i + 1) (by omega) (by omega) (by rw [amx_f (by rw [← hx]; exact Int32.not_lt.mpr c_8)]; exact hx) (by rw [amx_f (by rw [← hx]; exact Int32.not_lt.mpr c_8)]; exact hy) hγ hG hL hU
        · refine z_iload (pc := 38) (zk5 kX0_bestDrink_1) rfl ?_
          refine z_istore (pc := 40) (zk6 kX0_bestDrink_1) rfl rfl ?_
          show Z D B xX0_bestDrink _ _ _ 42 [some (.ref p), some (.ref po), some (.int (nI c)), some (.int (nI d)), some (.int (nI l)), some (.int (nI k)), some (.int ((lstH (up2 σ 2 c (nI i)) d l k).1)), some (.int y), some (.int (nI i)), some (.int ((lstH (up2 σ 2 c (nI i)) d l k).1))] _ _ _
          refine z_iload (pc := 42) (zk7 kX0_bestDrink_1) rfl ?_
          refine z_istore (pc := 44) (zk8 kX0_bestDrink_1) rfl rfl ?_
          show Z D B xX0_bestDrink _ _ _ 46 [some (.ref p), some (.ref po), some (.int (nI c)), some (.int (nI d)), some (.int (nI l)), some (.int (nI k)), some (.int ((lstH (up2 σ 2 c (nI i)) d l k).1)), some (.int (nI i)), some (.int (nI i)), some (.int ((lstH (up2 σ 2 c (nI i)) d l k).1))] _ _ _
          refine z_iinc (pc := 46) (zk9 kX0_bestDrink_1) (v := nI (i + 1)) rfl zinc rfl rfl ?_
          show Z D B xX0_bestDrink _ _ _ 49 [some (.ref p), some (.ref po), some (.int (nI c)), some (.int (nI d)), some (.int (nI l)), some (.int (nI k)), some (.int ((lstH (up2 σ 2 c (nI i)) d l k).1)), some (.int (nI i)), some (.int (nI (i + 1))), some (.int ((lstH (up2 σ 2 c (nI i)) d l k).1))] _ _ _
          refine z_goto (pc := 49) (zk10 kX0_bestDrink_1) (tgt := 9) (by decide) ?_
          refine z_kill 9 ?_
          show Z D B xX0_bestDrink _ _ _ 9 [some (.ref p), some (.ref po), some (.int (nI c)), some (.int (nI d)), some (.int (nI l)), some (.int (nI k)), some (.int ((lstH (up2 σ 2 c (nI i)) d l k).1)), some (.int (nI i)), some (.int (nI (i + 1))), none] _ _ _
          exact ih9 h_3 mk_5 tl_6 γ_7 ((lstH (up2 σ 2 c (nI i)) d l k).1) (nI i) (i + 1) (by omega) (by omega) (by rw [amx_t (by rw [← hx]; exact Int32.not_le.mp c_8)]) (by rw [amx_t (by rw [← hx]; exact Int32.not_le.mp c_8)]) hγ hG hL hU
  exact lp9 _ h mk tl γ (-1) 0 0 (Nat.lt_succ_self _) (by omega) rfl rfl hγ hG hL hU
