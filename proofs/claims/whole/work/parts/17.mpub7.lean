theorem wthn_nn {w a : Int32} (h : 0 ≤ a) : 0 ≤ wthn w a := by
  unfold wthn
  by_cases c : w < 0
  · rw [if_pos c]; exact Int32.le_refl _
  · rw [if_neg c]
    by_cases d : a < w
    · rw [if_pos d]; exact h
    · rw [if_neg d]; exact Int32.not_lt.mp c
theorem ite_nn {c : Prop} [Decidable c] {a b : Int32} (ha : 0 ≤ a) (hb : 0 ≤ b) : 0 ≤ (if c then a else b) := by
  by_cases q : c
  · rw [if_pos q]; exact ha
  · rw [if_neg q]; exact hb
theorem heardW_nn {σ : Ln} {l k : Nat} {lo : Int32} (h : 0 ≤ σ 13 l) : 0 ≤ heardW σ l k lo := by
  unfold heardW
  refine ite_nn ?_ (Int32.le_refl _)
  refine ite_nn (wthn_nn h) ?_
  refine ite_nn (wthn_nn h) ?_
  refine ite_nn (ite_nn (wthn_nn h) (Int32.le_refl _)) ?_
  refine ite_nn (ite_nn (wthn_nn h) (Int32.le_refl _)) ?_
  exact ite_nn (ite_nn h (Int32.le_refl _)) (wthn_nn h)
theorem heard_nn {σ : Ln} {l k : Nat} (h : 0 ≤ σ 13 l) : 0 ≤ heardF σ l k := heardW_nn h
theorem amn_nn {F : Nat → Int32} (hF : ∀ v, 0 ≤ F v) : ∀ i, 0 ≤ (amn F (F 0) 0 i).1
  | 0 => hF 0
  | i + 1 => by
    rw [amn]
    by_cases c : F i < (amn F (F 0) 0 i).1
    · rw [if_pos c]; exact hF i
    · rw [if_neg c]; exact amn_nn hF i
theorem nn_m1 {x : Int32} (h : 0 ≤ x) : ¬ x = -1 := fun q => absurd (q ▸ h) (by decide)
theorem amn_st {F : Nat → Int32} (hF : ∀ v, 0 ≤ F v) {i : Nat} {a b : Int32} (ha : a = if i = 0 then -1 else (amn F (F 0) 0 i).1) (hb : ¬ i = 0 → b = (amn F (F 0) 0 i).2) : (if a = -1 ∨ F i < a then F i else a) = (amn F (F 0) 0 (i + 1)).1 ∧ (if a = -1 ∨ F i < a then nI i else b) = (amn F (F 0) 0 (i + 1)).2 := by
  by_cases h : i = 0
  · subst h
    rw [if_pos rfl] at ha
    subst ha
    have : amn F (F 0) 0 1 = (F 0, 0) := by
      rw [amn, if_neg (show ¬ F 0 < (amn F (F 0) 0 0).1 from Int32.lt_irrefl)]; rfl
    rw [this, if_pos (Or.inl rfl), if_pos (Or.inl rfl)]
    exact ⟨rfl, rfl⟩
  · rw [if_neg h] at ha
    have hb := hb h
    subst ha hb
    have n1 : ¬ (amn F (F 0) 0 i).1 = -1 := nn_m1 (amn_nn hF i)
    rw [amn]
    by_cases c : F i < (amn F (F 0) 0 i).1
    · rw [if_pos (Or.inr c), if_pos (Or.inr c), if_pos c]; exact ⟨rfl, rfl⟩
    · have no : ¬ ((amn F (F 0) 0 i).1 = -1 ∨ F i < (amn F (F 0) 0 i).1) := fun q => q.elim n1 c
      rw [if_neg no, if_neg no, if_neg c]; exact ⟨rfl, rfl⟩
set_option maxRecDepth 20000 in
theorem c_leastHeard {D : zD} {B : Nat} {h : zH} {sz : Nat} {p : Nat} {σ τ ω : Ln} {ε : El} {mv : Nat → Int64} {kp tr : Option Nat} {n d l k : Nat} (hM : MoAt h p σ τ ω ε mv kp tr) (hn : σ 0 0 = nI n) (h12 : n ≤ 12) (hd : d < n) (hl : l < 8) (hk : k < n) (hto : ToOk σ l) (hnn : 0 ≤ σ 13 l) (hB : B ≤ p) : zM D B xX5_leastHeard [.ref p, .int (nI d), .int (nI l), .int (nI k)] h sz (fun r h1 z1 => ∃ ω1 : Ln, r = some (.int (lstH σ d l k).1) ∧ MoAt h1 p σ τ ω1 ε mv kp tr ∧ ω1 23 0 = (lstH σ d l k).2 ∧ Upd h h1 p 29 ∧ z1 = sz) := by
  have hU : Upd h h p 29 := Upd.rf
  have hF : ∀ v, 0 ≤ (fun v => heardF (up2 σ 2 d (nI v)) l k) v := fun v => heard_nn (σ := up2 σ 2 d (nI v)) hnn
  refine zM.of (by decide) rfl (n := 4) ?_
  show Z D B xX5_leastHeard 0 0 _ 0 [some (.ref p), some (.int (nI d)), some (.int (nI l)), some (.int (nI k)), none, none, none, none] [] h sz
  refine z_aload_n (pc := 0) (zk0 kX5_leastHeard_0) rfl ?_
  refine z_getf (pc := 1) (zk1 kX5_leastHeard_0) flX5_44 hM.1 gMo_11 ?_
  refine z_iload_n (pc := 4) (zk2 kX5_leastHeard_0) rfl ?_
  refine z_ialdN (pc := 5) (zk3 kX5_leastHeard_0) (f := σ 2) (j := d) hM.2.2.2.2.2.2.2.2.2.2.2.1 (show d < 12 by omega) rfl ?_
  refine z_istore (pc := 6) (zk4 kX5_leastHeard_0) rfl rfl ?_
  show Z D B xX5_leastHeard _ _ _ 8 [some (.ref p), some (.int (nI d)), some (.int (nI l)), some (.int (nI k)), some (.int (σ 2 d)), none, none, none] _ _ _
  refine z_iconst (pc := 8) (zk5 kX5_leastHeard_0) (v := (-1)) (by decide) ?_
  refine z_istore (pc := 9) (zk6 kX5_leastHeard_0) rfl rfl ?_
  show Z D B xX5_leastHeard _ _ _ 11 [some (.ref p), some (.int (nI d)), some (.int (nI l)), some (.int (nI k)), some (.int (σ 2 d)), some (.int (-1)), none, none] _ _ _
  refine z_iconst (pc := 11) (zk7 kX5_leastHeard_0) (v := 0) (by decide) ?_
  refine z_istore (pc := 12) (zk8 kX5_leastHeard_0) rfl rfl ?_
  show Z D B xX5_leastHeard _ _ _ 14 [some (.ref p), some (.int (nI d)), some (.int (nI l)), some (.int (nI k)), some (.int (σ 2 d)), some (.int (-1)), some (.int 0), none] _ _ _
  have lp14 : ∀ (n_ : Nat) (w1 : Ln) (g : zH) (q : Int32) (a : Int32) (i : Nat), 10 - i < n_ → (i ≤ 10) → (a = if i = 0 then -1 else (amn (fun v => heardF (up2 σ 2 d (nI v)) l k) ((fun v => heardF (up2 σ 2 d (nI v)) l k) 0) 0 i).1) → (¬ i = 0 → w1 23 0 = (amn (fun v => heardF (up2 σ 2 d (nI v)) l k) ((fun v => heardF (up2 σ 2 d (nI v)) l k) 0) 0 i).2) → (MoAt g p (up2 σ 2 d q) τ w1 ε mv kp tr) → (Upd h g p 29) → Z D B xX5_leastHeard 0 0 (fun r h1 z1 => ∃ ω1 : Ln, r = some (.int (lstH σ d l k).1) ∧ MoAt h1 p σ τ ω1 ε mv kp tr ∧ ω1 23 0 = (lstH σ d l k).2 ∧ Upd h h1 p 29 ∧ z1 = sz) 14 [some (.ref p), some (.int (nI d)), some (.int (nI l)), some (.int (nI k)), some (.int (σ 2 d)), some (.int a), some (.int (nI i)), none] [] g sz := by
    intro n_
    induction n_ with
    | zero => intro w1 g q a i hm_; exact absurd hm_ (Nat.not_lt_zero _)
    | succ n_ ih14 =>
      intro w1 g q a i hm_ hi_i ha_ hw_ hM hU
      refine z_iload (pc := 14) (zk9 kX5_leastHeard_0) rfl ?_
      refine z_bipush (pc := 16) (zk10 kX5_leastHeard_0) (v := 9) (by decide) ?_
      refine z_icmp_gt (pc := 18) (zk11 kX5_leastHeard_0) (tgt := 91) (by decide) (fun c_1 => ?_) (fun c_1 => ?_)
      · have hie_i : i = 10 := nI_gt_yes (a := 9) (by omega) (by omega) c_1
        refine z_aload_n (pc := 91) (zk14 kX5_leastHeard_2) rfl ?_
        refine z_getf (pc := 92) (zk15 kX5_leastHeard_2) flX5_44 hM.1 gMo_11 ?_
        refine z_iload_n (pc := 95) (zk0 kX5_leastHeard_3) rfl ?_
        refine z_iload (pc := 96) (zk1 kX5_leastHeard_3) rfl ?_
        refine z_Mo_s18 (pc := 98) (zk2 kX5_leastHeard_3) (j := d) hM (by omega) (show d < 12 by omega) (fun h_2 hR hU_3 => ?_)
        replace hU := hU.tr hU_3 (by omega) (by omega)
        replace hM := hR; clear hR
        rw [up2_up2, up2_id] at hM
        refine z_iload (pc := 99) (zk3 kX5_leastHeard_3) rfl ?_
        exact z_iret (pc := 101) (zk4 kX5_leastHeard_3) rfl (Nat.zero_le _) (Nat.zero_le _) ⟨_, by rw [ha_, hie_i]; rfl, hM, (hw_ (by omega)).trans (by rw [hie_i]; rfl), hU, rfl⟩
      · have hlt_i : i < 10 := nI_gt_not (a := 9) (by omega) c_1
        refine z_aload_n (pc := 21) (zk12 kX5_leastHeard_0) rfl ?_
        refine z_getf (pc := 22) (zk13 kX5_leastHeard_0) flX5_44 hM.1 gMo_11 ?_
        refine z_iload_n (pc := 25) (zk14 kX5_leastHeard_0) rfl ?_
        refine z_iload (pc := 26) (zk15 kX5_leastHeard_0) rfl ?_
        refine z_Mo_s18 (pc := 28) (zk0 kX5_leastHeard_1) (j := d) hM (by omega) (show d < 12 by omega) (fun h_4 hR hU_5 => ?_)
        replace hU := hU.tr hU_5 (by omega) (by omega)
        replace hM := hR; clear hR
        rw [up2_up2] at hM
        refine z_aload_n (pc := 29) (zk1 kX5_leastHeard_1) rfl ?_
        refine z_iload_n (pc := 30) (zk2 kX5_leastHeard_1) rfl ?_
        refine z_iload_n (pc := 31) (zk3 kX5_leastHeard_1) rfl ?_
        refine z_rdV (pc := 32) (zk4 kX5_leastHeard_1) (st := []) lkX5_115 ivX5_heardAt hM.1 rfl rfl (c_mheardAt hM hn h12 (show l < 8 by omega) (show k < n by omega) hto) rfl ⟨rfl, rfl⟩ rfl rfl ?_ rfl
        refine z_istore (pc := 35) (zk5 kX5_leastHeard_1) rfl rfl ?_
        show Z D B xX5_leastHeard _ _ _ 37 [some (.ref p), some (.int (nI d)), some (.int (nI l)), some (.int (nI k)), some (.int (σ 2 d)), some (.int a), some (.int (nI i)), some (.int (heardF (up2 σ 2 d (nI i)) l k))] _ _ _
        refine z_aload_n (pc := 37) (zk6 kX5_leastHeard_1) rfl ?_
        suffices hJ : Z D B xX5_leastHeard 0 0 (fun r h1 z1 => ∃ ω1 : Ln, r = some (.int (lstH σ d l k).1) ∧ MoAt h1 p σ τ ω1 ε mv kp tr ∧ ω1 23 0 = (lstH σ d l k).2 ∧ Upd h h1 p 29 ∧ z1 = sz) 60 [some (.ref p), some (.int (nI d)), some (.int (nI l)), some (.int (nI k)), some (.int (σ 2 d)), some (.int a), some (.int (nI i)), some (.int (heardF (up2 σ 2 d (nI i)) l k))] [.int (if a = -1 ∨ heardF (up2 σ 2 d (nI i)) l k < a then nI i else w1 23 0), .ref p] h_4 sz from by
          refine z_iload (pc := 38) (zk7 kX5_leastHeard_1) rfl ?_
          refine z_iconst (pc := 40) (zk8 kX5_leastHeard_1) (v := (-1)) (by decide) ?_
          refine z_icmp_eq (pc := 41) (zk9 kX5_leastHeard_1) (tgt := 51) (by decide) (fun c_6 => ?_) (fun c_6 => ?_)
          · refine z_iload (pc := 51) (zk13 kX5_leastHeard_1) rfl ?_
            refine z_goto (pc := 53) (zk14 kX5_leastHeard_1) (tgt := 60) (by decide) ?_
            exact z_top (congrArg Value.int (by simp [c_1, Int32.not_lt.mp c_1, c_6])) hJ
          · refine z_iload (pc := 44) (zk10 kX5_leastHeard_1) rfl ?_
            refine z_iload (pc := 46) (zk11 kX5_leastHeard_1) rfl ?_
            refine z_icmp_ge (pc := 48) (zk12 kX5_leastHeard_1) (tgt := 56) (by decide) (fun c_7 => ?_) (fun c_7 => ?_)
            · refine z_aload_n (pc := 56) (zk15 kX5_leastHeard_1) rfl ?_
              refine z_getf (pc := 57) (zk0 kX5_leastHeard_2) flX5_307 hM.1 (v := .int (w1 23 0)) rfl ?_
              exact z_top (congrArg Value.int (by simp [c_1, Int32.not_lt.mp c_1, c_6, c_7, Int32.not_lt.mpr c_7])) hJ
            · refine z_iload (pc := 51) (zk13 kX5_leastHeard_1) rfl ?_
              refine z_goto (pc := 53) (zk14 kX5_leastHeard_1) (tgt := 60) (by decide) ?_
              exact z_top (congrArg Value.int (by simp [c_1, Int32.not_lt.mp c_1, c_6, c_7, Int32.not_le.mp c_7])) hJ
        refine z_Mo_w40 (pc := 60) (zk1 kX5_leastHeard_2) flX5_307 hM (by omega) (fun h_8 hR hU_9 => ?_)
        replace hU := hU.tr hU_9 (by omega) (by omega)
        replace hM := hR; clear hR
        suffices hJ : Z D B xX5_leastHeard 0 0 (fun r h1 z1 => ∃ ω1 : Ln, r = some (.int (lstH σ d l k).1) ∧ MoAt h1 p σ τ ω1 ε mv kp tr ∧ ω1 23 0 = (lstH σ d l k).2 ∧ Upd h h1 p 29 ∧ z1 = sz) 83 [some (.ref p), some (.int (nI d)), some (.int (nI l)), some (.int (nI k)), some (.int (σ 2 d)), some (.int a), some (.int (nI i)), some (.int (heardF (up2 σ 2 d (nI i)) l k))] [.int (if a = -1 ∨ heardF (up2 σ 2 d (nI i)) l k < a then heardF (up2 σ 2 d (nI i)) l k else a)] h_8 sz from by
          refine z_iload (pc := 63) (zk2 kX5_leastHeard_2) rfl ?_
          refine z_iconst (pc := 65) (zk3 kX5_leastHeard_2) (v := (-1)) (by decide) ?_
          refine z_icmp_eq (pc := 66) (zk4 kX5_leastHeard_2) (tgt := 76) (by decide) (fun c_10 => ?_) (fun c_10 => ?_)
          · refine z_iload (pc := 76) (zk8 kX5_leastHeard_2) rfl ?_
            refine z_goto (pc := 78) (zk9 kX5_leastHeard_2) (tgt := 83) (by decide) ?_
            exact z_top (congrArg Value.int (by simp [c_1, Int32.not_lt.mp c_1, c_10])) hJ
          · refine z_iload (pc := 69) (zk5 kX5_leastHeard_2) rfl ?_
            refine z_iload (pc := 71) (zk6 kX5_leastHeard_2) rfl ?_
            refine z_icmp_ge (pc := 73) (zk7 kX5_leastHeard_2) (tgt := 81) (by decide) (fun c_11 => ?_) (fun c_11 => ?_)
            · refine z_iload (pc := 81) (zk10 kX5_leastHeard_2) rfl ?_
              exact z_top (congrArg Value.int (by simp [c_1, Int32.not_lt.mp c_1, c_10, c_11, Int32.not_lt.mpr c_11])) hJ
            · refine z_iload (pc := 76) (zk8 kX5_leastHeard_2) rfl ?_
              refine z_goto (pc := 78) (zk9 kX5_leastHeard_2) (tgt := 83) (by decide) ?_
              exact z_top (congrArg Value.int (by simp [c_1, Int32.not_lt.mp c_1, c_10, c_11, Int32.not_le.mp c_11])) hJ
        refine z_istore (pc := 83) (zk11 kX5_leastHeard_2) rfl rfl ?_
        show Z D B xX5_leastHeard _ _ _ 85 [some (.ref p), some (.int (nI d)), some (.int (nI l)), some (.int (nI k)), some (.int (σ 2 d)), some (.int (if a = -1 ∨ heardF (up2 σ 2 d (nI i)) l k < a then heardF (up2 σ 2 d (nI i)) l k else a)), some (.int (nI i)), some (.int (heardF (up2 σ 2 d (nI i)) l k))] _ _ _
        refine z_iinc (pc := 85) (zk12 kX5_leastHeard_2) (v := nI (i + 1)) rfl zinc rfl rfl ?_
        show Z D B xX5_leastHeard _ _ _ 88 [some (.ref p), some (.int (nI d)), some (.int (nI l)), some (.int (nI k)), some (.int (σ 2 d)), some (.int (if a = -1 ∨ heardF (up2 σ 2 d (nI i)) l k < a then heardF (up2 σ 2 d (nI i)) l k else a)), some (.int (nI (i + 1))), some (.int (heardF (up2 σ 2 d (nI i)) l k))] _ _ _
        refine z_goto (pc := 88) (zk13 kX5_leastHeard_2) (tgt := 14) (by decide) ?_
        refine z_kill 7 ?_
        show Z D B xX5_leastHeard _ _ _ 14 [some (.ref p), some (.int (nI d)), some (.int (nI l)), some (.int (nI k)), some (.int (σ 2 d)), some (.int (if a = -1 ∨ heardF (up2 σ 2 d (nI i)) l k < a then heardF (up2 σ 2 d (nI i)) l k else a)), some (.int (nI (i + 1))), none] _ _ _
        exact ih14 (up2 w1 23 0 (if a = -1 ∨ heardF (up2 σ 2 d (nI i)) l k < a then nI i else w1 23 0)) h_8 (nI i) (if a = -1 ∨ heardF (up2 σ 2 d (nI i)) l k < a then heardF (up2 σ 2 d (nI i)) l k else a) (i + 1) (by omega) (by omega) (by rw [if_neg (show ¬ i + 1 = 0 by omega)]; exact (amn_st hF ha_ hw_).1) (fun _ => (up2_eq _ _ _ _).trans (amn_st hF ha_ hw_).2) hM hU
  exact lp14 _ ω h (σ 2 d) (-1) 0 (Nat.lt_succ_self _) (by omega) rfl (fun q => absurd rfl q) (by rw [up2_id]; exact hM) hU
set_option maxRecDepth 20000 in
theorem cP_pour {D : zD} {B : Nat} {h : zH} {sz : Nat} {p : Nat} {σ τ ω : Ln} {ε : El} {mv : Nat → Int64} {kp tr : Option Nat} {x : Int32} {y : Int32} {z : Int32} {u : Int32} {v : Int32} {n m : Nat} (hM : MoAt h p σ τ ω ε mv kp tr) (hB : B ≤ p) (hn : σ 0 0 = nI n) (h12 : n ≤ 12) (hm : σ 9 0 = nI m) (h8 : m ≤ 8) (hto : ∀ l, l < m → ToOk σ l) (hnn : ∀ l, l < m → 0 ≤ σ 13 l) : zM D B xX5_pour [.ref p, .int x, .int y, .int z, .int u, .int v] h sz (mQ h p sz kp tr (sp_pour σ τ ε x y z u v)) := by
  have hU : Upd h h p 29 := Upd.rf
  refine zM.of (by decide) rfl (n := 5) ?_
  show Z D B xX5_pour 0 0 _ 0 [some (.ref p), some (.int x), some (.int y), some (.int z), some (.int u), some (.int v), none, none, none, none, none] [] h sz
  refine z_aload_n (pc := 0) (zk0 kX5_pour_0) rfl ?_
  refine z_iload_n (pc := 1) (zk1 kX5_pour_0) rfl ?_
  refine z_iload_n (pc := 2) (zk2 kX5_pour_0) rfl ?_
  refine z_iload_n (pc := 3) (zk3 kX5_pour_0) rfl ?_
  refine z_iload (pc := 4) (zk4 kX5_pour_0) rfl ?_
  refine z_rdV (pc := 6) (zk5 kX5_pour_0) (st := []) lkX5_310 ivX5_mayPour hM.1 rfl rfl (c_mayPour hM) rfl ⟨rfl, rfl⟩ rfl rfl ?_ rfl
  refine z_oif_eq (pc := 9) (zk6 kX5_pour_0) (tgt := 23) (by decide) (fun c_1 => ?_) (fun c_1 => ?_)
  · refine z_aload_n (pc := 23) (zk13 kX5_pour_0) rfl ?_
    refine z_bipush (pc := 24) (zk14 kX5_pour_0) (v := (-2)) (by decide) ?_
    refine z_efV (pc := 26) (zk15 kX5_pour_0) (st := []) lkX5_94 ivX5_refuse hM.1 rfl rfl (c_refuse hM (by omega) (j := 2) (by decide) (by decide)) rfl ⟨rfl, rfl⟩ rfl rfl (fun r_ h_3 z_ q_2 => ?_) rfl
    obtain ⟨er_, hR, hU_4, ez_⟩ := q_2
    rw [er_, ez_]
    clear er_ ez_
    replace hU := hU.tr hU_4 (by omega) (by omega)
    replace hM := hR; clear hR
    show Z D B xX5_pour _ _ _ 29 _ [.int (-2)] _ _
    exact z_iret (pc := 29) (zk0 kX5_pour_1) rfl (Nat.zero_le _) (Nat.zero_le _) (by
            rw [show sp_pour σ τ ε x y z u v = ((-2), σ, rfN τ 2, ε) from by (have e_ := c_1; change okP σ _ _ _ _ = _ at e_; simp [sp_pour, sRd, sBad, e_])]
            exact ⟨_, _, rfl, hM, hU, rfl⟩)
  · obtain ⟨c_5, c_6⟩ := Bool.and_eq_true_iff.mp c_1
    obtain ⟨c_7, c_8⟩ := Bool.and_eq_true_iff.mp c_5
    obtain ⟨c_9, c_10⟩ := Bool.and_eq_true_iff.mp c_7
    obtain ⟨c_11, c_12⟩ := Bool.and_eq_true_iff.mp c_6
    refine z_iload (pc := 12) (zk7 kX5_pour_0) rfl ?_
    refine z_i2l (pc := 14) (zk8 kX5_pour_0) ?_
    refine z_lconst (pc := 15) (zk9 kX5_pour_0) (v := 0) (by decide) ?_
    refine z_lconst (pc := 16) (zk10 kX5_pour_0) (v := 1) (by decide) ?_
    refine z_rdS (pc := 17) (zk11 kX5_pour_0) (st := []) lkX5_81 isX5_in (c_inI (x := v) (a := 0) (b := 1) (by decide) (by decide)) rfl ⟨rfl, rfl⟩ rfl rfl ?_ rfl
    refine z_oif_ne (pc := 20) (zk12 kX5_pour_0) (tgt := 30) (by decide) (fun c_13 => ?_) (fun c_13 => ?_)
    · obtain ⟨kx, hkx, rfl⟩ := okR_nI (n := n) (by omega) (by rw [← hn]; exact c_9)
      obtain ⟨ky, hky, rfl⟩ := okR_nI (n := n) (by omega) (by rw [← hn]; exact c_10)
      obtain ⟨kz, hkz, rfl⟩ := okR_nI (n := m) (by omega) (by rw [← hm]; exact c_11)
      obtain ⟨ku, hku, rfl⟩ := okR_nI (n := n) (by omega) (by rw [← hn]; exact c_12)
      refine z_aload_n (pc := 30) (zk1 kX5_pour_1) rfl ?_
      refine z_getf (pc := 31) (zk2 kX5_pour_1) flX5_44 hM.1 gMo_11 ?_
      refine z_iload_n (pc := 34) (zk3 kX5_pour_1) rfl ?_
      refine z_ialdN (pc := 35) (zk4 kX5_pour_1) (f := σ 2) (j := kx) hM.2.2.2.2.2.2.2.2.2.2.2.1 (show kx < 12 by omega) rfl ?_
      refine z_istore (pc := 36) (zk5 kX5_pour_1) rfl rfl ?_
      show Z D B xX5_pour _ _ _ 38 [some (.ref p), some (.int (nI kx)), some (.int (nI ky)), some (.int (nI kz)), some (.int (nI ku)), some (.int v), some (.int (σ 2 kx)), none, none, none, none] _ _ _
      refine z_iconst (pc := 38) (zk6 kX5_pour_1) (v := 0) (by decide) ?_
      refine z_istore (pc := 39) (zk7 kX5_pour_1) rfl rfl ?_
      show Z D B xX5_pour _ _ _ 41 [some (.ref p), some (.int (nI kx)), some (.int (nI ky)), some (.int (nI kz)), some (.int (nI ku)), some (.int v), some (.int (σ 2 kx)), some (.int 0), none, none, none] _ _ _
      refine z_iconst (pc := 41) (zk8 kX5_pour_1) (v := (-1)) (by decide) ?_
      refine z_istore (pc := 42) (zk9 kX5_pour_1) rfl rfl ?_
      show Z D B xX5_pour _ _ _ 44 [some (.ref p), some (.int (nI kx)), some (.int (nI ky)), some (.int (nI kz)), some (.int (nI ku)), some (.int v), some (.int (σ 2 kx)), some (.int 0), some (.int (-1)), none, none] _ _ _
      refine z_iconst (pc := 44) (zk10 kX5_pour_1) (v := 0) (by decide) ?_
      refine z_istore (pc := 45) (zk11 kX5_pour_1) rfl rfl ?_
      show Z D B xX5_pour _ _ _ 47 [some (.ref p), some (.int (nI kx)), some (.int (nI ky)), some (.int (nI kz)), some (.int (nI ku)), some (.int v), some (.int (σ 2 kx)), some (.int 0), some (.int (-1)), some (.int 0), none] _ _ _
      have lp47 : ∀ (n_ : Nat) (w1 : Ln) (g : zH) (q : Int32) (a : Int32) (b : Int32) (i : Nat), 10 - i < n_ → (i ≤ 10) → (a = (amx (fun v => (lstH (up2 σ 2 kx (nI v)) ky kz ku).1) (-1) 0 i).2) → (b = (amx (fun v => (lstH (up2 σ 2 kx (nI v)) ky kz ku).1) (-1) 0 i).1) → (MoAt g p (up2 σ 2 kx q) τ w1 ε mv kp tr) → (Upd h g p 29) → Z D B xX5_pour 0 0 (mQ h p sz kp tr (sp_pour σ τ ε (nI kx) (nI ky) (nI kz) (nI ku) v)) 47 [some (.ref p), some (.int (nI kx)), some (.int (nI ky)), some (.int (nI kz)), some (.int (nI ku)), some (.int v), some (.int (σ 2 kx)), some (.int a), some (.int b), some (.int (nI i)), none] [] g sz := by
        intro n_
        induction n_ with
        | zero => intro w1 g q a b i hm_; exact absurd hm_ (Nat.not_lt_zero _)
        | succ n_ ih47 =>
          intro w1 g q a b i hm_ hi_i ha_ hb_ hM hU
          refine z_iload (pc := 47) (zk12 kX5_pour_1) rfl ?_
          refine z_bipush (pc := 49) (zk13 kX5_pour_1) (v := 9) (by decide) ?_
          refine z_icmp_gt (pc := 51) (zk14 kX5_pour_1) (tgt := 110) (by decide) (fun c_14 => ?_) (fun c_14 => ?_)
          · have hie_i : i = 10 := nI_gt_yes (a := 9) (by omega) (by omega) c_14
            refine z_aload_n (pc := 110) (zk10 kX5_pour_3) rfl ?_
            refine z_getf (pc := 111) (zk11 kX5_pour_3) flX5_44 hM.1 gMo_11 ?_
            refine z_iload_n (pc := 114) (zk12 kX5_pour_3) rfl ?_
            refine z_iload (pc := 115) (zk13 kX5_pour_3) rfl ?_
            refine z_Mo_s18 (pc := 117) (zk14 kX5_pour_3) (j := kx) hM (by omega) (show kx < 12 by omega) (fun h_15 hR hU_16 => ?_)
            replace hU := hU.tr hU_16 (by omega) (by omega)
            replace hM := hR; clear hR
            rw [up2_up2, up2_id] at hM
            refine z_iload (pc := 118) (zk15 kX5_pour_3) rfl ?_
            rcases okR_01 c_13 with rfl | rfl
            · refine z_if_ne (pc := 120) (zk0 kX5_pour_4) (tgt := 128) (by decide) (fun q => absurd (by decide) q) (fun _ => ?_)
              refine z_iload (pc := 123) (zk1 kX5_pour_4) rfl ?_
              refine z_goto (pc := 125) (zk2 kX5_pour_4) (tgt := 130) (by decide) ?_
              exact z_iret (pc := 130) (zk4 kX5_pour_4) rfl (Nat.zero_le _) (Nat.zero_le _) (by
                                rw [show sp_pour σ τ ε (nI kx) (nI ky) (nI kz) (nI ku) 0 = (b, σ, τ, ε) from by (have e_ := c_1; change okP σ _ _ _ _ = _ at e_; simp [sp_pour, sRd, sBad, e_, c_13, ha_, hb_, pourA, hie_i, ix_nI (show kx ≤ 1000 by omega), ix_nI (show ky ≤ 1000 by omega), ix_nI (show kz ≤ 1000 by omega), ix_nI (show ku ≤ 1000 by omega)])]
                                exact ⟨_, _, rfl, hM, hU, rfl⟩)
            · refine z_if_ne (pc := 120) (zk0 kX5_pour_4) (tgt := 128) (by decide) (fun _ => ?_) (fun q => absurd q (by decide))
              refine z_iload (pc := 128) (zk3 kX5_pour_4) rfl ?_
              exact z_iret (pc := 130) (zk4 kX5_pour_4) rfl (Nat.zero_le _) (Nat.zero_le _) (by
                                rw [show sp_pour σ τ ε (nI kx) (nI ky) (nI kz) (nI ku) 1 = (a, σ, τ, ε) from by (have e_ := c_1; change okP σ _ _ _ _ = _ at e_; simp [sp_pour, sRd, sBad, e_, c_13, ha_, hb_, pourA, hie_i, ix_nI (show kx ≤ 1000 by omega), ix_nI (show ky ≤ 1000 by omega), ix_nI (show kz ≤ 1000 by omega), ix_nI (show ku ≤ 1000 by omega)])]
                                exact ⟨_, _, rfl, hM, hU, rfl⟩)
          · have hlt_i : i < 10 := nI_gt_not (a := 9) (by omega) c_14
            refine z_aload_n (pc := 54) (zk15 kX5_pour_1) rfl ?_
            refine z_getf (pc := 55) (zk0 kX5_pour_2) flX5_44 hM.1 gMo_11 ?_
            refine z_iload_n (pc := 58) (zk1 kX5_pour_2) rfl ?_
            refine z_iload (pc := 59) (zk2 kX5_pour_2) rfl ?_
            refine z_Mo_s18 (pc := 61) (zk3 kX5_pour_2) (j := kx) hM (by omega) (show kx < 12 by omega) (fun h_17 hR hU_18 => ?_)
            replace hU := hU.tr hU_18 (by omega) (by omega)
            replace hM := hR; clear hR
            rw [up2_up2] at hM
            refine z_aload_n (pc := 62) (zk4 kX5_pour_2) rfl ?_
            refine z_iload_n (pc := 63) (zk5 kX5_pour_2) rfl ?_
            refine z_iload_n (pc := 64) (zk6 kX5_pour_2) rfl ?_
            refine z_iload (pc := 65) (zk7 kX5_pour_2) rfl ?_
            refine z_efV (pc := 67) (zk8 kX5_pour_2) (st := []) lkX5_314 ivX5_leastHeard hM.1 rfl rfl (c_leastHeard hM hn h12 (show ky < n by omega) (show kz < 8 by omega) (show ku < n by omega) (hto _ (by omega)) (hnn _ (by omega)) hB) rfl ⟨rfl, rfl⟩ rfl rfl (fun r_ h_20 z_ q_19 => ?_) rfl
            obtain ⟨w_22, er_, hR, ew_23, hU_21, ez_⟩ := q_19
            rw [er_, ez_]
            clear er_ ez_
            replace hU := hU.tr hU_21 (by omega) (by omega)
            replace hM := hR; clear hR
            show Z D B xX5_pour _ _ _ 70 _ [.int ((lstH (up2 σ 2 kx (nI i)) ky kz ku).1)] _ _
            refine z_istore (pc := 70) (zk9 kX5_pour_2) rfl rfl ?_
            show Z D B xX5_pour _ _ _ 72 [some (.ref p), some (.int (nI kx)), some (.int (nI ky)), some (.int (nI kz)), some (.int (nI ku)), some (.int v), some (.int (σ 2 kx)), some (.int a), some (.int b), some (.int (nI i)), some (.int ((lstH (up2 σ 2 kx (nI i)) ky kz ku).1))] _ _ _
            suffices hJ : Z D B xX5_pour 0 0 (mQ h p sz kp tr (sp_pour σ τ ε (nI kx) (nI ky) (nI kz) (nI ku) v)) 86 [some (.ref p), some (.int (nI kx)), some (.int (nI ky)), some (.int (nI kz)), some (.int (nI ku)), some (.int v), some (.int (σ 2 kx)), some (.int a), some (.int b), some (.int (nI i)), some (.int ((lstH (up2 σ 2 kx (nI i)) ky kz ku).1))] [.int (if b < (lstH (up2 σ 2 kx (nI i)) ky kz ku).1 then nI i else a)] h_20 sz from by
              refine z_iload (pc := 72) (zk10 kX5_pour_2) rfl ?_
              refine z_iload (pc := 74) (zk11 kX5_pour_2) rfl ?_
              refine z_icmp_le (pc := 76) (zk12 kX5_pour_2) (tgt := 84) (by decide) (fun c_24 => ?_) (fun c_24 => ?_)
              · refine z_iload (pc := 84) (zk15 kX5_pour_2) rfl ?_
                exact z_top (congrArg Value.int (by simp [c_1, c_5, c_7, c_9, c_10, c_8, c_6, c_11, c_12, c_13, c_14, Int32.not_lt.mp c_14, c_24, Int32.not_lt.mpr c_24])) hJ
              · refine z_iload (pc := 79) (zk13 kX5_pour_2) rfl ?_
                refine z_goto (pc := 81) (zk14 kX5_pour_2) (tgt := 86) (by decide) ?_
                exact z_top (congrArg Value.int (by simp [c_1, c_5, c_7, c_9, c_10, c_8, c_6, c_11, c_12, c_13, c_14, Int32.not_lt.mp c_14, c_24, Int32.not_le.mp c_24])) hJ
            refine z_istore (pc := 86) (zk0 kX5_pour_3) rfl rfl ?_
            show Z D B xX5_pour _ _ _ 88 [some (.ref p), some (.int (nI kx)), some (.int (nI ky)), some (.int (nI kz)), some (.int (nI ku)), some (.int v), some (.int (σ 2 kx)), some (.int (if b < (lstH (up2 σ 2 kx (nI i)) ky kz ku).1 then nI i else a)), some (.int b), some (.int (nI i)), some (.int ((lstH (up2 σ 2 kx (nI i)) ky kz ku).1))] _ _ _
            suffices hJ : Z D B xX5_pour 0 0 (mQ h p sz kp tr (sp_pour σ τ ε (nI kx) (nI ky) (nI kz) (nI ku) v)) 102 [some (.ref p), some (.int (nI kx)), some (.int (nI ky)), some (.int (nI kz)), some (.int (nI ku)), some (.int v), some (.int (σ 2 kx)), some (.int (if b < (lstH (up2 σ 2 kx (nI i)) ky kz ku).1 then nI i else a)), some (.int b), some (.int (nI i)), some (.int ((lstH (up2 σ 2 kx (nI i)) ky kz ku).1))] [.int (if b < (lstH (up2 σ 2 kx (nI i)) ky kz ku).1 then (lstH (up2 σ 2 kx (nI i)) ky kz ku).1 else b)] h_20 sz from by
              refine z_iload (pc := 88) (zk1 kX5_pour_3) rfl ?_
              refine z_iload (pc := 90) (zk2 kX5_pour_3) rfl ?_
              refine z_icmp_le (pc := 92) (zk3 kX5_pour_3) (tgt := 100) (by decide) (fun c_25 => ?_) (fun c_25 => ?_)
              · refine z_iload (pc := 100) (zk6 kX5_pour_3) rfl ?_
                exact z_top (congrArg Value.int (by simp [c_1, c_5, c_7, c_9, c_10, c_8, c_6, c_11, c_12, c_13, c_14, Int32.not_lt.mp c_14, c_25, Int32.not_lt.mpr c_25])) hJ
              · refine z_iload (pc := 95) (zk4 kX5_pour_3) rfl ?_
                refine z_goto (pc := 97) (zk5 kX5_pour_3) (tgt := 102) (by decide) ?_
                exact z_top (congrArg Value.int (by simp [c_1, c_5, c_7, c_9, c_10, c_8, c_6, c_11, c_12, c_13, c_14, Int32.not_lt.mp c_14, c_25, Int32.not_le.mp c_25])) hJ
            refine z_istore (pc := 102) (zk7 kX5_pour_3) rfl rfl ?_
            show Z D B xX5_pour _ _ _ 104 [some (.ref p), some (.int (nI kx)), some (.int (nI ky)), some (.int (nI kz)), some (.int (nI ku)), some (.int v), some (.int (σ 2 kx)), some (.int (if b < (lstH (up2 σ 2 kx (nI i)) ky kz ku).1 then nI i else a)), some (.int (if b < (lstH (up2 σ 2 kx (nI i)) ky kz ku).1 then (lstH (up2 σ 2 kx (nI i)) ky kz ku).1 else b)), some (.int (nI i)), some (.int ((lstH (up2 σ 2 kx (nI i)) ky kz ku).1))] _ _ _
            refine z_iinc (pc := 104) (zk8 kX5_pour_3) (v := nI (i + 1)) rfl zinc rfl rfl ?_
            show Z D B xX5_pour _ _ _ 107 [some (.ref p), some (.int (nI kx)), some (.int (nI ky)), some (.int (nI kz)), some (.int (nI ku)), some (.int v), some (.int (σ 2 kx)), some (.int (if b < (lstH (up2 σ 2 kx (nI i)) ky kz ku).1 then nI i else a)), some (.int (if b < (lstH (up2 σ 2 kx (nI i)) ky kz ku).1 then (lstH (up2 σ 2 kx (nI i)) ky kz ku).1 else b)), some (.int (nI (i + 1))), some (.int ((lstH (up2 σ 2 kx (nI i)) ky kz ku).1))] _ _ _
            refine z_goto (pc := 107) (zk9 kX5_pour_3) (tgt := 47) (by decide) ?_
            refine z_kill 10 ?_
            show Z D B xX5_pour _ _ _ 47 [some (.ref p), some (.int (nI kx)), some (.int (nI ky)), some (.int (nI kz)), some (.int (nI ku)), some (.int v), some (.int (σ 2 kx)), some (.int (if b < (lstH (up2 σ 2 kx (nI i)) ky kz ku).1 then nI i else a)), some (.int (if b < (lstH (up2 σ 2 kx (nI i)) ky kz ku).1 then (lstH (up2 σ 2 kx (nI i)) ky kz ku).1 else b)), some (.int (nI (i + 1))), none] _ _ _
            exact ih47 w_22 h_20 (nI i) (if b < (lstH (up2 σ 2 kx (nI i)) ky kz ku).1 then nI i else a) (if b < (lstH (up2 σ 2 kx (nI i)) ky kz ku).1 then (lstH (up2 σ 2 kx (nI i)) ky kz ku).1 else b) (i + 1) (by omega) (by omega) (by rw [ha_, hb_]; exact amx_s2 (fun v => (lstH (up2 σ 2 kx (nI v)) ky kz ku).1) _ _ _) (by rw [hb_]; exact amx_s1 (fun v => (lstH (up2 σ 2 kx (nI v)) ky kz ku).1) _ _ _) hM hU
      exact lp47 _ ω h (σ 2 kx) 0 (-1) 0 (Nat.lt_succ_self _) (by omega) rfl rfl (by rw [up2_id]; exact hM) hU
    · refine z_aload_n (pc := 23) (zk13 kX5_pour_0) rfl ?_
      refine z_bipush (pc := 24) (zk14 kX5_pour_0) (v := (-2)) (by decide) ?_
      refine z_efV (pc := 26) (zk15 kX5_pour_0) (st := []) lkX5_94 ivX5_refuse hM.1 rfl rfl (c_refuse hM (by omega) (j := 2) (by decide) (by decide)) rfl ⟨rfl, rfl⟩ rfl rfl (fun r_ h_27 z_ q_26 => ?_) rfl
      obtain ⟨er_, hR, hU_28, ez_⟩ := q_26
      rw [er_, ez_]
      clear er_ ez_
      replace hU := hU.tr hU_28 (by omega) (by omega)
      replace hM := hR; clear hR
      show Z D B xX5_pour _ _ _ 29 _ [.int (-2)] _ _
      exact z_iret (pc := 29) (zk0 kX5_pour_1) rfl (Nat.zero_le _) (Nat.zero_le _) (by
                rw [show sp_pour σ τ ε x y z u v = ((-2), σ, rfN τ 2, ε) from by (have e_ := c_1; change okP σ _ _ _ _ = _ at e_; simp [sp_pour, sRd, sBad, e_, c_13])]
                exact ⟨_, _, rfl, hM, hU, rfl⟩)
set_option maxRecDepth 20000 in
theorem cP_answer {D : zD} {B : Nat} {h : zH} {sz : Nat} {p : Nat} {σ τ ω : Ln} {ε : El} {mv : Nat → Int64} {kp tr : Option Nat} {x : Int32} {y : Int32} {z : Int32} {u : Int32} {v : Int32} {n m : Nat} (hM : MoAt h p σ τ ω ε mv kp tr) (hB : B ≤ p) (hn : σ 0 0 = nI n) (h12 : n ≤ 12) (hm : σ 9 0 = nI m) (h8 : m ≤ 8) (hto : ∀ l, l < m → ToOk σ l) (hnn : ∀ l, l < m → 0 ≤ σ 13 l) : zM D B xX5_answer [.ref p, .int x, .int y, .int z, .int u, .int v] h sz (mQ h p sz kp tr (sp_answer σ τ ε x y z u v)) := by
  have hU : Upd h h p 29 := Upd.rf
  refine zM.of (by decide) rfl (n := 1) ?_
  show Z D B xX5_answer 0 0 _ 0 [some (.ref p), some (.int x), some (.int y), some (.int z), some (.int u), some (.int v), none] [] h sz
  refine z_aload_n (pc := 0) (zk0 kX5_answer_0) rfl ?_
  refine z_iload_n (pc := 1) (zk1 kX5_answer_0) rfl ?_
  refine z_iload_n (pc := 2) (zk2 kX5_answer_0) rfl ?_
  refine z_iload_n (pc := 3) (zk3 kX5_answer_0) rfl ?_
  refine z_iload (pc := 4) (zk4 kX5_answer_0) rfl ?_
  refine z_rdV (pc := 6) (zk5 kX5_answer_0) (st := []) lkX5_310 ivX5_mayPour hM.1 rfl rfl (c_mayPour hM) rfl ⟨rfl, rfl⟩ rfl rfl ?_ rfl
  refine z_oif_eq (pc := 9) (zk6 kX5_answer_0) (tgt := 25) (by decide) (fun c_1 => ?_) (fun c_1 => ?_)
  · refine z_aload_n (pc := 25) (zk13 kX5_answer_0) rfl ?_
    refine z_bipush (pc := 26) (zk14 kX5_answer_0) (v := (-2)) (by decide) ?_
    refine z_efV (pc := 28) (zk15 kX5_answer_0) (st := []) lkX5_94 ivX5_refuse hM.1 rfl rfl (c_refuse hM (by omega) (j := 2) (by decide) (by decide)) rfl ⟨rfl, rfl⟩ rfl rfl (fun r_ h_3 z_ q_2 => ?_) rfl
    obtain ⟨er_, hR, hU_4, ez_⟩ := q_2
    rw [er_, ez_]
    clear er_ ez_
    replace hU := hU.tr hU_4 (by omega) (by omega)
    replace hM := hR; clear hR
    show Z D B xX5_answer _ _ _ 31 _ [.int (-2)] _ _
    exact z_iret (pc := 31) (zk0 kX5_answer_1) rfl (Nat.zero_le _) (Nat.zero_le _) (by
            rw [show sp_answer σ τ ε x y z u v = ((-2), σ, rfN τ 2, ε) from by (have e_ := c_1; change okP σ _ _ _ _ = _ at e_; simp [sp_answer, sRd, sBad, e_])]
            exact ⟨_, _, rfl, hM, hU, rfl⟩)
  · obtain ⟨c_5, c_6⟩ := Bool.and_eq_true_iff.mp c_1
    obtain ⟨c_7, c_8⟩ := Bool.and_eq_true_iff.mp c_5
    obtain ⟨c_9, c_10⟩ := Bool.and_eq_true_iff.mp c_7
    obtain ⟨c_11, c_12⟩ := Bool.and_eq_true_iff.mp c_6
    refine z_iload (pc := 12) (zk7 kX5_answer_0) rfl ?_
    refine z_i2l (pc := 14) (zk8 kX5_answer_0) ?_
    refine z_lconst (pc := 15) (zk9 kX5_answer_0) (v := 0) (by decide) ?_
    refine z_ldc2 (pc := 16) (zk10 kX5_answer_0) klX5_121 ?_
    refine z_rdS (pc := 19) (zk11 kX5_answer_0) (st := []) lkX5_81 isX5_in (c_inI (x := v) (a := 0) (b := 9) (by decide) (by decide)) rfl ⟨rfl, rfl⟩ rfl rfl ?_ rfl
    refine z_oif_ne (pc := 22) (zk12 kX5_answer_0) (tgt := 32) (by decide) (fun c_13 => ?_) (fun c_13 => ?_)
    · obtain ⟨kx, hkx, rfl⟩ := okR_nI (n := n) (by omega) (by rw [← hn]; exact c_9)
      obtain ⟨ky, hky, rfl⟩ := okR_nI (n := n) (by omega) (by rw [← hn]; exact c_10)
      obtain ⟨kz, hkz, rfl⟩ := okR_nI (n := m) (by omega) (by rw [← hm]; exact c_11)
      obtain ⟨ku, hku, rfl⟩ := okR_nI (n := n) (by omega) (by rw [← hn]; exact c_12)
      refine z_aload_n (pc := 32) (zk1 kX5_answer_1) rfl ?_
      refine z_getf (pc := 33) (zk2 kX5_answer_1) flX5_44 hM.1 gMo_11 ?_
      refine z_iload_n (pc := 36) (zk3 kX5_answer_1) rfl ?_
      refine z_ialdN (pc := 37) (zk4 kX5_answer_1) (f := σ 2) (j := kx) hM.2.2.2.2.2.2.2.2.2.2.2.1 (show kx < 12 by omega) rfl ?_
      refine z_istore (pc := 38) (zk5 kX5_answer_1) rfl rfl ?_
      show Z D B xX5_answer _ _ _ 40 [some (.ref p), some (.int (nI kx)), some (.int (nI ky)), some (.int (nI kz)), some (.int (nI ku)), some (.int v), some (.int (σ 2 kx))] _ _ _
      refine z_aload_n (pc := 40) (zk6 kX5_answer_1) rfl ?_
      refine z_getf (pc := 41) (zk7 kX5_answer_1) flX5_44 hM.1 gMo_11 ?_
      refine z_iload_n (pc := 44) (zk8 kX5_answer_1) rfl ?_
      refine z_iload (pc := 45) (zk9 kX5_answer_1) rfl ?_
      refine z_Mo_s18 (pc := 47) (zk10 kX5_answer_1) (j := kx) hM (by omega) (show kx < 12 by omega) (fun h_14 hR hU_15 => ?_)
      replace hU := hU.tr hU_15 (by omega) (by omega)
      replace hM := hR; clear hR
      refine z_aload_n (pc := 48) (zk11 kX5_answer_1) rfl ?_
      refine z_iload_n (pc := 49) (zk12 kX5_answer_1) rfl ?_
      refine z_iload_n (pc := 50) (zk13 kX5_answer_1) rfl ?_
      refine z_iload (pc := 51) (zk14 kX5_answer_1) rfl ?_
      refine z_efV (pc := 53) (zk15 kX5_answer_1) (st := []) lkX5_314 ivX5_leastHeard hM.1 rfl rfl (c_leastHeard hM hn h12 (show ky < n by omega) (show kz < 8 by omega) (show ku < n by omega) (hto _ (by omega)) (hnn _ (by omega)) hB) rfl ⟨rfl, rfl⟩ rfl rfl (fun r_ h_17 z_ q_16 => ?_) rfl
      obtain ⟨w_19, er_, hR, ew_20, hU_18, ez_⟩ := q_16
      rw [er_, ez_]
      clear er_ ez_
      replace hU := hU.tr hU_18 (by omega) (by omega)
      replace hM := hR; clear hR
      show Z D B xX5_answer _ _ _ 56 _ [.int ((lstH (up2 σ 2 kx v) ky kz ku).1)] _ _
      refine z_pop (pc := 56) (zk0 kX5_answer_2) rfl ?_
      refine z_aload_n (pc := 57) (zk1 kX5_answer_2) rfl ?_
      refine z_getf (pc := 58) (zk2 kX5_answer_2) flX5_44 hM.1 gMo_11 ?_
      refine z_iload_n (pc := 61) (zk3 kX5_answer_2) rfl ?_
      refine z_iload (pc := 62) (zk4 kX5_answer_2) rfl ?_
      refine z_Mo_s18 (pc := 64) (zk5 kX5_answer_2) (j := kx) hM (by omega) (show kx < 12 by omega) (fun h_21 hR hU_22 => ?_)
      replace hU := hU.tr hU_22 (by omega) (by omega)
      replace hM := hR; clear hR
      rw [up2_up2, up2_id] at hM
      refine z_aload_n (pc := 65) (zk6 kX5_answer_2) rfl ?_
      refine z_getf (pc := 66) (zk7 kX5_answer_2) flX5_307 hM.1 (v := .int ((lstH (up2 σ 2 kx v) ky kz ku).2)) (by rw [← ew_20]; rfl) ?_
      generalize he_ : (lstH (up2 σ 2 kx v) ky kz ku).2 = a_
      exact z_iret (pc := 69) (zk8 kX5_answer_2) rfl (Nat.zero_le _) (Nat.zero_le _) (by
                rw [show sp_answer σ τ ε (nI kx) (nI ky) (nI kz) (nI ku) v = (a_, σ, τ, ε) from by (have e_ := c_1; change okP σ _ _ _ _ = _ at e_; simp [sp_answer, sRd, sBad, e_, c_13, he_, ix_nI (show kx ≤ 1000 by omega), ix_nI (show ky ≤ 1000 by omega), ix_nI (show kz ≤ 1000 by omega), ix_nI (show ku ≤ 1000 by omega)])]
                exact ⟨_, _, rfl, hM, hU, rfl⟩)
    · refine z_aload_n (pc := 25) (zk13 kX5_answer_0) rfl ?_
      refine z_bipush (pc := 26) (zk14 kX5_answer_0) (v := (-2)) (by decide) ?_
      refine z_efV (pc := 28) (zk15 kX5_answer_0) (st := []) lkX5_94 ivX5_refuse hM.1 rfl rfl (c_refuse hM (by omega) (j := 2) (by decide) (by decide)) rfl ⟨rfl, rfl⟩ rfl rfl (fun r_ h_24 z_ q_23 => ?_) rfl
      obtain ⟨er_, hR, hU_25, ez_⟩ := q_23
      rw [er_, ez_]
      clear er_ ez_
      replace hU := hU.tr hU_25 (by omega) (by omega)
      replace hM := hR; clear hR
      show Z D B xX5_answer _ _ _ 31 _ [.int (-2)] _ _
      exact z_iret (pc := 31) (zk0 kX5_answer_1) rfl (Nat.zero_le _) (Nat.zero_le _) (by
                rw [show sp_answer σ τ ε x y z u v = ((-2), σ, rfN τ 2, ε) from by (have e_ := c_1; change okP σ _ _ _ _ = _ at e_; simp [sp_answer, sRd, sBad, e_, c_13])]
                exact ⟨_, _, rfl, hM, hU, rfl⟩)
