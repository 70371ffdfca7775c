set_option maxRecDepth 20000 in
theorem cP_back0 {D : zD} {B : Nat} {h : zH} {sz : Nat} {p : Nat} {σ τ ω : Ln} {ε : El} {mv : Nat → Int64} {tr : Option Nat}  (hM : MoAt h p σ τ ω ε mv none tr) (hB : B ≤ p) : zM D B xX5_back [.ref p] h sz (mQ h p sz none tr (-5, σ, rfN τ 5, ε)) := by
  have hU : Upd h h p 29 := Upd.rf
  refine zM.of (by decide) rfl (n := 0) ?_
  show Z D B xX5_back 0 0 _ 0 [some (.ref p)] [] h sz
  refine z_aload_n (pc := 0) (zk0 kX5_back_0) rfl ?_
  refine z_getf (pc := 1) (zk1 kX5_back_0) flX5_344 hM.1 (v := .null) rfl ?_
  refine z_ifnonnullN (pc := 4) (zk2 kX5_back_0) ?_
  refine z_aload_n (pc := 7) (zk3 kX5_back_0) rfl ?_
  refine z_bipush (pc := 8) (zk4 kX5_back_0) (v := (-5)) (by decide) ?_
  refine z_efV (pc := 10) (zk5 kX5_back_0) (st := []) lkX5_94 ivX5_refuse hM.1 rfl rfl (c_refuse hM (by omega) (j := 5) (by decide) (by decide)) rfl ⟨rfl, rfl⟩ rfl rfl (fun r_ h_2 z_ q_1 => ?_) rfl
  obtain ⟨er_, hR, hU_3, ez_⟩ := q_1
  rw [er_, ez_]
  clear er_ ez_
  replace hU := hU.tr hU_3 (by omega) (by omega)
  replace hM := hR; clear hR
  show Z D B xX5_back _ _ _ 13 _ [.int (-5)] _ _
  exact z_iret (pc := 13) (zk6 kX5_back_0) rfl (Nat.zero_le _) (Nat.zero_le _) ⟨_, _, rfl, hM, hU, rfl⟩
set_option maxRecDepth 20000 in
theorem cP_back1 {D : zD} {B : Nat} {h : zH} {sz : Nat} {p : Nat} {σ τ ω : Ln} {ε : El} {mv : Nat → Int64} {tr : Option Nat} {q : Nat} {κ τ2 ω2 : Ln} {ε2 : El} {mv2 : Nat → Int64} {kp2 tr2 : Option Nat} (hM : MoAt h p σ τ ω ε mv (some q) tr) (hO : MoAt h q κ τ2 ω2 ε2 mv2 kp2 tr2) (hB : B ≤ p) (hd : p + 29 ≤ q ∨ q + 29 ≤ p) (hbκ : κ 6 0 = 0 ∨ κ 6 0 = 1) : zM D B xX5_back [.ref p] h sz (mQ h p sz (some q) tr (1, κ, flwT τ (κ 9 0) 8, ε)) := by
  have hU : Upd h h p 29 := Upd.rf
  refine zM.of (by decide) rfl (n := 0) ?_
  show Z D B xX5_back 0 0 _ 0 [some (.ref p)] [] h sz
  refine z_aload_n (pc := 0) (zk0 kX5_back_0) rfl ?_
  refine z_getf (pc := 1) (zk1 kX5_back_0) flX5_344 hM.1 (v := .ref q) rfl ?_
  refine z_ifnonnull (pc := 4) (zk2 kX5_back_0) (tgt := 14) (by decide) ?_
  refine z_aload_n (pc := 14) (zk7 kX5_back_0) rfl ?_
  refine z_aload_n (pc := 15) (zk8 kX5_back_0) rfl ?_
  refine z_getf (pc := 16) (zk9 kX5_back_0) flX5_344 hM.1 (v := .ref q) rfl ?_
  refine z_efV (pc := 19) (zk10 kX5_back_0) (st := []) lkX5_224 ivX5_takeFrom hM.1 rfl rfl (c_mtake hM hO (by omega) (by omega) hbκ) rfl ⟨rfl, rfl⟩ rfl rfl (fun r_ h_2 z_ q_1 => ?_) rfl
  obtain ⟨er_, hR, hU_3, ez_⟩ := q_1
  rw [er_, ez_]
  clear er_ ez_
  replace hO := MoAt.fr hO hU_3 (by omega)
  replace hU := hU.tr hU_3 (by omega) (by omega)
  replace hM := hR; clear hR
  show Z D B xX5_back _ _ _ 22 _ [] _ _
  refine z_aload_n (pc := 22) (zk11 kX5_back_0) rfl ?_
  refine z_efV (pc := 23) (zk12 kX5_back_0) (st := []) lkX5_328 ivX5_shelvesFollow hM.1 rfl rfl (c_follow hM hB) rfl ⟨rfl, rfl⟩ rfl rfl (fun r_ h_5 z_ q_4 => ?_) rfl
  obtain ⟨er_, hR, hU_6, ez_⟩ := q_4
  rw [er_, ez_]
  clear er_ ez_
  replace hO := MoAt.fr hO hU_6 (by omega)
  replace hU := hU.tr hU_6 (by omega) (by omega)
  replace hM := hR; clear hR
  show Z D B xX5_back _ _ _ 26 _ [] _ _
  refine z_iconst (pc := 26) (zk13 kX5_back_0) (v := 1) (by decide) ?_
  exact z_iret (pc := 27) (zk14 kX5_back_0) rfl (Nat.zero_le _) (Nat.zero_le _) ⟨_, _, rfl, hM, hU, rfl⟩
def KpAt (h : zH) (a : Nat) (κ : Ln) : Prop := ∃ (τ ω : Ln) (ε : El) (mv : Nat → Int64) (kp tr : Option Nat), MoAt h a κ τ ω ε mv kp tr
theorem KpAt.fr {h h1 : zH} {a lo n : Nat} {κ : Ln} (H : KpAt h a κ) (hU : Upd h h1 lo n) (hd : lo + n ≤ a ∨ a + 29 ≤ lo) : KpAt h1 a κ := by
  obtain ⟨τ, ω, ε, mv, kp, tr, H⟩ := H
  exact ⟨τ, ω, ε, mv, kp, tr, H.fr hU hd⟩
set_option maxRecDepth 20000 in
theorem cP_image0 {D : zD} {B : Nat} {h : zH} {sz : Nat} {p : Nat} {σ τ ω : Ln} {ε : El} {mv : Nat → Int64} {tr : Option Nat}  (hM : MoAt h p σ τ ω ε mv none tr) (hB : B ≤ p) (hp : p + 29 ≤ sz) (hbk : σ 6 0 = 0 ∨ σ 6 0 = 1) : zM D B xX5_image [.ref p] h sz (fun r h1 z1 => r = some (.int 1) ∧ MoAt h1 p σ τ ω ε mv (some sz) tr ∧ KpAt h1 sz σ ∧ Up2 h h1 p 29 sz 29 ∧ z1 = sz + 29) := by
  have hU : Up2 h h p 29 sz 29 := Up2.rf
  refine zM.of (by decide) rfl (n := 0) ?_
  show Z D B xX5_image 0 0 _ 0 [some (.ref p)] [] h sz
  refine z_aload_n (pc := 0) (zk0 kX5_image_0) rfl ?_
  refine z_getf (pc := 1) (zk1 kX5_image_0) flX5_344 hM.1 (v := .null) rfl ?_
  refine z_ifnonnullN (pc := 4) (zk2 kX5_image_0) ?_
  refine z_aload_n (pc := 7) (zk3 kX5_image_0) rfl ?_
  refine z_new (pc := 8) (ci := 5) (N := 41) (fs := fs0X5) (zk4 kX5_image_0) nwX5_8 rfl (by decide) rfl rfl (fun _ => ?_)
  have hU_1 : Upd h (zup h sz (zO 5 fs0X5)) sz 1 := Upd.one
  have hno : (zup h sz (zO 5 fs0X5)) sz = some (zO 5 fs0X5) := zup_s
  generalize zup h sz (zO 5 fs0X5) = h_2 at hU_1 hno ⊢
  replace hM := MoAt.fr hM hU_1 (by omega)
  replace hU := Up2.tr hU hU_1 (by omega)
  refine z_dup (pc := 11) (zk5 kX5_image_0) rfl ?_
  refine z_callI (pc := 12) (st := [.ref sz, .ref p]) (zk6 kX5_image_0) lkX5_223 iiX5_init (c_I5 (p := sz) hno (by omega)) rfl rfl rfl (fun r_ h_3 z_ q_4 => ?_) rfl
  obtain ⟨er_, hO, hU_5, ez_⟩ := q_4
  rw [er_, ez_]
  clear er_ ez_ hno
  replace hM := MoAt.fr hM hU_5 (by omega)
  replace hU := Up2.tr hU hU_5 (by omega)
  refine z_cs (a := 29) (b := 877) rfl rfl ?_
  show Z D B xX5_image _ _ _ 15 _ [.ref sz, .ref p] _ _
  refine z_Mo_w23 (pc := 15) (zk7 kX5_image_0) flX5_344 hM (by omega) (fun h_6 hR hU_7 => ?_)
  replace hO := MoAt.fr hO hU_7 (by omega)
  replace hU := Up2.tr hU hU_7 (by omega)
  replace hM := hR; clear hR
  refine z_aload_n (pc := 18) (zk8 kX5_image_0) rfl ?_
  refine z_getf (pc := 19) (zk9 kX5_image_0) flX5_344 hM.1 (v := .ref sz) rfl ?_
  refine z_aload_n (pc := 22) (zk10 kX5_image_0) rfl ?_
  refine z_efV (pc := 23) (zk11 kX5_image_0) (st := []) lkX5_224 ivX5_takeFrom hO.1 rfl rfl (c_mtake hO hM (by omega) (by omega) hbk) rfl ⟨rfl, rfl⟩ rfl rfl (fun r_ h_9 z_ q_8 => ?_) rfl
  obtain ⟨er_, hR, hU_10, ez_⟩ := q_8
  rw [er_, ez_]
  clear er_ ez_
  replace hM := MoAt.fr hM hU_10 (by omega)
  replace hU := Up2.tr hU hU_10 (by omega)
  replace hO := hR; clear hR
  show Z D B xX5_image _ _ _ 26 _ [] _ _
  refine z_iconst (pc := 26) (zk12 kX5_image_0) (v := 1) (by decide) ?_
  exact z_iret (pc := 27) (zk13 kX5_image_0) rfl (Nat.le_of_ble_eq_true rfl) (Nat.le_of_ble_eq_true rfl) ⟨rfl, hM, ⟨_, _, _, _, _, _, hO⟩, hU, rfl⟩
set_option maxRecDepth 20000 in
theorem cP_image1 {D : zD} {B : Nat} {h : zH} {sz : Nat} {p : Nat} {σ τ ω : Ln} {ε : El} {mv : Nat → Int64} {tr : Option Nat} {q : Nat} {κ τ2 ω2 : Ln} {ε2 : El} {mv2 : Nat → Int64} {kp2 tr2 : Option Nat} (hM : MoAt h p σ τ ω ε mv (some q) tr) (hO : MoAt h q κ τ2 ω2 ε2 mv2 kp2 tr2) (hB : B ≤ p) (hBq : B ≤ q) (hd : p + 29 ≤ q ∨ q + 29 ≤ p) (hbk : σ 6 0 = 0 ∨ σ 6 0 = 1) : zM D B xX5_image [.ref p] h sz (fun r h1 z1 => r = some (.int 1) ∧ MoAt h1 p σ τ ω ε mv (some q) tr ∧ KpAt h1 q σ ∧ Up2 h h1 p 29 q 29 ∧ z1 = sz) := by
  have hU : Up2 h h p 29 q 29 := Up2.rf
  refine zM.of (by decide) rfl (n := 0) ?_
  show Z D B xX5_image 0 0 _ 0 [some (.ref p)] [] h sz
  refine z_aload_n (pc := 0) (zk0 kX5_image_0) rfl ?_
  refine z_getf (pc := 1) (zk1 kX5_image_0) flX5_344 hM.1 (v := .ref q) rfl ?_
  refine z_ifnonnull (pc := 4) (zk2 kX5_image_0) (tgt := 18) (by decide) ?_
  refine z_aload_n (pc := 18) (zk8 kX5_image_0) rfl ?_
  refine z_getf (pc := 19) (zk9 kX5_image_0) flX5_344 hM.1 (v := .ref q) rfl ?_
  refine z_aload_n (pc := 22) (zk10 kX5_image_0) rfl ?_
  refine z_efV (pc := 23) (zk11 kX5_image_0) (st := []) lkX5_224 ivX5_takeFrom hO.1 rfl rfl (c_mtake hO hM (by omega) (by omega) hbk) rfl ⟨rfl, rfl⟩ rfl rfl (fun r_ h_2 z_ q_1 => ?_) rfl
  obtain ⟨er_, hR, hU_3, ez_⟩ := q_1
  rw [er_, ez_]
  clear er_ ez_
  replace hM := MoAt.fr hM hU_3 (by omega)
  replace hU := Up2.tr hU hU_3 (by omega)
  replace hO := hR; clear hR
  show Z D B xX5_image _ _ _ 26 _ [] _ _
  refine z_iconst (pc := 26) (zk12 kX5_image_0) (v := 1) (by decide) ?_
  exact z_iret (pc := 27) (zk13 kX5_image_0) rfl (Nat.zero_le _) (Nat.zero_le _) ⟨rfl, hM, ⟨_, _, _, _, _, _, hO⟩, hU, rfl⟩
set_option maxRecDepth 20000 in
theorem cP_lane0 {D : zD} {B : Nat} {h : zH} {sz : Nat} {p N n m : Nat} {σ τ ω : Ln} {ε : El} {mv : Nat → Int64} {kp : Option Nat}  (hM : MoAt h p σ τ ω ε mv kp none) (hN : τ 6 0 = nI N) (hN2 : N ≤ 250) (hB : B ≤ p) (hp : p + 29 ≤ sz) (hW : LW σ n m) : zM D B xX5_lane [.ref p] h sz (fun r h1 z1 => (∃ (ω1 : Ln) (mv1 : Nat → Int64), r = some (.int (sp_lane σ τ ε).1) ∧ MoAt h1 p (sp_lane σ τ ε).2.1 (sp_lane σ τ ε).2.2.1 ω1 (sp_lane σ τ ε).2.2.2 mv1 kp (some sz)) ∧ (∃ κ1, KpAt h1 sz κ1) ∧ Up2 h h1 p 29 sz 29 ∧ z1 = sz + 29) := by
  have hU : Up2 h h p 29 sz 29 := Up2.rf
  refine zM.of (by decide) rfl (n := 1) ?_
  show Z D B xX5_lane 0 0 _ 0 [some (.ref p), none] [] h sz
  refine z_aload_n (pc := 0) (zk0 kX5_lane_0) rfl ?_
  refine z_getf (pc := 1) (zk1 kX5_lane_0) flX5_219 hM.1 (v := .null) rfl ?_
  refine z_ifnonnullN (pc := 4) (zk2 kX5_lane_0) ?_
  refine z_aload_n (pc := 7) (zk3 kX5_lane_0) rfl ?_
  refine z_new (pc := 8) (ci := 5) (N := 41) (fs := fs0X5) (zk4 kX5_lane_0) nwX5_8 rfl (by decide) rfl rfl (fun _ => ?_)
  have hU_1 : Upd h (zup h sz (zO 5 fs0X5)) sz 1 := Upd.one
  have hno : (zup h sz (zO 5 fs0X5)) sz = some (zO 5 fs0X5) := zup_s
  generalize zup h sz (zO 5 fs0X5) = h_2 at hU_1 hno ⊢
  replace hM := MoAt.fr hM hU_1 (by omega)
  replace hU := Up2.tr hU hU_1 (by omega)
  refine z_dup (pc := 11) (zk5 kX5_lane_0) rfl ?_
  refine z_callI (pc := 12) (st := [.ref sz, .ref p]) (zk6 kX5_lane_0) lkX5_223 iiX5_init (c_I5 (p := sz) hno (by omega)) rfl rfl rfl (fun r_ h_3 z_ q_4 => ?_) rfl
  obtain ⟨er_, hO, hU_5, ez_⟩ := q_4
  rw [er_, ez_]
  clear er_ ez_ hno
  replace hM := MoAt.fr hM hU_5 (by omega)
  replace hU := Up2.tr hU hU_5 (by omega)
  refine z_cs (a := 29) (b := 877) rfl rfl ?_
  show Z D B xX5_lane _ _ _ 15 _ [.ref sz, .ref p] _ _
  refine z_Mo_w24 (pc := 15) (zk7 kX5_lane_0) flX5_219 hM (by omega) (fun h_6 hR hU_7 => ?_)
  replace hO := MoAt.fr hO hU_7 (by omega)
  replace hU := Up2.tr hU hU_7 (by omega)
  replace hM := hR; clear hR
  refine z_aload_n (pc := 18) (zk8 kX5_lane_0) rfl ?_
  refine z_getf (pc := 19) (zk9 kX5_lane_0) flX5_219 hM.1 (v := .ref sz) rfl ?_
  refine z_aload_n (pc := 22) (zk10 kX5_lane_0) rfl ?_
  refine z_efV (pc := 23) (zk11 kX5_lane_0) (st := []) lkX5_224 ivX5_takeFrom hO.1 rfl rfl (c_mtake hO hM (by omega) (by omega) hW.2.2.2.2.1) rfl ⟨rfl, rfl⟩ rfl rfl (fun r_ h_9 z_ q_8 => ?_) rfl
  obtain ⟨er_, hR, hU_10, ez_⟩ := q_8
  rw [er_, ez_]
  clear er_ ez_
  replace hM := MoAt.fr hM hU_10 (by omega)
  replace hU := Up2.tr hU hU_10 (by omega)
  replace hO := hR; clear hR
  show Z D B xX5_lane _ _ _ 26 _ [] _ _
  refine z_aload_n (pc := 26) (zk12 kX5_lane_0) rfl ?_
  refine z_efV (pc := 27) (zk13 kX5_lane_0) (st := []) lkX5_228 ivX5_readAll hM.1 rfl rfl (c_readAll hM hN hN2 (by omega) hW) rfl ⟨rfl, rfl⟩ rfl rfl (fun r_ h_12 z_ q_11 => ?_) rfl
  obtain ⟨⟨w_, hq_⟩, hU_13, ez_⟩ := q_11
  rw [ez_]
  clear ez_
  rcases hq_ with ⟨σ1, c, hrd, er_, hR, e14⟩ | ⟨x, γ1, hrd, er_, hR, ef⟩
  · rw [er_]
    clear er_
    replace hO := MoAt.fr hO hU_13 (by omega)
    replace hU := Up2.tr hU hU_13 (by omega)
    replace hM := hR; clear hR
    show Z D B xX5_lane _ _ _ 30 _ [.int 1] _ _
    refine z_istore_n (pc := 30) (zk14 kX5_lane_0) rfl rfl ?_
    show Z D B xX5_lane _ _ _ 31 [some (.ref p), some (.int 1)] _ _ _
    refine z_aload_n (pc := 31) (zk15 kX5_lane_0) rfl ?_
    refine z_iconst (pc := 32) (zk0 kX5_lane_1) (v := 0) (by decide) ?_
    refine z_Mo_w7 (pc := 33) (zk1 kX5_lane_1) flX5_144 hM (by omega) (fun h_14 hR hU_15 => ?_)
    replace hO := MoAt.fr hO hU_15 (by omega)
    replace hU := Up2.tr hU hU_15 (by omega)
    replace hM := hR; clear hR
    refine z_iload_n (pc := 36) (zk2 kX5_lane_1) rfl ?_
    refine z_if_ne (pc := 37) (zk3 kX5_lane_1) (tgt := 63) (by decide) (fun _ => ?_) (fun q => absurd q (by decide))
    refine z_aload_n (pc := 63) (zk1 kX5_lane_2) rfl ?_
    refine z_getf (pc := 64) (zk2 kX5_lane_2) flX5_213 hM.1 (v := .int (nI c)) (by rw [← e14]; rfl) ?_
    exact z_iret (pc := 67) (zk3 kX5_lane_2) rfl (Nat.le_of_ble_eq_true rfl) (Nat.le_of_ble_eq_true rfl) (by
            rw [sp_lane_y hN hN2 hrd]
            exact ⟨⟨_, _, rfl, hM⟩, ⟨_, _, _, _, _, _, _, hO⟩, hU, rfl⟩)
  · rw [er_]
    clear er_
    replace hO := MoAt.fr hO hU_13 (by omega)
    replace hU := Up2.tr hU hU_13 (by omega)
    replace hM := hR; clear hR
    show Z D B xX5_lane _ _ _ 30 _ [.int 0] _ _
    refine z_istore_n (pc := 30) (zk14 kX5_lane_0) rfl rfl ?_
    show Z D B xX5_lane _ _ _ 31 [some (.ref p), some (.int 0)] _ _ _
    refine z_aload_n (pc := 31) (zk15 kX5_lane_0) rfl ?_
    refine z_iconst (pc := 32) (zk0 kX5_lane_1) (v := 0) (by decide) ?_
    refine z_Mo_w7 (pc := 33) (zk1 kX5_lane_1) flX5_144 hM (by omega) (fun h_16 hR hU_17 => ?_)
    replace hO := MoAt.fr hO hU_17 (by omega)
    replace hU := Up2.tr hU hU_17 (by omega)
    replace hM := hR; clear hR
    refine z_iload_n (pc := 36) (zk2 kX5_lane_1) rfl ?_
    refine z_if_ne (pc := 37) (zk3 kX5_lane_1) (tgt := 63) (by decide) (fun q => absurd (by decide) q) (fun _ => ?_)
    refine z_aload_n (pc := 40) (zk4 kX5_lane_1) rfl ?_
    refine z_aload_n (pc := 41) (zk5 kX5_lane_1) rfl ?_
    refine z_getf (pc := 42) (zk6 kX5_lane_1) flX5_219 hM.1 (v := .ref sz) rfl ?_
    refine z_efV (pc := 45) (zk7 kX5_lane_1) (st := []) lkX5_224 ivX5_takeFrom hM.1 rfl rfl (c_mtake hM hO (by omega) (by omega) hW.2.2.2.2.1) rfl ⟨rfl, rfl⟩ rfl rfl (fun r_ h_19 z_ q_18 => ?_) rfl
    obtain ⟨er_, hR, hU_20, ez_⟩ := q_18
    rw [er_, ez_]
    clear er_ ez_
    replace hO := MoAt.fr hO hU_20 (by omega)
    replace hU := Up2.tr hU hU_20 (by omega)
    replace hM := hR; clear hR
    show Z D B xX5_lane _ _ _ 48 _ [] _ _
    refine z_aload_n (pc := 48) (zk8 kX5_lane_1) rfl ?_
    refine z_bipush (pc := 49) (zk9 kX5_lane_1) (v := (-2)) (by decide) ?_
    refine z_efV (pc := 51) (zk10 kX5_lane_1) (st := []) lkX5_94 ivX5_refuse hM.1 rfl rfl (c_refuse hM (by omega) (j := 2) (by decide) (by decide)) rfl ⟨rfl, rfl⟩ rfl rfl (fun r_ h_22 z_ q_21 => ?_) rfl
    obtain ⟨er_, hR, hU_23, ez_⟩ := q_21
    rw [er_, ez_]
    clear er_ ez_
    replace hO := MoAt.fr hO hU_23 (by omega)
    replace hU := Up2.tr hU hU_23 (by omega)
    replace hM := hR; clear hR
    show Z D B xX5_lane _ _ _ 54 _ [.int (-2)] _ _
    refine z_pop (pc := 54) (zk11 kX5_lane_1) rfl ?_
    refine z_bipush (pc := 55) (zk12 kX5_lane_1) (v := (-20)) (by decide) ?_
    refine z_aload_n (pc := 57) (zk13 kX5_lane_1) rfl ?_
    refine z_getf (pc := 58) (zk14 kX5_lane_1) flX5_165 hM.1 (v := .int (nI x)) (by rw [← ef]; rfl) ?_
    refine z_isub (pc := 61) (zk15 kX5_lane_1) ?_
    exact z_iret (pc := 62) (zk0 kX5_lane_2) rfl (Nat.le_of_ble_eq_true rfl) (Nat.le_of_ble_eq_true rfl) (by
            rw [sp_lane_x hN hN2 hrd]
            exact ⟨⟨_, _, rfl, hM⟩, ⟨_, _, _, _, _, _, _, hO⟩, hU, rfl⟩)
set_option maxRecDepth 20000 in
theorem cP_lane1 {D : zD} {B : Nat} {h : zH} {sz : Nat} {p N n m : Nat} {σ τ ω : Ln} {ε : El} {mv : Nat → Int64} {kp : Option Nat} {q : Nat} {κ τ2 ω2 : Ln} {ε2 : El} {mv2 : Nat → Int64} {kp2 tr2 : Option Nat} (hM : MoAt h p σ τ ω ε mv kp (some q)) (hO : MoAt h q κ τ2 ω2 ε2 mv2 kp2 tr2) (hN : τ 6 0 = nI N) (hN2 : N ≤ 250) (hB : B ≤ p) (hBq : B ≤ q) (hd : p + 29 ≤ q ∨ q + 29 ≤ p) (hW : LW σ n m) : zM D B xX5_lane [.ref p] h sz (fun r h1 z1 => (∃ (ω1 : Ln) (mv1 : Nat → Int64), r = some (.int (sp_lane σ τ ε).1) ∧ MoAt h1 p (sp_lane σ τ ε).2.1 (sp_lane σ τ ε).2.2.1 ω1 (sp_lane σ τ ε).2.2.2 mv1 kp (some q)) ∧ (∃ κ1, KpAt h1 q κ1) ∧ Up2 h h1 p 29 q 29 ∧ z1 = sz) := by
  have hU : Up2 h h p 29 q 29 := Up2.rf
  refine zM.of (by decide) rfl (n := 1) ?_
  show Z D B xX5_lane 0 0 _ 0 [some (.ref p), none] [] h sz
  refine z_aload_n (pc := 0) (zk0 kX5_lane_0) rfl ?_
  refine z_getf (pc := 1) (zk1 kX5_lane_0) flX5_219 hM.1 (v := .ref q) rfl ?_
  refine z_ifnonnull (pc := 4) (zk2 kX5_lane_0) (tgt := 18) (by decide) ?_
  refine z_aload_n (pc := 18) (zk8 kX5_lane_0) rfl ?_
  refine z_getf (pc := 19) (zk9 kX5_lane_0) flX5_219 hM.1 (v := .ref q) rfl ?_
  refine z_aload_n (pc := 22) (zk10 kX5_lane_0) rfl ?_
  refine z_efV (pc := 23) (zk11 kX5_lane_0) (st := []) lkX5_224 ivX5_takeFrom hO.1 rfl rfl (c_mtake hO hM (by omega) (by omega) hW.2.2.2.2.1) rfl ⟨rfl, rfl⟩ rfl rfl (fun r_ h_2 z_ q_1 => ?_) rfl
  obtain ⟨er_, hR, hU_3, ez_⟩ := q_1
  rw [er_, ez_]
  clear er_ ez_
  replace hM := MoAt.fr hM hU_3 (by omega)
  replace hU := Up2.tr hU hU_3 (by omega)
  replace hO := hR; clear hR
  show Z D B xX5_lane _ _ _ 26 _ [] _ _
  refine z_aload_n (pc := 26) (zk12 kX5_lane_0) rfl ?_
  refine z_efV (pc := 27) (zk13 kX5_lane_0) (st := []) lkX5_228 ivX5_readAll hM.1 rfl rfl (c_readAll hM hN hN2 (by omega) hW) rfl ⟨rfl, rfl⟩ rfl rfl (fun r_ h_5 z_ q_4 => ?_) rfl
  obtain ⟨⟨w_, hq_⟩, hU_6, ez_⟩ := q_4
  rw [ez_]
  clear ez_
  rcases hq_ with ⟨σ1, c, hrd, er_, hR, e14⟩ | ⟨x, γ1, hrd, er_, hR, ef⟩
  · rw [er_]
    clear er_
    replace hO := MoAt.fr hO hU_6 (by omega)
    replace hU := Up2.tr hU hU_6 (by omega)
    replace hM := hR; clear hR
    show Z D B xX5_lane _ _ _ 30 _ [.int 1] _ _
    refine z_istore_n (pc := 30) (zk14 kX5_lane_0) rfl rfl ?_
    show Z D B xX5_lane _ _ _ 31 [some (.ref p), some (.int 1)] _ _ _
    refine z_aload_n (pc := 31) (zk15 kX5_lane_0) rfl ?_
    refine z_iconst (pc := 32) (zk0 kX5_lane_1) (v := 0) (by decide) ?_
    refine z_Mo_w7 (pc := 33) (zk1 kX5_lane_1) flX5_144 hM (by omega) (fun h_7 hR hU_8 => ?_)
    replace hO := MoAt.fr hO hU_8 (by omega)
    replace hU := Up2.tr hU hU_8 (by omega)
    replace hM := hR; clear hR
    refine z_iload_n (pc := 36) (zk2 kX5_lane_1) rfl ?_
    refine z_if_ne (pc := 37) (zk3 kX5_lane_1) (tgt := 63) (by decide) (fun _ => ?_) (fun q => absurd q (by decide))
    refine z_aload_n (pc := 63) (zk1 kX5_lane_2) rfl ?_
    refine z_getf (pc := 64) (zk2 kX5_lane_2) flX5_213 hM.1 (v := .int (nI c)) (by rw [← e14]; rfl) ?_
    exact z_iret (pc := 67) (zk3 kX5_lane_2) rfl (Nat.zero_le _) (Nat.zero_le _) (by
            rw [sp_lane_y hN hN2 hrd]
            exact ⟨⟨_, _, rfl, hM⟩, ⟨_, _, _, _, _, _, _, hO⟩, hU, rfl⟩)
  · rw [er_]
    clear er_
    replace hO := MoAt.fr hO hU_6 (by omega)
    replace hU := Up2.tr hU hU_6 (by omega)
    replace hM := hR; clear hR
    show Z D B xX5_lane _ _ _ 30 _ [.int 0] _ _
    refine z_istore_n (pc := 30) (zk14 kX5_lane_0) rfl rfl ?_
    show Z D B xX5_lane _ _ _ 31 [some (.ref p), some (.int 0)] _ _ _
    refine z_aload_n (pc := 31) (zk15 kX5_lane_0) rfl ?_
    refine z_iconst (pc := 32) (zk0 kX5_lane_1) (v := 0) (by decide) ?_
    refine z_Mo_w7 (pc := 33) (zk1 kX5_lane_1) flX5_144 hM (by omega) (fun h_9 hR hU_10 => ?_)
    replace hO := MoAt.fr hO hU_10 (by omega)
    replace hU := Up2.tr hU hU_10 (by omega)
    replace hM := hR; clear hR
    refine z_iload_n (pc := 36) (zk2 kX5_lane_1) rfl ?_
    refine z_if_ne (pc := 37) (zk3 kX5_lane_1) (tgt := 63) (by decide) (fun q => absurd (by decide) q) (fun _ => ?_)
    refine z_aload_n (pc := 40) (zk4 kX5_lane_1) rfl ?_
    refine z_aload_n (pc := 41) (zk5 kX5_lane_1) rfl ?_
    refine z_getf (pc := 42) (zk6 kX5_lane_1) flX5_219 hM.1 (v := .ref q) rfl ?_
    refine z_efV (pc := 45) (zk7 kX5_lane_1) (st := []) lkX5_224 ivX5_takeFrom hM.1 rfl rfl (c_mtake hM hO (by omega) (by omega) hW.2.2.2.2.1) rfl ⟨rfl, rfl⟩ rfl rfl (fun r_ h_12 z_ q_11 => ?_) rfl
    obtain ⟨er_, hR, hU_13, ez_⟩ := q_11
    rw [er_, ez_]
    clear er_ ez_
    replace hO := MoAt.fr hO hU_13 (by omega)
    replace hU := Up2.tr hU hU_13 (by omega)
    replace hM := hR; clear hR
    show Z D B xX5_lane _ _ _ 48 _ [] _ _
    refine z_aload_n (pc := 48) (zk8 kX5_lane_1) rfl ?_
    refine z_bipush (pc := 49) (zk9 kX5_lane_1) (v := (-2)) (by decide) ?_
    refine z_efV (pc := 51) (zk10 kX5_lane_1) (st := []) lkX5_94 ivX5_refuse hM.1 rfl rfl (c_refuse hM (by omega) (j := 2) (by decide) (by decide)) rfl ⟨rfl, rfl⟩ rfl rfl (fun r_ h_15 z_ q_14 => ?_) rfl
    obtain ⟨er_, hR, hU_16, ez_⟩ := q_14
    rw [er_, ez_]
    clear er_ ez_
    replace hO := MoAt.fr hO hU_16 (by omega)
    replace hU := Up2.tr hU hU_16 (by omega)
    replace hM := hR; clear hR
    show Z D B xX5_lane _ _ _ 54 _ [.int (-2)] _ _
    refine z_pop (pc := 54) (zk11 kX5_lane_1) rfl ?_
    refine z_bipush (pc := 55) (zk12 kX5_lane_1) (v := (-20)) (by decide) ?_
    refine z_aload_n (pc := 57) (zk13 kX5_lane_1) rfl ?_
    refine z_getf (pc := 58) (zk14 kX5_lane_1) flX5_165 hM.1 (v := .int (nI x)) (by rw [← ef]; rfl) ?_
    refine z_isub (pc := 61) (zk15 kX5_lane_1) ?_
    exact z_iret (pc := 62) (zk0 kX5_lane_2) rfl (Nat.zero_le _) (Nat.zero_le _) (by
            rw [sp_lane_x hN hN2 hrd]
            exact ⟨⟨_, _, rfl, hM⟩, ⟨_, _, _, _, _, _, _, hO⟩, hU, rfl⟩)
