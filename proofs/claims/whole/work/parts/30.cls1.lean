/-! ===== the class ===== -/
def rfo (τ : Ln) : Nat → Int32 := fun k => τ 7 (k + 2)
/-- the rest of the class: kept lane, guess, shelves, tape -/
def XR (h : zH) (p : Nat) (κ τ : Ln) (ε : El) : Prop := LnAt h (p + 10) κ ∧ (∃ mk tl γ, GuAt h (p + 19) mk tl ∧ LnAt h (p + 20) γ) ∧ (∀ s, s < 8 → ShAt h (p + 32 + 2 * s) (heldF τ s) (sizeF τ s) (ε s)) ∧ ∃ ω, TaAt h (p + 48) τ ω
theorem XR.fr {h h1 : zH} {p lo n : Nat} {κ τ : Ln} {ε : El} (H : XR h p κ τ ε) (hU : Upd h h1 lo n) (hd : lo + n ≤ p + 10 ∨ p + 50 ≤ lo) : XR h1 p κ τ ε := by
  obtain ⟨a, ⟨mk, tl, γ, b, c⟩, d, ω, e⟩ := H
  refine ⟨a.fr hU (by omega), ⟨mk, tl, γ, ⟨(hU _ (by omega)).trans b.1, (hU _ (by omega)).trans b.2.1, (hU _ (by omega)).trans b.2.2⟩, c.fr hU (by omega)⟩, fun s hs => (d s hs).fr hU (by omega), ω, ⟨(hU _ (by omega)).trans e.1, (hU _ (by omega)).trans e.2⟩⟩
theorem XR.rf {h : zH} {p j : Nat} {κ τ : Ln} {ε : El} (H : XR h p κ τ ε) : XR h p κ (rfN τ j) ε := H
theorem rfo_s (τ : Ln) (i : Nat) : upd (rfo τ) i (rfo τ i + 1) = rfo (rfN τ (i + 2)) := by
  funext k
  by_cases e : k = i
  · subst e; simp [upd, rfo, rfN, up2]
  · simp [upd, rfo, rfN, up2, e]
set_option maxRecDepth 20000 in
theorem c_outside {D : zD} {B : Nat} {h : zH} {sz : Nat} {x a b : Int32}  : zRd D B xX4_outside [.int x, .int a, .int b] h sz (.int (oI (!okR a b x))) := by
  refine zM.of (by decide) rfl (n := 0) ?_
  show Z D B xX4_outside 0 0 _ 0 [some (.int x), some (.int a), some (.int b)] [] h sz
  refine z_iload_n (pc := 0) (zk0 kX4_outside_0) rfl ?_
  refine z_iload_n (pc := 1) (zk1 kX4_outside_0) rfl ?_
  refine z_icmp_lt (pc := 2) (zk2 kX4_outside_0) (tgt := 10) (by decide) (fun c_1 => ?_) (fun c_1 => ?_)
  · refine z_iconst (pc := 10) (zk6 kX4_outside_0) (v := 1) (by decide) ?_
    refine z_goto (pc := 11) (zk7 kX4_outside_0) (tgt := 15) (by decide) ?_
    exact z_zret (pc := 15) (zk9 kX4_outside_0) rfl (Nat.zero_le _) (Nat.zero_le _) (by decide) ⟨by simp [okR, oI, c_1, Int32.not_le.mpr c_1], rfl, rfl⟩
  · refine z_iload_n (pc := 5) (zk3 kX4_outside_0) rfl ?_
    refine z_iload_n (pc := 6) (zk4 kX4_outside_0) rfl ?_
    refine z_icmp_le (pc := 7) (zk5 kX4_outside_0) (tgt := 14) (by decide) (fun c_2 => ?_) (fun c_2 => ?_)
    · refine z_iconst (pc := 14) (zk8 kX4_outside_0) (v := 0) (by decide) ?_
      exact z_zret (pc := 15) (zk9 kX4_outside_0) rfl (Nat.zero_le _) (Nat.zero_le _) (by decide) ⟨by simp [okR, oI, c_1, Int32.not_lt.mp c_1, c_2, Int32.not_lt.mpr c_2], rfl, rfl⟩
    · refine z_iconst (pc := 10) (zk6 kX4_outside_0) (v := 1) (by decide) ?_
      refine z_goto (pc := 11) (zk7 kX4_outside_0) (tgt := 15) (by decide) ?_
      exact z_zret (pc := 15) (zk9 kX4_outside_0) rfl (Nat.zero_le _) (Nat.zero_le _) (by decide) ⟨by simp [okR, oI, c_1, Int32.not_lt.mp c_1, c_2, Int32.not_le.mp c_2], rfl, rfl⟩
set_option maxRecDepth 20000 in
theorem c_xrefuse {D : zD} {B : Nat} {h : zH} {sz : Nat} {p i : Nat} {τ : Ln} {ik w : Int32} (hX : XoAt h p ik (rfo τ)) (hB : B ≤ p) (hw : -2 - w = nI i) (hi : i < 5) (ho : (!okR (-6) (-2) w) = false) : zM D B xX4_refuse [.ref p, .int w] h sz (fun r h1 z1 => r = some (.int w) ∧ XoAt h1 p ik (rfo (rfN τ (i + 2))) ∧ Upd h h1 (p + 50) 1 ∧ z1 = sz) := by
  have hU : Upd h h p 51 := Upd.rf
  refine zM.of (by decide) rfl (n := 0) ?_
  show Z D B xX4_refuse 0 0 _ 0 [some (.ref p), some (.int w)] [] h sz
  refine z_iload_n (pc := 0) (zk0 kX4_refuse_0) rfl ?_
  refine z_bipush (pc := 1) (zk1 kX4_refuse_0) (v := (-6)) (by decide) ?_
  refine z_bipush (pc := 3) (zk2 kX4_refuse_0) (v := (-2)) (by decide) ?_
  refine z_rdS (pc := 5) (zk3 kX4_refuse_0) (st := []) lkX4_52 isX4_outside (c_outside) rfl ⟨rfl, rfl⟩ rfl rfl ?_ rfl
  refine z_oif_ne (pc := 8) (zk4 kX4_refuse_0) (tgt := 24) (by decide) (fun q => by rw [ho] at q; cases q) (fun _ => ?_)
  refine z_aload_n (pc := 11) (zk5 kX4_refuse_0) rfl ?_
  refine z_getf (pc := 12) (zk6 kX4_refuse_0) flX4_40 hX.1 gXo_5 ?_
  refine z_bipush (pc := 15) (zk7 kX4_refuse_0) (v := (-2)) (by decide) ?_
  refine z_iload_n (pc := 17) (zk8 kX4_refuse_0) rfl ?_
  refine z_isub (pc := 18) (zk9 kX4_refuse_0) ?_
  refine z_top (congrArg Value.int hw) ?_
  refine z_dup2 (pc := 19) (zk10 kX4_refuse_0) rfl rfl ?_
  refine z_ialdN (pc := 20) (zk11 kX4_refuse_0) (f := (rfo τ)) (j := i) hX.2.2 (show i < 5 by omega) rfl ?_
  refine z_iconst (pc := 21) (zk12 kX4_refuse_0) (v := 1) (by decide) ?_
  refine z_iadd (pc := 22) (zk13 kX4_refuse_0) ?_
  refine z_Xo_s50 (pc := 23) (zk14 kX4_refuse_0) (j := i) hX (by omega) (show i < 5 by omega) (fun h_1 hR hU_2 => ?_)
  replace hU := hU.tr hU_2 (by omega) (by omega)
  have hU2 := hU_2
  replace hX := hR; clear hR
  refine z_iload_n (pc := 24) (zk15 kX4_refuse_0) rfl ?_
  exact z_iret (pc := 25) (zk0 kX4_refuse_1) rfl (Nat.zero_le _) (Nat.zero_le _) ⟨rfl, by rw [← rfo_s]; exact hX, hU2, rfl⟩
