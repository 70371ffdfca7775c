/-! ===== the law: what holds at its loop ===== -/
abbrev sC (D : zD) (j : Nat) : Int32 := D.2.2.2.2.2.2.2.2 j
abbrev QL : zQ := fun r _ _ => r = some (.int 1)
abbrev LSc (D : zD) (B i : Nat) : List (Option Value) := [some (.ref D.2.2.2.2.2.2.1), some (.ref B), some (.ref (B + 51)), some (.int (nI i))]
def OB (h : zH) (B sz : Nat) (ik : Int32) (κ : Ln) (kp tr : Option Nat) : Prop := ((kp = none ∧ ik = 0) ∨ ∃ a, kp = some a ∧ ¬ ik = 0 ∧ B + 80 ≤ a ∧ a + 29 ≤ sz ∧ KpAt h a κ) ∧ (tr = none ∨ ∃ b, tr = some b ∧ B + 80 ≤ b ∧ b + 29 ≤ sz ∧ ∃ κ2, KpAt h b κ2) ∧ ∀ a b, kp = some a → tr = some b → a + 29 ≤ b ∨ b + 29 ≤ a
def ST (h : zH) (B sz : Nat) : Prop := ∃ (ik : Int32) (σ κ τ : Ln) (ε : El) (kp tr : Option Nat), XoAt h B ik (rfo τ) ∧ LnAt h (B + 1) σ ∧ XR h B κ τ ε ∧ (∃ (ω : Ln) (mv : Nat → Int64), MoAt h (B + 51) σ τ ω ε mv kp tr) ∧ OB h B sz ik κ kp tr ∧ PW σ τ ∧ (¬ ik = 0 → ∃ n m, LW κ n m) ∧ B + 80 ≤ sz
theorem LW.to {σ : Ln} {n m : Nat} (h : LW σ n m) : ∀ l, l < m → ToOk σ l := fun l hl => by
  obtain ⟨t, t1, t2⟩ := h.2.2.2.2.2.1 l hl
  exact ⟨t, by have := h.2.1.2; omega, t2⟩
theorem LW.nn {σ : Ln} {n m : Nat} (h : LW σ n m) : ∀ l, l < m → 0 ≤ σ 13 l := fun l hl => by
  obtain ⟨g, _, g2, g3⟩ := h.2.2.2.2.2.2.1 l hl
  rw [g3]; exact nI_pos' (by omega)
theorem OB.fr {h h1 : zH} {B sz lo n : Nat} {ik : Int32} {κ : Ln} {kp tr : Option Nat} (H : OB h B sz ik κ kp tr) (hU : Upd h h1 lo n) (hd : lo + n ≤ B + 80) : OB h1 B sz ik κ kp tr := by
  obtain ⟨h1, h2, h3⟩ := H
  refine ⟨?_, ?_, h3⟩
  · rcases h1 with q | ⟨a, a1, a2, a3, a4, a5⟩
    · exact Or.inl q
    · exact Or.inr ⟨a, a1, a2, a3, a4, a5.fr hU (Or.inl (by omega))⟩
  · rcases h2 with q | ⟨b, b1, b2, b3, κ2, b4⟩
    · exact Or.inl q
    · exact Or.inr ⟨b, b1, b2, b3, κ2, b4.fr hU (Or.inl (by omega))⟩
/-- a new lane is kept -/
theorem OB.kp0 {h h1 g h2 : zH} {B sz : Nat} {ik : Int32} {κ σ : Ln} {tr : Option Nat} (H : OB h B sz ik κ none tr) (u1 : Upd h h1 B 51) (v1 : Upd h1 g (B + 51) 29) (v2 : Upd g h2 sz 29) (hk : KpAt h2 sz σ) (hZ : B + 80 ≤ sz) : OB h2 B (sz + 29) 1 σ (some sz) tr := by
  obtain ⟨_, h2, _⟩ := H
  refine ⟨Or.inr ⟨sz, rfl, by decide, hZ, Nat.le_refl _, hk⟩, ?_, fun a b ha hb => ?_⟩
  · rcases h2 with q | ⟨b, b1, b2, b3, κ2, b4⟩
    · exact Or.inl q
    · exact Or.inr ⟨b, b1, b2, by omega, κ2, ((b4.fr u1 (Or.inl (by omega))).fr v1 (Or.inl (by omega))).fr v2 (Or.inr (by omega))⟩
  · cases ha
    rcases h2 with q | ⟨b1, b2, _, b3, _⟩
    · rw [q] at hb; cases hb
    · rw [b2] at hb; cases hb; exact Or.inr b3
theorem OB.kp1 {h h1 g h2 : zH} {B sz a : Nat} {ik : Int32} {κ σ : Ln} {tr : Option Nat} (H : OB h B sz ik κ (some a) tr) (u1 : Upd h h1 B 51) (v1 : Upd h1 g (B + 51) 29) (v2 : Upd g h2 a 29) (hk : KpAt h2 a σ) (ha1 : B + 80 ≤ a) (ha2 : a + 29 ≤ sz) : OB h2 B sz 1 σ (some a) tr := by
  obtain ⟨_, h2, h3⟩ := H
  refine ⟨Or.inr ⟨a, rfl, by decide, ha1, ha2, hk⟩, ?_, h3⟩
  rcases h2 with q | ⟨b, b1, b2, b3, κ2, b4⟩
  · exact Or.inl q
  · exact Or.inr ⟨b, b1, b2, b3, κ2, ((b4.fr u1 (Or.inl (by omega))).fr v1 (Or.inl (by omega))).fr v2 (h3 a b rfl b1)⟩
/-- a new lane to read into -/
theorem OB.tr0 {h h1 g h2 : zH} {B sz : Nat} {ik : Int32} {κ : Ln} {kp : Option Nat} (H : OB h B sz ik κ kp none) (u1 : Upd h h1 B 51) (v1 : Upd h1 g (B + 51) 29) (v2 : Upd g h2 sz 29) (hk : ∃ κ2, KpAt h2 sz κ2) (hZ : B + 80 ≤ sz) : OB h2 B (sz + 29) ik κ kp (some sz) := by
  obtain ⟨h3, _, _⟩ := H
  refine ⟨?_, Or.inr ⟨sz, rfl, hZ, Nat.le_refl _, hk⟩, fun a b ha hb => ?_⟩
  · rcases h3 with q | ⟨a, a1, a2, a3, a4, a5⟩
    · exact Or.inl q
    · exact Or.inr ⟨a, a1, a2, a3, by omega, ((a5.fr u1 (Or.inl (by omega))).fr v1 (Or.inl (by omega))).fr v2 (Or.inr (by omega))⟩
  · cases hb
    rcases h3 with ⟨q, _⟩ | ⟨a1, a2, _, _, a3, _⟩
    · rw [q] at ha; cases ha
    · rw [a2] at ha; cases ha; exact Or.inl a3
theorem OB.tr1 {h h1 g h2 : zH} {B sz b : Nat} {ik : Int32} {κ : Ln} {kp : Option Nat} (H : OB h B sz ik κ kp (some b)) (u1 : Upd h h1 B 51) (v1 : Upd h1 g (B + 51) 29) (v2 : Upd g h2 b 29) (hk : ∃ κ2, KpAt h2 b κ2) (hb1 : B + 80 ≤ b) (hb2 : b + 29 ≤ sz) : OB h2 B sz ik κ kp (some b) := by
  obtain ⟨h3, _, h4⟩ := H
  refine ⟨?_, Or.inr ⟨b, rfl, hb1, hb2, hk⟩, h4⟩
  rcases h3 with q | ⟨a, a1, a2, a3, a4, a5⟩
  · exact Or.inl q
  · exact Or.inr ⟨a, a1, a2, a3, a4, ((a5.fr u1 (Or.inl (by omega))).fr v1 (Or.inl (by omega))).fr v2 ((h4 a b a1 rfl).symm)⟩
theorem ST.mk1 {h h1 h2 : zH} {B sz : Nat} {ik : Int32} {κ ω1 : Ln} {mv1 : Nat → Int64} {kp tr : Option Nat} {q : Int32 × S3} (hO : OB h B sz ik κ kp tr) (x1 : XoAt h1 B ik (rfo q.2.2.1)) (x2 : LnAt h1 (B + 1) q.2.1) (x3 : XR h1 B κ q.2.2.1 q.2.2.2) (u1 : Upd h h1 B 51) (m1 : MoAt h2 (B + 51) q.2.1 q.2.2.1 ω1 q.2.2.2 mv1 kp tr) (u2 : Upd h1 h2 (B + 51) 29) (hq : PQ q) (hκ : ¬ ik = 0 → ∃ n m, LW κ n m) (hZ : B + 80 ≤ sz) : ST h2 B sz :=
  ⟨ik, q.2.1, κ, q.2.2.1, q.2.2.2, kp, tr, x1.fr u2 ⟨Or.inr (by omega), Or.inr (by omega), Or.inr (by omega)⟩, x2.fr u2 (Or.inr (by omega)), x3.fr u2 (Or.inr (by omega)), ⟨ω1, mv1, m1⟩, (hO.fr u1 (by omega)).fr u2 (by omega), hq, hκ, hZ⟩
theorem ST.mk2 {h1 g h2 : zH} {B sz c : Nat} {ik : Int32} {κ ω1 : Ln} {mv1 : Nat → Int64} {kp tr : Option Nat} {q : Int32 × S3} (x1 : XoAt h1 B ik (rfo q.2.2.1)) (x2 : LnAt h1 (B + 1) q.2.1) (x3 : XR h1 B κ q.2.2.1 q.2.2.2) (m1 : MoAt h2 (B + 51) q.2.1 q.2.2.1 ω1 q.2.2.2 mv1 kp tr) (v1 : Upd h1 g (B + 51) 29) (v2 : Upd g h2 c 29) (hc : B + 80 ≤ c) (hO : OB h2 B sz ik κ kp tr) (hq : PQ q) (hκ : ¬ ik = 0 → ∃ n m, LW κ n m) (hZ : B + 80 ≤ sz) : ST h2 B sz :=
  ⟨ik, q.2.1, κ, q.2.2.1, q.2.2.2, kp, tr, (x1.fr v1 ⟨Or.inr (by omega), Or.inr (by omega), Or.inr (by omega)⟩).fr v2 ⟨Or.inr (by omega), Or.inr (by omega), Or.inr (by omega)⟩, (x2.fr v1 (Or.inr (by omega))).fr v2 (Or.inr (by omega)), (x3.fr v1 (Or.inr (by omega))).fr v2 (Or.inr (by omega)), ⟨ω1, mv1, m1⟩, hO, hq, hκ, hZ⟩
/-! ===== the law's rows ===== -/
theorem zF_ok {Y : zX} {cs ss : Nat} (h : zFits xL_law Y 500000 7000000 = true) (h1 : cs ≤ 500000) (h2 : ss ≤ 7000000) : zFits xL_law Y cs ss = true := by
  obtain ⟨⟨a1, a2⟩, a3, a4⟩ := zFits_ok h
  unfold zFits
  rw [Bool.and_eq_true, Bool.and_eq_true, Bool.and_eq_true]
  exact ⟨Nat.ble_eq_true_of_le a1, Nat.ble_eq_true_of_le a2, Nat.ble_eq_true_of_le (Nat.le_trans (Nat.add_le_add_right h1 _) a3), Nat.ble_eq_true_of_le (Nat.le_trans (Nat.add_le_add_right h2 _) a4)⟩
section ZLAW
variable {D : zD} {B : Nat} {cs ss : Nat} {Q : zQ} {pc i : Nat} {st : List Value} {h : zH} {sz : Nat}
/-- the script's int at i + k -/
theorem z_arg {k : Nat} {kI : Int} (d0 : zdec xL_law pc = .ok (.aload_n 0, 1)) (d1 : zdec xL_law (pc + 1) = .ok (.iload_n 3, 1)) (d2 : zdec xL_law (pc + 2) = .ok (.iconst kI, 1)) (d3 : zdec xL_law (pc + 3) = .ok (.iadd, 1)) (d4 : zdec xL_law (pc + 4) = .ok (.iaload, 1)) (hk : Int32.ofInt kI = nI k) (h6 : k < 6) (hi : i + 6 ≤ D.2.2.2.2.2.2.2.1) (hl : D.2.2.2.2.2.2.2.1 ≤ 3072) (kk : Z D B xL_law cs ss Q (pc + 5) (LSc D B i) (.int (sC D (i + k)) :: st) h sz) : Z D B xL_law cs ss Q pc (LSc D B i) st h sz := by
  refine z_aload_n (pc := pc) d0 rfl ?_
  refine z_iload_n (pc := pc + 1) d1 rfl ?_
  refine z_iconst (pc := pc + 2) d2 hk ?_
  refine z_iadd (pc := pc + 3) d3 ?_
  rw [nI_add]
  refine z_sld (pc := pc + 4) d4 (vp_in_nI (by omega) (by omega)) ?_
  rw [nI_clamp (by omega)]
  exact kk
theorem z_arb {x : Int32} {L : List (Option Value)} {o1 o2 : Int} (d0 : zdec xL_law pc = .ok (.ifCond .eq o1, 3)) (t0 : (pc : Int) + o1 = ((pc + 7 : Nat) : Int)) (d1 : zdec xL_law (pc + 3) = .ok (.iconst 1, 1)) (d2 : zdec xL_law (pc + 4) = .ok (.goto o2, 3)) (t2 : ((pc + 4 : Nat) : Int) + o2 = ((pc + 8 : Nat) : Int)) (d3 : zdec xL_law (pc + 7) = .ok (.iconst 0, 1)) (kk : Z D B xL_law cs ss Q (pc + 8) L (.int (oI (!decide (x = 0))) :: st) h sz) : Z D B xL_law cs ss Q pc L (.int x :: st) h sz := by
  refine z_if_eq (pc := pc) (tgt := pc + 7) d0 t0 (fun c => ?_) (fun c => ?_)
  · refine z_iconst (pc := pc + 7) (v := 0) d3 (by decide) ?_
    rw [decide_eq_true c] at kk
    exact kk
  · refine z_iconst (pc := pc + 3) (v := 1) d1 (by decide) ?_
    refine z_goto (pc := pc + 4) (tgt := pc + 8) d2 t2 ?_
    rw [decide_eq_false c] at kk
    exact kk
end ZLAW
