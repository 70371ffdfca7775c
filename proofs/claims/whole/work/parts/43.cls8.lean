section XSH
variable {D : zD} {B : Nat} {h : zH} {sz ps m s : Nat} {τ : Ln} {el : Nat → Int64} {sn : Int32}
theorem c_xLetter (hSh : ShAt h ps (heldF τ s) sn el) (hS : SW τ m) (h8 : m ≤ 8) (hs : s < 8) : zRd D B xX2_holdsLetter [.ref ps] h sz (.int (oI (decide (τ 1 s = 2)))) := by
  rw [← decide_eq_decide.mpr (held_2 hS h8 hs)]; exact c_holdsLetter hSh
theorem c_xNothing (hSh : ShAt h ps (heldF τ s) sn el) (hS : SW τ m) (h8 : m ≤ 8) (hs : s < 8) : zRd D B xX2_holdsNothing [.ref ps] h sz (.int (oI (decide (τ 1 s = 0)))) := by
  rw [← decide_eq_decide.mpr (held_0 hS h8 hs)]; exact c_holdsNothing hSh
theorem c_xFault {n : Int32} (hSh : ShAt h ps (heldF τ s) (sizeF τ s) el) (hS : SW τ m) (h8 : m ≤ 8) (hs : s < 8) : zRd D B xX2_rowFault [.ref ps, .int n] h sz (.int (if τ 1 s = 2 then -3 else if τ 1 s = 0 then -4 else if τ 3 s < n then -2 else 0)) := by
  rw [← flt_row hS h8 hs]; exact c_rowFault hSh
theorem c_xShown (hSh : ShAt h ps (heldF τ s) sn el) (hS : SW τ m) (h8 : m ≤ 8) (hs : s < 8) : zRd D B xX2_shownLetter [.ref ps] h sz (.int (if τ 1 s = 2 then τ 4 s else -1)) := by
  have e : (if 10 ≤ heldF τ s then heldF τ s - 10 else -1) = (if τ 1 s = 2 then τ 4 s else -1) := by
    by_cases c : τ 1 s = 2
    · rw [if_pos c, if_pos ((held_2 hS h8 hs).mpr c), held_s c, Int32.add_comm, Int32.add_sub_cancel]
    · rw [if_neg c, if_neg (fun q => c ((held_2 hS h8 hs).mp q))]
  rw [← e]; exact c_shownLetter hSh
end XSH
theorem okL_k {σ : Ln} {m l : Nat} (hm : σ 9 0 = nI m) (h8 : m ≤ 8) (hl : l < m) : (!okR 0 (σ 9 0 - 1) (nI l)) = false := by
  rw [hm, okR_k (by omega) hl]; rfl
theorem okL_m1 {σ : Ln} : (!okR 0 (σ 9 0 - 1) (-1)) = true := by
  unfold okR
  rw [decide_eq_false (show ¬ (0 : Int32) ≤ -1 by decide)]; rfl
theorem okR_ge {x y : Int32} : (decide (0 ≤ x) && decide (x < y)) = okR 0 (y - 1) x ∨ y = Int32.minValue := by
  by_cases h : y = Int32.minValue
  · exact Or.inr h
  · refine Or.inl ?_
    unfold okR
    refine congrArg (decide (0 ≤ x) && ·) (decide_eq_decide.mpr ?_)
    rw [Int32.lt_iff_toInt_lt, Int32.le_iff_toInt_le, Int32.toInt_sub]
    have h1 := Int32.le_toInt y
    have h2 := Int32.toInt_lt y
    have h3 : y.toInt ≠ -2147483648 := fun q => h (Int32.toInt_inj.mp q)
    have e : ((1 : Int32).toInt : Int) = 1 := rfl
    rw [e, Int.bmod_eq_of_le (by omega) (by omega)]
    omega
theorem okR_nl {x : Int32} {r : Nat} (hr : r ≤ 40) : (decide (0 ≤ x) && decide (x < nI r)) = okR 0 (nI r - 1) x := by
  rcases okR_ge (x := x) (y := nI r) with h | h
  · exact h
  · have := nI_toInt (n := r) (by omega)
    rw [h] at this
    have e : Int32.minValue.toInt = -2147483648 := by decide
    omega
theorem fit_kpt {τ : Ln} {m s : Nat} (hS : SW τ m) (hs : s < 8) (h2 : ¬ τ 1 s = 2) (h0 : ¬ τ 1 s = 0) (v : Int64) : kptF (heldF τ s) v = fitF (τ 2 s) v := by
  obtain ⟨h1, ⟨k, hk, e⟩, _⟩ := SW_row hS hs h2 h0
  rw [(held_1 h1).1, e]
  rcases (show k = 0 ∨ k = 1 ∨ k = 2 ∨ k = 3 ∨ k = 4 by omega) with rfl | rfl | rfl | rfl | rfl <;> rfl
theorem heldF_o {τ : Ln} {r s f : Nat} {v : Int32} (h : r ≠ s) : heldF (up2 τ f s v) r = heldF τ r ∧ sizeF (up2 τ f s v) r = sizeF τ r := by
  have e : ∀ g, up2 τ f s v g r = τ g r := by
    intro g
    by_cases c : g = f
    · subst c; simp [up2, upd, h]
    · simp [up2, c]
  exact ⟨by simp only [heldF, e], by simp only [sizeF, e]⟩
theorem row_sh {τ : Ln} {ε : El} {s : Nat} {y z : Int32} : (y = heldF (up2 (up2 (up2 τ 1 s 1) 2 s y) 3 s z) s ∧ z = sizeF (up2 (up2 (up2 τ 1 s 1) 2 s y) 3 s z) s ∧ zrR (ε s) 40 = zrE ε s 40 s) ∧ ∀ r, r < 8 → r ≠ s → heldF (up2 (up2 (up2 τ 1 s 1) 2 s y) 3 s z) r = heldF τ r ∧ sizeF (up2 (up2 (up2 τ 1 s 1) 2 s y) 3 s z) r = sizeF τ r ∧ zrE ε s 40 r = ε r := by
  refine ⟨⟨by simp [heldF, up2, upd], by simp [sizeF, up2, upd], by funext j; simp [zrR, zrE]⟩, fun r _ hr => ?_⟩
  obtain ⟨a1, a2⟩ := heldF_o (τ := up2 (up2 τ 1 s 1) 2 s y) (f := 3) (v := z) hr
  obtain ⟨b1, b2⟩ := heldF_o (τ := up2 τ 1 s 1) (f := 2) (v := y) hr
  obtain ⟨c1, c2⟩ := heldF_o (τ := τ) (f := 1) (v := 1) hr
  exact ⟨a1.trans (b1.trans c1), a2.trans (b2.trans c2), by simp [zrE, hr]⟩
theorem show_sh {τ : Ln} {s : Nat} {k x : Int32} (hk : k = 0 ∧ x = -1 ∨ k = 2) : ((if k = 0 then -1 else 10 + x) = heldF (up2 (up2 τ 1 s k) 4 s x) s ∧ 0 = sizeF (up2 (up2 τ 1 s k) 4 s x) s) ∧ ∀ r, r < 8 → r ≠ s → heldF (up2 (up2 τ 1 s k) 4 s x) r = heldF τ r ∧ sizeF (up2 (up2 τ 1 s k) 4 s x) r = sizeF τ r := by
  refine ⟨?_, fun r _ hr => ?_⟩
  · rcases hk with ⟨rfl, rfl⟩ | rfl
    · simp [heldF, sizeF, up2, upd]
    · simp [heldF, sizeF, up2, upd]
  · obtain ⟨a1, a2⟩ := heldF_o (τ := up2 τ 1 s k) (f := 4) (v := x) hr
    obtain ⟨c1, c2⟩ := heldF_o (τ := τ) (f := 1) (v := k) hr
    exact ⟨a1.trans c1, a2.trans c2⟩
set_option maxRecDepth 20000 in
theorem cX_holds {D : zD} {B : Nat} {h : zH} {sz : Nat} {p : Nat} {σ κ τ : Ln} {ε : El} {ik : Int32} {x : Int32} {n m : Nat} (hX : XoAt h p ik (rfo τ)) (hL : LnAt h (p + 1) σ) (hK : XR h p κ τ ε) (hB : B ≤ p) (hn : σ 0 0 = nI n) (h12 : n ≤ 12) (hm : σ 9 0 = nI m) (h8 : m ≤ 8) (hbk : σ 6 0 = 0 ∨ σ 6 0 = 1) (htn : ∀ l, l < m → ∃ t, t < n ∧ σ 12 l = nI t) (hlen : ∀ l, l < m → ∃ g, 1 ≤ g ∧ g ≤ 40 ∧ σ 13 l = nI g) (h2 : 2 ≤ n) (hS : SW τ m) : zM D B xX4_holds [.ref p, .int x] h sz (xQ h p sz ik κ (sp_holds σ τ ε x)) := by
  have hU : Upd h h p 51 := Upd.rf
  refine zM.of (by decide) rfl (n := 0) ?_
  show Z D B xX4_holds 0 0 _ 0 [some (.ref p), some (.int x)] [] h sz
  refine z_aload_n (pc := 0) (zk0 kX4_holds_0) rfl ?_
  refine z_iload_n (pc := 1) (zk1 kX4_holds_0) rfl ?_
  refine z_rdV (pc := 2) (zk2 kX4_holds_0) (st := []) lkX4_48 ivX4_noShelf hX.1 rfl rfl (c_noShelf hX hL) rfl ⟨rfl, rfl⟩ rfl rfl ?_ rfl
  refine z_oif_eq (pc := 5) (zk3 kX4_holds_0) (tgt := 12) (by decide) (fun c_1 => ?_) (fun c_1 => ?_)
  · have c_2 : okR 0 7 x = true := by simpa using c_1
    refine z_aload_n (pc := 12) (zk6 kX4_holds_0) rfl ?_
    refine z_getf (pc := 13) (zk7 kX4_holds_0) flX4_28 hX.1 gXo_3 ?_
    refine z_iload_n (pc := 16) (zk8 kX4_holds_0) rfl ?_
    obtain ⟨kx, hkx, rfl⟩ := okR_c (c := 7) (by decide) c_2
    refine z_aald3N (pc := 17) (zk9 kX4_holds_0) (j := kx) (b := p + 32 + 2 * kx) hX.2.1 (show kx < 8 by omega) rfl (if_pos (show kx < 8 by omega)) ?_
    refine z_getf (pc := 18) (zk10 kX4_holds_0) flX4_81 (hK.2.2.1 kx (show kx < 8 by omega)).1 (v := .int (heldF τ kx)) rfl ?_
    exact z_iret (pc := 21) (zk11 kX4_holds_0) rfl (Nat.zero_le _) (Nat.zero_le _) (by
            rw [show sp_holds σ τ ε (nI kx) = ((heldF τ kx), σ, τ, ε) from by simp [sp_holds, sBad, okS, okH, okL, okT, okB, sRd, up2_id, up2_id2, oI, sOther, sNone, sFull, c_1, c_2, ix_nI (show kx ≤ 1000 by omega)]]
            exact ⟨rfl, hX, hL, hK, hU, rfl⟩)
  · have c_3 : okR 0 7 x = false := by simpa using c_1
    refine z_iconst (pc := 8) (zk4 kX4_holds_0) (v := (-1)) (by decide) ?_
    refine z_goto (pc := 9) (zk5 kX4_holds_0) (tgt := 21) (by decide) ?_
    exact z_iret (pc := 21) (zk11 kX4_holds_0) rfl (Nat.zero_le _) (Nat.zero_le _) (by
            rw [show sp_holds σ τ ε x = ((-1), σ, τ, ε) from by simp [sp_holds, sBad, okS, okH, okL, okT, okB, sRd, up2_id, up2_id2, oI, sOther, sNone, sFull, c_1, c_3]]
            exact ⟨rfl, hX, hL, hK, hU, rfl⟩)
set_option maxRecDepth 20000 in
theorem cX_show {D : zD} {B : Nat} {h : zH} {sz : Nat} {p : Nat} {σ κ τ : Ln} {ε : El} {ik : Int32} {x : Int32} {y : Int32} {n m : Nat} (hX : XoAt h p ik (rfo τ)) (hL : LnAt h (p + 1) σ) (hK : XR h p κ τ ε) (hB : B ≤ p) (hn : σ 0 0 = nI n) (h12 : n ≤ 12) (hm : σ 9 0 = nI m) (h8 : m ≤ 8) (hbk : σ 6 0 = 0 ∨ σ 6 0 = 1) (htn : ∀ l, l < m → ∃ t, t < n ∧ σ 12 l = nI t) (hlen : ∀ l, l < m → ∃ g, 1 ≤ g ∧ g ≤ 40 ∧ σ 13 l = nI g) (h2 : 2 ≤ n) (hS : SW τ m) : zM D B xX4_show [.ref p, .int x, .int y] h sz (xQ h p sz ik κ (sp_show σ τ ε x y)) := by
  have hU : Upd h h p 51 := Upd.rf
  refine zM.of (by decide) rfl (n := 0) ?_
  show Z D B xX4_show 0 0 _ 0 [some (.ref p), some (.int x), some (.int y)] [] h sz
  refine z_aload_n (pc := 0) (zk0 kX4_show_0) rfl ?_
  refine z_iload_n (pc := 1) (zk1 kX4_show_0) rfl ?_
  refine z_rdV (pc := 2) (zk2 kX4_show_0) (st := []) lkX4_48 ivX4_noShelf hX.1 rfl rfl (c_noShelf hX hL) rfl ⟨rfl, rfl⟩ rfl rfl ?_ rfl
  refine z_oif_ne (pc := 5) (zk3 kX4_show_0) (tgt := 21) (by decide) (fun c_1 => ?_) (fun c_1 => ?_)
  · have c_2 : okR 0 7 x = false := by simpa using c_1
    refine z_aload_n (pc := 21) (zk11 kX4_show_0) rfl ?_
    refine z_bipush (pc := 22) (zk12 kX4_show_0) (v := (-2)) (by decide) ?_
    refine z_efV (pc := 24) (zk13 kX4_show_0) (st := []) lkX4_56 ivX4_refuse hX.1 rfl rfl (c_xrefuse (i := 0) hX hB (by decide) (by decide) (by decide)) rfl ⟨rfl, rfl⟩ rfl rfl (fun r_ h_4 z_ q_3 => ?_) rfl
    obtain ⟨er_, hR, hU_5, ez_⟩ := q_3
    rw [er_, ez_]
    clear er_ ez_
    replace hL := LnAt.fr hL hU_5 (by omega)
    replace hU := hU.tr hU_5 (by omega) (by omega)
    replace hK := XR.fr hK hU_5 (by omega)
    replace hX := hR; clear hR
    show Z D B xX4_show _ _ _ 27 _ [.int (-2)] _ _
    exact z_iret (pc := 27) (zk14 kX4_show_0) rfl (Nat.zero_le _) (Nat.zero_le _) (by
            rw [show sp_show σ τ ε x y = ((-2), σ, (rfN τ 2), ε) from by simp [sp_show, sBad, okS, okH, okL, okT, okB, sRd, up2_id, up2_id2, oI, sOther, sNone, sFull, c_1, c_2]]
            exact ⟨rfl, hX, hL, hK, hU, rfl⟩)
  · have c_6 : okR 0 7 x = true := by simpa using c_1
    refine z_iload_n (pc := 8) (zk4 kX4_show_0) rfl ?_
    refine z_iconst (pc := 9) (zk5 kX4_show_0) (v := (-1)) (by decide) ?_
    refine z_icmp_eq (pc := 10) (zk6 kX4_show_0) (tgt := 28) (by decide) (fun c_7 => ?_) (fun c_7 => ?_)
    · refine z_iload_n (pc := 28) (zk15 kX4_show_0) rfl ?_
      refine z_iconst (pc := 29) (zk0 kX4_show_1) (v := (-1)) (by decide) ?_
      refine z_icmp_ne (pc := 30) (zk1 kX4_show_1) (tgt := 45) (by decide) (fun q => absurd c_7 q) (fun _ => ?_)
      refine z_aload_n (pc := 33) (zk2 kX4_show_1) rfl ?_
      refine z_getf (pc := 34) (zk3 kX4_show_1) flX4_28 hX.1 gXo_3 ?_
      refine z_iload_n (pc := 37) (zk4 kX4_show_1) rfl ?_
      obtain ⟨kx, hkx, rfl⟩ := okR_c (c := 7) (by decide) c_6
      refine z_aald3N (pc := 38) (zk5 kX4_show_1) (j := kx) (b := p + 32 + 2 * kx) hX.2.1 (show kx < 8 by omega) rfl (if_pos (show kx < 8 by omega)) ?_
      refine z_efV (pc := 39) (zk6 kX4_show_1) (st := []) lkX4_102 ivX2_clearOut (hK.2.2.1 kx (show kx < 8 by omega)).1 rfl rfl (c_clearOut (hK.2.2.1 kx (show kx < 8 by omega)) (by omega) ) rfl ⟨rfl, rfl⟩ rfl rfl (fun r_ h_9 z_ q_8 => ?_) rfl
      obtain ⟨er_, hR, hU_10, ez_⟩ := q_8
      rw [er_, ez_]
      clear er_ ez_
      replace hX := XoAt.fr hX hU_10 (by omega)
      replace hL := LnAt.fr hL hU_10 (by omega)
      replace hU := hU.tr hU_10 (by omega) (by omega)
      replace hK : XR h_9 p κ (up2 (up2 τ 1 kx 0) 4 kx (-1)) ε := XR.sh hK (show kx < 8 by omega) hU_10 (by rw [← (show_sh (τ := τ) (s := kx) (k := 0) (x := (-1)) (Or.inl ⟨rfl, rfl⟩)).1.1, ← (show_sh (τ := τ) (s := kx) (k := 0) (x := (-1)) (Or.inl ⟨rfl, rfl⟩)).1.2]; exact hR) (fun r h1 h2 => ⟨((show_sh (τ := τ) (s := kx) (k := 0) (x := (-1)) (Or.inl ⟨rfl, rfl⟩)).2 r h1 h2).1, ((show_sh (τ := τ) (s := kx) (k := 0) (x := (-1)) (Or.inl ⟨rfl, rfl⟩)).2 r h1 h2).2, rfl⟩) rfl rfl
      clear hR
      replace hX : XoAt h_9 p ik (rfo (up2 (up2 τ 1 kx 0) 4 kx (-1))) := hX
      show Z D B xX4_show _ _ _ 42 _ [] _ _
      refine z_goto (pc := 42) (zk7 kX4_show_1) (tgt := 55) (by decide) ?_
      refine z_iconst (pc := 55) (zk14 kX4_show_1) (v := 1) (by decide) ?_
      exact z_iret (pc := 56) (zk15 kX4_show_1) rfl (Nat.zero_le _) (Nat.zero_le _) (by
                rw [show sp_show σ τ ε (nI kx) y = (1, σ, (up2 (up2 τ 1 kx 0) 4 kx (-1)), ε) from by simp [sp_show, sBad, okS, okH, okL, okT, okB, sRd, up2_id, up2_id2, oI, sOther, sNone, sFull, c_1, c_6, c_7, ix_nI (show kx ≤ 1000 by omega)]]
                exact ⟨rfl, hX, hL, hK, hU, rfl⟩)
    · refine z_aload_n (pc := 13) (zk7 kX4_show_0) rfl ?_
      refine z_iload_n (pc := 14) (zk8 kX4_show_0) rfl ?_
      refine z_rdV (pc := 15) (zk9 kX4_show_0) (st := []) lkX4_99 ivX4_noLetter hX.1 rfl rfl (c_noLetter hX hL) rfl ⟨rfl, rfl⟩ rfl rfl ?_ rfl
      refine z_oif_eq (pc := 18) (zk10 kX4_show_0) (tgt := 28) (by decide) (fun c_11 => ?_) (fun c_11 => ?_)
      · have c_12 : okR 0 (σ 9 0 - 1) y = true := by simpa using c_11
        refine z_iload_n (pc := 28) (zk15 kX4_show_0) rfl ?_
        refine z_iconst (pc := 29) (zk0 kX4_show_1) (v := (-1)) (by decide) ?_
        refine z_icmp_ne (pc := 30) (zk1 kX4_show_1) (tgt := 45) (by decide) (fun _ => ?_) (fun q => absurd q c_7)
        refine z_aload_n (pc := 45) (zk8 kX4_show_1) rfl ?_
        refine z_getf (pc := 46) (zk9 kX4_show_1) flX4_28 hX.1 gXo_3 ?_
        refine z_iload_n (pc := 49) (zk10 kX4_show_1) rfl ?_
        obtain ⟨kx, hkx, rfl⟩ := okR_c (c := 7) (by decide) c_6
        refine z_aald3N (pc := 50) (zk11 kX4_show_1) (j := kx) (b := p + 32 + 2 * kx) hX.2.1 (show kx < 8 by omega) rfl (if_pos (show kx < 8 by omega)) ?_
        refine z_iload_n (pc := 51) (zk12 kX4_show_1) rfl ?_
        refine z_efV (pc := 52) (zk13 kX4_show_1) (st := []) lkX4_105 ivX2_takeLetter (hK.2.2.1 kx (show kx < 8 by omega)).1 rfl rfl (c_takeLetter (hK.2.2.1 kx (show kx < 8 by omega)) (by omega) ) rfl ⟨rfl, rfl⟩ rfl rfl (fun r_ h_14 z_ q_13 => ?_) rfl
        obtain ⟨er_, hR, hU_15, ez_⟩ := q_13
        rw [er_, ez_]
        clear er_ ez_
        replace hX := XoAt.fr hX hU_15 (by omega)
        replace hL := LnAt.fr hL hU_15 (by omega)
        replace hU := hU.tr hU_15 (by omega) (by omega)
        replace hK : XR h_14 p κ (up2 (up2 τ 1 kx 2) 4 kx y) ε := XR.sh hK (show kx < 8 by omega) hU_15 (by rw [← (show_sh (τ := τ) (s := kx) (k := 2) (x := y) (Or.inr rfl)).1.1, ← (show_sh (τ := τ) (s := kx) (k := 2) (x := y) (Or.inr rfl)).1.2]; exact hR) (fun r h1 h2 => ⟨((show_sh (τ := τ) (s := kx) (k := 2) (x := y) (Or.inr rfl)).2 r h1 h2).1, ((show_sh (τ := τ) (s := kx) (k := 2) (x := y) (Or.inr rfl)).2 r h1 h2).2, rfl⟩) rfl rfl
        clear hR
        replace hX : XoAt h_14 p ik (rfo (up2 (up2 τ 1 kx 2) 4 kx y)) := hX
        show Z D B xX4_show _ _ _ 55 _ [] _ _
        refine z_iconst (pc := 55) (zk14 kX4_show_1) (v := 1) (by decide) ?_
        exact z_iret (pc := 56) (zk15 kX4_show_1) rfl (Nat.zero_le _) (Nat.zero_le _) (by
                    rw [show sp_show σ τ ε (nI kx) y = (1, σ, (up2 (up2 τ 1 kx 2) 4 kx y), ε) from by simp [sp_show, sBad, okS, okH, okL, okT, okB, sRd, up2_id, up2_id2, oI, sOther, sNone, sFull, c_1, c_6, c_7, c_11, c_12, ix_nI (show kx ≤ 1000 by omega)]]
                    exact ⟨rfl, hX, hL, hK, hU, rfl⟩)
      · have c_16 : okR 0 (σ 9 0 - 1) y = false := by simpa using c_11
        refine z_aload_n (pc := 21) (zk11 kX4_show_0) rfl ?_
        refine z_bipush (pc := 22) (zk12 kX4_show_0) (v := (-2)) (by decide) ?_
        refine z_efV (pc := 24) (zk13 kX4_show_0) (st := []) lkX4_56 ivX4_refuse hX.1 rfl rfl (c_xrefuse (i := 0) hX hB (by decide) (by decide) (by decide)) rfl ⟨rfl, rfl⟩ rfl rfl (fun r_ h_18 z_ q_17 => ?_) rfl
        obtain ⟨er_, hR, hU_19, ez_⟩ := q_17
        rw [er_, ez_]
        clear er_ ez_
        replace hL := LnAt.fr hL hU_19 (by omega)
        replace hU := hU.tr hU_19 (by omega) (by omega)
        replace hK := XR.fr hK hU_19 (by omega)
        replace hX := hR; clear hR
        show Z D B xX4_show _ _ _ 27 _ [.int (-2)] _ _
        exact z_iret (pc := 27) (zk14 kX4_show_0) rfl (Nat.zero_le _) (Nat.zero_le _) (by
                    rw [show sp_show σ τ ε x y = ((-2), σ, (rfN τ 2), ε) from by simp [sp_show, sBad, okS, okH, okL, okT, okB, sRd, up2_id, up2_id2, oI, sOther, sNone, sFull, c_1, c_6, c_7, c_11, c_16]]
                    exact ⟨rfl, hX, hL, hK, hU, rfl⟩)
set_option maxRecDepth 20000 in
theorem cX_row {D : zD} {B : Nat} {h : zH} {sz : Nat} {p : Nat} {σ κ τ : Ln} {ε : El} {ik : Int32} {x : Int32} {y : Int32} {z : Int32} {n m : Nat} (hX : XoAt h p ik (rfo τ)) (hL : LnAt h (p + 1) σ) (hK : XR h p κ τ ε) (hB : B ≤ p) (hn : σ 0 0 = nI n) (h12 : n ≤ 12) (hm : σ 9 0 = nI m) (h8 : m ≤ 8) (hbk : σ 6 0 = 0 ∨ σ 6 0 = 1) (htn : ∀ l, l < m → ∃ t, t < n ∧ σ 12 l = nI t) (hlen : ∀ l, l < m → ∃ g, 1 ≤ g ∧ g ≤ 40 ∧ σ 13 l = nI g) (h2 : 2 ≤ n) (hS : SW τ m) : zM D B xX4_row [.ref p, .int x, .int y, .int z] h sz (xQ h p sz ik κ (sp_row σ τ ε x y z)) := by
  have hU : Upd h h p 51 := Upd.rf
  refine zM.of (by decide) rfl (n := 0) ?_
  show Z D B xX4_row 0 0 _ 0 [some (.ref p), some (.int x), some (.int y), some (.int z)] [] h sz
  refine z_aload_n (pc := 0) (zk0 kX4_row_0) rfl ?_
  refine z_iload_n (pc := 1) (zk1 kX4_row_0) rfl ?_
  refine z_rdV (pc := 2) (zk2 kX4_row_0) (st := []) lkX4_48 ivX4_noShelf hX.1 rfl rfl (c_noShelf hX hL) rfl ⟨rfl, rfl⟩ rfl rfl ?_ rfl
  refine z_oif_ne (pc := 5) (zk3 kX4_row_0) (tgt := 27) (by decide) (fun c_1 => ?_) (fun c_1 => ?_)
  · have c_2 : okR 0 7 x = false := by simpa using c_1
    refine z_aload_n (pc := 27) (zk14 kX4_row_0) rfl ?_
    refine z_bipush (pc := 28) (zk15 kX4_row_0) (v := (-2)) (by decide) ?_
    refine z_efV (pc := 30) (zk0 kX4_row_1) (st := []) lkX4_56 ivX4_refuse hX.1 rfl rfl (c_xrefuse (i := 0) hX hB (by decide) (by decide) (by decide)) rfl ⟨rfl, rfl⟩ rfl rfl (fun r_ h_4 z_ q_3 => ?_) rfl
    obtain ⟨er_, hR, hU_5, ez_⟩ := q_3
    rw [er_, ez_]
    clear er_ ez_
    replace hL := LnAt.fr hL hU_5 (by omega)
    replace hU := hU.tr hU_5 (by omega) (by omega)
    replace hK := XR.fr hK hU_5 (by omega)
    replace hX := hR; clear hR
    show Z D B xX4_row _ _ _ 33 _ [.int (-2)] _ _
    exact z_iret (pc := 33) (zk1 kX4_row_1) rfl (Nat.zero_le _) (Nat.zero_le _) (by
            rw [show sp_row σ τ ε x y z = ((-2), σ, (rfN τ 2), ε) from by simp [sp_row, sBad, okS, okH, okL, okT, okB, sRd, up2_id, up2_id2, oI, sOther, sNone, sFull, c_1, c_2]]
            exact ⟨rfl, hX, hL, hK, hU, rfl⟩)
  · have c_6 : okR 0 7 x = true := by simpa using c_1
    refine z_iload_n (pc := 8) (zk4 kX4_row_0) rfl ?_
    refine z_iconst (pc := 9) (zk5 kX4_row_0) (v := 0) (by decide) ?_
    refine z_iconst (pc := 10) (zk6 kX4_row_0) (v := 4) (by decide) ?_
    refine z_rdS (pc := 11) (zk7 kX4_row_0) (st := []) lkX4_52 isX4_outside (c_outside) rfl ⟨rfl, rfl⟩ rfl rfl ?_ rfl
    refine z_oif_ne (pc := 14) (zk8 kX4_row_0) (tgt := 27) (by decide) (fun c_7 => ?_) (fun c_7 => ?_)
    · have c_8 : okR 0 4 y = false := by simpa using c_7
      refine z_aload_n (pc := 27) (zk14 kX4_row_0) rfl ?_
      refine z_bipush (pc := 28) (zk15 kX4_row_0) (v := (-2)) (by decide) ?_
      refine z_efV (pc := 30) (zk0 kX4_row_1) (st := []) lkX4_56 ivX4_refuse hX.1 rfl rfl (c_xrefuse (i := 0) hX hB (by decide) (by decide) (by decide)) rfl ⟨rfl, rfl⟩ rfl rfl (fun r_ h_10 z_ q_9 => ?_) rfl
      obtain ⟨er_, hR, hU_11, ez_⟩ := q_9
      rw [er_, ez_]
      clear er_ ez_
      replace hL := LnAt.fr hL hU_11 (by omega)
      replace hU := hU.tr hU_11 (by omega) (by omega)
      replace hK := XR.fr hK hU_11 (by omega)
      replace hX := hR; clear hR
      show Z D B xX4_row _ _ _ 33 _ [.int (-2)] _ _
      exact z_iret (pc := 33) (zk1 kX4_row_1) rfl (Nat.zero_le _) (Nat.zero_le _) (by
                rw [show sp_row σ τ ε x y z = ((-2), σ, (rfN τ 2), ε) from by simp [sp_row, sBad, okS, okH, okL, okT, okB, sRd, up2_id, up2_id2, oI, sOther, sNone, sFull, c_1, c_6, c_7, c_8]]
                exact ⟨rfl, hX, hL, hK, hU, rfl⟩)
    · have c_12 : okR 0 4 y = true := by simpa using c_7
      refine z_iload_n (pc := 17) (zk9 kX4_row_0) rfl ?_
      refine z_iconst (pc := 18) (zk10 kX4_row_0) (v := 0) (by decide) ?_
      refine z_bipush (pc := 19) (zk11 kX4_row_0) (v := 40) (by decide) ?_
      refine z_rdS (pc := 21) (zk12 kX4_row_0) (st := []) lkX4_52 isX4_outside (c_outside) rfl ⟨rfl, rfl⟩ rfl rfl ?_ rfl
      refine z_oif_eq (pc := 24) (zk13 kX4_row_0) (tgt := 34) (by decide) (fun c_13 => ?_) (fun c_13 => ?_)
      · have c_14 : okR 0 40 z = true := by simpa using c_13
        refine z_aload_n (pc := 34) (zk2 kX4_row_1) rfl ?_
        refine z_getf (pc := 35) (zk3 kX4_row_1) flX4_28 hX.1 gXo_3 ?_
        refine z_iload_n (pc := 38) (zk4 kX4_row_1) rfl ?_
        obtain ⟨kx, hkx, rfl⟩ := okR_c (c := 7) (by decide) c_6
        refine z_aald3N (pc := 39) (zk5 kX4_row_1) (j := kx) (b := p + 32 + 2 * kx) hX.2.1 (show kx < 8 by omega) rfl (if_pos (show kx < 8 by omega)) ?_
        refine z_iload_n (pc := 40) (zk6 kX4_row_1) rfl ?_
        refine z_iload_n (pc := 41) (zk7 kX4_row_1) rfl ?_
        refine z_efV (pc := 42) (zk8 kX4_row_1) (st := []) lkX4_60 ivX2_takeRow (hK.2.2.1 kx (show kx < 8 by omega)).1 rfl rfl (c_takeRow (hK.2.2.1 kx (show kx < 8 by omega)) (by omega) ) rfl ⟨rfl, rfl⟩ rfl rfl (fun r_ h_16 z_ q_15 => ?_) rfl
        obtain ⟨er_, hR, hU_17, ez_⟩ := q_15
        rw [er_, ez_]
        clear er_ ez_
        replace hX := XoAt.fr hX hU_17 (by omega)
        replace hL := LnAt.fr hL hU_17 (by omega)
        replace hU := hU.tr hU_17 (by omega) (by omega)
        replace hK : XR h_16 p κ (up2 (up2 (up2 τ 1 kx 1) 2 kx y) 3 kx z) (zrE ε kx 40) := XR.sh hK (show kx < 8 by omega) hU_17 (by rw [← (row_sh (τ := τ) (ε := ε) (s := kx) (y := y) (z := z)).1.1, ← (row_sh (τ := τ) (ε := ε) (s := kx) (y := y) (z := z)).1.2.1, ← (row_sh (τ := τ) (ε := ε) (s := kx) (y := y) (z := z)).1.2.2]; exact hR) (row_sh (τ := τ) (ε := ε) (s := kx) (y := y) (z := z)).2 rfl rfl
        clear hR
        replace hX : XoAt h_16 p ik (rfo (up2 (up2 (up2 τ 1 kx 1) 2 kx y) 3 kx z)) := hX
        show Z D B xX4_row _ _ _ 45 _ [] _ _
        refine z_iconst (pc := 45) (zk9 kX4_row_1) (v := 1) (by decide) ?_
        exact z_iret (pc := 46) (zk10 kX4_row_1) rfl (Nat.zero_le _) (Nat.zero_le _) (by
                    rw [show sp_row σ τ ε (nI kx) y z = (1, σ, (up2 (up2 (up2 τ 1 kx 1) 2 kx y) 3 kx z), (zrE ε kx 40)) from by simp [sp_row, sBad, okS, okH, okL, okT, okB, sRd, up2_id, up2_id2, oI, sOther, sNone, sFull, c_1, c_6, c_7, c_12, c_13, c_14, ix_nI (show kx ≤ 1000 by omega)]]
                    exact ⟨rfl, hX, hL, hK, hU, rfl⟩)
      · have c_18 : okR 0 40 z = false := by simpa using c_13
        refine z_aload_n (pc := 27) (zk14 kX4_row_0) rfl ?_
        refine z_bipush (pc := 28) (zk15 kX4_row_0) (v := (-2)) (by decide) ?_
        refine z_efV (pc := 30) (zk0 kX4_row_1) (st := []) lkX4_56 ivX4_refuse hX.1 rfl rfl (c_xrefuse (i := 0) hX hB (by decide) (by decide) (by decide)) rfl ⟨rfl, rfl⟩ rfl rfl (fun r_ h_20 z_ q_19 => ?_) rfl
        obtain ⟨er_, hR, hU_21, ez_⟩ := q_19
        rw [er_, ez_]
        clear er_ ez_
        replace hL := LnAt.fr hL hU_21 (by omega)
        replace hU := hU.tr hU_21 (by omega) (by omega)
        replace hK := XR.fr hK hU_21 (by omega)
        replace hX := hR; clear hR
        show Z D B xX4_row _ _ _ 33 _ [.int (-2)] _ _
        exact z_iret (pc := 33) (zk1 kX4_row_1) rfl (Nat.zero_le _) (Nat.zero_le _) (by
                    rw [show sp_row σ τ ε x y z = ((-2), σ, (rfN τ 2), ε) from by simp [sp_row, sBad, okS, okH, okL, okT, okB, sRd, up2_id, up2_id2, oI, sOther, sNone, sFull, c_1, c_6, c_7, c_12, c_13, c_18]]
                    exact ⟨rfl, hX, hL, hK, hU, rfl⟩)
