/-! ===== Shelf ===== -/
def kptF (he : Int32) (v : Int64) : Int64 := if he = 0 then v.toInt32.toInt8.toInt32.toInt64 else if he = 1 then v.toInt32.toInt16.toInt32.toInt64 else if he = 2 then v.toInt32.toInt64 else if he = 3 then v else if he = 4 then (if v = 0 then 0 else 1) else v
def sfltF (he sn n : Int32) : Int32 := if 10 ≤ he then -3 else if he = -1 then -4 else if sn < n then -2 else 0
set_option maxRecDepth 20000 in
theorem c_holdsNothing {D : zD} {B : Nat} {h : zH} {sz : Nat} {ps : Nat} {he sn : Int32} {el : Nat → Int64}  (hS : ShAt h ps he sn el) : zRd D B xX2_holdsNothing [.ref ps] h sz (.int (oI (decide (he = -1)))) := by
  refine zM.of (by decide) rfl (n := 0) ?_
  show Z D B xX2_holdsNothing 0 0 _ 0 [some (.ref ps)] [] h sz
  refine z_aload_n (pc := 0) (zk0 kX2_holdsNothing_0) rfl ?_
  refine z_getf (pc := 1) (zk1 kX2_holdsNothing_0) flX2_9 hS.1 (v := .int he) rfl ?_
  refine z_iconst (pc := 4) (zk2 kX2_holdsNothing_0) (v := (-1)) (by decide) ?_
  refine z_icmp_ne (pc := 5) (zk3 kX2_holdsNothing_0) (tgt := 12) (by decide) (fun c_1 => ?_) (fun c_1 => ?_)
  · refine z_iconst (pc := 12) (zk6 kX2_holdsNothing_0) (v := 0) (by decide) ?_
    exact z_zret (pc := 13) (zk7 kX2_holdsNothing_0) rfl (Nat.zero_le _) (Nat.zero_le _) (by decide) ⟨by simp [oI, c_1], rfl, rfl⟩
  · refine z_iconst (pc := 8) (zk4 kX2_holdsNothing_0) (v := 1) (by decide) ?_
    refine z_goto (pc := 9) (zk5 kX2_holdsNothing_0) (tgt := 13) (by decide) ?_
    exact z_zret (pc := 13) (zk7 kX2_holdsNothing_0) rfl (Nat.zero_le _) (Nat.zero_le _) (by decide) ⟨by simp [oI, c_1], rfl, rfl⟩
set_option maxRecDepth 20000 in
theorem c_holdsLetter {D : zD} {B : Nat} {h : zH} {sz : Nat} {ps : Nat} {he sn : Int32} {el : Nat → Int64}  (hS : ShAt h ps he sn el) : zRd D B xX2_holdsLetter [.ref ps] h sz (.int (oI (decide (10 ≤ he)))) := by
  refine zM.of (by decide) rfl (n := 0) ?_
  show Z D B xX2_holdsLetter 0 0 _ 0 [some (.ref ps)] [] h sz
  refine z_aload_n (pc := 0) (zk0 kX2_holdsLetter_0) rfl ?_
  refine z_getf (pc := 1) (zk1 kX2_holdsLetter_0) flX2_9 hS.1 (v := .int he) rfl ?_
  refine z_bipush (pc := 4) (zk2 kX2_holdsLetter_0) (v := 10) (by decide) ?_
  refine z_icmp_lt (pc := 6) (zk3 kX2_holdsLetter_0) (tgt := 13) (by decide) (fun c_1 => ?_) (fun c_1 => ?_)
  · refine z_iconst (pc := 13) (zk6 kX2_holdsLetter_0) (v := 0) (by decide) ?_
    exact z_zret (pc := 14) (zk7 kX2_holdsLetter_0) rfl (Nat.zero_le _) (Nat.zero_le _) (by decide) ⟨by simp [oI, c_1, Int32.not_le.mpr c_1], rfl, rfl⟩
  · refine z_iconst (pc := 9) (zk4 kX2_holdsLetter_0) (v := 1) (by decide) ?_
    refine z_goto (pc := 10) (zk5 kX2_holdsLetter_0) (tgt := 14) (by decide) ?_
    exact z_zret (pc := 14) (zk7 kX2_holdsLetter_0) rfl (Nat.zero_le _) (Nat.zero_le _) (by decide) ⟨by simp [oI, c_1, Int32.not_lt.mp c_1], rfl, rfl⟩
set_option maxRecDepth 20000 in
theorem c_shownLetter {D : zD} {B : Nat} {h : zH} {sz : Nat} {ps : Nat} {he sn : Int32} {el : Nat → Int64}  (hS : ShAt h ps he sn el) : zRd D B xX2_shownLetter [.ref ps] h sz (.int (if 10 ≤ he then he - 10 else -1)) := by
  refine zM.of (by decide) rfl (n := 0) ?_
  show Z D B xX2_shownLetter 0 0 _ 0 [some (.ref ps)] [] h sz
  refine z_aload_n (pc := 0) (zk0 kX2_shownLetter_0) rfl ?_
  refine z_rdV (pc := 1) (zk1 kX2_shownLetter_0) (st := []) lkX2_22 ivX2_holdsLetter hS.1 rfl rfl (c_holdsLetter hS) rfl ⟨rfl, rfl⟩ rfl rfl ?_ rfl
  refine z_oif_eq (pc := 4) (zk2 kX2_shownLetter_0) (tgt := 17) (by decide) (fun c_1 => ?_) (fun c_1 => ?_)
  · refine z_iconst (pc := 17) (zk8 kX2_shownLetter_0) (v := (-1)) (by decide) ?_
    exact z_iret (pc := 18) (zk9 kX2_shownLetter_0) rfl (Nat.zero_le _) (Nat.zero_le _) ⟨by simp [of_decide_eq_false c_1], rfl, rfl⟩
  · refine z_aload_n (pc := 7) (zk3 kX2_shownLetter_0) rfl ?_
    refine z_getf (pc := 8) (zk4 kX2_shownLetter_0) flX2_9 hS.1 (v := .int he) rfl ?_
    refine z_bipush (pc := 11) (zk5 kX2_shownLetter_0) (v := 10) (by decide) ?_
    refine z_isub (pc := 13) (zk6 kX2_shownLetter_0) ?_
    refine z_goto (pc := 14) (zk7 kX2_shownLetter_0) (tgt := 18) (by decide) ?_
    exact z_iret (pc := 18) (zk9 kX2_shownLetter_0) rfl (Nat.zero_le _) (Nat.zero_le _) ⟨by simp [of_decide_eq_true c_1], rfl, rfl⟩
set_option maxRecDepth 20000 in
theorem c_hasElement {D : zD} {B : Nat} {h : zH} {sz : Nat} {ps : Nat} {he sn : Int32} {el : Nat → Int64} {i : Int32} (hS : ShAt h ps he sn el) : zRd D B xX2_hasElement [.ref ps, .int i] h sz (.int (oI (decide (0 ≤ i) && decide (i < sn)))) := by
  refine zM.of (by decide) rfl (n := 0) ?_
  show Z D B xX2_hasElement 0 0 _ 0 [some (.ref ps), some (.int i)] [] h sz
  refine z_iload_n (pc := 0) (zk0 kX2_hasElement_0) rfl ?_
  refine z_if_lt (pc := 1) (zk1 kX2_hasElement_0) (tgt := 16) (by decide) (fun c_1 => ?_) (fun c_1 => ?_)
  · refine z_iconst (pc := 16) (zk8 kX2_hasElement_0) (v := 0) (by decide) ?_
    exact z_zret (pc := 17) (zk9 kX2_hasElement_0) rfl (Nat.zero_le _) (Nat.zero_le _) (by decide) ⟨by simp [oI, c_1, Int32.not_le.mpr c_1], rfl, rfl⟩
  · refine z_iload_n (pc := 4) (zk2 kX2_hasElement_0) rfl ?_
    refine z_aload_n (pc := 5) (zk3 kX2_hasElement_0) rfl ?_
    refine z_getf (pc := 6) (zk4 kX2_hasElement_0) flX2_15 hS.1 (v := .int sn) rfl ?_
    refine z_icmp_ge (pc := 9) (zk5 kX2_hasElement_0) (tgt := 16) (by decide) (fun c_2 => ?_) (fun c_2 => ?_)
    · refine z_iconst (pc := 16) (zk8 kX2_hasElement_0) (v := 0) (by decide) ?_
      exact z_zret (pc := 17) (zk9 kX2_hasElement_0) rfl (Nat.zero_le _) (Nat.zero_le _) (by decide) ⟨by simp [oI, c_1, Int32.not_lt.mp c_1, c_2, Int32.not_lt.mpr c_2], rfl, rfl⟩
    · refine z_iconst (pc := 12) (zk6 kX2_hasElement_0) (v := 1) (by decide) ?_
      refine z_goto (pc := 13) (zk7 kX2_hasElement_0) (tgt := 17) (by decide) ?_
      exact z_zret (pc := 17) (zk9 kX2_hasElement_0) rfl (Nat.zero_le _) (Nat.zero_le _) (by decide) ⟨by simp [oI, c_1, Int32.not_lt.mp c_1, c_2, Int32.not_le.mp c_2], rfl, rfl⟩
set_option maxRecDepth 20000 in
theorem c_hasPart {D : zD} {B : Nat} {h : zH} {sz : Nat} {ps : Nat} {he sn : Int32} {el : Nat → Int64} {i n : Int32} (hS : ShAt h ps he sn el) : zRd D B xX2_hasPart [.ref ps, .int i, .int n] h sz (.int (oI (decide (0 ≤ i) && decide (0 ≤ n) && decide (n ≤ sn - i)))) := by
  refine zM.of (by decide) rfl (n := 0) ?_
  show Z D B xX2_hasPart 0 0 _ 0 [some (.ref ps), some (.int i), some (.int n)] [] h sz
  refine z_iload_n (pc := 0) (zk0 kX2_hasPart_0) rfl ?_
  refine z_if_lt (pc := 1) (zk1 kX2_hasPart_0) (tgt := 22) (by decide) (fun c_1 => ?_) (fun c_1 => ?_)
  · refine z_iconst (pc := 22) (zk12 kX2_hasPart_0) (v := 0) (by decide) ?_
    exact z_zret (pc := 23) (zk13 kX2_hasPart_0) rfl (Nat.zero_le _) (Nat.zero_le _) (by decide) ⟨by simp [oI, c_1, Int32.not_le.mpr c_1], rfl, rfl⟩
  · refine z_iload_n (pc := 4) (zk2 kX2_hasPart_0) rfl ?_
    refine z_if_lt (pc := 5) (zk3 kX2_hasPart_0) (tgt := 22) (by decide) (fun c_2 => ?_) (fun c_2 => ?_)
    · refine z_iconst (pc := 22) (zk12 kX2_hasPart_0) (v := 0) (by decide) ?_
      exact z_zret (pc := 23) (zk13 kX2_hasPart_0) rfl (Nat.zero_le _) (Nat.zero_le _) (by decide) ⟨by simp [oI, c_1, Int32.not_lt.mp c_1, c_2, Int32.not_le.mpr c_2], rfl, rfl⟩
    · refine z_iload_n (pc := 8) (zk4 kX2_hasPart_0) rfl ?_
      refine z_aload_n (pc := 9) (zk5 kX2_hasPart_0) rfl ?_
      refine z_getf (pc := 10) (zk6 kX2_hasPart_0) flX2_15 hS.1 (v := .int sn) rfl ?_
      refine z_iload_n (pc := 13) (zk7 kX2_hasPart_0) rfl ?_
      refine z_isub (pc := 14) (zk8 kX2_hasPart_0) ?_
      refine z_icmp_gt (pc := 15) (zk9 kX2_hasPart_0) (tgt := 22) (by decide) (fun c_3 => ?_) (fun c_3 => ?_)
      · refine z_iconst (pc := 22) (zk12 kX2_hasPart_0) (v := 0) (by decide) ?_
        exact z_zret (pc := 23) (zk13 kX2_hasPart_0) rfl (Nat.zero_le _) (Nat.zero_le _) (by decide) ⟨by simp [oI, c_1, Int32.not_lt.mp c_1, c_2, Int32.not_lt.mp c_2, c_3, Int32.not_le.mpr c_3], rfl, rfl⟩
      · refine z_iconst (pc := 18) (zk10 kX2_hasPart_0) (v := 1) (by decide) ?_
        refine z_goto (pc := 19) (zk11 kX2_hasPart_0) (tgt := 23) (by decide) ?_
        exact z_zret (pc := 23) (zk13 kX2_hasPart_0) rfl (Nat.zero_le _) (Nat.zero_le _) (by decide) ⟨by simp [oI, c_1, Int32.not_lt.mp c_1, c_2, Int32.not_lt.mp c_2, c_3, Int32.not_lt.mp c_3], rfl, rfl⟩
set_option maxRecDepth 20000 in
theorem c_rowFault {D : zD} {B : Nat} {h : zH} {sz : Nat} {ps : Nat} {he sn : Int32} {el : Nat → Int64} {n : Int32} (hS : ShAt h ps he sn el) : zRd D B xX2_rowFault [.ref ps, .int n] h sz (.int (sfltF he sn n)) := by
  refine zM.of (by decide) rfl (n := 0) ?_
  show Z D B xX2_rowFault 0 0 _ 0 [some (.ref ps), some (.int n)] [] h sz
  refine z_aload_n (pc := 0) (zk0 kX2_rowFault_0) rfl ?_
  refine z_rdV (pc := 1) (zk1 kX2_rowFault_0) (st := []) lkX2_22 ivX2_holdsLetter hS.1 rfl rfl (c_holdsLetter hS) rfl ⟨rfl, rfl⟩ rfl rfl ?_ rfl
  refine z_oif_eq (pc := 4) (zk2 kX2_rowFault_0) (tgt := 10) (by decide) (fun c_1 => ?_) (fun c_1 => ?_)
  · refine z_aload_n (pc := 10) (zk5 kX2_rowFault_0) rfl ?_
    refine z_rdV (pc := 11) (zk6 kX2_rowFault_0) (st := []) lkX2_26 ivX2_holdsNothing hS.1 rfl rfl (c_holdsNothing hS) rfl ⟨rfl, rfl⟩ rfl rfl ?_ rfl
    refine z_oif_eq (pc := 14) (zk7 kX2_rowFault_0) (tgt := 20) (by decide) (fun c_2 => ?_) (fun c_2 => ?_)
    · refine z_iload_n (pc := 20) (zk10 kX2_rowFault_0) rfl ?_
      refine z_aload_n (pc := 21) (zk11 kX2_rowFault_0) rfl ?_
      refine z_getf (pc := 22) (zk12 kX2_rowFault_0) flX2_15 hS.1 (v := .int sn) rfl ?_
      refine z_icmp_le (pc := 25) (zk13 kX2_rowFault_0) (tgt := 33) (by decide) (fun c_3 => ?_) (fun c_3 => ?_)
      · refine z_iconst (pc := 33) (zk0 kX2_rowFault_1) (v := 0) (by decide) ?_
        exact z_iret (pc := 34) (zk1 kX2_rowFault_1) rfl (Nat.zero_le _) (Nat.zero_le _) ⟨by simp [sfltF, of_decide_eq_false c_1, of_decide_eq_false c_2, c_3, Int32.not_lt.mpr c_3], rfl, rfl⟩
      · refine z_bipush (pc := 28) (zk14 kX2_rowFault_0) (v := (-2)) (by decide) ?_
        refine z_goto (pc := 30) (zk15 kX2_rowFault_0) (tgt := 34) (by decide) ?_
        exact z_iret (pc := 34) (zk1 kX2_rowFault_1) rfl (Nat.zero_le _) (Nat.zero_le _) ⟨by simp [sfltF, of_decide_eq_false c_1, of_decide_eq_false c_2, c_3, Int32.not_le.mp c_3], rfl, rfl⟩
    · refine z_bipush (pc := 17) (zk8 kX2_rowFault_0) (v := (-4)) (by decide) ?_
      exact z_iret (pc := 19) (zk9 kX2_rowFault_0) rfl (Nat.zero_le _) (Nat.zero_le _) ⟨by simp [sfltF, of_decide_eq_false c_1, of_decide_eq_true c_2], rfl, rfl⟩
  · refine z_bipush (pc := 7) (zk3 kX2_rowFault_0) (v := (-3)) (by decide) ?_
    exact z_iret (pc := 9) (zk4 kX2_rowFault_0) rfl (Nat.zero_le _) (Nat.zero_le _) ⟨by simp [sfltF, of_decide_eq_true c_1], rfl, rfl⟩
set_option maxRecDepth 20000 in
theorem c_asKept {D : zD} {B : Nat} {h : zH} {sz : Nat} {ps : Nat} {he sn : Int32} {el : Nat → Int64} {v : Int64} (hS : ShAt h ps he sn el) : zRd D B xX2_asKept [.ref ps, .long v] h sz (.long (kptF he v)) := by
  refine zM.of (by decide) rfl (n := 0) ?_
  show Z D B xX2_asKept 0 0 _ 0 [some (.ref ps), some (.long v), none] [] h sz
  refine z_aload_n (pc := 0) (zk0 kX2_asKept_0) rfl ?_
  refine z_getf (pc := 1) (zk1 kX2_asKept_0) flX2_9 hS.1 (v := .int he) rfl ?_
  by_cases c_1 : he = 0
  · refine z_tableIn (pc := 4) (zk2 kX2_asKept_0) (off := 36) (tgt := 40) (by rw [c_1]; decide) (by rw [c_1]; decide) (by rw [c_1]; rfl) (by decide) ?_
    subst c_1
    refine z_lload_n (pc := 40) (zk3 kX2_asKept_0) rfl ?_
    refine z_l2i (pc := 41) (zk4 kX2_asKept_0) ?_
    refine z_i2b (pc := 42) (zk5 kX2_asKept_0) ?_
    refine z_i2l (pc := 43) (zk6 kX2_asKept_0) ?_
    exact z_lret (pc := 44) (zk7 kX2_asKept_0) rfl (Nat.zero_le _) (Nat.zero_le _) ⟨by simp [kptF], rfl, rfl⟩
  by_cases c_2 : he = 1
  · refine z_tableIn (pc := 4) (zk2 kX2_asKept_0) (off := 41) (tgt := 45) (by rw [c_2]; decide) (by rw [c_2]; decide) (by rw [c_2]; rfl) (by decide) ?_
    subst c_2
    refine z_lload_n (pc := 45) (zk8 kX2_asKept_0) rfl ?_
    refine z_l2i (pc := 46) (zk9 kX2_asKept_0) ?_
    refine z_i2s (pc := 47) (zk10 kX2_asKept_0) ?_
    refine z_i2l (pc := 48) (zk11 kX2_asKept_0) ?_
    exact z_lret (pc := 49) (zk12 kX2_asKept_0) rfl (Nat.zero_le _) (Nat.zero_le _) ⟨by simp [kptF, c_1], rfl, rfl⟩
  by_cases c_3 : he = 2
  · refine z_tableIn (pc := 4) (zk2 kX2_asKept_0) (off := 46) (tgt := 50) (by rw [c_3]; decide) (by rw [c_3]; decide) (by rw [c_3]; rfl) (by decide) ?_
    subst c_3
    refine z_lload_n (pc := 50) (zk13 kX2_asKept_0) rfl ?_
    refine z_l2i (pc := 51) (zk14 kX2_asKept_0) ?_
    refine z_i2l (pc := 52) (zk15 kX2_asKept_0) ?_
    exact z_lret (pc := 53) (zk0 kX2_asKept_1) rfl (Nat.zero_le _) (Nat.zero_le _) ⟨by simp [kptF, c_1, c_2], rfl, rfl⟩
  by_cases c_4 : he = 3
  · refine z_tableIn (pc := 4) (zk2 kX2_asKept_0) (off := 62) (tgt := 66) (by rw [c_4]; decide) (by rw [c_4]; decide) (by rw [c_4]; rfl) (by decide) ?_
    subst c_4
    refine z_lload_n (pc := 66) (zk9 kX2_asKept_1) rfl ?_
    exact z_lret (pc := 67) (zk10 kX2_asKept_1) rfl (Nat.zero_le _) (Nat.zero_le _) ⟨by simp [kptF, c_1, c_2, c_3], rfl, rfl⟩
  by_cases c_5 : he = 4
  · refine z_tableIn (pc := 4) (zk2 kX2_asKept_0) (off := 50) (tgt := 54) (by rw [c_5]; decide) (by rw [c_5]; decide) (by rw [c_5]; rfl) (by decide) ?_
    subst c_5
    refine z_lload_n (pc := 54) (zk1 kX2_asKept_1) rfl ?_
    refine z_lconst (pc := 55) (zk2 kX2_asKept_1) (v := 0) (by decide) ?_
    refine z_lcmp (pc := 56) (zk3 kX2_asKept_1) ?_
    refine z_lif_eq (pc := 57) (zk4 kX2_asKept_1) (tgt := 64) (by decide) (fun c_6 => ?_) (fun c_6 => ?_)
    · refine z_lconst (pc := 64) (zk7 kX2_asKept_1) (v := 0) (by decide) ?_
      exact z_lret (pc := 65) (zk8 kX2_asKept_1) rfl (Nat.zero_le _) (Nat.zero_le _) ⟨by simp [kptF, c_1, c_2, c_3, c_4, c_6], rfl, rfl⟩
    · refine z_lconst (pc := 60) (zk5 kX2_asKept_1) (v := 1) (by decide) ?_
      refine z_goto (pc := 61) (zk6 kX2_asKept_1) (tgt := 65) (by decide) ?_
      exact z_lret (pc := 65) (zk8 kX2_asKept_1) rfl (Nat.zero_le _) (Nat.zero_le _) ⟨by simp [kptF, c_1, c_2, c_3, c_4, c_6], rfl, rfl⟩
  refine z_tableOut (pc := 4) (zk2 kX2_asKept_0) (tgt := 66) (zOut0_4 c_1 c_2 c_3 c_4 c_5) (by decide) ?_
  refine z_lload_n (pc := 66) (zk9 kX2_asKept_1) rfl ?_
  exact z_lret (pc := 67) (zk10 kX2_asKept_1) rfl (Nat.zero_le _) (Nat.zero_le _) ⟨by simp [kptF, c_1, c_2, c_3, c_4, c_5], rfl, rfl⟩
set_option maxRecDepth 20000 in
theorem c_clearOut {D : zD} {B : Nat} {h : zH} {sz : Nat} {ps : Nat} {he sn : Int32} {el : Nat → Int64}  (hS : ShAt h ps he sn el) (hB : B ≤ ps) : zM D B xX2_clearOut [.ref ps] h sz (fun r h1 z1 => r = none ∧ ShAt h1 ps (-1) 0 el ∧ Upd h h1 ps 2 ∧ z1 = sz) := by
  have hU : Upd h h ps 2 := Upd.rf
  refine zM.of (by decide) rfl (n := 0) ?_
  show Z D B xX2_clearOut 0 0 _ 0 [some (.ref ps)] [] h sz
  refine z_aload_n (pc := 0) (zk0 kX2_clearOut_0) rfl ?_
  refine z_iconst (pc := 1) (zk1 kX2_clearOut_0) (v := (-1)) (by decide) ?_
  refine z_Sh_w0 (pc := 2) (zk2 kX2_clearOut_0) flX2_9 hS (by omega) (fun h_1 hR hU_2 => ?_)
  replace hU := hU.tr hU_2 (by omega) (by omega)
  replace hS := hR; clear hR
  refine z_aload_n (pc := 5) (zk3 kX2_clearOut_0) rfl ?_
  refine z_iconst (pc := 6) (zk4 kX2_clearOut_0) (v := 0) (by decide) ?_
  refine z_Sh_w1 (pc := 7) (zk5 kX2_clearOut_0) flX2_15 hS (by omega) (fun h_3 hR hU_4 => ?_)
  replace hU := hU.tr hU_4 (by omega) (by omega)
  replace hS := hR; clear hR
  exact z_vret (pc := 10) (zk6 kX2_clearOut_0) rfl (Nat.zero_le _) (Nat.zero_le _) ⟨rfl, hS, hU, rfl⟩
set_option maxRecDepth 20000 in
theorem c_takeLetter {D : zD} {B : Nat} {h : zH} {sz : Nat} {ps : Nat} {he sn : Int32} {el : Nat → Int64} {x : Int32} (hS : ShAt h ps he sn el) (hB : B ≤ ps) : zM D B xX2_takeLetter [.ref ps, .int x] h sz (fun r h1 z1 => r = none ∧ ShAt h1 ps (10 + x) 0 el ∧ Upd h h1 ps 2 ∧ z1 = sz) := by
  have hU : Upd h h ps 2 := Upd.rf
  refine zM.of (by decide) rfl (n := 0) ?_
  show Z D B xX2_takeLetter 0 0 _ 0 [some (.ref ps), some (.int x)] [] h sz
  refine z_aload_n (pc := 0) (zk0 kX2_takeLetter_0) rfl ?_
  refine z_bipush (pc := 1) (zk1 kX2_takeLetter_0) (v := 10) (by decide) ?_
  refine z_iload_n (pc := 3) (zk2 kX2_takeLetter_0) rfl ?_
  refine z_iadd (pc := 4) (zk3 kX2_takeLetter_0) ?_
  refine z_Sh_w0 (pc := 5) (zk4 kX2_takeLetter_0) flX2_9 hS (by omega) (fun h_1 hR hU_2 => ?_)
  replace hU := hU.tr hU_2 (by omega) (by omega)
  replace hS := hR; clear hR
  refine z_aload_n (pc := 8) (zk5 kX2_takeLetter_0) rfl ?_
  refine z_iconst (pc := 9) (zk6 kX2_takeLetter_0) (v := 0) (by decide) ?_
  refine z_Sh_w1 (pc := 10) (zk7 kX2_takeLetter_0) flX2_15 hS (by omega) (fun h_3 hR hU_4 => ?_)
  replace hU := hU.tr hU_4 (by omega) (by omega)
  replace hS := hR; clear hR
  exact z_vret (pc := 13) (zk8 kX2_takeLetter_0) rfl (Nat.zero_le _) (Nat.zero_le _) ⟨rfl, hS, hU, rfl⟩
set_option maxRecDepth 20000 in
theorem c_put {D : zD} {B : Nat} {h : zH} {sz : Nat} {ps : Nat} {he sn : Int32} {el : Nat → Int64} {i : Nat} {v : Int64} (hS : ShAt h ps he sn el) (hB : B ≤ ps) (hi : i < 40) : zM D B xX2_put [.ref ps, .int (nI i), .long v] h sz (fun r h1 z1 => r = none ∧ ShAt h1 ps he sn (vp_updL el i (kptF he v)) ∧ Upd h h1 ps 2 ∧ z1 = sz) := by
  have hU : Upd h h ps 2 := Upd.rf
  refine zM.of (by decide) rfl (n := 0) ?_
  show Z D B xX2_put 0 0 _ 0 [some (.ref ps), some (.int (nI i)), some (.long v), none] [] h sz
  refine z_aload_n (pc := 0) (zk0 kX2_put_0) rfl ?_
  refine z_getf (pc := 1) (zk1 kX2_put_0) flX2_18 hS.1 gSh_2 ?_
  refine z_iload_n (pc := 4) (zk2 kX2_put_0) rfl ?_
  refine z_aload_n (pc := 5) (zk3 kX2_put_0) rfl ?_
  refine z_lload_n (pc := 6) (zk4 kX2_put_0) rfl ?_
  refine z_rdV (pc := 7) (zk5 kX2_put_0) (st := [.int (nI i), .ref (ps + 1)]) lkX2_29 ivX2_asKept hS.1 rfl rfl (c_asKept hS) rfl ⟨rfl, rfl⟩ rfl rfl ?_ rfl
  refine z_Sh_s1 (pc := 10) (zk6 kX2_put_0) (j := i) hS (by omega) (show i < 40 by omega) (fun h_1 hR hU_2 => ?_)
  replace hU := hU.tr hU_2 (by omega) (by omega)
  replace hS := hR; clear hR
  exact z_vret (pc := 11) (zk7 kX2_put_0) rfl (Nat.zero_le _) (Nat.zero_le _) ⟨rfl, hS, hU, rfl⟩
def zrR (e : Nat → Int64) (i : Nat) : Nat → Int64 := fun j => if j < i then 0 else e j
theorem zrR_0 (e : Nat → Int64) : zrR e 0 = e := by funext j; simp [zrR]
theorem zrR_s (e : Nat → Int64) (i : Nat) : vp_updL (zrR e i) i 0 = zrR e (i + 1) := by
  funext j
  by_cases c : j = i
  · subst c; simp [zrR, vp_updL]
  · have : j < i + 1 ↔ j < i := by omega
    simp [zrR, vp_updL, c, this]
set_option maxRecDepth 20000 in
theorem c_takeRow {D : zD} {B : Nat} {h : zH} {sz : Nat} {ps : Nat} {he sn : Int32} {el : Nat → Int64} {x y : Int32} (hS : ShAt h ps he sn el) (hB : B ≤ ps) : zM D B xX2_takeRow [.ref ps, .int x, .int y] h sz (fun r h1 z1 => r = none ∧ ShAt h1 ps x y (zrR el 40) ∧ Upd h h1 ps 2 ∧ z1 = sz) := by
  have hU : Upd h h ps 2 := Upd.rf
  refine zM.of (by decide) rfl (n := 1) ?_
  show Z D B xX2_takeRow 0 0 _ 0 [some (.ref ps), some (.int x), some (.int y), none] [] h sz
  refine z_aload_n (pc := 0) (zk0 kX2_takeRow_0) rfl ?_
  refine z_iload_n (pc := 1) (zk1 kX2_takeRow_0) rfl ?_
  refine z_Sh_w0 (pc := 2) (zk2 kX2_takeRow_0) flX2_9 hS (by omega) (fun h_1 hR hU_2 => ?_)
  replace hU := hU.tr hU_2 (by omega) (by omega)
  replace hS := hR; clear hR
  refine z_aload_n (pc := 5) (zk3 kX2_takeRow_0) rfl ?_
  refine z_iload_n (pc := 6) (zk4 kX2_takeRow_0) rfl ?_
  refine z_Sh_w1 (pc := 7) (zk5 kX2_takeRow_0) flX2_15 hS (by omega) (fun h_3 hR hU_4 => ?_)
  replace hU := hU.tr hU_4 (by omega) (by omega)
  replace hS := hR; clear hR
  refine z_iconst (pc := 10) (zk6 kX2_takeRow_0) (v := 0) (by decide) ?_
  refine z_istore_n (pc := 11) (zk7 kX2_takeRow_0) rfl rfl ?_
  show Z D B xX2_takeRow _ _ _ 12 [some (.ref ps), some (.int x), some (.int y), some (.int 0)] _ _ _
  have lp12 : ∀ (n_ : Nat) (g : zH) (i : Nat), 40 - i < n_ → (i ≤ 40) → (ShAt g ps x y (zrR el i)) → (Upd h g ps 2) → Z D B xX2_takeRow 0 0 (fun r h1 z1 => r = none ∧ ShAt h1 ps x y (zrR el 40) ∧ Upd h h1 ps 2 ∧ z1 = sz) 12 [some (.ref ps), some (.int x), some (.int y), some (.int (nI i))] [] g sz := by
    intro n_
    induction n_ with
    | zero => intro g i hm_; exact absurd hm_ (Nat.not_lt_zero _)
    | succ n_ ih12 =>
      intro g i hm_ hi_i hS hU
      refine z_iload_n (pc := 12) (zk8 kX2_takeRow_0) rfl ?_
      refine z_bipush (pc := 13) (zk9 kX2_takeRow_0) (v := 40) (by decide) ?_
      refine z_icmp_ge (pc := 15) (zk10 kX2_takeRow_0) (tgt := 31) (by decide) (fun c_5 => ?_) (fun c_5 => ?_)
      · have hie_i : i = 40 := nI_ge_yes (a := 40) (by omega) (by omega) (by omega) c_5
        exact z_vret (pc := 31) (zk2 kX2_takeRow_1) rfl (Nat.zero_le _) (Nat.zero_le _) ⟨rfl, by rw [hie_i] at hS; exact hS, hU, rfl⟩
      · have hlt_i : i < 40 := nI_ge_not (a := 40) (by omega) (by omega) c_5
        refine z_aload_n (pc := 18) (zk11 kX2_takeRow_0) rfl ?_
        refine z_getf (pc := 19) (zk12 kX2_takeRow_0) flX2_18 hS.1 gSh_2 ?_
        refine z_iload_n (pc := 22) (zk13 kX2_takeRow_0) rfl ?_
        refine z_lconst (pc := 23) (zk14 kX2_takeRow_0) (v := 0) (by decide) ?_
        refine z_Sh_s1 (pc := 24) (zk15 kX2_takeRow_0) (j := i) hS (by omega) (show i < 40 by omega) (fun h_6 hR hU_7 => ?_)
        replace hU := hU.tr hU_7 (by omega) (by omega)
        replace hS := hR; clear hR
        refine z_iinc (pc := 25) (zk0 kX2_takeRow_1) (v := nI (i + 1)) rfl zinc rfl rfl ?_
        show Z D B xX2_takeRow _ _ _ 28 [some (.ref ps), some (.int x), some (.int y), some (.int (nI (i + 1)))] _ _ _
        refine z_goto (pc := 28) (zk1 kX2_takeRow_1) (tgt := 12) (by decide) ?_
        exact ih12 h_6 (i + 1) (by omega) (by omega) (by rw [← zrR_s]; exact hS) hU
  exact lp12 _ h_3 0 (Nat.lt_succ_self _) (by omega) (by rw [zrR_0]; exact hS) hU
/-! ===== the class's shelves ===== -/
theorem held_2 {τ : Ln} {m s : Nat} (hS : SW τ m) (h8 : m ≤ 8) (hs : s < 8) : (10 ≤ heldF τ s) ↔ τ 1 s = 2 := by
  rcases hS.1 s hs with q | ⟨q, ⟨k, hk, ek⟩, _⟩ | ⟨q, l, hl, el⟩
  · rw [heldF, if_pos q, q]; decide
  · rw [heldF, q, if_neg (by decide), if_pos rfl, ek]
    exact ⟨fun c => absurd ((nI_le_iff (a := 10) (by omega) (by omega)).mp c) (by omega), fun c => absurd c (by decide)⟩
  · rw [heldF, q, if_neg (by decide), if_neg (by decide), el]
    refine ⟨fun _ => rfl, fun _ => ?_⟩
    rw [show (10 : Int32) = nI 10 from rfl, nI_add]
    exact (nI_le_iff (by omega) (by omega)).mpr (by omega)
theorem held_0 {τ : Ln} {m s : Nat} (hS : SW τ m) (h8 : m ≤ 8) (hs : s < 8) : (heldF τ s = -1) ↔ τ 1 s = 0 := by
  rcases hS.1 s hs with q | ⟨q, ⟨k, hk, ek⟩, _⟩ | ⟨q, l, hl, el⟩
  · rw [heldF, if_pos q]; exact ⟨fun _ => q, fun _ => rfl⟩
  · rw [heldF, q, if_neg (by decide), if_pos rfl, ek]
    exact ⟨fun c => absurd c (nI_ne_m1 (by omega)), fun c => absurd c (by decide)⟩
  · rw [heldF, q, if_neg (by decide), if_neg (by decide), el, show (10 : Int32) = nI 10 from rfl, nI_add]
    exact ⟨fun c => absurd c (nI_ne_m1 (by omega)), fun c => absurd c (by decide)⟩
theorem held_1 {τ : Ln} {s : Nat} (h : τ 1 s = 1) : heldF τ s = τ 2 s ∧ sizeF τ s = τ 3 s := by
  rw [heldF, sizeF, h, if_neg (by decide), if_pos rfl, if_pos rfl]; exact ⟨rfl, rfl⟩
theorem held_s {τ : Ln} {s : Nat} (h : τ 1 s = 2) : heldF τ s = 10 + τ 4 s := by
  rw [heldF, h, if_neg (by decide), if_neg (by decide)]
theorem flt_row {τ : Ln} {m s : Nat} (hS : SW τ m) (h8 : m ≤ 8) (hs : s < 8) (n : Int32) : sfltF (heldF τ s) (sizeF τ s) n = if τ 1 s = 2 then -3 else if τ 1 s = 0 then -4 else if τ 3 s < n then -2 else 0 := by
  unfold sfltF
  by_cases h2 : τ 1 s = 2
  · rw [if_pos ((held_2 hS h8 hs).mpr h2), if_pos h2]
  · rw [if_neg (fun q => h2 ((held_2 hS h8 hs).mp q)), if_neg h2]
    by_cases h0 : τ 1 s = 0
    · rw [if_pos ((held_0 hS h8 hs).mpr h0), if_pos h0]
    · rw [if_neg (fun q => h0 ((held_0 hS h8 hs).mp q)), if_neg h0, (held_1 (SW_row hS hs h2 h0).1).2]
theorem XR.gu {h h1 : zH} {p : Nat} {κ τ : Ln} {ε : El} (H : XR h p κ τ ε) (hU : Upd h h1 (p + 19) 12) (hg : ∃ mk tl γ, GuAt h1 (p + 19) mk tl ∧ LnAt h1 (p + 19 + 1) γ) : XR h1 p κ τ ε := by
  obtain ⟨a, b, d, ω, e⟩ := H
  exact ⟨a.fr hU (by omega), hg, fun s hs => (d s hs).fr hU (by omega), ω, e.fr hU (by omega)⟩
theorem XR.sh {h h1 : zH} {p s : Nat} {κ τ τ1 : Ln} {ε ε1 : El} (H : XR h p κ τ ε) (hs : s < 8) (hU : Upd h h1 (p + 32 + 2 * s) 2) (hn : ShAt h1 (p + 32 + 2 * s) (heldF τ1 s) (sizeF τ1 s) (ε1 s)) (hr : ∀ r, r < 8 → r ≠ s → heldF τ1 r = heldF τ r ∧ sizeF τ1 r = sizeF τ r ∧ ε1 r = ε r) (h5 : τ1 5 = τ 5) (h6 : τ1 6 = τ 6) : XR h1 p κ τ1 ε1 := by
  obtain ⟨a, ⟨mk, tl, γ, b, c⟩, d, ω, e⟩ := H
  refine ⟨a.fr hU (by omega), ⟨mk, tl, γ, b.fr hU (by omega), c.fr hU (by omega)⟩, fun r hr8 => ?_, ω, ?_⟩
  · by_cases q : r = s
    · subst q; exact hn
    · obtain ⟨e1, e2, e3⟩ := hr r hr8 q
      rw [e1, e2, e3]
      exact (d r hr8).fr hU (by omega)
  · have e := e.fr hU (by omega)
    unfold TaAt fsTa at e ⊢
    rw [h5, h6]
    exact e
theorem XR.ta {h h1 : zH} {p : Nat} {κ τ τ1 : Ln} {ε : El} (H : XR h p κ τ ε) (hU : Upd h h1 (p + 48) 2) (hn : ∃ ω, TaAt h1 (p + 48) τ1 ω) (hr : ∀ f, f < 5 → τ1 f = τ f) : XR h1 p κ τ1 ε := by
  obtain ⟨a, ⟨mk, tl, γ, b, c⟩, d, e⟩ := H
  refine ⟨a.fr hU (by omega), ⟨mk, tl, γ, b.fr hU (by omega), c.fr hU (by omega)⟩, fun r hr8 => ?_, hn⟩
  rw [show heldF τ1 r = heldF τ r by rw [heldF, heldF, hr 1 (by omega), hr 2 (by omega), hr 4 (by omega)], show sizeF τ1 r = sizeF τ r by rw [sizeF, sizeF, hr 1 (by omega), hr 3 (by omega)]]
  exact (d r hr8).fr hU (by omega)
