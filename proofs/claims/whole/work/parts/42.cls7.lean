theorem z_alenI {D : zD} {B : Nat} {X : zX} {cs ss : Nat} {Q : zQ} {pc : Nat} {L : List (Option Value)} {st : List Value} {h : zH} {sz : Nat} {a n : Nat} {f : Nat → Int32} {v : Int32} (hd : zdec X pc = .ok (.arraylength, 1)) (ha : h a = some (zI n f)) (hv : Int32.ofNat n = v) (kk : Z D B X cs ss Q (pc + 1) L (.int v :: st) h sz) : Z D B X cs ss Q pc L (.ref a :: st) h sz := by
  subst hv
  intro p l e s m args below meth c H locs ls C hL hV hz hS
  exact W.alen (n := Int32.ofNat n) C.1 C.2.1 (hV a _ ha) ((C.2.2.2.2.2.2.2.1.1.2 0 (D.2.2.1 0, .int) rfl).1 n (fun j => .int (f j))) (by show (arrV _ _ _).slots.size.toInt32 = _; rw [arrV_size]) rfl rfl hd (kk p l e s m args below meth c H locs ls C hL hV hz hS)
set_option maxRecDepth 20000 in
theorem c_isU0 {D : zD} {B : Nat} {h : zH} {sz : Nat} {y : Int32}  : zRd D B xX4_isOrStandsUnder [.int 0, .int y] h sz (.int (oI (undK 0 y))) := by
  refine zM.of (by decide) rfl (n := 2) ?_
  show Z D B xX4_isOrStandsUnder 0 0 _ 0 [some (.int 0), some (.int y), none, none] [] h sz
  refine z_iload_n (pc := 0) (zk0 kX4_isOrStandsUnder_0) rfl ?_
  refine z_istore_n (pc := 1) (zk1 kX4_isOrStandsUnder_0) rfl rfl ?_
  show Z D B xX4_isOrStandsUnder _ _ _ 2 [some (.int 0), some (.int y), some (.int 0), none] _ _ _
  refine z_iconst (pc := 2) (zk2 kX4_isOrStandsUnder_0) (v := 0) (by decide) ?_
  refine z_istore_n (pc := 3) (zk3 kX4_isOrStandsUnder_0) rfl rfl ?_
  show Z D B xX4_isOrStandsUnder _ _ _ 4 [some (.int 0), some (.int y), some (.int 0), some (.int 0)] _ _ _
  refine z_iload_n (pc := 4) (zk4 kX4_isOrStandsUnder_0) rfl ?_
  refine z_under (pc := 5) (zk5 kX4_isOrStandsUnder_0) fsX4_375 ?_
  refine z_ulen (pc := 8) (zk6 kX4_isOrStandsUnder_0) ?_
  refine z_icmp_ge (pc := 9) (zk7 kX4_isOrStandsUnder_0) (tgt := 38) (by decide) (fun q => absurd q (by decide)) (fun _ => ?_)
  refine z_iload_n (pc := 12) (zk8 kX4_isOrStandsUnder_0) rfl ?_
  refine z_rdS (pc := 13) (zk9 kX4_isOrStandsUnder_0) (st := []) lkX4_109 isX4_noKind (c_noKind) rfl ⟨rfl, rfl⟩ rfl rfl ?_ rfl
  refine z_oif_ne (pc := 16) (zk10 kX4_isOrStandsUnder_0) (tgt := 38) (by decide) (fun q => by rw [(show (!okR 0 5 (0)) = false from by decide)] at q; cases q) (fun _ => ?_)
  refine z_iload_n (pc := 19) (zk11 kX4_isOrStandsUnder_0) rfl ?_
  refine z_iload_n (pc := 20) (zk12 kX4_isOrStandsUnder_0) rfl ?_
  refine z_icmp_ne (pc := 21) (zk13 kX4_isOrStandsUnder_0) (tgt := 26) (by decide) (fun c_1 => ?_) (fun c_1 => ?_)
  · refine z_under (pc := 26) (zk0 kX4_isOrStandsUnder_1) fsX4_375 ?_
    refine z_iload_n (pc := 29) (zk1 kX4_isOrStandsUnder_1) rfl ?_
    refine z_uld (pc := 30) (zk2 kX4_isOrStandsUnder_1) (v := underF 0) (vp_in_nI (n := 0) (N := 6) (by decide) (by decide)) rfl ?_
    refine z_top (congrArg Value.int (show underF 0 = (-1) from rfl)) ?_
    refine z_istore_n (pc := 31) (zk3 kX4_isOrStandsUnder_1) rfl rfl ?_
    show Z D B xX4_isOrStandsUnder _ _ _ 32 [some (.int 0), some (.int y), some (.int (-1)), some (.int 0)] _ _ _
    refine z_iinc (pc := 32) (zk4 kX4_isOrStandsUnder_1) (v := nI 1) rfl zinc rfl rfl ?_
    show Z D B xX4_isOrStandsUnder _ _ _ 35 [some (.int 0), some (.int y), some (.int (-1)), some (.int (nI 1))] _ _ _
    refine z_goto (pc := 35) (zk5 kX4_isOrStandsUnder_1) (tgt := 4) (by decide) ?_
    show Z D B xX4_isOrStandsUnder _ _ _ 4 [some (.int 0), some (.int y), some (.int (-1)), some (.int 1)] _ _ _
    refine z_iload_n (pc := 4) (zk4 kX4_isOrStandsUnder_0) rfl ?_
    refine z_under (pc := 5) (zk5 kX4_isOrStandsUnder_0) fsX4_375 ?_
    refine z_ulen (pc := 8) (zk6 kX4_isOrStandsUnder_0) ?_
    refine z_icmp_ge (pc := 9) (zk7 kX4_isOrStandsUnder_0) (tgt := 38) (by decide) (fun q => absurd q (by decide)) (fun _ => ?_)
    refine z_iload_n (pc := 12) (zk8 kX4_isOrStandsUnder_0) rfl ?_
    refine z_rdS (pc := 13) (zk9 kX4_isOrStandsUnder_0) (st := []) lkX4_109 isX4_noKind (c_noKind) rfl ⟨rfl, rfl⟩ rfl rfl ?_ rfl
    refine z_oif_ne (pc := 16) (zk10 kX4_isOrStandsUnder_0) (tgt := 38) (by decide) (fun _ => ?_) (fun q => by rw [(show (!okR 0 5 (-1)) = true from by decide)] at q; cases q)
    refine z_iconst (pc := 38) (zk6 kX4_isOrStandsUnder_1) (v := 0) (by decide) ?_
    exact z_zret (pc := 39) (zk7 kX4_isOrStandsUnder_1) rfl (Nat.zero_le _) (Nat.zero_le _) (by decide) ⟨by simp only [undK, oI]; simp [show ¬ y = 0 from fun q => c_1 q.symm, c_1], rfl, rfl⟩
  · refine z_iconst (pc := 24) (zk14 kX4_isOrStandsUnder_0) (v := 1) (by decide) ?_
    exact z_zret (pc := 25) (zk15 kX4_isOrStandsUnder_0) rfl (Nat.zero_le _) (Nat.zero_le _) (by decide) ⟨by rw [← c_1]; decide, rfl, rfl⟩
set_option maxRecDepth 20000 in
theorem c_isU1 {D : zD} {B : Nat} {h : zH} {sz : Nat} {y : Int32}  : zRd D B xX4_isOrStandsUnder [.int 1, .int y] h sz (.int (oI (undK 1 y))) := by
  refine zM.of (by decide) rfl (n := 2) ?_
  show Z D B xX4_isOrStandsUnder 0 0 _ 0 [some (.int 1), some (.int y), none, none] [] h sz
  refine z_iload_n (pc := 0) (zk0 kX4_isOrStandsUnder_0) rfl ?_
  refine z_istore_n (pc := 1) (zk1 kX4_isOrStandsUnder_0) rfl rfl ?_
  show Z D B xX4_isOrStandsUnder _ _ _ 2 [some (.int 1), some (.int y), some (.int 1), none] _ _ _
  refine z_iconst (pc := 2) (zk2 kX4_isOrStandsUnder_0) (v := 0) (by decide) ?_
  refine z_istore_n (pc := 3) (zk3 kX4_isOrStandsUnder_0) rfl rfl ?_
  show Z D B xX4_isOrStandsUnder _ _ _ 4 [some (.int 1), some (.int y), some (.int 1), some (.int 0)] _ _ _
  refine z_iload_n (pc := 4) (zk4 kX4_isOrStandsUnder_0) rfl ?_
  refine z_under (pc := 5) (zk5 kX4_isOrStandsUnder_0) fsX4_375 ?_
  refine z_ulen (pc := 8) (zk6 kX4_isOrStandsUnder_0) ?_
  refine z_icmp_ge (pc := 9) (zk7 kX4_isOrStandsUnder_0) (tgt := 38) (by decide) (fun q => absurd q (by decide)) (fun _ => ?_)
  refine z_iload_n (pc := 12) (zk8 kX4_isOrStandsUnder_0) rfl ?_
  refine z_rdS (pc := 13) (zk9 kX4_isOrStandsUnder_0) (st := []) lkX4_109 isX4_noKind (c_noKind) rfl ⟨rfl, rfl⟩ rfl rfl ?_ rfl
  refine z_oif_ne (pc := 16) (zk10 kX4_isOrStandsUnder_0) (tgt := 38) (by decide) (fun q => by rw [(show (!okR 0 5 (1)) = false from by decide)] at q; cases q) (fun _ => ?_)
  refine z_iload_n (pc := 19) (zk11 kX4_isOrStandsUnder_0) rfl ?_
  refine z_iload_n (pc := 20) (zk12 kX4_isOrStandsUnder_0) rfl ?_
  refine z_icmp_ne (pc := 21) (zk13 kX4_isOrStandsUnder_0) (tgt := 26) (by decide) (fun c_1 => ?_) (fun c_1 => ?_)
  · refine z_under (pc := 26) (zk0 kX4_isOrStandsUnder_1) fsX4_375 ?_
    refine z_iload_n (pc := 29) (zk1 kX4_isOrStandsUnder_1) rfl ?_
    refine z_uld (pc := 30) (zk2 kX4_isOrStandsUnder_1) (v := underF 1) (vp_in_nI (n := 1) (N := 6) (by decide) (by decide)) rfl ?_
    refine z_top (congrArg Value.int (show underF 1 = 0 from rfl)) ?_
    refine z_istore_n (pc := 31) (zk3 kX4_isOrStandsUnder_1) rfl rfl ?_
    show Z D B xX4_isOrStandsUnder _ _ _ 32 [some (.int 1), some (.int y), some (.int 0), some (.int 0)] _ _ _
    refine z_iinc (pc := 32) (zk4 kX4_isOrStandsUnder_1) (v := nI 1) rfl zinc rfl rfl ?_
    show Z D B xX4_isOrStandsUnder _ _ _ 35 [some (.int 1), some (.int y), some (.int 0), some (.int (nI 1))] _ _ _
    refine z_goto (pc := 35) (zk5 kX4_isOrStandsUnder_1) (tgt := 4) (by decide) ?_
    show Z D B xX4_isOrStandsUnder _ _ _ 4 [some (.int 1), some (.int y), some (.int 0), some (.int 1)] _ _ _
    refine z_iload_n (pc := 4) (zk4 kX4_isOrStandsUnder_0) rfl ?_
    refine z_under (pc := 5) (zk5 kX4_isOrStandsUnder_0) fsX4_375 ?_
    refine z_ulen (pc := 8) (zk6 kX4_isOrStandsUnder_0) ?_
    refine z_icmp_ge (pc := 9) (zk7 kX4_isOrStandsUnder_0) (tgt := 38) (by decide) (fun q => absurd q (by decide)) (fun _ => ?_)
    refine z_iload_n (pc := 12) (zk8 kX4_isOrStandsUnder_0) rfl ?_
    refine z_rdS (pc := 13) (zk9 kX4_isOrStandsUnder_0) (st := []) lkX4_109 isX4_noKind (c_noKind) rfl ⟨rfl, rfl⟩ rfl rfl ?_ rfl
    refine z_oif_ne (pc := 16) (zk10 kX4_isOrStandsUnder_0) (tgt := 38) (by decide) (fun q => by rw [(show (!okR 0 5 (0)) = false from by decide)] at q; cases q) (fun _ => ?_)
    refine z_iload_n (pc := 19) (zk11 kX4_isOrStandsUnder_0) rfl ?_
    refine z_iload_n (pc := 20) (zk12 kX4_isOrStandsUnder_0) rfl ?_
    refine z_icmp_ne (pc := 21) (zk13 kX4_isOrStandsUnder_0) (tgt := 26) (by decide) (fun c_2 => ?_) (fun c_2 => ?_)
    · refine z_under (pc := 26) (zk0 kX4_isOrStandsUnder_1) fsX4_375 ?_
      refine z_iload_n (pc := 29) (zk1 kX4_isOrStandsUnder_1) rfl ?_
      refine z_uld (pc := 30) (zk2 kX4_isOrStandsUnder_1) (v := underF 0) (vp_in_nI (n := 0) (N := 6) (by decide) (by decide)) rfl ?_
      refine z_top (congrArg Value.int (show underF 0 = (-1) from rfl)) ?_
      refine z_istore_n (pc := 31) (zk3 kX4_isOrStandsUnder_1) rfl rfl ?_
      show Z D B xX4_isOrStandsUnder _ _ _ 32 [some (.int 1), some (.int y), some (.int (-1)), some (.int 1)] _ _ _
      refine z_iinc (pc := 32) (zk4 kX4_isOrStandsUnder_1) (v := nI 2) rfl zinc rfl rfl ?_
      show Z D B xX4_isOrStandsUnder _ _ _ 35 [some (.int 1), some (.int y), some (.int (-1)), some (.int (nI 2))] _ _ _
      refine z_goto (pc := 35) (zk5 kX4_isOrStandsUnder_1) (tgt := 4) (by decide) ?_
      show Z D B xX4_isOrStandsUnder _ _ _ 4 [some (.int 1), some (.int y), some (.int (-1)), some (.int 2)] _ _ _
      refine z_iload_n (pc := 4) (zk4 kX4_isOrStandsUnder_0) rfl ?_
      refine z_under (pc := 5) (zk5 kX4_isOrStandsUnder_0) fsX4_375 ?_
      refine z_ulen (pc := 8) (zk6 kX4_isOrStandsUnder_0) ?_
      refine z_icmp_ge (pc := 9) (zk7 kX4_isOrStandsUnder_0) (tgt := 38) (by decide) (fun q => absurd q (by decide)) (fun _ => ?_)
      refine z_iload_n (pc := 12) (zk8 kX4_isOrStandsUnder_0) rfl ?_
      refine z_rdS (pc := 13) (zk9 kX4_isOrStandsUnder_0) (st := []) lkX4_109 isX4_noKind (c_noKind) rfl ⟨rfl, rfl⟩ rfl rfl ?_ rfl
      refine z_oif_ne (pc := 16) (zk10 kX4_isOrStandsUnder_0) (tgt := 38) (by decide) (fun _ => ?_) (fun q => by rw [(show (!okR 0 5 (-1)) = true from by decide)] at q; cases q)
      refine z_iconst (pc := 38) (zk6 kX4_isOrStandsUnder_1) (v := 0) (by decide) ?_
      exact z_zret (pc := 39) (zk7 kX4_isOrStandsUnder_1) rfl (Nat.zero_le _) (Nat.zero_le _) (by decide) ⟨by simp only [undK, oI]; simp [show ¬ y = 1 from fun q => c_1 q.symm, show ¬ y = 0 from fun q => c_2 q.symm, c_1, c_2], rfl, rfl⟩
    · refine z_iconst (pc := 24) (zk14 kX4_isOrStandsUnder_0) (v := 1) (by decide) ?_
      exact z_zret (pc := 25) (zk15 kX4_isOrStandsUnder_0) rfl (Nat.zero_le _) (Nat.zero_le _) (by decide) ⟨by rw [← c_2]; decide, rfl, rfl⟩
  · refine z_iconst (pc := 24) (zk14 kX4_isOrStandsUnder_0) (v := 1) (by decide) ?_
    exact z_zret (pc := 25) (zk15 kX4_isOrStandsUnder_0) rfl (Nat.zero_le _) (Nat.zero_le _) (by decide) ⟨by rw [← c_1]; decide, rfl, rfl⟩
set_option maxRecDepth 20000 in
theorem c_isU2 {D : zD} {B : Nat} {h : zH} {sz : Nat} {y : Int32}  : zRd D B xX4_isOrStandsUnder [.int 2, .int y] h sz (.int (oI (undK 2 y))) := by
  refine zM.of (by decide) rfl (n := 2) ?_
  show Z D B xX4_isOrStandsUnder 0 0 _ 0 [some (.int 2), some (.int y), none, none] [] h sz
  refine z_iload_n (pc := 0) (zk0 kX4_isOrStandsUnder_0) rfl ?_
  refine z_istore_n (pc := 1) (zk1 kX4_isOrStandsUnder_0) rfl rfl ?_
  show Z D B xX4_isOrStandsUnder _ _ _ 2 [some (.int 2), some (.int y), some (.int 2), none] _ _ _
  refine z_iconst (pc := 2) (zk2 kX4_isOrStandsUnder_0) (v := 0) (by decide) ?_
  refine z_istore_n (pc := 3) (zk3 kX4_isOrStandsUnder_0) rfl rfl ?_
  show Z D B xX4_isOrStandsUnder _ _ _ 4 [some (.int 2), some (.int y), some (.int 2), some (.int 0)] _ _ _
  refine z_iload_n (pc := 4) (zk4 kX4_isOrStandsUnder_0) rfl ?_
  refine z_under (pc := 5) (zk5 kX4_isOrStandsUnder_0) fsX4_375 ?_
  refine z_ulen (pc := 8) (zk6 kX4_isOrStandsUnder_0) ?_
  refine z_icmp_ge (pc := 9) (zk7 kX4_isOrStandsUnder_0) (tgt := 38) (by decide) (fun q => absurd q (by decide)) (fun _ => ?_)
  refine z_iload_n (pc := 12) (zk8 kX4_isOrStandsUnder_0) rfl ?_
  refine z_rdS (pc := 13) (zk9 kX4_isOrStandsUnder_0) (st := []) lkX4_109 isX4_noKind (c_noKind) rfl ⟨rfl, rfl⟩ rfl rfl ?_ rfl
  refine z_oif_ne (pc := 16) (zk10 kX4_isOrStandsUnder_0) (tgt := 38) (by decide) (fun q => by rw [(show (!okR 0 5 (2)) = false from by decide)] at q; cases q) (fun _ => ?_)
  refine z_iload_n (pc := 19) (zk11 kX4_isOrStandsUnder_0) rfl ?_
  refine z_iload_n (pc := 20) (zk12 kX4_isOrStandsUnder_0) rfl ?_
  refine z_icmp_ne (pc := 21) (zk13 kX4_isOrStandsUnder_0) (tgt := 26) (by decide) (fun c_1 => ?_) (fun c_1 => ?_)
  · refine z_under (pc := 26) (zk0 kX4_isOrStandsUnder_1) fsX4_375 ?_
    refine z_iload_n (pc := 29) (zk1 kX4_isOrStandsUnder_1) rfl ?_
    refine z_uld (pc := 30) (zk2 kX4_isOrStandsUnder_1) (v := underF 2) (vp_in_nI (n := 2) (N := 6) (by decide) (by decide)) rfl ?_
    refine z_top (congrArg Value.int (show underF 2 = 0 from rfl)) ?_
    refine z_istore_n (pc := 31) (zk3 kX4_isOrStandsUnder_1) rfl rfl ?_
    show Z D B xX4_isOrStandsUnder _ _ _ 32 [some (.int 2), some (.int y), some (.int 0), some (.int 0)] _ _ _
    refine z_iinc (pc := 32) (zk4 kX4_isOrStandsUnder_1) (v := nI 1) rfl zinc rfl rfl ?_
    show Z D B xX4_isOrStandsUnder _ _ _ 35 [some (.int 2), some (.int y), some (.int 0), some (.int (nI 1))] _ _ _
    refine z_goto (pc := 35) (zk5 kX4_isOrStandsUnder_1) (tgt := 4) (by decide) ?_
    show Z D B xX4_isOrStandsUnder _ _ _ 4 [some (.int 2), some (.int y), some (.int 0), some (.int 1)] _ _ _
    refine z_iload_n (pc := 4) (zk4 kX4_isOrStandsUnder_0) rfl ?_
    refine z_under (pc := 5) (zk5 kX4_isOrStandsUnder_0) fsX4_375 ?_
    refine z_ulen (pc := 8) (zk6 kX4_isOrStandsUnder_0) ?_
    refine z_icmp_ge (pc := 9) (zk7 kX4_isOrStandsUnder_0) (tgt := 38) (by decide) (fun q => absurd q (by decide)) (fun _ => ?_)
    refine z_iload_n (pc := 12) (zk8 kX4_isOrStandsUnder_0) rfl ?_
    refine z_rdS (pc := 13) (zk9 kX4_isOrStandsUnder_0) (st := []) lkX4_109 isX4_noKind (c_noKind) rfl ⟨rfl, rfl⟩ rfl rfl ?_ rfl
    refine z_oif_ne (pc := 16) (zk10 kX4_isOrStandsUnder_0) (tgt := 38) (by decide) (fun q => by rw [(show (!okR 0 5 (0)) = false from by decide)] at q; cases q) (fun _ => ?_)
    refine z_iload_n (pc := 19) (zk11 kX4_isOrStandsUnder_0) rfl ?_
    refine z_iload_n (pc := 20) (zk12 kX4_isOrStandsUnder_0) rfl ?_
    refine z_icmp_ne (pc := 21) (zk13 kX4_isOrStandsUnder_0) (tgt := 26) (by decide) (fun c_2 => ?_) (fun c_2 => ?_)
    · refine z_under (pc := 26) (zk0 kX4_isOrStandsUnder_1) fsX4_375 ?_
      refine z_iload_n (pc := 29) (zk1 kX4_isOrStandsUnder_1) rfl ?_
      refine z_uld (pc := 30) (zk2 kX4_isOrStandsUnder_1) (v := underF 0) (vp_in_nI (n := 0) (N := 6) (by decide) (by decide)) rfl ?_
      refine z_top (congrArg Value.int (show underF 0 = (-1) from rfl)) ?_
      refine z_istore_n (pc := 31) (zk3 kX4_isOrStandsUnder_1) rfl rfl ?_
      show Z D B xX4_isOrStandsUnder _ _ _ 32 [some (.int 2), some (.int y), some (.int (-1)), some (.int 1)] _ _ _
      refine z_iinc (pc := 32) (zk4 kX4_isOrStandsUnder_1) (v := nI 2) rfl zinc rfl rfl ?_
      show Z D B xX4_isOrStandsUnder _ _ _ 35 [some (.int 2), some (.int y), some (.int (-1)), some (.int (nI 2))] _ _ _
      refine z_goto (pc := 35) (zk5 kX4_isOrStandsUnder_1) (tgt := 4) (by decide) ?_
      show Z D B xX4_isOrStandsUnder _ _ _ 4 [some (.int 2), some (.int y), some (.int (-1)), some (.int 2)] _ _ _
      refine z_iload_n (pc := 4) (zk4 kX4_isOrStandsUnder_0) rfl ?_
      refine z_under (pc := 5) (zk5 kX4_isOrStandsUnder_0) fsX4_375 ?_
      refine z_ulen (pc := 8) (zk6 kX4_isOrStandsUnder_0) ?_
      refine z_icmp_ge (pc := 9) (zk7 kX4_isOrStandsUnder_0) (tgt := 38) (by decide) (fun q => absurd q (by decide)) (fun _ => ?_)
      refine z_iload_n (pc := 12) (zk8 kX4_isOrStandsUnder_0) rfl ?_
      refine z_rdS (pc := 13) (zk9 kX4_isOrStandsUnder_0) (st := []) lkX4_109 isX4_noKind (c_noKind) rfl ⟨rfl, rfl⟩ rfl rfl ?_ rfl
      refine z_oif_ne (pc := 16) (zk10 kX4_isOrStandsUnder_0) (tgt := 38) (by decide) (fun _ => ?_) (fun q => by rw [(show (!okR 0 5 (-1)) = true from by decide)] at q; cases q)
      refine z_iconst (pc := 38) (zk6 kX4_isOrStandsUnder_1) (v := 0) (by decide) ?_
      exact z_zret (pc := 39) (zk7 kX4_isOrStandsUnder_1) rfl (Nat.zero_le _) (Nat.zero_le _) (by decide) ⟨by simp only [undK, oI]; simp [show ¬ y = 2 from fun q => c_1 q.symm, show ¬ y = 0 from fun q => c_2 q.symm, c_1, c_2], rfl, rfl⟩
    · refine z_iconst (pc := 24) (zk14 kX4_isOrStandsUnder_0) (v := 1) (by decide) ?_
      exact z_zret (pc := 25) (zk15 kX4_isOrStandsUnder_0) rfl (Nat.zero_le _) (Nat.zero_le _) (by decide) ⟨by rw [← c_2]; decide, rfl, rfl⟩
  · refine z_iconst (pc := 24) (zk14 kX4_isOrStandsUnder_0) (v := 1) (by decide) ?_
    exact z_zret (pc := 25) (zk15 kX4_isOrStandsUnder_0) rfl (Nat.zero_le _) (Nat.zero_le _) (by decide) ⟨by rw [← c_1]; decide, rfl, rfl⟩
set_option maxRecDepth 20000 in
theorem c_isU3 {D : zD} {B : Nat} {h : zH} {sz : Nat} {y : Int32}  : zRd D B xX4_isOrStandsUnder [.int 3, .int y] h sz (.int (oI (undK 3 y))) := by
  refine zM.of (by decide) rfl (n := 2) ?_
  show Z D B xX4_isOrStandsUnder 0 0 _ 0 [some (.int 3), some (.int y), none, none] [] h sz
  refine z_iload_n (pc := 0) (zk0 kX4_isOrStandsUnder_0) rfl ?_
  refine z_istore_n (pc := 1) (zk1 kX4_isOrStandsUnder_0) rfl rfl ?_
  show Z D B xX4_isOrStandsUnder _ _ _ 2 [some (.int 3), some (.int y), some (.int 3), none] _ _ _
  refine z_iconst (pc := 2) (zk2 kX4_isOrStandsUnder_0) (v := 0) (by decide) ?_
  refine z_istore_n (pc := 3) (zk3 kX4_isOrStandsUnder_0) rfl rfl ?_
  show Z D B xX4_isOrStandsUnder _ _ _ 4 [some (.int 3), some (.int y), some (.int 3), some (.int 0)] _ _ _
  refine z_iload_n (pc := 4) (zk4 kX4_isOrStandsUnder_0) rfl ?_
  refine z_under (pc := 5) (zk5 kX4_isOrStandsUnder_0) fsX4_375 ?_
  refine z_ulen (pc := 8) (zk6 kX4_isOrStandsUnder_0) ?_
  refine z_icmp_ge (pc := 9) (zk7 kX4_isOrStandsUnder_0) (tgt := 38) (by decide) (fun q => absurd q (by decide)) (fun _ => ?_)
  refine z_iload_n (pc := 12) (zk8 kX4_isOrStandsUnder_0) rfl ?_
  refine z_rdS (pc := 13) (zk9 kX4_isOrStandsUnder_0) (st := []) lkX4_109 isX4_noKind (c_noKind) rfl ⟨rfl, rfl⟩ rfl rfl ?_ rfl
  refine z_oif_ne (pc := 16) (zk10 kX4_isOrStandsUnder_0) (tgt := 38) (by decide) (fun q => by rw [(show (!okR 0 5 (3)) = false from by decide)] at q; cases q) (fun _ => ?_)
  refine z_iload_n (pc := 19) (zk11 kX4_isOrStandsUnder_0) rfl ?_
  refine z_iload_n (pc := 20) (zk12 kX4_isOrStandsUnder_0) rfl ?_
  refine z_icmp_ne (pc := 21) (zk13 kX4_isOrStandsUnder_0) (tgt := 26) (by decide) (fun c_1 => ?_) (fun c_1 => ?_)
  · refine z_under (pc := 26) (zk0 kX4_isOrStandsUnder_1) fsX4_375 ?_
    refine z_iload_n (pc := 29) (zk1 kX4_isOrStandsUnder_1) rfl ?_
    refine z_uld (pc := 30) (zk2 kX4_isOrStandsUnder_1) (v := underF 3) (vp_in_nI (n := 3) (N := 6) (by decide) (by decide)) rfl ?_
    refine z_top (congrArg Value.int (show underF 3 = 1 from rfl)) ?_
    refine z_istore_n (pc := 31) (zk3 kX4_isOrStandsUnder_1) rfl rfl ?_
    show Z D B xX4_isOrStandsUnder _ _ _ 32 [some (.int 3), some (.int y), some (.int 1), some (.int 0)] _ _ _
    refine z_iinc (pc := 32) (zk4 kX4_isOrStandsUnder_1) (v := nI 1) rfl zinc rfl rfl ?_
    show Z D B xX4_isOrStandsUnder _ _ _ 35 [some (.int 3), some (.int y), some (.int 1), some (.int (nI 1))] _ _ _
    refine z_goto (pc := 35) (zk5 kX4_isOrStandsUnder_1) (tgt := 4) (by decide) ?_
    show Z D B xX4_isOrStandsUnder _ _ _ 4 [some (.int 3), some (.int y), some (.int 1), some (.int 1)] _ _ _
    refine z_iload_n (pc := 4) (zk4 kX4_isOrStandsUnder_0) rfl ?_
    refine z_under (pc := 5) (zk5 kX4_isOrStandsUnder_0) fsX4_375 ?_
    refine z_ulen (pc := 8) (zk6 kX4_isOrStandsUnder_0) ?_
    refine z_icmp_ge (pc := 9) (zk7 kX4_isOrStandsUnder_0) (tgt := 38) (by decide) (fun q => absurd q (by decide)) (fun _ => ?_)
    refine z_iload_n (pc := 12) (zk8 kX4_isOrStandsUnder_0) rfl ?_
    refine z_rdS (pc := 13) (zk9 kX4_isOrStandsUnder_0) (st := []) lkX4_109 isX4_noKind (c_noKind) rfl ⟨rfl, rfl⟩ rfl rfl ?_ rfl
    refine z_oif_ne (pc := 16) (zk10 kX4_isOrStandsUnder_0) (tgt := 38) (by decide) (fun q => by rw [(show (!okR 0 5 (1)) = false from by decide)] at q; cases q) (fun _ => ?_)
    refine z_iload_n (pc := 19) (zk11 kX4_isOrStandsUnder_0) rfl ?_
    refine z_iload_n (pc := 20) (zk12 kX4_isOrStandsUnder_0) rfl ?_
    refine z_icmp_ne (pc := 21) (zk13 kX4_isOrStandsUnder_0) (tgt := 26) (by decide) (fun c_2 => ?_) (fun c_2 => ?_)
    · refine z_under (pc := 26) (zk0 kX4_isOrStandsUnder_1) fsX4_375 ?_
      refine z_iload_n (pc := 29) (zk1 kX4_isOrStandsUnder_1) rfl ?_
      refine z_uld (pc := 30) (zk2 kX4_isOrStandsUnder_1) (v := underF 1) (vp_in_nI (n := 1) (N := 6) (by decide) (by decide)) rfl ?_
      refine z_top (congrArg Value.int (show underF 1 = 0 from rfl)) ?_
      refine z_istore_n (pc := 31) (zk3 kX4_isOrStandsUnder_1) rfl rfl ?_
      show Z D B xX4_isOrStandsUnder _ _ _ 32 [some (.int 3), some (.int y), some (.int 0), some (.int 1)] _ _ _
      refine z_iinc (pc := 32) (zk4 kX4_isOrStandsUnder_1) (v := nI 2) rfl zinc rfl rfl ?_
      show Z D B xX4_isOrStandsUnder _ _ _ 35 [some (.int 3), some (.int y), some (.int 0), some (.int (nI 2))] _ _ _
      refine z_goto (pc := 35) (zk5 kX4_isOrStandsUnder_1) (tgt := 4) (by decide) ?_
      show Z D B xX4_isOrStandsUnder _ _ _ 4 [some (.int 3), some (.int y), some (.int 0), some (.int 2)] _ _ _
      refine z_iload_n (pc := 4) (zk4 kX4_isOrStandsUnder_0) rfl ?_
      refine z_under (pc := 5) (zk5 kX4_isOrStandsUnder_0) fsX4_375 ?_
      refine z_ulen (pc := 8) (zk6 kX4_isOrStandsUnder_0) ?_
      refine z_icmp_ge (pc := 9) (zk7 kX4_isOrStandsUnder_0) (tgt := 38) (by decide) (fun q => absurd q (by decide)) (fun _ => ?_)
      refine z_iload_n (pc := 12) (zk8 kX4_isOrStandsUnder_0) rfl ?_
      refine z_rdS (pc := 13) (zk9 kX4_isOrStandsUnder_0) (st := []) lkX4_109 isX4_noKind (c_noKind) rfl ⟨rfl, rfl⟩ rfl rfl ?_ rfl
      refine z_oif_ne (pc := 16) (zk10 kX4_isOrStandsUnder_0) (tgt := 38) (by decide) (fun q => by rw [(show (!okR 0 5 (0)) = false from by decide)] at q; cases q) (fun _ => ?_)
      refine z_iload_n (pc := 19) (zk11 kX4_isOrStandsUnder_0) rfl ?_
      refine z_iload_n (pc := 20) (zk12 kX4_isOrStandsUnder_0) rfl ?_
      refine z_icmp_ne (pc := 21) (zk13 kX4_isOrStandsUnder_0) (tgt := 26) (by decide) (fun c_3 => ?_) (fun c_3 => ?_)
      · refine z_under (pc := 26) (zk0 kX4_isOrStandsUnder_1) fsX4_375 ?_
        refine z_iload_n (pc := 29) (zk1 kX4_isOrStandsUnder_1) rfl ?_
        refine z_uld (pc := 30) (zk2 kX4_isOrStandsUnder_1) (v := underF 0) (vp_in_nI (n := 0) (N := 6) (by decide) (by decide)) rfl ?_
        refine z_top (congrArg Value.int (show underF 0 = (-1) from rfl)) ?_
        refine z_istore_n (pc := 31) (zk3 kX4_isOrStandsUnder_1) rfl rfl ?_
        show Z D B xX4_isOrStandsUnder _ _ _ 32 [some (.int 3), some (.int y), some (.int (-1)), some (.int 2)] _ _ _
        refine z_iinc (pc := 32) (zk4 kX4_isOrStandsUnder_1) (v := nI 3) rfl zinc rfl rfl ?_
        show Z D B xX4_isOrStandsUnder _ _ _ 35 [some (.int 3), some (.int y), some (.int (-1)), some (.int (nI 3))] _ _ _
        refine z_goto (pc := 35) (zk5 kX4_isOrStandsUnder_1) (tgt := 4) (by decide) ?_
        show Z D B xX4_isOrStandsUnder _ _ _ 4 [some (.int 3), some (.int y), some (.int (-1)), some (.int 3)] _ _ _
        refine z_iload_n (pc := 4) (zk4 kX4_isOrStandsUnder_0) rfl ?_
        refine z_under (pc := 5) (zk5 kX4_isOrStandsUnder_0) fsX4_375 ?_
        refine z_ulen (pc := 8) (zk6 kX4_isOrStandsUnder_0) ?_
        refine z_icmp_ge (pc := 9) (zk7 kX4_isOrStandsUnder_0) (tgt := 38) (by decide) (fun q => absurd q (by decide)) (fun _ => ?_)
        refine z_iload_n (pc := 12) (zk8 kX4_isOrStandsUnder_0) rfl ?_
        refine z_rdS (pc := 13) (zk9 kX4_isOrStandsUnder_0) (st := []) lkX4_109 isX4_noKind (c_noKind) rfl ⟨rfl, rfl⟩ rfl rfl ?_ rfl
        refine z_oif_ne (pc := 16) (zk10 kX4_isOrStandsUnder_0) (tgt := 38) (by decide) (fun _ => ?_) (fun q => by rw [(show (!okR 0 5 (-1)) = true from by decide)] at q; cases q)
        refine z_iconst (pc := 38) (zk6 kX4_isOrStandsUnder_1) (v := 0) (by decide) ?_
        exact z_zret (pc := 39) (zk7 kX4_isOrStandsUnder_1) rfl (Nat.zero_le _) (Nat.zero_le _) (by decide) ⟨by simp only [undK, oI]; simp [show ¬ y = 3 from fun q => c_1 q.symm, show ¬ y = 1 from fun q => c_2 q.symm, show ¬ y = 0 from fun q => c_3 q.symm, c_1, c_2, c_3], rfl, rfl⟩
      · refine z_iconst (pc := 24) (zk14 kX4_isOrStandsUnder_0) (v := 1) (by decide) ?_
        exact z_zret (pc := 25) (zk15 kX4_isOrStandsUnder_0) rfl (Nat.zero_le _) (Nat.zero_le _) (by decide) ⟨by rw [← c_3]; decide, rfl, rfl⟩
    · refine z_iconst (pc := 24) (zk14 kX4_isOrStandsUnder_0) (v := 1) (by decide) ?_
      exact z_zret (pc := 25) (zk15 kX4_isOrStandsUnder_0) rfl (Nat.zero_le _) (Nat.zero_le _) (by decide) ⟨by rw [← c_2]; decide, rfl, rfl⟩
  · refine z_iconst (pc := 24) (zk14 kX4_isOrStandsUnder_0) (v := 1) (by decide) ?_
    exact z_zret (pc := 25) (zk15 kX4_isOrStandsUnder_0) rfl (Nat.zero_le _) (Nat.zero_le _) (by decide) ⟨by rw [← c_1]; decide, rfl, rfl⟩
set_option maxRecDepth 20000 in
theorem c_isU4 {D : zD} {B : Nat} {h : zH} {sz : Nat} {y : Int32}  : zRd D B xX4_isOrStandsUnder [.int 4, .int y] h sz (.int (oI (undK 4 y))) := by
  refine zM.of (by decide) rfl (n := 2) ?_
  show Z D B xX4_isOrStandsUnder 0 0 _ 0 [some (.int 4), some (.int y), none, none] [] h sz
  refine z_iload_n (pc := 0) (zk0 kX4_isOrStandsUnder_0) rfl ?_
  refine z_istore_n (pc := 1) (zk1 kX4_isOrStandsUnder_0) rfl rfl ?_
  show Z D B xX4_isOrStandsUnder _ _ _ 2 [some (.int 4), some (.int y), some (.int 4), none] _ _ _
  refine z_iconst (pc := 2) (zk2 kX4_isOrStandsUnder_0) (v := 0) (by decide) ?_
  refine z_istore_n (pc := 3) (zk3 kX4_isOrStandsUnder_0) rfl rfl ?_
  show Z D B xX4_isOrStandsUnder _ _ _ 4 [some (.int 4), some (.int y), some (.int 4), some (.int 0)] _ _ _
  refine z_iload_n (pc := 4) (zk4 kX4_isOrStandsUnder_0) rfl ?_
  refine z_under (pc := 5) (zk5 kX4_isOrStandsUnder_0) fsX4_375 ?_
  refine z_ulen (pc := 8) (zk6 kX4_isOrStandsUnder_0) ?_
  refine z_icmp_ge (pc := 9) (zk7 kX4_isOrStandsUnder_0) (tgt := 38) (by decide) (fun q => absurd q (by decide)) (fun _ => ?_)
  refine z_iload_n (pc := 12) (zk8 kX4_isOrStandsUnder_0) rfl ?_
  refine z_rdS (pc := 13) (zk9 kX4_isOrStandsUnder_0) (st := []) lkX4_109 isX4_noKind (c_noKind) rfl ⟨rfl, rfl⟩ rfl rfl ?_ rfl
  refine z_oif_ne (pc := 16) (zk10 kX4_isOrStandsUnder_0) (tgt := 38) (by decide) (fun q => by rw [(show (!okR 0 5 (4)) = false from by decide)] at q; cases q) (fun _ => ?_)
  refine z_iload_n (pc := 19) (zk11 kX4_isOrStandsUnder_0) rfl ?_
  refine z_iload_n (pc := 20) (zk12 kX4_isOrStandsUnder_0) rfl ?_
  refine z_icmp_ne (pc := 21) (zk13 kX4_isOrStandsUnder_0) (tgt := 26) (by decide) (fun c_1 => ?_) (fun c_1 => ?_)
  · refine z_under (pc := 26) (zk0 kX4_isOrStandsUnder_1) fsX4_375 ?_
    refine z_iload_n (pc := 29) (zk1 kX4_isOrStandsUnder_1) rfl ?_
    refine z_uld (pc := 30) (zk2 kX4_isOrStandsUnder_1) (v := underF 4) (vp_in_nI (n := 4) (N := 6) (by decide) (by decide)) rfl ?_
    refine z_top (congrArg Value.int (show underF 4 = 2 from rfl)) ?_
    refine z_istore_n (pc := 31) (zk3 kX4_isOrStandsUnder_1) rfl rfl ?_
    show Z D B xX4_isOrStandsUnder _ _ _ 32 [some (.int 4), some (.int y), some (.int 2), some (.int 0)] _ _ _
    refine z_iinc (pc := 32) (zk4 kX4_isOrStandsUnder_1) (v := nI 1) rfl zinc rfl rfl ?_
    show Z D B xX4_isOrStandsUnder _ _ _ 35 [some (.int 4), some (.int y), some (.int 2), some (.int (nI 1))] _ _ _
    refine z_goto (pc := 35) (zk5 kX4_isOrStandsUnder_1) (tgt := 4) (by decide) ?_
    show Z D B xX4_isOrStandsUnder _ _ _ 4 [some (.int 4), some (.int y), some (.int 2), some (.int 1)] _ _ _
    refine z_iload_n (pc := 4) (zk4 kX4_isOrStandsUnder_0) rfl ?_
    refine z_under (pc := 5) (zk5 kX4_isOrStandsUnder_0) fsX4_375 ?_
    refine z_ulen (pc := 8) (zk6 kX4_isOrStandsUnder_0) ?_
    refine z_icmp_ge (pc := 9) (zk7 kX4_isOrStandsUnder_0) (tgt := 38) (by decide) (fun q => absurd q (by decide)) (fun _ => ?_)
    refine z_iload_n (pc := 12) (zk8 kX4_isOrStandsUnder_0) rfl ?_
    refine z_rdS (pc := 13) (zk9 kX4_isOrStandsUnder_0) (st := []) lkX4_109 isX4_noKind (c_noKind) rfl ⟨rfl, rfl⟩ rfl rfl ?_ rfl
    refine z_oif_ne (pc := 16) (zk10 kX4_isOrStandsUnder_0) (tgt := 38) (by decide) (fun q => by rw [(show (!okR 0 5 (2)) = false from by decide)] at q; cases q) (fun _ => ?_)
    refine z_iload_n (pc := 19) (zk11 kX4_isOrStandsUnder_0) rfl ?_
    refine z_iload_n (pc := 20) (zk12 kX4_isOrStandsUnder_0) rfl ?_
    refine z_icmp_ne (pc := 21) (zk13 kX4_isOrStandsUnder_0) (tgt := 26) (by decide) (fun c_2 => ?_) (fun c_2 => ?_)
    · refine z_under (pc := 26) (zk0 kX4_isOrStandsUnder_1) fsX4_375 ?_
      refine z_iload_n (pc := 29) (zk1 kX4_isOrStandsUnder_1) rfl ?_
      refine z_uld (pc := 30) (zk2 kX4_isOrStandsUnder_1) (v := underF 2) (vp_in_nI (n := 2) (N := 6) (by decide) (by decide)) rfl ?_
      refine z_top (congrArg Value.int (show underF 2 = 0 from rfl)) ?_
      refine z_istore_n (pc := 31) (zk3 kX4_isOrStandsUnder_1) rfl rfl ?_
      show Z D B xX4_isOrStandsUnder _ _ _ 32 [some (.int 4), some (.int y), some (.int 0), some (.int 1)] _ _ _
      refine z_iinc (pc := 32) (zk4 kX4_isOrStandsUnder_1) (v := nI 2) rfl zinc rfl rfl ?_
      show Z D B xX4_isOrStandsUnder _ _ _ 35 [some (.int 4), some (.int y), some (.int 0), some (.int (nI 2))] _ _ _
      refine z_goto (pc := 35) (zk5 kX4_isOrStandsUnder_1) (tgt := 4) (by decide) ?_
      show Z D B xX4_isOrStandsUnder _ _ _ 4 [some (.int 4), some (.int y), some (.int 0), some (.int 2)] _ _ _
      refine z_iload_n (pc := 4) (zk4 kX4_isOrStandsUnder_0) rfl ?_
      refine z_under (pc := 5) (zk5 kX4_isOrStandsUnder_0) fsX4_375 ?_
      refine z_ulen (pc := 8) (zk6 kX4_isOrStandsUnder_0) ?_
      refine z_icmp_ge (pc := 9) (zk7 kX4_isOrStandsUnder_0) (tgt := 38) (by decide) (fun q => absurd q (by decide)) (fun _ => ?_)
      refine z_iload_n (pc := 12) (zk8 kX4_isOrStandsUnder_0) rfl ?_
      refine z_rdS (pc := 13) (zk9 kX4_isOrStandsUnder_0) (st := []) lkX4_109 isX4_noKind (c_noKind) rfl ⟨rfl, rfl⟩ rfl rfl ?_ rfl
      refine z_oif_ne (pc := 16) (zk10 kX4_isOrStandsUnder_0) (tgt := 38) (by decide) (fun q => by rw [(show (!okR 0 5 (0)) = false from by decide)] at q; cases q) (fun _ => ?_)
      refine z_iload_n (pc := 19) (zk11 kX4_isOrStandsUnder_0) rfl ?_
      refine z_iload_n (pc := 20) (zk12 kX4_isOrStandsUnder_0) rfl ?_
      refine z_icmp_ne (pc := 21) (zk13 kX4_isOrStandsUnder_0) (tgt := 26) (by decide) (fun c_3 => ?_) (fun c_3 => ?_)
      · refine z_under (pc := 26) (zk0 kX4_isOrStandsUnder_1) fsX4_375 ?_
        refine z_iload_n (pc := 29) (zk1 kX4_isOrStandsUnder_1) rfl ?_
        refine z_uld (pc := 30) (zk2 kX4_isOrStandsUnder_1) (v := underF 0) (vp_in_nI (n := 0) (N := 6) (by decide) (by decide)) rfl ?_
        refine z_top (congrArg Value.int (show underF 0 = (-1) from rfl)) ?_
        refine z_istore_n (pc := 31) (zk3 kX4_isOrStandsUnder_1) rfl rfl ?_
        show Z D B xX4_isOrStandsUnder _ _ _ 32 [some (.int 4), some (.int y), some (.int (-1)), some (.int 2)] _ _ _
        refine z_iinc (pc := 32) (zk4 kX4_isOrStandsUnder_1) (v := nI 3) rfl zinc rfl rfl ?_
        show Z D B xX4_isOrStandsUnder _ _ _ 35 [some (.int 4), some (.int y), some (.int (-1)), some (.int (nI 3))] _ _ _
        refine z_goto (pc := 35) (zk5 kX4_isOrStandsUnder_1) (tgt := 4) (by decide) ?_
        show Z D B xX4_isOrStandsUnder _ _ _ 4 [some (.int 4), some (.int y), some (.int (-1)), some (.int 3)] _ _ _
        refine z_iload_n (pc := 4) (zk4 kX4_isOrStandsUnder_0) rfl ?_
        refine z_under (pc := 5) (zk5 kX4_isOrStandsUnder_0) fsX4_375 ?_
        refine z_ulen (pc := 8) (zk6 kX4_isOrStandsUnder_0) ?_
        refine z_icmp_ge (pc := 9) (zk7 kX4_isOrStandsUnder_0) (tgt := 38) (by decide) (fun q => absurd q (by decide)) (fun _ => ?_)
        refine z_iload_n (pc := 12) (zk8 kX4_isOrStandsUnder_0) rfl ?_
        refine z_rdS (pc := 13) (zk9 kX4_isOrStandsUnder_0) (st := []) lkX4_109 isX4_noKind (c_noKind) rfl ⟨rfl, rfl⟩ rfl rfl ?_ rfl
        refine z_oif_ne (pc := 16) (zk10 kX4_isOrStandsUnder_0) (tgt := 38) (by decide) (fun _ => ?_) (fun q => by rw [(show (!okR 0 5 (-1)) = true from by decide)] at q; cases q)
        refine z_iconst (pc := 38) (zk6 kX4_isOrStandsUnder_1) (v := 0) (by decide) ?_
        exact z_zret (pc := 39) (zk7 kX4_isOrStandsUnder_1) rfl (Nat.zero_le _) (Nat.zero_le _) (by decide) ⟨by simp only [undK, oI]; simp [show ¬ y = 4 from fun q => c_1 q.symm, show ¬ y = 2 from fun q => c_2 q.symm, show ¬ y = 0 from fun q => c_3 q.symm, c_1, c_2, c_3], rfl, rfl⟩
      · refine z_iconst (pc := 24) (zk14 kX4_isOrStandsUnder_0) (v := 1) (by decide) ?_
        exact z_zret (pc := 25) (zk15 kX4_isOrStandsUnder_0) rfl (Nat.zero_le _) (Nat.zero_le _) (by decide) ⟨by rw [← c_3]; decide, rfl, rfl⟩
    · refine z_iconst (pc := 24) (zk14 kX4_isOrStandsUnder_0) (v := 1) (by decide) ?_
      exact z_zret (pc := 25) (zk15 kX4_isOrStandsUnder_0) rfl (Nat.zero_le _) (Nat.zero_le _) (by decide) ⟨by rw [← c_2]; decide, rfl, rfl⟩
  · refine z_iconst (pc := 24) (zk14 kX4_isOrStandsUnder_0) (v := 1) (by decide) ?_
    exact z_zret (pc := 25) (zk15 kX4_isOrStandsUnder_0) rfl (Nat.zero_le _) (Nat.zero_le _) (by decide) ⟨by rw [← c_1]; decide, rfl, rfl⟩
set_option maxRecDepth 20000 in
theorem c_isU5 {D : zD} {B : Nat} {h : zH} {sz : Nat} {y : Int32}  : zRd D B xX4_isOrStandsUnder [.int 5, .int y] h sz (.int (oI (undK 5 y))) := by
  refine zM.of (by decide) rfl (n := 2) ?_
  show Z D B xX4_isOrStandsUnder 0 0 _ 0 [some (.int 5), some (.int y), none, none] [] h sz
  refine z_iload_n (pc := 0) (zk0 kX4_isOrStandsUnder_0) rfl ?_
  refine z_istore_n (pc := 1) (zk1 kX4_isOrStandsUnder_0) rfl rfl ?_
  show Z D B xX4_isOrStandsUnder _ _ _ 2 [some (.int 5), some (.int y), some (.int 5), none] _ _ _
  refine z_iconst (pc := 2) (zk2 kX4_isOrStandsUnder_0) (v := 0) (by decide) ?_
  refine z_istore_n (pc := 3) (zk3 kX4_isOrStandsUnder_0) rfl rfl ?_
  show Z D B xX4_isOrStandsUnder _ _ _ 4 [some (.int 5), some (.int y), some (.int 5), some (.int 0)] _ _ _
  refine z_iload_n (pc := 4) (zk4 kX4_isOrStandsUnder_0) rfl ?_
  refine z_under (pc := 5) (zk5 kX4_isOrStandsUnder_0) fsX4_375 ?_
  refine z_ulen (pc := 8) (zk6 kX4_isOrStandsUnder_0) ?_
  refine z_icmp_ge (pc := 9) (zk7 kX4_isOrStandsUnder_0) (tgt := 38) (by decide) (fun q => absurd q (by decide)) (fun _ => ?_)
  refine z_iload_n (pc := 12) (zk8 kX4_isOrStandsUnder_0) rfl ?_
  refine z_rdS (pc := 13) (zk9 kX4_isOrStandsUnder_0) (st := []) lkX4_109 isX4_noKind (c_noKind) rfl ⟨rfl, rfl⟩ rfl rfl ?_ rfl
  refine z_oif_ne (pc := 16) (zk10 kX4_isOrStandsUnder_0) (tgt := 38) (by decide) (fun q => by rw [(show (!okR 0 5 (5)) = false from by decide)] at q; cases q) (fun _ => ?_)
  refine z_iload_n (pc := 19) (zk11 kX4_isOrStandsUnder_0) rfl ?_
  refine z_iload_n (pc := 20) (zk12 kX4_isOrStandsUnder_0) rfl ?_
  refine z_icmp_ne (pc := 21) (zk13 kX4_isOrStandsUnder_0) (tgt := 26) (by decide) (fun c_1 => ?_) (fun c_1 => ?_)
  · refine z_under (pc := 26) (zk0 kX4_isOrStandsUnder_1) fsX4_375 ?_
    refine z_iload_n (pc := 29) (zk1 kX4_isOrStandsUnder_1) rfl ?_
    refine z_uld (pc := 30) (zk2 kX4_isOrStandsUnder_1) (v := underF 5) (vp_in_nI (n := 5) (N := 6) (by decide) (by decide)) rfl ?_
    refine z_top (congrArg Value.int (show underF 5 = 0 from rfl)) ?_
    refine z_istore_n (pc := 31) (zk3 kX4_isOrStandsUnder_1) rfl rfl ?_
    show Z D B xX4_isOrStandsUnder _ _ _ 32 [some (.int 5), some (.int y), some (.int 0), some (.int 0)] _ _ _
    refine z_iinc (pc := 32) (zk4 kX4_isOrStandsUnder_1) (v := nI 1) rfl zinc rfl rfl ?_
    show Z D B xX4_isOrStandsUnder _ _ _ 35 [some (.int 5), some (.int y), some (.int 0), some (.int (nI 1))] _ _ _
    refine z_goto (pc := 35) (zk5 kX4_isOrStandsUnder_1) (tgt := 4) (by decide) ?_
    show Z D B xX4_isOrStandsUnder _ _ _ 4 [some (.int 5), some (.int y), some (.int 0), some (.int 1)] _ _ _
    refine z_iload_n (pc := 4) (zk4 kX4_isOrStandsUnder_0) rfl ?_
    refine z_under (pc := 5) (zk5 kX4_isOrStandsUnder_0) fsX4_375 ?_
    refine z_ulen (pc := 8) (zk6 kX4_isOrStandsUnder_0) ?_
    refine z_icmp_ge (pc := 9) (zk7 kX4_isOrStandsUnder_0) (tgt := 38) (by decide) (fun q => absurd q (by decide)) (fun _ => ?_)
    refine z_iload_n (pc := 12) (zk8 kX4_isOrStandsUnder_0) rfl ?_
    refine z_rdS (pc := 13) (zk9 kX4_isOrStandsUnder_0) (st := []) lkX4_109 isX4_noKind (c_noKind) rfl ⟨rfl, rfl⟩ rfl rfl ?_ rfl
    refine z_oif_ne (pc := 16) (zk10 kX4_isOrStandsUnder_0) (tgt := 38) (by decide) (fun q => by rw [(show (!okR 0 5 (0)) = false from by decide)] at q; cases q) (fun _ => ?_)
    refine z_iload_n (pc := 19) (zk11 kX4_isOrStandsUnder_0) rfl ?_
    refine z_iload_n (pc := 20) (zk12 kX4_isOrStandsUnder_0) rfl ?_
    refine z_icmp_ne (pc := 21) (zk13 kX4_isOrStandsUnder_0) (tgt := 26) (by decide) (fun c_2 => ?_) (fun c_2 => ?_)
    · refine z_under (pc := 26) (zk0 kX4_isOrStandsUnder_1) fsX4_375 ?_
      refine z_iload_n (pc := 29) (zk1 kX4_isOrStandsUnder_1) rfl ?_
      refine z_uld (pc := 30) (zk2 kX4_isOrStandsUnder_1) (v := underF 0) (vp_in_nI (n := 0) (N := 6) (by decide) (by decide)) rfl ?_
      refine z_top (congrArg Value.int (show underF 0 = (-1) from rfl)) ?_
      refine z_istore_n (pc := 31) (zk3 kX4_isOrStandsUnder_1) rfl rfl ?_
      show Z D B xX4_isOrStandsUnder _ _ _ 32 [some (.int 5), some (.int y), some (.int (-1)), some (.int 1)] _ _ _
      refine z_iinc (pc := 32) (zk4 kX4_isOrStandsUnder_1) (v := nI 2) rfl zinc rfl rfl ?_
      show Z D B xX4_isOrStandsUnder _ _ _ 35 [some (.int 5), some (.int y), some (.int (-1)), some (.int (nI 2))] _ _ _
      refine z_goto (pc := 35) (zk5 kX4_isOrStandsUnder_1) (tgt := 4) (by decide) ?_
      show Z D B xX4_isOrStandsUnder _ _ _ 4 [some (.int 5), some (.int y), some (.int (-1)), some (.int 2)] _ _ _
      refine z_iload_n (pc := 4) (zk4 kX4_isOrStandsUnder_0) rfl ?_
      refine z_under (pc := 5) (zk5 kX4_isOrStandsUnder_0) fsX4_375 ?_
      refine z_ulen (pc := 8) (zk6 kX4_isOrStandsUnder_0) ?_
      refine z_icmp_ge (pc := 9) (zk7 kX4_isOrStandsUnder_0) (tgt := 38) (by decide) (fun q => absurd q (by decide)) (fun _ => ?_)
      refine z_iload_n (pc := 12) (zk8 kX4_isOrStandsUnder_0) rfl ?_
      refine z_rdS (pc := 13) (zk9 kX4_isOrStandsUnder_0) (st := []) lkX4_109 isX4_noKind (c_noKind) rfl ⟨rfl, rfl⟩ rfl rfl ?_ rfl
      refine z_oif_ne (pc := 16) (zk10 kX4_isOrStandsUnder_0) (tgt := 38) (by decide) (fun _ => ?_) (fun q => by rw [(show (!okR 0 5 (-1)) = true from by decide)] at q; cases q)
      refine z_iconst (pc := 38) (zk6 kX4_isOrStandsUnder_1) (v := 0) (by decide) ?_
      exact z_zret (pc := 39) (zk7 kX4_isOrStandsUnder_1) rfl (Nat.zero_le _) (Nat.zero_le _) (by decide) ⟨by simp only [undK, oI]; simp [show ¬ y = 5 from fun q => c_1 q.symm, show ¬ y = 0 from fun q => c_2 q.symm, c_1, c_2], rfl, rfl⟩
    · refine z_iconst (pc := 24) (zk14 kX4_isOrStandsUnder_0) (v := 1) (by decide) ?_
      exact z_zret (pc := 25) (zk15 kX4_isOrStandsUnder_0) rfl (Nat.zero_le _) (Nat.zero_le _) (by decide) ⟨by rw [← c_2]; decide, rfl, rfl⟩
  · refine z_iconst (pc := 24) (zk14 kX4_isOrStandsUnder_0) (v := 1) (by decide) ?_
    exact z_zret (pc := 25) (zk15 kX4_isOrStandsUnder_0) rfl (Nat.zero_le _) (Nat.zero_le _) (by decide) ⟨by rw [← c_1]; decide, rfl, rfl⟩
theorem c_isU {D : zD} {B : Nat} {h : zH} {sz : Nat} {x y : Int32} (hx : ∃ k, k < 6 ∧ x = nI k) : zRd D B xX4_isOrStandsUnder [.int x, .int y] h sz (.int (oI (undK x y))) := by
  obtain ⟨k, hk, rfl⟩ := hx
  rcases (show k = 0 ∨ k = 1 ∨ k = 2 ∨ k = 3 ∨ k = 4 ∨ k = 5 by omega) with rfl | rfl | rfl | rfl | rfl | rfl
  · exact c_isU0
  · exact c_isU1
  · exact c_isU2
  · exact c_isU3
  · exact c_isU4
  · exact c_isU5
