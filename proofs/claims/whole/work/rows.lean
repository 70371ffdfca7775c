section
-- ===== PART A: goes FIRST, ahead of the names: the tables' words, and 'selects' of the private methods out of them =====
/-- a private method of a class that the tables say can be made, by its rows of tables_1 -/
def lw_okq (q : MethodName × Nat) : Prop := (q.1.cls ≠ "java/lang/invoke/MethodHandle" ∧ q.1.cls ≠ "java/lang/invoke/VarHandle") ∧ Cond.instantiable q.1.cls q.2 ∈ tables_1 ∧ Cond.privateMethod q.1 ∈ tables_1 ∧ Cond.instanceMethod q.1 ∈ tables_1
theorem lw_p0 : lw_okq (⟨"ReadOutAlongTheWay", "noShelf", "(I)Z"⟩, 7) := ⟨⟨by decide +kernel, by decide +kernel⟩, List.mem_of_getElem? (i := 15) (by decide +kernel), List.mem_of_getElem? (i := 193) (by decide +kernel), List.mem_of_getElem? (i := 194) (by decide +kernel)⟩
theorem lw_p1 : lw_okq (⟨"ReadOutAlongTheWay", "refuse", "(I)I"⟩, 7) := ⟨⟨by decide +kernel, by decide +kernel⟩, List.mem_of_getElem? (i := 15) (by decide +kernel), List.mem_of_getElem? (i := 200) (by decide +kernel), List.mem_of_getElem? (i := 201) (by decide +kernel)⟩
theorem lw_p2 : lw_okq (⟨"ReadOutAlongTheWay$Shelf", "asKept", "(J)J"⟩, 3) := ⟨⟨by decide +kernel, by decide +kernel⟩, List.mem_of_getElem? (i := 122) (by decide +kernel), List.mem_of_getElem? (i := 232) (by decide +kernel), List.mem_of_getElem? (i := 233) (by decide +kernel)⟩
theorem lw_p3 : lw_okq (⟨"ReadOutAlongTheWay", "noLetter", "(I)Z"⟩, 7) := ⟨⟨by decide +kernel, by decide +kernel⟩, List.mem_of_getElem? (i := 15) (by decide +kernel), List.mem_of_getElem? (i := 261) (by decide +kernel), List.mem_of_getElem? (i := 262) (by decide +kernel)⟩
theorem lw_p4 : lw_okq (⟨"ReadOutAlongTheWay$Lane", "heardWith", "(III)I"⟩, 14) := ⟨⟨by decide +kernel, by decide +kernel⟩, List.mem_of_getElem? (i := 23) (by decide +kernel), List.mem_of_getElem? (i := 301) (by decide +kernel), List.mem_of_getElem? (i := 302) (by decide +kernel)⟩
theorem lw_p5 : lw_okq (⟨"ReadOutAlongTheWay$Lane", "understands", "(II)Z"⟩, 14) := ⟨⟨by decide +kernel, by decide +kernel⟩, List.mem_of_getElem? (i := 23) (by decide +kernel), List.mem_of_getElem? (i := 312) (by decide +kernel), List.mem_of_getElem? (i := 313) (by decide +kernel)⟩
theorem lw_p6 : lw_okq (⟨"ReadOutAlongTheWay$Lane", "isNearTo", "(II)Z"⟩, 14) := ⟨⟨by decide +kernel, by decide +kernel⟩, List.mem_of_getElem? (i := 23) (by decide +kernel), List.mem_of_getElem? (i := 316) (by decide +kernel), List.mem_of_getElem? (i := 317) (by decide +kernel)⟩
theorem lw_p7 : lw_okq (⟨"ReadOutAlongTheWay", "noHouse", "(I)Z"⟩, 7) := ⟨⟨by decide +kernel, by decide +kernel⟩, List.mem_of_getElem? (i := 15) (by decide +kernel), List.mem_of_getElem? (i := 331) (by decide +kernel), List.mem_of_getElem? (i := 332) (by decide +kernel)⟩
theorem lw_p8 : lw_okq (⟨"ReadOutAlongTheWay$Tape", "step", "()V"⟩, 6) := ⟨⟨by decide +kernel, by decide +kernel⟩, List.mem_of_getElem? (i := 142) (by decide +kernel), List.mem_of_getElem? (i := 409) (by decide +kernel), List.mem_of_getElem? (i := 410) (by decide +kernel)⟩
theorem lw_p9 : lw_okq (⟨"ReadOutAlongTheWay$Tape", "sortAt", "(I)I"⟩, 6) := ⟨⟨by decide +kernel, by decide +kernel⟩, List.mem_of_getElem? (i := 142) (by decide +kernel), List.mem_of_getElem? (i := 413) (by decide +kernel), List.mem_of_getElem? (i := 414) (by decide +kernel)⟩
theorem lw_p10 : lw_okq (⟨"ReadOutAlongTheWay$Tape", "readStatement", "(LReadOutAlongTheWay$Lane;)V"⟩, 6) := ⟨⟨by decide +kernel, by decide +kernel⟩, List.mem_of_getElem? (i := 142) (by decide +kernel), List.mem_of_getElem? (i := 417) (by decide +kernel), List.mem_of_getElem? (i := 418) (by decide +kernel)⟩
theorem lw_p11 : lw_okq (⟨"ReadOutAlongTheWay$Tape", "blame", "(I)V"⟩, 6) := ⟨⟨by decide +kernel, by decide +kernel⟩, List.mem_of_getElem? (i := 142) (by decide +kernel), List.mem_of_getElem? (i := 421) (by decide +kernel), List.mem_of_getElem? (i := 422) (by decide +kernel)⟩
theorem lw_p12 : lw_okq (⟨"ReadOutAlongTheWay$Tape", "isWord", "(Ljava/lang/String;)Z"⟩, 6) := ⟨⟨by decide +kernel, by decide +kernel⟩, List.mem_of_getElem? (i := 142) (by decide +kernel), List.mem_of_getElem? (i := 426) (by decide +kernel), List.mem_of_getElem? (i := 427) (by decide +kernel)⟩
theorem lw_p13 : lw_okq (⟨"ReadOutAlongTheWay$Tape", "readHouses", "(LReadOutAlongTheWay$Lane;)V"⟩, 6) := ⟨⟨by decide +kernel, by decide +kernel⟩, List.mem_of_getElem? (i := 142) (by decide +kernel), List.mem_of_getElem? (i := 478) (by decide +kernel), List.mem_of_getElem? (i := 479) (by decide +kernel)⟩
theorem lw_p14 : lw_okq (⟨"ReadOutAlongTheWay$Tape", "readNumber", "(II)I"⟩, 6) := ⟨⟨by decide +kernel, by decide +kernel⟩, List.mem_of_getElem? (i := 142) (by decide +kernel), List.mem_of_getElem? (i := 482) (by decide +kernel), List.mem_of_getElem? (i := 483) (by decide +kernel)⟩
theorem lw_p15 : lw_okq (⟨"ReadOutAlongTheWay$Tape", "readLetter", "(LReadOutAlongTheWay$Lane;)V"⟩, 6) := ⟨⟨by decide +kernel, by decide +kernel⟩, List.mem_of_getElem? (i := 142) (by decide +kernel), List.mem_of_getElem? (i := 487) (by decide +kernel), List.mem_of_getElem? (i := 488) (by decide +kernel)⟩
def lw_privs_1 : List (MethodName × Nat) := [(⟨"ReadOutAlongTheWay", "noShelf", "(I)Z"⟩, 7), (⟨"ReadOutAlongTheWay", "refuse", "(I)I"⟩, 7), (⟨"ReadOutAlongTheWay$Shelf", "asKept", "(J)J"⟩, 3), (⟨"ReadOutAlongTheWay", "noLetter", "(I)Z"⟩, 7), (⟨"ReadOutAlongTheWay$Lane", "heardWith", "(III)I"⟩, 14), (⟨"ReadOutAlongTheWay$Lane", "understands", "(II)Z"⟩, 14), (⟨"ReadOutAlongTheWay$Lane", "isNearTo", "(II)Z"⟩, 14), (⟨"ReadOutAlongTheWay", "noHouse", "(I)Z"⟩, 7), (⟨"ReadOutAlongTheWay$Tape", "step", "()V"⟩, 6), (⟨"ReadOutAlongTheWay$Tape", "sortAt", "(I)I"⟩, 6), (⟨"ReadOutAlongTheWay$Tape", "readStatement", "(LReadOutAlongTheWay$Lane;)V"⟩, 6), (⟨"ReadOutAlongTheWay$Tape", "blame", "(I)V"⟩, 6), (⟨"ReadOutAlongTheWay$Tape", "isWord", "(Ljava/lang/String;)Z"⟩, 6), (⟨"ReadOutAlongTheWay$Tape", "readHouses", "(LReadOutAlongTheWay$Lane;)V"⟩, 6), (⟨"ReadOutAlongTheWay$Tape", "readNumber", "(II)I"⟩, 6), (⟨"ReadOutAlongTheWay$Tape", "readLetter", "(LReadOutAlongTheWay$Lane;)V"⟩, 6)]
theorem lw_r1 : ∀ q ∈ lw_privs_1, lw_okq q := List.forall_mem_cons.mpr ⟨lw_p0, List.forall_mem_cons.mpr ⟨lw_p1, List.forall_mem_cons.mpr ⟨lw_p2, List.forall_mem_cons.mpr ⟨lw_p3, List.forall_mem_cons.mpr ⟨lw_p4, List.forall_mem_cons.mpr ⟨lw_p5, List.forall_mem_cons.mpr ⟨lw_p6, List.forall_mem_cons.mpr ⟨lw_p7, List.forall_mem_cons.mpr ⟨lw_p8, List.forall_mem_cons.mpr ⟨lw_p9, List.forall_mem_cons.mpr ⟨lw_p10, List.forall_mem_cons.mpr ⟨lw_p11, List.forall_mem_cons.mpr ⟨lw_p12, List.forall_mem_cons.mpr ⟨lw_p13, List.forall_mem_cons.mpr ⟨lw_p14, List.forall_mem_cons.mpr ⟨lw_p15, fun _ h => absurd h List.not_mem_nil⟩⟩⟩⟩⟩⟩⟩⟩⟩⟩⟩⟩⟩⟩⟩⟩
theorem lw_p16 : lw_okq (⟨"ReadOutAlongTheWay$Tape", "readIntoHouse", "(LReadOutAlongTheWay$Lane;[I)V"⟩, 6) := ⟨⟨by decide +kernel, by decide +kernel⟩, List.mem_of_getElem? (i := 142) (by decide +kernel), List.mem_of_getElem? (i := 494) (by decide +kernel), List.mem_of_getElem? (i := 495) (by decide +kernel)⟩
theorem lw_p17 : lw_okq (⟨"ReadOutAlongTheWay$Tape", "readCode", "(LReadOutAlongTheWay$Lane;)V"⟩, 6) := ⟨⟨by decide +kernel, by decide +kernel⟩, List.mem_of_getElem? (i := 142) (by decide +kernel), List.mem_of_getElem? (i := 500) (by decide +kernel), List.mem_of_getElem? (i := 501) (by decide +kernel)⟩
theorem lw_p18 : lw_okq (⟨"ReadOutAlongTheWay$Tape", "readCold", "(LReadOutAlongTheWay$Lane;)V"⟩, 6) := ⟨⟨by decide +kernel, by decide +kernel⟩, List.mem_of_getElem? (i := 142) (by decide +kernel), List.mem_of_getElem? (i := 506) (by decide +kernel), List.mem_of_getElem? (i := 507) (by decide +kernel)⟩
theorem lw_p19 : lw_okq (⟨"ReadOutAlongTheWay", "noSet", "(I)Z"⟩, 7) := ⟨⟨by decide +kernel, by decide +kernel⟩, List.mem_of_getElem? (i := 15) (by decide +kernel), List.mem_of_getElem? (i := 600) (by decide +kernel), List.mem_of_getElem? (i := 601) (by decide +kernel)⟩
theorem lw_p20 : lw_okq (⟨"ReadOutAlongTheWay$Guess", "isHushed", "(II)Z"⟩, 3) := ⟨⟨by decide +kernel, by decide +kernel⟩, List.mem_of_getElem? (i := 101) (by decide +kernel), List.mem_of_getElem? (i := 618) (by decide +kernel), List.mem_of_getElem? (i := 619) (by decide +kernel)⟩
theorem lw_p21 : lw_okq (⟨"ReadOutAlongTheWay", "toldFault", "(IIIZ)I"⟩, 7) := ⟨⟨by decide +kernel, by decide +kernel⟩, List.mem_of_getElem? (i := 15) (by decide +kernel), List.mem_of_getElem? (i := 651) (by decide +kernel), List.mem_of_getElem? (i := 652) (by decide +kernel)⟩
theorem lw_p22 : lw_okq (⟨"ReadOutAlongTheWay$Guess", "fitsHeard", "(LReadOutAlongTheWay$Shelf;II)Z"⟩, 3) := ⟨⟨by decide +kernel, by decide +kernel⟩, List.mem_of_getElem? (i := 101) (by decide +kernel), List.mem_of_getElem? (i := 659) (by decide +kernel), List.mem_of_getElem? (i := 660) (by decide +kernel)⟩
theorem lw_p23 : lw_okq (⟨"ReadOutAlongTheWay$Guess", "mostLeft", "(II)I"⟩, 3) := ⟨⟨by decide +kernel, by decide +kernel⟩, List.mem_of_getElem? (i := 101) (by decide +kernel), List.mem_of_getElem? (i := 693) (by decide +kernel), List.mem_of_getElem? (i := 694) (by decide +kernel)⟩
theorem lw_p24 : lw_okq (⟨"ReadOutAlongTheWay$Guess", "fitsHouse", "(LReadOutAlongTheWay$Shelf;II)Z"⟩, 3) := ⟨⟨by decide +kernel, by decide +kernel⟩, List.mem_of_getElem? (i := 101) (by decide +kernel), List.mem_of_getElem? (i := 708) (by decide +kernel), List.mem_of_getElem? (i := 709) (by decide +kernel)⟩
theorem lw_p25 : lw_okq (⟨"ReadOutAlongTheWay", "noPouring", "(IIII)Z"⟩, 7) := ⟨⟨by decide +kernel, by decide +kernel⟩, List.mem_of_getElem? (i := 15) (by decide +kernel), List.mem_of_getElem? (i := 716) (by decide +kernel), List.mem_of_getElem? (i := 717) (by decide +kernel)⟩
theorem lw_p26 : lw_okq (⟨"ReadOutAlongTheWay", "dropMissingLetters", "()V"⟩, 7) := ⟨⟨by decide +kernel, by decide +kernel⟩, List.mem_of_getElem? (i := 15) (by decide +kernel), List.mem_of_getElem? (i := 898) (by decide +kernel), List.mem_of_getElem? (i := 899) (by decide +kernel)⟩
theorem lw_p27 : lw_okq (⟨"ReadOutAlongTheWay$Lane", "draw", "(I)I"⟩, 14) := ⟨⟨by decide +kernel, by decide +kernel⟩, List.mem_of_getElem? (i := 23) (by decide +kernel), List.mem_of_getElem? (i := 914) (by decide +kernel), List.mem_of_getElem? (i := 915) (by decide +kernel)⟩
theorem lw_p28 : lw_okq (⟨"ReadOutAlongTheWay", "shelvesInUse", "()I"⟩, 7) := ⟨⟨by decide +kernel, by decide +kernel⟩, List.mem_of_getElem? (i := 15) (by decide +kernel), List.mem_of_getElem? (i := 944) (by decide +kernel), List.mem_of_getElem? (i := 945) (by decide +kernel)⟩
theorem lw_p29 : lw_okq (⟨"ReadOutAlongTheWayModel", "refuse", "(I)I"⟩, 41) := ⟨⟨by decide +kernel, by decide +kernel⟩, List.mem_of_getElem? (i := 948) (by decide +kernel), List.mem_of_getElem? (i := 1090) (by decide +kernel), List.mem_of_getElem? (i := 1091) (by decide +kernel)⟩
theorem lw_p30 : lw_okq (⟨"ReadOutAlongTheWayModel", "noRow", "(I)I"⟩, 41) := ⟨⟨by decide +kernel, by decide +kernel⟩, List.mem_of_getElem? (i := 948) (by decide +kernel), List.mem_of_getElem? (i := 1098) (by decide +kernel), List.mem_of_getElem? (i := 1099) (by decide +kernel)⟩
theorem lw_p31 : lw_okq (⟨"ReadOutAlongTheWayModel", "isLetter", "(J)Z"⟩, 41) := ⟨⟨by decide +kernel, by decide +kernel⟩, List.mem_of_getElem? (i := 948) (by decide +kernel), List.mem_of_getElem? (i := 1121) (by decide +kernel), List.mem_of_getElem? (i := 1122) (by decide +kernel)⟩
def lw_privs_2 : List (MethodName × Nat) := [(⟨"ReadOutAlongTheWay$Tape", "readIntoHouse", "(LReadOutAlongTheWay$Lane;[I)V"⟩, 6), (⟨"ReadOutAlongTheWay$Tape", "readCode", "(LReadOutAlongTheWay$Lane;)V"⟩, 6), (⟨"ReadOutAlongTheWay$Tape", "readCold", "(LReadOutAlongTheWay$Lane;)V"⟩, 6), (⟨"ReadOutAlongTheWay", "noSet", "(I)Z"⟩, 7), (⟨"ReadOutAlongTheWay$Guess", "isHushed", "(II)Z"⟩, 3), (⟨"ReadOutAlongTheWay", "toldFault", "(IIIZ)I"⟩, 7), (⟨"ReadOutAlongTheWay$Guess", "fitsHeard", "(LReadOutAlongTheWay$Shelf;II)Z"⟩, 3), (⟨"ReadOutAlongTheWay$Guess", "mostLeft", "(II)I"⟩, 3), (⟨"ReadOutAlongTheWay$Guess", "fitsHouse", "(LReadOutAlongTheWay$Shelf;II)Z"⟩, 3), (⟨"ReadOutAlongTheWay", "noPouring", "(IIII)Z"⟩, 7), (⟨"ReadOutAlongTheWay", "dropMissingLetters", "()V"⟩, 7), (⟨"ReadOutAlongTheWay$Lane", "draw", "(I)I"⟩, 14), (⟨"ReadOutAlongTheWay", "shelvesInUse", "()I"⟩, 7), (⟨"ReadOutAlongTheWayModel", "refuse", "(I)I"⟩, 41), (⟨"ReadOutAlongTheWayModel", "noRow", "(I)I"⟩, 41), (⟨"ReadOutAlongTheWayModel", "isLetter", "(J)Z"⟩, 41)]
theorem lw_r2 : ∀ q ∈ lw_privs_2, lw_okq q := List.forall_mem_cons.mpr ⟨lw_p16, List.forall_mem_cons.mpr ⟨lw_p17, List.forall_mem_cons.mpr ⟨lw_p18, List.forall_mem_cons.mpr ⟨lw_p19, List.forall_mem_cons.mpr ⟨lw_p20, List.forall_mem_cons.mpr ⟨lw_p21, List.forall_mem_cons.mpr ⟨lw_p22, List.forall_mem_cons.mpr ⟨lw_p23, List.forall_mem_cons.mpr ⟨lw_p24, List.forall_mem_cons.mpr ⟨lw_p25, List.forall_mem_cons.mpr ⟨lw_p26, List.forall_mem_cons.mpr ⟨lw_p27, List.forall_mem_cons.mpr ⟨lw_p28, List.forall_mem_cons.mpr ⟨lw_p29, List.forall_mem_cons.mpr ⟨lw_p30, List.forall_mem_cons.mpr ⟨lw_p31, fun _ h => absurd h List.not_mem_nil⟩⟩⟩⟩⟩⟩⟩⟩⟩⟩⟩⟩⟩⟩⟩⟩
theorem lw_p32 : lw_okq (⟨"ReadOutAlongTheWayModel", "heardAt", "(II)I"⟩, 41) := ⟨⟨by decide +kernel, by decide +kernel⟩, List.mem_of_getElem? (i := 948) (by decide +kernel), List.mem_of_getElem? (i := 1133) (by decide +kernel), List.mem_of_getElem? (i := 1134) (by decide +kernel)⟩
theorem lw_p33 : lw_okq (⟨"ReadOutAlongTheWayModel", "readAt", "(II)Z"⟩, 41) := ⟨⟨by decide +kernel, by decide +kernel⟩, List.mem_of_getElem? (i := 948) (by decide +kernel), List.mem_of_getElem? (i := 1137) (by decide +kernel), List.mem_of_getElem? (i := 1138) (by decide +kernel)⟩
theorem lw_p34 : lw_okq (⟨"ReadOutAlongTheWayModel", "leftOut", "(I)I"⟩, 41) := ⟨⟨by decide +kernel, by decide +kernel⟩, List.mem_of_getElem? (i := 948) (by decide +kernel), List.mem_of_getElem? (i := 1141) (by decide +kernel), List.mem_of_getElem? (i := 1142) (by decide +kernel)⟩
theorem lw_p35 : lw_okq (⟨"ReadOutAlongTheWayModel", "tipsy", "(I)I"⟩, 41) := ⟨⟨by decide +kernel, by decide +kernel⟩, List.mem_of_getElem? (i := 948) (by decide +kernel), List.mem_of_getElem? (i := 1145) (by decide +kernel), List.mem_of_getElem? (i := 1146) (by decide +kernel)⟩
theorem lw_p36 : lw_okq (⟨"ReadOutAlongTheWayModel", "held", "(II)I"⟩, 41) := ⟨⟨by decide +kernel, by decide +kernel⟩, List.mem_of_getElem? (i := 948) (by decide +kernel), List.mem_of_getElem? (i := 1149) (by decide +kernel), List.mem_of_getElem? (i := 1150) (by decide +kernel)⟩
theorem lw_p37 : lw_okq (⟨"ReadOutAlongTheWayModel", "isHouse", "(I)Z"⟩, 41) := ⟨⟨by decide +kernel, by decide +kernel⟩, List.mem_of_getElem? (i := 948) (by decide +kernel), List.mem_of_getElem? (i := 1163) (by decide +kernel), List.mem_of_getElem? (i := 1164) (by decide +kernel)⟩
theorem lw_p38 : lw_okq (⟨"ReadOutAlongTheWayModel", "addLetter", "(IIII)V"⟩, 41) := ⟨⟨by decide +kernel, by decide +kernel⟩, List.mem_of_getElem? (i := 948) (by decide +kernel), List.mem_of_getElem? (i := 1167) (by decide +kernel), List.mem_of_getElem? (i := 1168) (by decide +kernel)⟩
theorem lw_p39 : lw_okq (⟨"ReadOutAlongTheWayModel", "setCode", "(IIZ)V"⟩, 41) := ⟨⟨by decide +kernel, by decide +kernel⟩, List.mem_of_getElem? (i := 948) (by decide +kernel), List.mem_of_getElem? (i := 1183) (by decide +kernel), List.mem_of_getElem? (i := 1184) (by decide +kernel)⟩
theorem lw_p40 : lw_okq (⟨"ReadOutAlongTheWayModel", "takeFrom", "(LReadOutAlongTheWayModel;)V"⟩, 41) := ⟨⟨by decide +kernel, by decide +kernel⟩, List.mem_of_getElem? (i := 948) (by decide +kernel), List.mem_of_getElem? (i := 1210) (by decide +kernel), List.mem_of_getElem? (i := 1211) (by decide +kernel)⟩
theorem lw_p41 : lw_okq (⟨"ReadOutAlongTheWayModel", "readAll", "()Z"⟩, 41) := ⟨⟨by decide +kernel, by decide +kernel⟩, List.mem_of_getElem? (i := 948) (by decide +kernel), List.mem_of_getElem? (i := 1217) (by decide +kernel), List.mem_of_getElem? (i := 1218) (by decide +kernel)⟩
theorem lw_p42 : lw_okq (⟨"ReadOutAlongTheWayModel", "look", "()V"⟩, 41) := ⟨⟨by decide +kernel, by decide +kernel⟩, List.mem_of_getElem? (i := 948) (by decide +kernel), List.mem_of_getElem? (i := 1221) (by decide +kernel), List.mem_of_getElem? (i := 1222) (by decide +kernel)⟩
theorem lw_p43 : lw_okq (⟨"ReadOutAlongTheWayModel", "statement", "()Z"⟩, 41) := ⟨⟨by decide +kernel, by decide +kernel⟩, List.mem_of_getElem? (i := 948) (by decide +kernel), List.mem_of_getElem? (i := 1231) (by decide +kernel), List.mem_of_getElem? (i := 1232) (by decide +kernel)⟩
theorem lw_p44 : lw_okq (⟨"ReadOutAlongTheWayModel", "isWord", "(Ljava/lang/String;)Z"⟩, 41) := ⟨⟨by decide +kernel, by decide +kernel⟩, List.mem_of_getElem? (i := 948) (by decide +kernel), List.mem_of_getElem? (i := 1236) (by decide +kernel), List.mem_of_getElem? (i := 1237) (by decide +kernel)⟩
theorem lw_p45 : lw_okq (⟨"ReadOutAlongTheWayModel", "tells", "(II)Z"⟩, 41) := ⟨⟨by decide +kernel, by decide +kernel⟩, List.mem_of_getElem? (i := 948) (by decide +kernel), List.mem_of_getElem? (i := 1242) (by decide +kernel), List.mem_of_getElem? (i := 1243) (by decide +kernel)⟩
theorem lw_p46 : lw_okq (⟨"ReadOutAlongTheWayModel", "number", "(III)Z"⟩, 41) := ⟨⟨by decide +kernel, by decide +kernel⟩, List.mem_of_getElem? (i := 948) (by decide +kernel), List.mem_of_getElem? (i := 1246) (by decide +kernel), List.mem_of_getElem? (i := 1247) (by decide +kernel)⟩
theorem lw_p47 : lw_okq (⟨"ReadOutAlongTheWayModel", "wrong", "()Z"⟩, 41) := ⟨⟨by decide +kernel, by decide +kernel⟩, List.mem_of_getElem? (i := 948) (by decide +kernel), List.mem_of_getElem? (i := 1250) (by decide +kernel), List.mem_of_getElem? (i := 1251) (by decide +kernel)⟩
def lw_privs_3 : List (MethodName × Nat) := [(⟨"ReadOutAlongTheWayModel", "heardAt", "(II)I"⟩, 41), (⟨"ReadOutAlongTheWayModel", "readAt", "(II)Z"⟩, 41), (⟨"ReadOutAlongTheWayModel", "leftOut", "(I)I"⟩, 41), (⟨"ReadOutAlongTheWayModel", "tipsy", "(I)I"⟩, 41), (⟨"ReadOutAlongTheWayModel", "held", "(II)I"⟩, 41), (⟨"ReadOutAlongTheWayModel", "isHouse", "(I)Z"⟩, 41), (⟨"ReadOutAlongTheWayModel", "addLetter", "(IIII)V"⟩, 41), (⟨"ReadOutAlongTheWayModel", "setCode", "(IIZ)V"⟩, 41), (⟨"ReadOutAlongTheWayModel", "takeFrom", "(LReadOutAlongTheWayModel;)V"⟩, 41), (⟨"ReadOutAlongTheWayModel", "readAll", "()Z"⟩, 41), (⟨"ReadOutAlongTheWayModel", "look", "()V"⟩, 41), (⟨"ReadOutAlongTheWayModel", "statement", "()Z"⟩, 41), (⟨"ReadOutAlongTheWayModel", "isWord", "(Ljava/lang/String;)Z"⟩, 41), (⟨"ReadOutAlongTheWayModel", "tells", "(II)Z"⟩, 41), (⟨"ReadOutAlongTheWayModel", "number", "(III)Z"⟩, 41), (⟨"ReadOutAlongTheWayModel", "wrong", "()Z"⟩, 41)]
theorem lw_r3 : ∀ q ∈ lw_privs_3, lw_okq q := List.forall_mem_cons.mpr ⟨lw_p32, List.forall_mem_cons.mpr ⟨lw_p33, List.forall_mem_cons.mpr ⟨lw_p34, List.forall_mem_cons.mpr ⟨lw_p35, List.forall_mem_cons.mpr ⟨lw_p36, List.forall_mem_cons.mpr ⟨lw_p37, List.forall_mem_cons.mpr ⟨lw_p38, List.forall_mem_cons.mpr ⟨lw_p39, List.forall_mem_cons.mpr ⟨lw_p40, List.forall_mem_cons.mpr ⟨lw_p41, List.forall_mem_cons.mpr ⟨lw_p42, List.forall_mem_cons.mpr ⟨lw_p43, List.forall_mem_cons.mpr ⟨lw_p44, List.forall_mem_cons.mpr ⟨lw_p45, List.forall_mem_cons.mpr ⟨lw_p46, List.forall_mem_cons.mpr ⟨lw_p47, fun _ h => absurd h List.not_mem_nil⟩⟩⟩⟩⟩⟩⟩⟩⟩⟩⟩⟩⟩⟩⟩⟩
theorem lw_p48 : lw_okq (⟨"ReadOutAlongTheWayModel", "tellsLetter", "()Z"⟩, 41) := ⟨⟨by decide +kernel, by decide +kernel⟩, List.mem_of_getElem? (i := 948) (by decide +kernel), List.mem_of_getElem? (i := 1255) (by decide +kernel), List.mem_of_getElem? (i := 1256) (by decide +kernel)⟩
theorem lw_p49 : lw_okq (⟨"ReadOutAlongTheWayModel", "tellsHouse", "()Z"⟩, 41) := ⟨⟨by decide +kernel, by decide +kernel⟩, List.mem_of_getElem? (i := 948) (by decide +kernel), List.mem_of_getElem? (i := 1262) (by decide +kernel), List.mem_of_getElem? (i := 1263) (by decide +kernel)⟩
theorem lw_p50 : lw_okq (⟨"ReadOutAlongTheWayModel", "areBoth", "(II)Z"⟩, 41) := ⟨⟨by decide +kernel, by decide +kernel⟩, List.mem_of_getElem? (i := 948) (by decide +kernel), List.mem_of_getElem? (i := 1282) (by decide +kernel), List.mem_of_getElem? (i := 1283) (by decide +kernel)⟩
theorem lw_p51 : lw_okq (⟨"ReadOutAlongTheWayModel", "knowers", "(I)I"⟩, 41) := ⟨⟨by decide +kernel, by decide +kernel⟩, List.mem_of_getElem? (i := 948) (by decide +kernel), List.mem_of_getElem? (i := 1294) (by decide +kernel), List.mem_of_getElem? (i := 1295) (by decide +kernel)⟩
theorem lw_p52 : lw_okq (⟨"ReadOutAlongTheWayModel", "knowsOf", "(II)Z"⟩, 41) := ⟨⟨by decide +kernel, by decide +kernel⟩, List.mem_of_getElem? (i := 948) (by decide +kernel), List.mem_of_getElem? (i := 1298) (by decide +kernel), List.mem_of_getElem? (i := 1299) (by decide +kernel)⟩
theorem lw_p53 : lw_okq (⟨"ReadOutAlongTheWayModel", "knownAt", "(I)I"⟩, 41) := ⟨⟨by decide +kernel, by decide +kernel⟩, List.mem_of_getElem? (i := 948) (by decide +kernel), List.mem_of_getElem? (i := 1306) (by decide +kernel), List.mem_of_getElem? (i := 1307) (by decide +kernel)⟩
theorem lw_p54 : lw_okq (⟨"ReadOutAlongTheWayModel", "wordsAt", "(I)I"⟩, 41) := ⟨⟨by decide +kernel, by decide +kernel⟩, List.mem_of_getElem? (i := 948) (by decide +kernel), List.mem_of_getElem? (i := 1314) (by decide +kernel), List.mem_of_getElem? (i := 1315) (by decide +kernel)⟩
theorem lw_p55 : lw_okq (⟨"ReadOutAlongTheWayModel", "isSet", "(I)Z"⟩, 41) := ⟨⟨by decide +kernel, by decide +kernel⟩, List.mem_of_getElem? (i := 948) (by decide +kernel), List.mem_of_getElem? (i := 1378) (by decide +kernel), List.mem_of_getElem? (i := 1379) (by decide +kernel)⟩
theorem lw_p56 : lw_okq (⟨"ReadOutAlongTheWayModel", "findHush", "(II)V"⟩, 41) := ⟨⟨by decide +kernel, by decide +kernel⟩, List.mem_of_getElem? (i := 948) (by decide +kernel), List.mem_of_getElem? (i := 1398) (by decide +kernel), List.mem_of_getElem? (i := 1399) (by decide +kernel)⟩
theorem lw_p57 : lw_okq (⟨"ReadOutAlongTheWayModel", "isHushed", "(II)Z"⟩, 41) := ⟨⟨by decide +kernel, by decide +kernel⟩, List.mem_of_getElem? (i := 948) (by decide +kernel), List.mem_of_getElem? (i := 1402) (by decide +kernel), List.mem_of_getElem? (i := 1403) (by decide +kernel)⟩
theorem lw_p58 : lw_okq (⟨"ReadOutAlongTheWayModel", "knowersTogether", "()I"⟩, 41) := ⟨⟨by decide +kernel, by decide +kernel⟩, List.mem_of_getElem? (i := 948) (by decide +kernel), List.mem_of_getElem? (i := 1426) (by decide +kernel), List.mem_of_getElem? (i := 1427) (by decide +kernel)⟩
theorem lw_p59 : lw_okq (⟨"ReadOutAlongTheWayModel", "noSounds", "(IIIZ)I"⟩, 41) := ⟨⟨by decide +kernel, by decide +kernel⟩, List.mem_of_getElem? (i := 948) (by decide +kernel), List.mem_of_getElem? (i := 1442) (by decide +kernel), List.mem_of_getElem? (i := 1443) (by decide +kernel)⟩
theorem lw_p60 : lw_okq (⟨"ReadOutAlongTheWayModel", "findLengths", "(III)V"⟩, 41) := ⟨⟨by decide +kernel, by decide +kernel⟩, List.mem_of_getElem? (i := 948) (by decide +kernel), List.mem_of_getElem? (i := 1446) (by decide +kernel), List.mem_of_getElem? (i := 1447) (by decide +kernel)⟩
theorem lw_p61 : lw_okq (⟨"ReadOutAlongTheWayModel", "sounds", "(III)Z"⟩, 41) := ⟨⟨by decide +kernel, by decide +kernel⟩, List.mem_of_getElem? (i := 948) (by decide +kernel), List.mem_of_getElem? (i := 1450) (by decide +kernel), List.mem_of_getElem? (i := 1451) (by decide +kernel)⟩
theorem lw_p62 : lw_okq (⟨"ReadOutAlongTheWayModel", "worstAt", "(II)I"⟩, 41) := ⟨⟨by decide +kernel, by decide +kernel⟩, List.mem_of_getElem? (i := 948) (by decide +kernel), List.mem_of_getElem? (i := 1462) (by decide +kernel), List.mem_of_getElem? (i := 1463) (by decide +kernel)⟩
theorem lw_p63 : lw_okq (⟨"ReadOutAlongTheWayModel", "mayPour", "(IIII)Z"⟩, 41) := ⟨⟨by decide +kernel, by decide +kernel⟩, List.mem_of_getElem? (i := 948) (by decide +kernel), List.mem_of_getElem? (i := 1474) (by decide +kernel), List.mem_of_getElem? (i := 1475) (by decide +kernel)⟩
def lw_privs_4 : List (MethodName × Nat) := [(⟨"ReadOutAlongTheWayModel", "tellsLetter", "()Z"⟩, 41), (⟨"ReadOutAlongTheWayModel", "tellsHouse", "()Z"⟩, 41), (⟨"ReadOutAlongTheWayModel", "areBoth", "(II)Z"⟩, 41), (⟨"ReadOutAlongTheWayModel", "knowers", "(I)I"⟩, 41), (⟨"ReadOutAlongTheWayModel", "knowsOf", "(II)Z"⟩, 41), (⟨"ReadOutAlongTheWayModel", "knownAt", "(I)I"⟩, 41), (⟨"ReadOutAlongTheWayModel", "wordsAt", "(I)I"⟩, 41), (⟨"ReadOutAlongTheWayModel", "isSet", "(I)Z"⟩, 41), (⟨"ReadOutAlongTheWayModel", "findHush", "(II)V"⟩, 41), (⟨"ReadOutAlongTheWayModel", "isHushed", "(II)Z"⟩, 41), (⟨"ReadOutAlongTheWayModel", "knowersTogether", "()I"⟩, 41), (⟨"ReadOutAlongTheWayModel", "noSounds", "(IIIZ)I"⟩, 41), (⟨"ReadOutAlongTheWayModel", "findLengths", "(III)V"⟩, 41), (⟨"ReadOutAlongTheWayModel", "sounds", "(III)Z"⟩, 41), (⟨"ReadOutAlongTheWayModel", "worstAt", "(II)I"⟩, 41), (⟨"ReadOutAlongTheWayModel", "mayPour", "(IIII)Z"⟩, 41)]
theorem lw_r4 : ∀ q ∈ lw_privs_4, lw_okq q := List.forall_mem_cons.mpr ⟨lw_p48, List.forall_mem_cons.mpr ⟨lw_p49, List.forall_mem_cons.mpr ⟨lw_p50, List.forall_mem_cons.mpr ⟨lw_p51, List.forall_mem_cons.mpr ⟨lw_p52, List.forall_mem_cons.mpr ⟨lw_p53, List.forall_mem_cons.mpr ⟨lw_p54, List.forall_mem_cons.mpr ⟨lw_p55, List.forall_mem_cons.mpr ⟨lw_p56, List.forall_mem_cons.mpr ⟨lw_p57, List.forall_mem_cons.mpr ⟨lw_p58, List.forall_mem_cons.mpr ⟨lw_p59, List.forall_mem_cons.mpr ⟨lw_p60, List.forall_mem_cons.mpr ⟨lw_p61, List.forall_mem_cons.mpr ⟨lw_p62, List.forall_mem_cons.mpr ⟨lw_p63, fun _ h => absurd h List.not_mem_nil⟩⟩⟩⟩⟩⟩⟩⟩⟩⟩⟩⟩⟩⟩⟩⟩
theorem lw_p64 : lw_okq (⟨"ReadOutAlongTheWayModel", "leastHeard", "(III)I"⟩, 41) := ⟨⟨by decide +kernel, by decide +kernel⟩, List.mem_of_getElem? (i := 948) (by decide +kernel), List.mem_of_getElem? (i := 1478) (by decide +kernel), List.mem_of_getElem? (i := 1479) (by decide +kernel)⟩
theorem lw_p65 : lw_okq (⟨"ReadOutAlongTheWayModel", "knowsBy", "(II)I"⟩, 41) := ⟨⟨by decide +kernel, by decide +kernel⟩, List.mem_of_getElem? (i := 948) (by decide +kernel), List.mem_of_getElem? (i := 1491) (by decide +kernel), List.mem_of_getElem? (i := 1492) (by decide +kernel)⟩
theorem lw_p66 : lw_okq (⟨"ReadOutAlongTheWayModel", "goesRound", "()V"⟩, 41) := ⟨⟨by decide +kernel, by decide +kernel⟩, List.mem_of_getElem? (i := 948) (by decide +kernel), List.mem_of_getElem? (i := 1507) (by decide +kernel), List.mem_of_getElem? (i := 1508) (by decide +kernel)⟩
theorem lw_p67 : lw_okq (⟨"ReadOutAlongTheWayModel", "shelvesFollow", "()V"⟩, 41) := ⟨⟨by decide +kernel, by decide +kernel⟩, List.mem_of_getElem? (i := 948) (by decide +kernel), List.mem_of_getElem? (i := 1511) (by decide +kernel), List.mem_of_getElem? (i := 1512) (by decide +kernel)⟩
theorem lw_p68 : lw_okq (⟨"ReadOutAlongTheWayModel", "earsTogether", "()I"⟩, 41) := ⟨⟨by decide +kernel, by decide +kernel⟩, List.mem_of_getElem? (i := 948) (by decide +kernel), List.mem_of_getElem? (i := 1515) (by decide +kernel), List.mem_of_getElem? (i := 1516) (by decide +kernel)⟩
theorem lw_p69 : lw_okq (⟨"ReadOutAlongTheWayModel", "below", "(I)I"⟩, 41) := ⟨⟨by decide +kernel, by decide +kernel⟩, List.mem_of_getElem? (i := 948) (by decide +kernel), List.mem_of_getElem? (i := 1524) (by decide +kernel), List.mem_of_getElem? (i := 1525) (by decide +kernel)⟩
def lw_privs_5 : List (MethodName × Nat) := [(⟨"ReadOutAlongTheWayModel", "leastHeard", "(III)I"⟩, 41), (⟨"ReadOutAlongTheWayModel", "knowsBy", "(II)I"⟩, 41), (⟨"ReadOutAlongTheWayModel", "goesRound", "()V"⟩, 41), (⟨"ReadOutAlongTheWayModel", "shelvesFollow", "()V"⟩, 41), (⟨"ReadOutAlongTheWayModel", "earsTogether", "()I"⟩, 41), (⟨"ReadOutAlongTheWayModel", "below", "(I)I"⟩, 41)]
theorem lw_r5 : ∀ q ∈ lw_privs_5, lw_okq q := List.forall_mem_cons.mpr ⟨lw_p64, List.forall_mem_cons.mpr ⟨lw_p65, List.forall_mem_cons.mpr ⟨lw_p66, List.forall_mem_cons.mpr ⟨lw_p67, List.forall_mem_cons.mpr ⟨lw_p68, List.forall_mem_cons.mpr ⟨lw_p69, fun _ h => absurd h List.not_mem_nil⟩⟩⟩⟩⟩⟩
def lw_privs : List (MethodName × Nat) := lw_privs_1 ++ (lw_privs_2 ++ (lw_privs_3 ++ (lw_privs_4 ++ (lw_privs_5))))
def lw_tbl : List Cond := k2_sels lw_privs ++ tables_1
theorem lw_privs_ok : ∀ q ∈ lw_privs, lw_okq q := by
  show ∀ q ∈ lw_privs_1 ++ (lw_privs_2 ++ (lw_privs_3 ++ (lw_privs_4 ++ (lw_privs_5)))), lw_okq q
  exact List.forall_mem_append.mpr ⟨lw_r1, List.forall_mem_append.mpr ⟨lw_r2, List.forall_mem_append.mpr ⟨lw_r3, List.forall_mem_append.mpr ⟨lw_r4, lw_r5⟩⟩⟩⟩
-- ===== end of PART A; then your names; then what follows =====
def RX0 : String := "ReadOutAlongTheWay$Guess"
def TX0 : u_T := fun k => match k with
  | 0 => ("ReadOutAlongTheWay$Guess", "lane", "LReadOutAlongTheWay$Lane;", true)
  | 1 => ("ReadOutAlongTheWay$Guess", "marked", "[Z", true)
  | _ => ("ReadOutAlongTheWay$Guess", "tally", "[I", true)
def tyX0 : Nat → FieldType := fun k => match k with
  | 0 => .object "ReadOutAlongTheWay$Lane"
  | 1 => .array .boolean
  | _ => .array .int
abbrev wsX00 : List Cond := u_ws RX0 TX0 3
theorem nmX0 : ∀ a, a < 3 → ∀ b, b < 3 → a ≠ b → (TX0 a).2.1 ≠ (TX0 b).2.1 := by decide +kernel
theorem tyX0_ok : ∀ k, k < 3 → parseFieldDescriptor (TX0 k).2.2.1 = some (tyX0 k) := by decide +kernel
abbrev cX0_init : ByteArray := prog_2_method_1_code
def yX0_init : MethodName := ⟨RX0, "<init>", "()V"⟩
abbrev cX0_freshFrom : ByteArray := prog_2_method_2_code
def yX0_freshFrom : MethodName := ⟨RX0, "freshFrom", "(LReadOutAlongTheWay$Lane;)LReadOutAlongTheWay$Lane;"⟩
abbrev cX0_addressFor : ByteArray := prog_2_method_3_code
def yX0_addressFor : MethodName := ⟨RX0, "addressFor", "(LReadOutAlongTheWay$Lane;II)I"⟩
abbrev cX0_leastHush : ByteArray := prog_2_method_4_code
def yX0_leastHush : MethodName := ⟨RX0, "leastHush", "(LReadOutAlongTheWay$Lane;II)I"⟩
abbrev cX0_hushHouse : ByteArray := prog_2_method_5_code
def yX0_hushHouse : MethodName := ⟨RX0, "hushHouse", "(LReadOutAlongTheWay$Lane;III)I"⟩
abbrev cX0_isHushed : ByteArray := prog_2_method_6_code
def yX0_isHushed : MethodName := ⟨RX0, "isHushed", "(II)Z"⟩
abbrev cX0_sealFor : ByteArray := prog_2_method_7_code
def yX0_sealFor : MethodName := ⟨RX0, "sealFor", "(LReadOutAlongTheWay$Lane;II)I"⟩
abbrev cX0_leastLength : ByteArray := prog_2_method_8_code
def yX0_leastLength : MethodName := ⟨RX0, "leastLength", "(LReadOutAlongTheWay$Lane;II)I"⟩
abbrev cX0_fitsHeard : ByteArray := prog_2_method_9_code
def yX0_fitsHeard : MethodName := ⟨RX0, "fitsHeard", "(LReadOutAlongTheWay$Shelf;II)Z"⟩
abbrev cX0_markLengths : ByteArray := prog_2_method_10_code
def yX0_markLengths : MethodName := ⟨RX0, "markLengths", "(LReadOutAlongTheWay$Lane;LReadOutAlongTheWay$Shelf;II)I"⟩
abbrev cX0_leastMarked : ByteArray := prog_2_method_11_code
def yX0_leastMarked : MethodName := ⟨RX0, "leastMarked", "()I"⟩
abbrev cX0_greatestMarked : ByteArray := prog_2_method_12_code
def yX0_greatestMarked : MethodName := ⟨RX0, "greatestMarked", "()I"⟩
abbrev cX0_bestParting : ByteArray := prog_2_method_13_code
def yX0_bestParting : MethodName := ⟨RX0, "bestParting", "(I)I"⟩
abbrev cX0_mostLeft : ByteArray := prog_2_method_14_code
def yX0_mostLeft : MethodName := ⟨RX0, "mostLeft", "(II)I"⟩
abbrev cX0_fittingKinds : ByteArray := prog_2_method_15_code
def yX0_fittingKinds : MethodName := ⟨RX0, "fittingKinds", "(LReadOutAlongTheWay$Lane;LReadOutAlongTheWay$Shelf;II)I"⟩
abbrev cX0_fittingTos : ByteArray := prog_2_method_16_code
def yX0_fittingTos : MethodName := ⟨RX0, "fittingTos", "(LReadOutAlongTheWay$Lane;LReadOutAlongTheWay$Shelf;II)I"⟩
abbrev cX0_fittingWinds : ByteArray := prog_2_method_17_code
def yX0_fittingWinds : MethodName := ⟨RX0, "fittingWinds", "(LReadOutAlongTheWay$Lane;LReadOutAlongTheWay$Shelf;II)I"⟩
abbrev cX0_fitsHouse : ByteArray := prog_2_method_18_code
def yX0_fitsHouse : MethodName := ⟨RX0, "fitsHouse", "(LReadOutAlongTheWay$Shelf;II)Z"⟩
abbrev cX0_bestDrink : ByteArray := prog_2_method_19_code
def yX0_bestDrink : MethodName := ⟨RX0, "bestDrink", "(LReadOutAlongTheWay$Lane;IIII)I"⟩
abbrev cX0_heardOfPoured : ByteArray := prog_2_method_20_code
def yX0_heardOfPoured : MethodName := ⟨RX0, "heardOfPoured", "(LReadOutAlongTheWay$Lane;IIIII)I"⟩
abbrev cX0_answerTo : ByteArray := prog_2_method_21_code
def yX0_answerTo : MethodName := ⟨RX0, "answerTo", "(LReadOutAlongTheWay$Lane;IIIII)I"⟩
abbrev cX0_windsOfKnowing : ByteArray := prog_2_method_22_code
def yX0_windsOfKnowing : MethodName := ⟨RX0, "windsOfKnowing", "(LReadOutAlongTheWay$Lane;II)I"⟩
abbrev cX0_sureKnowers : ByteArray := prog_2_method_23_code
def yX0_sureKnowers : MethodName := ⟨RX0, "sureKnowers", "(LReadOutAlongTheWay$Lane;I)I"⟩
abbrev cX0_knowersTurned : ByteArray := prog_2_method_24_code
def yX0_knowersTurned : MethodName := ⟨RX0, "knowersTurned", "(LReadOutAlongTheWay$Lane;I)I"⟩
abbrev cX0_leastCold : ByteArray := prog_2_method_25_code
def yX0_leastCold : MethodName := ⟨RX0, "leastCold", "(LReadOutAlongTheWay$Lane;II)I"⟩
abbrev cX0_widestTo : ByteArray := prog_2_method_26_code
def yX0_widestTo : MethodName := ⟨RX0, "widestTo", "(LReadOutAlongTheWay$Lane;I)I"⟩
abbrev cX0_knowersIfTo : ByteArray := prog_2_method_27_code
def yX0_knowersIfTo : MethodName := ⟨RX0, "knowersIfTo", "(LReadOutAlongTheWay$Lane;II)I"⟩
abbrev cX0_leastQuietWind : ByteArray := prog_2_method_28_code
def yX0_leastQuietWind : MethodName := ⟨RX0, "leastQuietWind", "(LReadOutAlongTheWay$Lane;I)I"⟩
abbrev cX0_knowersSober : ByteArray := prog_2_method_29_code
def yX0_knowersSober : MethodName := ⟨RX0, "knowersSober", "(LReadOutAlongTheWay$Lane;I)I"⟩
abbrev cX0_allKnowersIfDrink : ByteArray := prog_2_method_30_code
def yX0_allKnowersIfDrink : MethodName := ⟨RX0, "allKnowersIfDrink", "(LReadOutAlongTheWay$Lane;II)I"⟩
abbrev cX0_isKnownIfTaught : ByteArray := prog_2_method_31_code
def yX0_isKnownIfTaught : MethodName := ⟨RX0, "isKnownIfTaught", "(LReadOutAlongTheWay$Lane;II)Z"⟩
abbrev cX0_merriestHouse : ByteArray := prog_2_method_32_code
def yX0_merriestHouse : MethodName := ⟨RX0, "merriestHouse", "(LReadOutAlongTheWay$Lane;I)I"⟩
def RX1 : String := "ReadOutAlongTheWay$Lane"
def TX1 : u_T := fun k => match k with
  | 0 => ("ReadOutAlongTheWay$Lane", "houses", "I", false)
  | 1 => ("ReadOutAlongTheWay$Lane", "wind", "[I", true)
  | 2 => ("ReadOutAlongTheWay$Lane", "drink", "[I", true)
  | 3 => ("ReadOutAlongTheWay$Lane", "codes", "[I", true)
  | 4 => ("ReadOutAlongTheWay$Lane", "ears", "[I", true)
  | 5 => ("ReadOutAlongTheWay$Lane", "cold", "I", false)
  | 6 => ("ReadOutAlongTheWay$Lane", "back", "Z", false)
  | 7 => ("ReadOutAlongTheWay$Lane", "days", "I", false)
  | 8 => ("ReadOutAlongTheWay$Lane", "seed", "I", false)
  | 9 => ("ReadOutAlongTheWay$Lane", "letters", "I", false)
  | 10 => ("ReadOutAlongTheWay$Lane", "kind", "[I", true)
  | 11 => ("ReadOutAlongTheWay$Lane", "a", "[I", true)
  | 12 => ("ReadOutAlongTheWay$Lane", "to", "[I", true)
  | _ => ("ReadOutAlongTheWay$Lane", "length", "[I", true)
def tyX1 : Nat → FieldType := fun k => match k with
  | 0 => .int
  | 1 => .array .int
  | 2 => .array .int
  | 3 => .array .int
  | 4 => .array .int
  | 5 => .int
  | 6 => .boolean
  | 7 => .int
  | 8 => .int
  | 9 => .int
  | 10 => .array .int
  | 11 => .array .int
  | 12 => .array .int
  | _ => .array .int
abbrev wsX10 : List Cond := u_ws RX1 TX1 14
theorem nmX1 : ∀ a, a < 14 → ∀ b, b < 14 → a ≠ b → (TX1 a).2.1 ≠ (TX1 b).2.1 := by decide +kernel
theorem tyX1_ok : ∀ k, k < 14 → parseFieldDescriptor (TX1 k).2.2.1 = some (tyX1 k) := by decide +kernel
abbrev cX1_init : ByteArray := prog_3_method_1_code
def yX1_init : MethodName := ⟨RX1, "<init>", "()V"⟩
abbrev cX1_takeFrom : ByteArray := prog_3_method_2_code
def yX1_takeFrom : MethodName := ⟨RX1, "takeFrom", "(LReadOutAlongTheWay$Lane;)V"⟩
abbrev cX1_hasRoom : ByteArray := prog_3_method_3_code
def yX1_hasRoom : MethodName := ⟨RX1, "hasRoom", "()Z"⟩
abbrev cX1_addLetter : ByteArray := prog_3_method_4_code
def yX1_addLetter : MethodName := ⟨RX1, "addLetter", "(IIII)I"⟩
abbrev cX1_learn : ByteArray := prog_3_method_5_code
def yX1_learn : MethodName := ⟨RX1, "learn", "(II)V"⟩
abbrev cX1_houseAtStep : ByteArray := prog_3_method_6_code
def yX1_houseAtStep : MethodName := ⟨RX1, "houseAtStep", "(I)I"⟩
abbrev cX1_readAt : ByteArray := prog_3_method_7_code
def yX1_readAt : MethodName := ⟨RX1, "readAt", "(II)Z"⟩
abbrev cX1_tipsyAt : ByteArray := prog_3_method_8_code
def yX1_tipsyAt : MethodName := ⟨RX1, "tipsyAt", "(I)I"⟩
abbrev cX1_leftOutAfter : ByteArray := prog_3_method_9_code
def yX1_leftOutAfter : MethodName := ⟨RX1, "leftOutAfter", "(I)I"⟩
abbrev cX1_heardAt : ByteArray := prog_3_method_10_code
def yX1_heardAt : MethodName := ⟨RX1, "heardAt", "(II)I"⟩
abbrev cX1_heardWith : ByteArray := prog_3_method_11_code
def yX1_heardWith : MethodName := ⟨RX1, "heardWith", "(III)I"⟩
abbrev cX1_within : ByteArray := prog_3_method_12_code
def yX1_within : MethodName := ⟨RX1, "within", "(II)I"⟩
abbrev cX1_understands : ByteArray := prog_3_method_13_code
def yX1_understands : MethodName := ⟨RX1, "understands", "(II)Z"⟩
abbrev cX1_isNearTo : ByteArray := prog_3_method_14_code
def yX1_isNearTo : MethodName := ⟨RX1, "isNearTo", "(II)Z"⟩
abbrev cX1_isKnown : ByteArray := prog_3_method_15_code
def yX1_isKnown : MethodName := ⟨RX1, "isKnown", "(II)Z"⟩
abbrev cX1_knowers : ByteArray := prog_3_method_16_code
def yX1_knowers : MethodName := ⟨RX1, "knowers", "(I)I"⟩
abbrev cX1_allKnowers : ByteArray := prog_3_method_17_code
def yX1_allKnowers : MethodName := ⟨RX1, "allKnowers", "()I"⟩
abbrev cX1_knownAt : ByteArray := prog_3_method_18_code
def yX1_knownAt : MethodName := ⟨RX1, "knownAt", "(I)I"⟩
abbrev cX1_lettersReadAt : ByteArray := prog_3_method_19_code
def yX1_lettersReadAt : MethodName := ⟨RX1, "lettersReadAt", "(I)I"⟩
abbrev cX1_endKnower : ByteArray := prog_3_method_20_code
def yX1_endKnower : MethodName := ⟨RX1, "endKnower", "(IZ)I"⟩
abbrev cX1_loudestAt : ByteArray := prog_3_method_21_code
def yX1_loudestAt : MethodName := ⟨RX1, "loudestAt", "(I)I"⟩
abbrev cX1_wordsAt : ByteArray := prog_3_method_22_code
def yX1_wordsAt : MethodName := ⟨RX1, "wordsAt", "(I)I"⟩
abbrev cX1_houseWithMost : ByteArray := prog_3_method_23_code
def yX1_houseWithMost : MethodName := ⟨RX1, "houseWithMost", "()I"⟩
abbrev cX1_houseWithFewest : ByteArray := prog_3_method_24_code
def yX1_houseWithFewest : MethodName := ⟨RX1, "houseWithFewest", "()I"⟩
abbrev cX1_allDrink : ByteArray := prog_3_method_25_code
def yX1_allDrink : MethodName := ⟨RX1, "allDrink", "()I"⟩
abbrev cX1_allEars : ByteArray := prog_3_method_26_code
def yX1_allEars : MethodName := ⟨RX1, "allEars", "()I"⟩
abbrev cX1_goRound : ByteArray := prog_3_method_27_code
def yX1_goRound : MethodName := ⟨RX1, "goRound", "()V"⟩
abbrev cX1_goDrawnDay : ByteArray := prog_3_method_28_code
def yX1_goDrawnDay : MethodName := ⟨RX1, "goDrawnDay", "()V"⟩
abbrev cX1_draw : ByteArray := prog_3_method_29_code
def yX1_draw : MethodName := ⟨RX1, "draw", "(I)I"⟩
def RX2 : String := "ReadOutAlongTheWay$Shelf"
def TX2 : u_T := fun k => match k with
  | 0 => ("ReadOutAlongTheWay$Shelf", "held", "I", false)
  | 1 => ("ReadOutAlongTheWay$Shelf", "size", "I", false)
  | _ => ("ReadOutAlongTheWay$Shelf", "elements", "[J", true)
def tyX2 : Nat → FieldType := fun k => match k with
  | 0 => .int
  | 1 => .int
  | _ => .array .long
abbrev wsX20 : List Cond := u_ws RX2 TX2 3
theorem nmX2 : ∀ a, a < 3 → ∀ b, b < 3 → a ≠ b → (TX2 a).2.1 ≠ (TX2 b).2.1 := by decide +kernel
theorem tyX2_ok : ∀ k, k < 3 → parseFieldDescriptor (TX2 k).2.2.1 = some (tyX2 k) := by decide +kernel
abbrev cX2_init : ByteArray := prog_4_method_1_code
def yX2_init : MethodName := ⟨RX2, "<init>", "()V"⟩
abbrev cX2_clearOut : ByteArray := prog_4_method_2_code
def yX2_clearOut : MethodName := ⟨RX2, "clearOut", "()V"⟩
abbrev cX2_takeLetter : ByteArray := prog_4_method_3_code
def yX2_takeLetter : MethodName := ⟨RX2, "takeLetter", "(I)V"⟩
abbrev cX2_takeRow : ByteArray := prog_4_method_4_code
def yX2_takeRow : MethodName := ⟨RX2, "takeRow", "(II)V"⟩
abbrev cX2_holdsNothing : ByteArray := prog_4_method_5_code
def yX2_holdsNothing : MethodName := ⟨RX2, "holdsNothing", "()Z"⟩
abbrev cX2_holdsLetter : ByteArray := prog_4_method_6_code
def yX2_holdsLetter : MethodName := ⟨RX2, "holdsLetter", "()Z"⟩
abbrev cX2_shownLetter : ByteArray := prog_4_method_7_code
def yX2_shownLetter : MethodName := ⟨RX2, "shownLetter", "()I"⟩
abbrev cX2_hasElement : ByteArray := prog_4_method_8_code
def yX2_hasElement : MethodName := ⟨RX2, "hasElement", "(I)Z"⟩
abbrev cX2_hasPart : ByteArray := prog_4_method_9_code
def yX2_hasPart : MethodName := ⟨RX2, "hasPart", "(II)Z"⟩
abbrev cX2_rowFault : ByteArray := prog_4_method_10_code
def yX2_rowFault : MethodName := ⟨RX2, "rowFault", "(I)I"⟩
abbrev cX2_put : ByteArray := prog_4_method_11_code
def yX2_put : MethodName := ⟨RX2, "put", "(IJ)V"⟩
abbrev cX2_asKept : ByteArray := prog_4_method_12_code
def yX2_asKept : MethodName := ⟨RX2, "asKept", "(J)J"⟩
def RX3 : String := "ReadOutAlongTheWay$Tape"
def TX3 : u_T := fun k => match k with
  | 0 => ("ReadOutAlongTheWay$Tape", "bytes", "[I", true)
  | 1 => ("ReadOutAlongTheWay$Tape", "size", "I", false)
  | 2 => ("ReadOutAlongTheWay$Tape", "token", "I", false)
  | 3 => ("ReadOutAlongTheWay$Tape", "start", "I", false)
  | 4 => ("ReadOutAlongTheWay$Tape", "end", "I", false)
  | _ => ("ReadOutAlongTheWay$Tape", "fault", "I", false)
def tyX3 : Nat → FieldType := fun k => match k with
  | 0 => .array .int
  | 1 => .int
  | 2 => .int
  | 3 => .int
  | 4 => .int
  | _ => .int
abbrev wsX30 : List Cond := u_ws RX3 TX3 6
theorem nmX3 : ∀ a, a < 6 → ∀ b, b < 6 → a ≠ b → (TX3 a).2.1 ≠ (TX3 b).2.1 := by decide +kernel
theorem tyX3_ok : ∀ k, k < 6 → parseFieldDescriptor (TX3 k).2.2.1 = some (tyX3 k) := by decide +kernel
abbrev cX3_init : ByteArray := prog_5_method_1_code
def yX3_init : MethodName := ⟨RX3, "<init>", "()V"⟩
abbrev cX3_hasRoom : ByteArray := prog_5_method_2_code
def yX3_hasRoom : MethodName := ⟨RX3, "hasRoom", "()Z"⟩
abbrev cX3_append : ByteArray := prog_5_method_3_code
def yX3_append : MethodName := ⟨RX3, "append", "(I)I"⟩
abbrev cX3_empty : ByteArray := prog_5_method_4_code
def yX3_empty : MethodName := ⟨RX3, "empty", "()I"⟩
abbrev cX3_size : ByteArray := prog_5_method_5_code
def yX3_size : MethodName := ⟨RX3, "size", "()I"⟩
abbrev cX3_fault : ByteArray := prog_5_method_6_code
def yX3_fault : MethodName := ⟨RX3, "fault", "()I"⟩
abbrev cX3_readInto : ByteArray := prog_5_method_7_code
def yX3_readInto : MethodName := ⟨RX3, "readInto", "(LReadOutAlongTheWay$Lane;)I"⟩
abbrev cX3_blame : ByteArray := prog_5_method_8_code
def yX3_blame : MethodName := ⟨RX3, "blame", "(I)V"⟩
abbrev cX3_readStatement : ByteArray := prog_5_method_9_code
def yX3_readStatement : MethodName := ⟨RX3, "readStatement", "(LReadOutAlongTheWay$Lane;)V"⟩
abbrev cX3_readHouses : ByteArray := prog_5_method_10_code
def yX3_readHouses : MethodName := ⟨RX3, "readHouses", "(LReadOutAlongTheWay$Lane;)V"⟩
abbrev cX3_readLetter : ByteArray := prog_5_method_11_code
def yX3_readLetter : MethodName := ⟨RX3, "readLetter", "(LReadOutAlongTheWay$Lane;)V"⟩
abbrev cX3_readIntoHouse : ByteArray := prog_5_method_12_code
def yX3_readIntoHouse : MethodName := ⟨RX3, "readIntoHouse", "(LReadOutAlongTheWay$Lane;[I)V"⟩
abbrev cX3_readCode : ByteArray := prog_5_method_13_code
def yX3_readCode : MethodName := ⟨RX3, "readCode", "(LReadOutAlongTheWay$Lane;)V"⟩
abbrev cX3_readCold : ByteArray := prog_5_method_14_code
def yX3_readCold : MethodName := ⟨RX3, "readCold", "(LReadOutAlongTheWay$Lane;)V"⟩
abbrev cX3_readNumber : ByteArray := prog_5_method_15_code
def yX3_readNumber : MethodName := ⟨RX3, "readNumber", "(II)I"⟩
abbrev cX3_step : ByteArray := prog_5_method_16_code
def yX3_step : MethodName := ⟨RX3, "step", "()V"⟩
abbrev cX3_sortAt : ByteArray := prog_5_method_17_code
def yX3_sortAt : MethodName := ⟨RX3, "sortAt", "(I)I"⟩
abbrev cX3_isWord : ByteArray := prog_5_method_18_code
def yX3_isWord : MethodName := ⟨RX3, "isWord", "(Ljava/lang/String;)Z"⟩
def RX4 : String := "ReadOutAlongTheWay"
def TX4 : u_T := fun k => match k with
  | 0 => ("ReadOutAlongTheWay", "now", "LReadOutAlongTheWay$Lane;", true)
  | 1 => ("ReadOutAlongTheWay", "kept", "LReadOutAlongTheWay$Lane;", true)
  | 2 => ("ReadOutAlongTheWay", "guess", "LReadOutAlongTheWay$Guess;", true)
  | 3 => ("ReadOutAlongTheWay", "shelves", "[LReadOutAlongTheWay$Shelf;", true)
  | 4 => ("ReadOutAlongTheWay", "tape", "LReadOutAlongTheWay$Tape;", true)
  | 5 => ("ReadOutAlongTheWay", "refusals", "[I", true)
  | _ => ("ReadOutAlongTheWay", "isKept", "Z", false)
def tyX4 : Nat → FieldType := fun k => match k with
  | 0 => .object "ReadOutAlongTheWay$Lane"
  | 1 => .object "ReadOutAlongTheWay$Lane"
  | 2 => .object "ReadOutAlongTheWay$Guess"
  | 3 => .array (.object "ReadOutAlongTheWay$Shelf")
  | 4 => .object "ReadOutAlongTheWay$Tape"
  | 5 => .array .int
  | _ => .boolean
abbrev wsX40 : List Cond := u_ws RX4 TX4 7
theorem nmX4 : ∀ a, a < 7 → ∀ b, b < 7 → a ≠ b → (TX4 a).2.1 ≠ (TX4 b).2.1 := by decide +kernel
theorem tyX4_ok : ∀ k, k < 7 → parseFieldDescriptor (TX4 k).2.2.1 = some (tyX4 k) := by decide +kernel
abbrev cX4_init : ByteArray := prog_1_method_1_code
def yX4_init : MethodName := ⟨RX4, "<init>", "()V"⟩
abbrev cX4_row : ByteArray := prog_1_method_2_code
def yX4_row : MethodName := ⟨RX4, "row", "(III)I"⟩
abbrev cX4_set : ByteArray := prog_1_method_3_code
def yX4_set : MethodName := ⟨RX4, "set", "(IIJ)I"⟩
abbrev cX4_copy : ByteArray := prog_1_method_4_code
def yX4_copy : MethodName := ⟨RX4, "copy", "(IIIII)I"⟩
abbrev cX4_element : ByteArray := prog_1_method_5_code
def yX4_element : MethodName := ⟨RX4, "element", "(II)J"⟩
abbrev cX4_holds : ByteArray := prog_1_method_6_code
def yX4_holds : MethodName := ⟨RX4, "holds", "(I)I"⟩
abbrev cX4_show : ByteArray := prog_1_method_7_code
def yX4_show : MethodName := ⟨RX4, "show", "(II)I"⟩
abbrev cX4_says : ByteArray := prog_1_method_8_code
def yX4_says : MethodName := ⟨RX4, "says", "(II)I"⟩
abbrev cX4_houses : ByteArray := prog_1_method_9_code
def yX4_houses : MethodName := ⟨RX4, "houses", "(I)I"⟩
abbrev cX4_letter : ByteArray := prog_1_method_10_code
def yX4_letter : MethodName := ⟨RX4, "letter", "(IIII)I"⟩
abbrev cX4_mend : ByteArray := prog_1_method_11_code
def yX4_mend : MethodName := ⟨RX4, "mend", "(III)I"⟩
abbrev cX4_tell : ByteArray := prog_1_method_12_code
def yX4_tell : MethodName := ⟨RX4, "tell", "(III)I"⟩
abbrev cX4_code : ByteArray := prog_1_method_13_code
def yX4_code : MethodName := ⟨RX4, "code", "(IIZ)I"⟩
abbrev cX4_cold : ByteArray := prog_1_method_14_code
def yX4_cold : MethodName := ⟨RX4, "cold", "(I)I"⟩
abbrev cX4_way : ByteArray := prog_1_method_15_code
def yX4_way : MethodName := ⟨RX4, "way", "(Z)I"⟩
abbrev cX4_feed : ByteArray := prog_1_method_16_code
def yX4_feed : MethodName := ⟨RX4, "feed", "(I)I"⟩
abbrev cX4_wipe : ByteArray := prog_1_method_17_code
def yX4_wipe : MethodName := ⟨RX4, "wipe", "()I"⟩
abbrev cX4_lane : ByteArray := prog_1_method_18_code
def yX4_lane : MethodName := ⟨RX4, "lane", "()I"⟩
abbrev cX4_letterOf : ByteArray := prog_1_method_19_code
def yX4_letterOf : MethodName := ⟨RX4, "letterOf", "(II)I"⟩
abbrev cX4_houseOf : ByteArray := prog_1_method_20_code
def yX4_houseOf : MethodName := ⟨RX4, "houseOf", "(II)I"⟩
abbrev cX4_heard : ByteArray := prog_1_method_21_code
def yX4_heard : MethodName := ⟨RX4, "heard", "(II)I"⟩
abbrev cX4_isRead : ByteArray := prog_1_method_22_code
def yX4_isRead : MethodName := ⟨RX4, "isRead", "(II)I"⟩
abbrev cX4_whoKnows : ByteArray := prog_1_method_23_code
def yX4_whoKnows : MethodName := ⟨RX4, "whoKnows", "(I)I"⟩
abbrev cX4_knows : ByteArray := prog_1_method_24_code
def yX4_knows : MethodName := ⟨RX4, "knows", "(I)I"⟩
abbrev cX4_first : ByteArray := prog_1_method_25_code
def yX4_first : MethodName := ⟨RX4, "first", "(II)I"⟩
abbrev cX4_loudest : ByteArray := prog_1_method_26_code
def yX4_loudest : MethodName := ⟨RX4, "loudest", "(I)I"⟩
abbrev cX4_words : ByteArray := prog_1_method_27_code
def yX4_words : MethodName := ⟨RX4, "words", "(I)I"⟩
abbrev cX4_best : ByteArray := prog_1_method_28_code
def yX4_best : MethodName := ⟨RX4, "best", "(I)I"⟩
abbrev cX4_address : ByteArray := prog_1_method_29_code
def yX4_address : MethodName := ⟨RX4, "address", "(II)I"⟩
abbrev cX4_hush : ByteArray := prog_1_method_30_code
def yX4_hush : MethodName := ⟨RX4, "hush", "(III)I"⟩
abbrev cX4_seal : ByteArray := prog_1_method_31_code
def yX4_seal : MethodName := ⟨RX4, "seal", "(II)I"⟩
abbrev cX4_shout : ByteArray := prog_1_method_32_code
def yX4_shout : MethodName := ⟨RX4, "shout", "(II)I"⟩
abbrev cX4_lengths : ByteArray := prog_1_method_33_code
def yX4_lengths : MethodName := ⟨RX4, "lengths", "(IIII)I"⟩
abbrev cX4_fits : ByteArray := prog_1_method_34_code
def yX4_fits : MethodName := ⟨RX4, "fits", "(IIII)I"⟩
abbrev cX4_ask : ByteArray := prog_1_method_35_code
def yX4_ask : MethodName := ⟨RX4, "ask", "(III)I"⟩
abbrev cX4_winds : ByteArray := prog_1_method_36_code
def yX4_winds : MethodName := ⟨RX4, "winds", "(III)I"⟩
abbrev cX4_pour : ByteArray := prog_1_method_37_code
def yX4_pour : MethodName := ⟨RX4, "pour", "(IIIII)I"⟩
abbrev cX4_answer : ByteArray := prog_1_method_38_code
def yX4_answer : MethodName := ⟨RX4, "answer", "(IIIII)I"⟩
abbrev cX4_chance : ByteArray := prog_1_method_39_code
def yX4_chance : MethodName := ⟨RX4, "chance", "(II)I"⟩
abbrev cX4_sure : ByteArray := prog_1_method_40_code
def yX4_sure : MethodName := ⟨RX4, "sure", "(I)I"⟩
abbrev cX4_turned : ByteArray := prog_1_method_41_code
def yX4_turned : MethodName := ⟨RX4, "turned", "(I)I"⟩
abbrev cX4_gossips : ByteArray := prog_1_method_42_code
def yX4_gossips : MethodName := ⟨RX4, "gossips", "()I"⟩
abbrev cX4_colds : ByteArray := prog_1_method_43_code
def yX4_colds : MethodName := ⟨RX4, "colds", "(II)I"⟩
abbrev cX4_widest : ByteArray := prog_1_method_44_code
def yX4_widest : MethodName := ⟨RX4, "widest", "(II)I"⟩
abbrev cX4_wise : ByteArray := prog_1_method_45_code
def yX4_wise : MethodName := ⟨RX4, "wise", "()I"⟩
abbrev cX4_secret : ByteArray := prog_1_method_46_code
def yX4_secret : MethodName := ⟨RX4, "secret", "()I"⟩
abbrev cX4_lost : ByteArray := prog_1_method_47_code
def yX4_lost : MethodName := ⟨RX4, "lost", "()I"⟩
abbrev cX4_reach : ByteArray := prog_1_method_48_code
def yX4_reach : MethodName := ⟨RX4, "reach", "(II)I"⟩
abbrev cX4_lacks : ByteArray := prog_1_method_49_code
def yX4_lacks : MethodName := ⟨RX4, "lacks", "(II)I"⟩
abbrev cX4_alike : ByteArray := prog_1_method_50_code
def yX4_alike : MethodName := ⟨RX4, "alike", "(II)I"⟩
abbrev cX4_quiet : ByteArray := prog_1_method_51_code
def yX4_quiet : MethodName := ⟨RX4, "quiet", "(I)I"⟩
abbrev cX4_sober : ByteArray := prog_1_method_52_code
def yX4_sober : MethodName := ⟨RX4, "sober", "(I)I"⟩
abbrev cX4_thirst : ByteArray := prog_1_method_53_code
def yX4_thirst : MethodName := ⟨RX4, "thirst", "(I)I"⟩
abbrev cX4_taught : ByteArray := prog_1_method_54_code
def yX4_taught : MethodName := ⟨RX4, "taught", "(II)I"⟩
abbrev cX4_merry : ByteArray := prog_1_method_55_code
def yX4_merry : MethodName := ⟨RX4, "merry", "(I)I"⟩
abbrev cX4_common : ByteArray := prog_1_method_56_code
def yX4_common : MethodName := ⟨RX4, "common", "(II)I"⟩
abbrev cX4_doubt : ByteArray := prog_1_method_57_code
def yX4_doubt : MethodName := ⟨RX4, "doubt", "(I)I"⟩
abbrev cX4_ofKind : ByteArray := prog_1_method_58_code
def yX4_ofKind : MethodName := ⟨RX4, "ofKind", "(I)I"⟩
abbrev cX4_judge : ByteArray := prog_1_method_59_code
def yX4_judge : MethodName := ⟨RX4, "judge", "(II)I"⟩
abbrev cX4_round : ByteArray := prog_1_method_60_code
def yX4_round : MethodName := ⟨RX4, "round", "(Z)I"⟩
abbrev cX4_days : ByteArray := prog_1_method_61_code
def yX4_days : MethodName := ⟨RX4, "days", "(I)I"⟩
abbrev cX4_seed : ByteArray := prog_1_method_62_code
def yX4_seed : MethodName := ⟨RX4, "seed", "(I)I"⟩
abbrev cX4_image : ByteArray := prog_1_method_63_code
def yX4_image : MethodName := ⟨RX4, "image", "()I"⟩
abbrev cX4_back : ByteArray := prog_1_method_64_code
def yX4_back : MethodName := ⟨RX4, "back", "()I"⟩
abbrev cX4_status : ByteArray := prog_1_method_65_code
def yX4_status : MethodName := ⟨RX4, "status", "(I)I"⟩
abbrev cX4_refuse : ByteArray := prog_1_method_66_code
def yX4_refuse : MethodName := ⟨RX4, "refuse", "(I)I"⟩
abbrev cX4_outside : ByteArray := prog_1_method_67_code
def yX4_outside : MethodName := ⟨RX4, "outside", "(III)Z"⟩
abbrev cX4_noShelf : ByteArray := prog_1_method_68_code
def yX4_noShelf : MethodName := ⟨RX4, "noShelf", "(I)Z"⟩
abbrev cX4_noHouse : ByteArray := prog_1_method_69_code
def yX4_noHouse : MethodName := ⟨RX4, "noHouse", "(I)Z"⟩
abbrev cX4_noLetter : ByteArray := prog_1_method_70_code
def yX4_noLetter : MethodName := ⟨RX4, "noLetter", "(I)Z"⟩
abbrev cX4_noKind : ByteArray := prog_1_method_71_code
def yX4_noKind : MethodName := ⟨RX4, "noKind", "(I)Z"⟩
abbrev cX4_noSet : ByteArray := prog_1_method_72_code
def yX4_noSet : MethodName := ⟨RX4, "noSet", "(I)Z"⟩
abbrev cX4_noPouring : ByteArray := prog_1_method_73_code
def yX4_noPouring : MethodName := ⟨RX4, "noPouring", "(IIII)Z"⟩
abbrev cX4_toldFault : ByteArray := prog_1_method_74_code
def yX4_toldFault : MethodName := ⟨RX4, "toldFault", "(IIIZ)I"⟩
abbrev cX4_isOrStandsUnder : ByteArray := prog_1_method_75_code
def yX4_isOrStandsUnder : MethodName := ⟨RX4, "isOrStandsUnder", "(II)Z"⟩
abbrev cX4_asNumber : ByteArray := prog_1_method_76_code
def yX4_asNumber : MethodName := ⟨RX4, "asNumber", "(Z)I"⟩
abbrev cX4_dropMissingLetters : ByteArray := prog_1_method_77_code
def yX4_dropMissingLetters : MethodName := ⟨RX4, "dropMissingLetters", "()V"⟩
abbrev cX4_shelvesInUse : ByteArray := prog_1_method_78_code
def yX4_shelvesInUse : MethodName := ⟨RX4, "shelvesInUse", "()I"⟩
def RX5 : String := "ReadOutAlongTheWayModel"
def TX5 : u_T := fun k => match k with
  | 0 => ("ReadOutAlongTheWayModel", "shelf", "[I", true)
  | 1 => ("ReadOutAlongTheWayModel", "rowSort", "[I", true)
  | 2 => ("ReadOutAlongTheWayModel", "rowSize", "[I", true)
  | 3 => ("ReadOutAlongTheWayModel", "rows", "[[J", true)
  | 4 => ("ReadOutAlongTheWayModel", "moved", "[J", true)
  | 5 => ("ReadOutAlongTheWayModel", "shown", "[I", true)
  | 6 => ("ReadOutAlongTheWayModel", "tape", "[I", true)
  | 7 => ("ReadOutAlongTheWayModel", "tapeSize", "I", false)
  | 8 => ("ReadOutAlongTheWayModel", "refused", "[I", true)
  | 9 => ("ReadOutAlongTheWayModel", "houses", "I", false)
  | 10 => ("ReadOutAlongTheWayModel", "wind", "[I", true)
  | 11 => ("ReadOutAlongTheWayModel", "drink", "[I", true)
  | 12 => ("ReadOutAlongTheWayModel", "codes", "[I", true)
  | 13 => ("ReadOutAlongTheWayModel", "ears", "[I", true)
  | 14 => ("ReadOutAlongTheWayModel", "cold", "I", false)
  | 15 => ("ReadOutAlongTheWayModel", "backward", "Z", false)
  | 16 => ("ReadOutAlongTheWayModel", "gone", "I", false)
  | 17 => ("ReadOutAlongTheWayModel", "letters", "I", false)
  | 18 => ("ReadOutAlongTheWayModel", "kind", "[I", true)
  | 19 => ("ReadOutAlongTheWayModel", "by", "[I", true)
  | 20 => ("ReadOutAlongTheWayModel", "to", "[I", true)
  | 21 => ("ReadOutAlongTheWayModel", "length", "[I", true)
  | 22 => ("ReadOutAlongTheWayModel", "seed", "I", false)
  | 23 => ("ReadOutAlongTheWayModel", "kept", "LReadOutAlongTheWayModel;", false)
  | 24 => ("ReadOutAlongTheWayModel", "tried", "LReadOutAlongTheWayModel;", false)
  | 25 => ("ReadOutAlongTheWayModel", "at", "I", false)
  | 26 => ("ReadOutAlongTheWayModel", "token", "I", false)
  | 27 => ("ReadOutAlongTheWayModel", "from", "I", false)
  | 28 => ("ReadOutAlongTheWayModel", "figures", "I", false)
  | 29 => ("ReadOutAlongTheWayModel", "fault", "I", false)
  | 30 => ("ReadOutAlongTheWayModel", "told", "[I", true)
  | 31 => ("ReadOutAlongTheWayModel", "statements", "I", false)
  | 32 => ("ReadOutAlongTheWayModel", "hushMore", "I", false)
  | 33 => ("ReadOutAlongTheWayModel", "hushWhere", "I", false)
  | 34 => ("ReadOutAlongTheWayModel", "poured", "[I", true)
  | 35 => ("ReadOutAlongTheWayModel", "may", "[Z", true)
  | 36 => ("ReadOutAlongTheWayModel", "mayBe", "I", false)
  | 37 => ("ReadOutAlongTheWayModel", "least", "I", false)
  | 38 => ("ReadOutAlongTheWayModel", "greatest", "I", false)
  | 39 => ("ReadOutAlongTheWayModel", "heardBy", "[I", true)
  | _ => ("ReadOutAlongTheWayModel", "answered", "I", false)
def tyX5 : Nat → FieldType := fun k => match k with
  | 0 => .array .int
  | 1 => .array .int
  | 2 => .array .int
  | 3 => .array (.array .long)
  | 4 => .array .long
  | 5 => .array .int
  | 6 => .array .int
  | 7 => .int
  | 8 => .array .int
  | 9 => .int
  | 10 => .array .int
  | 11 => .array .int
  | 12 => .array .int
  | 13 => .array .int
  | 14 => .int
  | 15 => .boolean
  | 16 => .int
  | 17 => .int
  | 18 => .array .int
  | 19 => .array .int
  | 20 => .array .int
  | 21 => .array .int
  | 22 => .int
  | 23 => .object "ReadOutAlongTheWayModel"
  | 24 => .object "ReadOutAlongTheWayModel"
  | 25 => .int
  | 26 => .int
  | 27 => .int
  | 28 => .int
  | 29 => .int
  | 30 => .array .int
  | 31 => .int
  | 32 => .int
  | 33 => .int
  | 34 => .array .int
  | 35 => .array .boolean
  | 36 => .int
  | 37 => .int
  | 38 => .int
  | 39 => .array .int
  | _ => .int
abbrev wsX50 : List Cond := u_ws RX5 TX5 41
theorem nmX5 : ∀ a, a < 41 → ∀ b, b < 41 → a ≠ b → (TX5 a).2.1 ≠ (TX5 b).2.1 := by decide +kernel
theorem tyX5_ok : ∀ k, k < 41 → parseFieldDescriptor (TX5 k).2.2.1 = some (tyX5 k) := by decide +kernel
abbrev cX5_init : ByteArray := prog_7_method_1_code
def yX5_init : MethodName := ⟨RX5, "<init>", "()V"⟩
abbrev cX5_refuse : ByteArray := prog_7_method_2_code
def yX5_refuse : MethodName := ⟨RX5, "refuse", "(I)I"⟩
abbrev cX5_in : ByteArray := prog_7_method_3_code
def yX5_in : MethodName := ⟨RX5, "in", "(JJJ)Z"⟩
abbrev cX5_isHouse : ByteArray := prog_7_method_4_code
def yX5_isHouse : MethodName := ⟨RX5, "isHouse", "(I)Z"⟩
abbrev cX5_isLetter : ByteArray := prog_7_method_5_code
def yX5_isLetter : MethodName := ⟨RX5, "isLetter", "(J)Z"⟩
abbrev cX5_bits : ByteArray := prog_7_method_6_code
def yX5_bits : MethodName := ⟨RX5, "bits", "(I)I"⟩
abbrev cX5_row : ByteArray := prog_7_method_7_code
def yX5_row : MethodName := ⟨RX5, "row", "(III)I"⟩
abbrev cX5_fit : ByteArray := prog_7_method_8_code
def yX5_fit : MethodName := ⟨RX5, "fit", "(IJ)J"⟩
abbrev cX5_noRow : ByteArray := prog_7_method_9_code
def yX5_noRow : MethodName := ⟨RX5, "noRow", "(I)I"⟩
abbrev cX5_set : ByteArray := prog_7_method_10_code
def yX5_set : MethodName := ⟨RX5, "set", "(IIJ)I"⟩
abbrev cX5_copy : ByteArray := prog_7_method_11_code
def yX5_copy : MethodName := ⟨RX5, "copy", "(IIIII)I"⟩
abbrev cX5_element : ByteArray := prog_7_method_12_code
def yX5_element : MethodName := ⟨RX5, "element", "(II)J"⟩
abbrev cX5_holds : ByteArray := prog_7_method_13_code
def yX5_holds : MethodName := ⟨RX5, "holds", "(I)I"⟩
abbrev cX5_show : ByteArray := prog_7_method_14_code
def yX5_show : MethodName := ⟨RX5, "show", "(II)I"⟩
abbrev cX5_isUnder : ByteArray := prog_7_method_15_code
def yX5_isUnder : MethodName := ⟨RX5, "isUnder", "(II)Z"⟩
abbrev cX5_says : ByteArray := prog_7_method_16_code
def yX5_says : MethodName := ⟨RX5, "says", "(II)I"⟩
abbrev cX5_addLetter : ByteArray := prog_7_method_17_code
def yX5_addLetter : MethodName := ⟨RX5, "addLetter", "(IIII)V"⟩
abbrev cX5_houses : ByteArray := prog_7_method_18_code
def yX5_houses : MethodName := ⟨RX5, "houses", "(I)I"⟩
abbrev cX5_letter : ByteArray := prog_7_method_19_code
def yX5_letter : MethodName := ⟨RX5, "letter", "(IIII)I"⟩
abbrev cX5_mend : ByteArray := prog_7_method_20_code
def yX5_mend : MethodName := ⟨RX5, "mend", "(III)I"⟩
abbrev cX5_tell : ByteArray := prog_7_method_21_code
def yX5_tell : MethodName := ⟨RX5, "tell", "(III)I"⟩
abbrev cX5_setCode : ByteArray := prog_7_method_22_code
def yX5_setCode : MethodName := ⟨RX5, "setCode", "(IIZ)V"⟩
abbrev cX5_code : ByteArray := prog_7_method_23_code
def yX5_code : MethodName := ⟨RX5, "code", "(IIZ)I"⟩
abbrev cX5_cold : ByteArray := prog_7_method_24_code
def yX5_cold : MethodName := ⟨RX5, "cold", "(I)I"⟩
abbrev cX5_way : ByteArray := prog_7_method_25_code
def yX5_way : MethodName := ⟨RX5, "way", "(Z)I"⟩
abbrev cX5_feed : ByteArray := prog_7_method_26_code
def yX5_feed : MethodName := ⟨RX5, "feed", "(I)I"⟩
abbrev cX5_wipe : ByteArray := prog_7_method_27_code
def yX5_wipe : MethodName := ⟨RX5, "wipe", "()I"⟩
abbrev cX5_isLower : ByteArray := prog_7_method_28_code
def yX5_isLower : MethodName := ⟨RX5, "isLower", "(I)Z"⟩
abbrev cX5_isDigit : ByteArray := prog_7_method_29_code
def yX5_isDigit : MethodName := ⟨RX5, "isDigit", "(I)Z"⟩
abbrev cX5_look : ByteArray := prog_7_method_30_code
def yX5_look : MethodName := ⟨RX5, "look", "()V"⟩
abbrev cX5_wrong : ByteArray := prog_7_method_31_code
def yX5_wrong : MethodName := ⟨RX5, "wrong", "()Z"⟩
abbrev cX5_isWord : ByteArray := prog_7_method_32_code
def yX5_isWord : MethodName := ⟨RX5, "isWord", "(Ljava/lang/String;)Z"⟩
abbrev cX5_number : ByteArray := prog_7_method_33_code
def yX5_number : MethodName := ⟨RX5, "number", "(III)Z"⟩
abbrev cX5_tells : ByteArray := prog_7_method_34_code
def yX5_tells : MethodName := ⟨RX5, "tells", "(II)Z"⟩
abbrev cX5_tellsLetter : ByteArray := prog_7_method_35_code
def yX5_tellsLetter : MethodName := ⟨RX5, "tellsLetter", "()Z"⟩
abbrev cX5_tellsHouse : ByteArray := prog_7_method_36_code
def yX5_tellsHouse : MethodName := ⟨RX5, "tellsHouse", "()Z"⟩
abbrev cX5_statement : ByteArray := prog_7_method_37_code
def yX5_statement : MethodName := ⟨RX5, "statement", "()Z"⟩
abbrev cX5_readAll : ByteArray := prog_7_method_38_code
def yX5_readAll : MethodName := ⟨RX5, "readAll", "()Z"⟩
abbrev cX5_lane : ByteArray := prog_7_method_39_code
def yX5_lane : MethodName := ⟨RX5, "lane", "()I"⟩
abbrev cX5_letterOf : ByteArray := prog_7_method_40_code
def yX5_letterOf : MethodName := ⟨RX5, "letterOf", "(II)I"⟩
abbrev cX5_tipsy : ByteArray := prog_7_method_41_code
def yX5_tipsy : MethodName := ⟨RX5, "tipsy", "(I)I"⟩
abbrev cX5_leftOut : ByteArray := prog_7_method_42_code
def yX5_leftOut : MethodName := ⟨RX5, "leftOut", "(I)I"⟩
abbrev cX5_readAt : ByteArray := prog_7_method_43_code
def yX5_readAt : MethodName := ⟨RX5, "readAt", "(II)Z"⟩
abbrev cX5_held : ByteArray := prog_7_method_44_code
def yX5_held : MethodName := ⟨RX5, "held", "(II)I"⟩
abbrev cX5_heardAt : ByteArray := prog_7_method_45_code
def yX5_heardAt : MethodName := ⟨RX5, "heardAt", "(II)I"⟩
abbrev cX5_knowsOf : ByteArray := prog_7_method_46_code
def yX5_knowsOf : MethodName := ⟨RX5, "knowsOf", "(II)Z"⟩
abbrev cX5_knowers : ByteArray := prog_7_method_47_code
def yX5_knowers : MethodName := ⟨RX5, "knowers", "(I)I"⟩
abbrev cX5_knownAt : ByteArray := prog_7_method_48_code
def yX5_knownAt : MethodName := ⟨RX5, "knownAt", "(I)I"⟩
abbrev cX5_wordsAt : ByteArray := prog_7_method_49_code
def yX5_wordsAt : MethodName := ⟨RX5, "wordsAt", "(I)I"⟩
abbrev cX5_houseOf : ByteArray := prog_7_method_50_code
def yX5_houseOf : MethodName := ⟨RX5, "houseOf", "(II)I"⟩
abbrev cX5_areBoth : ByteArray := prog_7_method_51_code
def yX5_areBoth : MethodName := ⟨RX5, "areBoth", "(II)Z"⟩
abbrev cX5_heard : ByteArray := prog_7_method_52_code
def yX5_heard : MethodName := ⟨RX5, "heard", "(II)I"⟩
abbrev cX5_isRead : ByteArray := prog_7_method_53_code
def yX5_isRead : MethodName := ⟨RX5, "isRead", "(II)I"⟩
abbrev cX5_whoKnows : ByteArray := prog_7_method_54_code
def yX5_whoKnows : MethodName := ⟨RX5, "whoKnows", "(I)I"⟩
abbrev cX5_knows : ByteArray := prog_7_method_55_code
def yX5_knows : MethodName := ⟨RX5, "knows", "(I)I"⟩
abbrev cX5_words : ByteArray := prog_7_method_56_code
def yX5_words : MethodName := ⟨RX5, "words", "(I)I"⟩
abbrev cX5_common : ByteArray := prog_7_method_57_code
def yX5_common : MethodName := ⟨RX5, "common", "(II)I"⟩
abbrev cX5_alike : ByteArray := prog_7_method_58_code
def yX5_alike : MethodName := ⟨RX5, "alike", "(II)I"⟩
abbrev cX5_ofKind : ByteArray := prog_7_method_59_code
def yX5_ofKind : MethodName := ⟨RX5, "ofKind", "(I)I"⟩
abbrev cX5_lacks : ByteArray := prog_7_method_60_code
def yX5_lacks : MethodName := ⟨RX5, "lacks", "(II)I"⟩
abbrev cX5_doubt : ByteArray := prog_7_method_61_code
def yX5_doubt : MethodName := ⟨RX5, "doubt", "(I)I"⟩
abbrev cX5_reach : ByteArray := prog_7_method_62_code
def yX5_reach : MethodName := ⟨RX5, "reach", "(II)I"⟩
abbrev cX5_first : ByteArray := prog_7_method_63_code
def yX5_first : MethodName := ⟨RX5, "first", "(II)I"⟩
abbrev cX5_loudest : ByteArray := prog_7_method_64_code
def yX5_loudest : MethodName := ⟨RX5, "loudest", "(I)I"⟩
abbrev cX5_best : ByteArray := prog_7_method_65_code
def yX5_best : MethodName := ⟨RX5, "best", "(I)I"⟩
abbrev cX5_wise : ByteArray := prog_7_method_66_code
def yX5_wise : MethodName := ⟨RX5, "wise", "()I"⟩
abbrev cX5_secret : ByteArray := prog_7_method_67_code
def yX5_secret : MethodName := ⟨RX5, "secret", "()I"⟩
abbrev cX5_lost : ByteArray := prog_7_method_68_code
def yX5_lost : MethodName := ⟨RX5, "lost", "()I"⟩
abbrev cX5_gossips : ByteArray := prog_7_method_69_code
def yX5_gossips : MethodName := ⟨RX5, "gossips", "()I"⟩
abbrev cX5_isSet : ByteArray := prog_7_method_70_code
def yX5_isSet : MethodName := ⟨RX5, "isSet", "(I)Z"⟩
abbrev cX5_address : ByteArray := prog_7_method_71_code
def yX5_address : MethodName := ⟨RX5, "address", "(II)I"⟩
abbrev cX5_widest : ByteArray := prog_7_method_72_code
def yX5_widest : MethodName := ⟨RX5, "widest", "(II)I"⟩
abbrev cX5_seal : ByteArray := prog_7_method_73_code
def yX5_seal : MethodName := ⟨RX5, "seal", "(II)I"⟩
abbrev cX5_shout : ByteArray := prog_7_method_74_code
def yX5_shout : MethodName := ⟨RX5, "shout", "(II)I"⟩
abbrev cX5_isHushed : ByteArray := prog_7_method_75_code
def yX5_isHushed : MethodName := ⟨RX5, "isHushed", "(II)Z"⟩
abbrev cX5_findHush : ByteArray := prog_7_method_76_code
def yX5_findHush : MethodName := ⟨RX5, "findHush", "(II)V"⟩
abbrev cX5_hush : ByteArray := prog_7_method_77_code
def yX5_hush : MethodName := ⟨RX5, "hush", "(III)I"⟩
abbrev cX5_turned : ByteArray := prog_7_method_78_code
def yX5_turned : MethodName := ⟨RX5, "turned", "(I)I"⟩
abbrev cX5_colds : ByteArray := prog_7_method_79_code
def yX5_colds : MethodName := ⟨RX5, "colds", "(II)I"⟩
abbrev cX5_quiet : ByteArray := prog_7_method_80_code
def yX5_quiet : MethodName := ⟨RX5, "quiet", "(I)I"⟩
abbrev cX5_sober : ByteArray := prog_7_method_81_code
def yX5_sober : MethodName := ⟨RX5, "sober", "(I)I"⟩
abbrev cX5_knowersTogether : ByteArray := prog_7_method_82_code
def yX5_knowersTogether : MethodName := ⟨RX5, "knowersTogether", "()I"⟩
abbrev cX5_thirst : ByteArray := prog_7_method_83_code
def yX5_thirst : MethodName := ⟨RX5, "thirst", "(I)I"⟩
abbrev cX5_taught : ByteArray := prog_7_method_84_code
def yX5_taught : MethodName := ⟨RX5, "taught", "(II)I"⟩
abbrev cX5_merry : ByteArray := prog_7_method_85_code
def yX5_merry : MethodName := ⟨RX5, "merry", "(I)I"⟩
abbrev cX5_noSounds : ByteArray := prog_7_method_86_code
def yX5_noSounds : MethodName := ⟨RX5, "noSounds", "(IIIZ)I"⟩
abbrev cX5_sounds : ByteArray := prog_7_method_87_code
def yX5_sounds : MethodName := ⟨RX5, "sounds", "(III)Z"⟩
abbrev cX5_findLengths : ByteArray := prog_7_method_88_code
def yX5_findLengths : MethodName := ⟨RX5, "findLengths", "(III)V"⟩
abbrev cX5_lengths : ByteArray := prog_7_method_89_code
def yX5_lengths : MethodName := ⟨RX5, "lengths", "(IIII)I"⟩
abbrev cX5_fits : ByteArray := prog_7_method_90_code
def yX5_fits : MethodName := ⟨RX5, "fits", "(IIII)I"⟩
abbrev cX5_worstAt : ByteArray := prog_7_method_91_code
def yX5_worstAt : MethodName := ⟨RX5, "worstAt", "(II)I"⟩
abbrev cX5_ask : ByteArray := prog_7_method_92_code
def yX5_ask : MethodName := ⟨RX5, "ask", "(III)I"⟩
abbrev cX5_winds : ByteArray := prog_7_method_93_code
def yX5_winds : MethodName := ⟨RX5, "winds", "(III)I"⟩
abbrev cX5_leastHeard : ByteArray := prog_7_method_94_code
def yX5_leastHeard : MethodName := ⟨RX5, "leastHeard", "(III)I"⟩
abbrev cX5_mayPour : ByteArray := prog_7_method_95_code
def yX5_mayPour : MethodName := ⟨RX5, "mayPour", "(IIII)Z"⟩
abbrev cX5_pour : ByteArray := prog_7_method_96_code
def yX5_pour : MethodName := ⟨RX5, "pour", "(IIIII)I"⟩
abbrev cX5_answer : ByteArray := prog_7_method_97_code
def yX5_answer : MethodName := ⟨RX5, "answer", "(IIIII)I"⟩
abbrev cX5_knowsBy : ByteArray := prog_7_method_98_code
def yX5_knowsBy : MethodName := ⟨RX5, "knowsBy", "(II)I"⟩
abbrev cX5_chance : ByteArray := prog_7_method_99_code
def yX5_chance : MethodName := ⟨RX5, "chance", "(II)I"⟩
abbrev cX5_sure : ByteArray := prog_7_method_100_code
def yX5_sure : MethodName := ⟨RX5, "sure", "(I)I"⟩
abbrev cX5_judge : ByteArray := prog_7_method_101_code
def yX5_judge : MethodName := ⟨RX5, "judge", "(II)I"⟩
abbrev cX5_goesRound : ByteArray := prog_7_method_102_code
def yX5_goesRound : MethodName := ⟨RX5, "goesRound", "()V"⟩
abbrev cX5_earsTogether : ByteArray := prog_7_method_103_code
def yX5_earsTogether : MethodName := ⟨RX5, "earsTogether", "()I"⟩
abbrev cX5_shelvesFollow : ByteArray := prog_7_method_104_code
def yX5_shelvesFollow : MethodName := ⟨RX5, "shelvesFollow", "()V"⟩
abbrev cX5_round : ByteArray := prog_7_method_105_code
def yX5_round : MethodName := ⟨RX5, "round", "(Z)I"⟩
abbrev cX5_below : ByteArray := prog_7_method_106_code
def yX5_below : MethodName := ⟨RX5, "below", "(I)I"⟩
abbrev cX5_days : ByteArray := prog_7_method_107_code
def yX5_days : MethodName := ⟨RX5, "days", "(I)I"⟩
abbrev cX5_seed : ByteArray := prog_7_method_108_code
def yX5_seed : MethodName := ⟨RX5, "seed", "(I)I"⟩
abbrev cX5_copied : ByteArray := prog_7_method_109_code
def yX5_copied : MethodName := ⟨RX5, "copied", "([I[I)V"⟩
abbrev cX5_takeFrom : ByteArray := prog_7_method_110_code
def yX5_takeFrom : MethodName := ⟨RX5, "takeFrom", "(LReadOutAlongTheWayModel;)V"⟩
abbrev cX5_image : ByteArray := prog_7_method_111_code
def yX5_image : MethodName := ⟨RX5, "image", "()I"⟩
abbrev cX5_back : ByteArray := prog_7_method_112_code
def yX5_back : MethodName := ⟨RX5, "back", "()I"⟩
abbrev cX5_status : ByteArray := prog_7_method_113_code
def yX5_status : MethodName := ⟨RX5, "status", "(I)I"⟩
def RJ6 : String := "java/lang/Integer"
def TJ6 : u_T := fun k => match k with
  | _ => ("", "", "", false)
def tyJ6 : Nat → FieldType := fun k => match k with
  | _ => .int
abbrev wsJ60 : List Cond := u_ws RJ6 TJ6 0
theorem nmJ6 : ∀ a, a < 0 → ∀ b, b < 0 → a ≠ b → (TJ6 a).2.1 ≠ (TJ6 b).2.1 := by decide +kernel
theorem tyJ6_ok : ∀ k, k < 0 → parseFieldDescriptor (TJ6 k).2.2.1 = some (tyJ6 k) := by decide +kernel
abbrev cJ6_bitCount_0f7a4 : ByteArray := prog_8_method_49_code
def yJ6_bitCount_0f7a4 : MethodName := ⟨RJ6, "bitCount", "(I)I"⟩
def RJ9 : String := "java/lang/Math"
def TJ9 : u_T := fun k => match k with
  | _ => ("", "", "", false)
def tyJ9 : Nat → FieldType := fun k => match k with
  | _ => .int
abbrev wsJ90 : List Cond := u_ws RJ9 TJ9 0
theorem nmJ9 : ∀ a, a < 0 → ∀ b, b < 0 → a ≠ b → (TJ9 a).2.1 ≠ (TJ9 b).2.1 := by decide +kernel
theorem tyJ9_ok : ∀ k, k < 0 → parseFieldDescriptor (TJ9 k).2.2.1 = some (tyJ9 k) := by decide +kernel
abbrev cJ9_abs_0f7a4 : ByteArray := prog_9_method_59_code
def yJ9_abs_0f7a4 : MethodName := ⟨RJ9, "abs", "(I)I"⟩
abbrev cJ9_max_7cf53 : ByteArray := prog_9_method_65_code
def yJ9_max_7cf53 : MethodName := ⟨RJ9, "max", "(II)I"⟩
def RJ0 : String := "java/lang/String"
def TJ0 : u_T := fun k => match k with
  | _ => ("", "", "", false)
def tyJ0 : Nat → FieldType := fun k => match k with
  | _ => .int
abbrev wsJ00 : List Cond := u_ws RJ0 TJ0 0
theorem nmJ0 : ∀ a, a < 0 → ∀ b, b < 0 → a ≠ b → (TJ0 a).2.1 ≠ (TJ0 b).2.1 := by decide +kernel
theorem tyJ0_ok : ∀ k, k < 0 → parseFieldDescriptor (TJ0 k).2.2.1 = some (tyJ0 k) := by decide +kernel
abbrev cJ0_length_8abf5 : ByteArray := prog_10_method_54_code
def yJ0_length_8abf5 : MethodName := ⟨RJ0, "length", "()I"⟩
abbrev cJ0_charAt_5068e : ByteArray := prog_10_method_56_code
def yJ0_charAt_5068e : MethodName := ⟨RJ0, "charAt", "(I)C"⟩
abbrev cJ0_coder_7d493 : ByteArray := prog_10_method_152_code
def yJ0_coder_7d493 : MethodName := ⟨RJ0, "coder", "()B"⟩
abbrev cJ0_isLatin1_aae02 : ByteArray := prog_10_method_154_code
def yJ0_isLatin1_aae02 : MethodName := ⟨RJ0, "isLatin1", "()Z"⟩
abbrev cJ0_checkIndex_df160 : ByteArray := prog_10_method_155_code
def yJ0_checkIndex_df160 : MethodName := ⟨RJ0, "checkIndex", "(II)V"⟩
def RJ1 : String := "java/lang/StringLatin1"
def TJ1 : u_T := fun k => match k with
  | _ => ("", "", "", false)
def tyJ1 : Nat → FieldType := fun k => match k with
  | _ => .int
abbrev wsJ10 : List Cond := u_ws RJ1 TJ1 0
theorem nmJ1 : ∀ a, a < 0 → ∀ b, b < 0 → a ≠ b → (TJ1 a).2.1 ≠ (TJ1 b).2.1 := by decide +kernel
theorem tyJ1_ok : ∀ k, k < 0 → parseFieldDescriptor (TJ1 k).2.2.1 = some (tyJ1 k) := by decide +kernel
abbrev cJ1_charAt_3b067 : ByteArray := prog_11_method_2_code
def yJ1_charAt_3b067 : MethodName := ⟨RJ1, "charAt", "([BI)C"⟩
def RJ2 : String := "java/lang/StringUTF16"
def TJ2 : u_T := fun k => match k with
  | _ => ("", "", "", false)
def tyJ2 : Nat → FieldType := fun k => match k with
  | _ => .int
abbrev wsJ20 : List Cond := u_ws RJ2 TJ2 0
theorem nmJ2 : ∀ a, a < 0 → ∀ b, b < 0 → a ≠ b → (TJ2 a).2.1 ≠ (TJ2 b).2.1 := by decide +kernel
theorem tyJ2_ok : ∀ k, k < 0 → parseFieldDescriptor (TJ2 k).2.2.1 = some (tyJ2 k) := by decide +kernel
abbrev cJ2_getChar_3b067 : ByteArray := prog_12_method_5_code
def yJ2_getChar_3b067 : MethodName := ⟨RJ2, "getChar", "([BI)C"⟩
abbrev cJ2_length_9d52b : ByteArray := prog_12_method_6_code
def yJ2_length_9d52b : MethodName := ⟨RJ2, "length", "([B)I"⟩
abbrev cJ2_charAt_3b067 : ByteArray := prog_12_method_83_code
def yJ2_charAt_3b067 : MethodName := ⟨RJ2, "charAt", "([BI)C"⟩
abbrev cJ2_checkIndex_2214a : ByteArray := prog_12_method_91_code
def yJ2_checkIndex_2214a : MethodName := ⟨RJ2, "checkIndex", "(I[B)V"⟩
def RJ10 : String := "java/lang/System"
def TJ10 : u_T := fun k => match k with
  | _ => ("", "", "", false)
def tyJ10 : Nat → FieldType := fun k => match k with
  | _ => .int
abbrev wsJ100 : List Cond := u_ws RJ10 TJ10 0
theorem nmJ10 : ∀ a, a < 0 → ∀ b, b < 0 → a ≠ b → (TJ10 a).2.1 ≠ (TJ10 b).2.1 := by decide +kernel
theorem tyJ10_ok : ∀ k, k < 0 → parseFieldDescriptor (TJ10 k).2.2.1 = some (tyJ10 k) := by decide +kernel
def RJ3 : String := "jdk/internal/util/Preconditions"
def TJ3 : u_T := fun k => match k with
  | _ => ("", "", "", false)
def tyJ3 : Nat → FieldType := fun k => match k with
  | _ => .int
abbrev wsJ30 : List Cond := u_ws RJ3 TJ3 0
theorem nmJ3 : ∀ a, a < 0 → ∀ b, b < 0 → a ≠ b → (TJ3 a).2.1 ≠ (TJ3 b).2.1 := by decide +kernel
theorem tyJ3_ok : ∀ k, k < 0 → parseFieldDescriptor (TJ3 k).2.2.1 = some (tyJ3 k) := by decide +kernel
abbrev cJ3_checkIndex_8e157 : ByteArray := prog_14_method_11_code
def yJ3_checkIndex_8e157 : MethodName := ⟨RJ3, "checkIndex", "(IILjava/util/function/BiFunction;)I"⟩
def RL : String := "ReadOutAlongTheWayLaw"
abbrev cL_law : ByteArray := code
def yL_law : MethodName := ⟨RL, "law", "([I)Z"⟩
abbrev vwCl : List vw_C := [(RX0, TX0, 3), (RX1, TX1, 14), (RX2, TX2, 3), (RX3, TX3, 6), (RX4, TX4, 7), (RX5, TX5, 41)]
end
section
/-! ===== the view of the heap: addresses to what lies there ===== -/
abbrev zE : Type := (Nat × vp_A) ⊕ (Nat × List Value)
abbrev zH : Type := Nat → Option zE
/-- class ids, slots, array classes by kind, the text constants' addresses, their bytes' addresses, UNDER's address -/
abbrev zD : Type := (Nat → ClassId) × (Nat → Nat → Nat) × (Nat → ClassId) × (Nat → Nat) × (Nat → Nat) × (Nat × Nat × Nat × (Nat → Int32))
abbrev zI (n : Nat) (f : Nat → Int32) : zE := .inl (0, n, .inl f)
abbrev zJ (n : Nat) (f : Nat → Int64) : zE := .inl (1, n, .inr (.inl f))
abbrev zBo (n : Nat) (f : Nat → Int32) : zE := .inl (2, n, .inl f)
abbrev zRf (k n : Nat) (f : Nat → Option Nat) : zE := .inl (k, n, .inr (.inr (.inr (.inr f))))
abbrev zO (c : Nat) (fs : List Value) : zE := .inr (c, fs)
def zc (D : zD) : zE → va_E
  | .inl (k, a) => .inl (D.2.2.1 k, a)
  | .inr q => .inr q
def zTys (D : zD) : List (ClassId × FieldType) := [(D.2.2.1 0, .int), (D.2.2.1 1, .long), (D.2.2.1 2, .boolean), (D.2.2.1 3, .object RX2), (D.2.2.1 4, .array .long)]
def zV (D : zD) (h : zH) (H : Heap) : Prop := ∀ (a : Nat) (e : zE), h a = some e → va_at (D.1, D.2.1) vwCl (a, zc D e) H
def zup (h : zH) (a : Nat) (e : zE) : zH := fun q => if q = a then some e else h q
theorem zup_s {h : zH} {a : Nat} {e : zE} : zup h a e a = some e := if_pos rfl
theorem zup_n {h : zH} {a b : Nat} {e : zE} (hn : b ≠ a) : zup h a e b = h b := if_neg hn
theorem zup_zup {h : zH} {a : Nat} {e e2 : zE} : zup (zup h a e) a e2 = zup h a e2 := by
  funext q
  by_cases hq : q = a <;> simp [zup, hq]
theorem zup_id {h : zH} {a : Nat} {e : zE} (he : h a = some e) : zup h a e = h := by
  funext q
  by_cases hq : q = a
  · subst hq; simp [zup, he]
  · simp [zup, hq]
theorem zV.lt {D : zD} {h : zH} {H : Heap} (hV : zV D h H) {a : Nat} {e : zE} (he : h a = some e) : a < H.size := va_at.lt (hV a e he)
theorem zV.set {D : zD} {h : zH} {H H1 : Heap} {a : Nat} {e : zE} (hV : zV D h H) (he : va_at (D.1, D.2.1) vwCl (a, zc D e) H1) (oq : ∀ q : Nat, q ≠ a → H1[q]? = H[q]?) : zV D (zup h a e) H1 := by
  intro b e2 hb
  by_cases hq : b = a
  · subst hq
    rw [zup_s] at hb
    cases hb
    exact he
  · rw [zup_n hq] at hb
    exact va_at.kept (hV b e2 hb) (oq b hq)
/-! ===== what is known of the state, wherever a method begins ===== -/
def zT : List Cond := lw_tbl.filter goodWord
def zLen : List Nat := [6, 6, 4, 5, 4, 4, 4, 5]
def zByt : List (List Int32) := [[104, 111, 117, 115, 101, 115], [108, 101, 116, 116, 101, 114], [119, 105, 110, 100], [100, 114, 105, 110, 107], [99, 111, 100, 101], [99, 111, 108, 100], [98, 97, 99, 107], [102, 111, 114, 116, 104]]
def zSt : List (String × Nat × String × Nat) := [("ReadOutAlongTheWay$Tape", 46, "houses", 0), ("ReadOutAlongTheWay$Tape", 55, "letter", 1), ("ReadOutAlongTheWay$Tape", 60, "wind", 2), ("ReadOutAlongTheWay$Tape", 70, "drink", 3), ("ReadOutAlongTheWay$Tape", 74, "code", 4), ("ReadOutAlongTheWay$Tape", 79, "cold", 5), ("ReadOutAlongTheWay$Tape", 84, "back", 6), ("ReadOutAlongTheWay$Tape", 89, "forth", 7), ("ReadOutAlongTheWayModel", 198, "houses", 0), ("ReadOutAlongTheWayModel", 199, "letter", 1), ("ReadOutAlongTheWayModel", 191, "wind", 2), ("ReadOutAlongTheWayModel", 204, "drink", 3), ("ReadOutAlongTheWayModel", 196, "code", 4), ("ReadOutAlongTheWayModel", 208, "cold", 5), ("ReadOutAlongTheWayModel", 209, "back", 6), ("ReadOutAlongTheWayModel", 211, "forth", 7)]
def zNs : List (String × Nat × MethodName × String) := [("ReadOutAlongTheWay", 9, ⟨"ReadOutAlongTheWay$Lane", "<init>", "()V"⟩, "ReadOutAlongTheWay"), ("ReadOutAlongTheWay", 21, ⟨"ReadOutAlongTheWay$Guess", "<init>", "()V"⟩, "ReadOutAlongTheWay"), ("ReadOutAlongTheWay$Guess", 11, ⟨"ReadOutAlongTheWay$Lane", "<init>", "()V"⟩, "ReadOutAlongTheWay"), ("ReadOutAlongTheWay", 32, ⟨"ReadOutAlongTheWay$Shelf", "<init>", "()V"⟩, "ReadOutAlongTheWay"), ("ReadOutAlongTheWay", 35, ⟨"ReadOutAlongTheWay$Tape", "<init>", "()V"⟩, "ReadOutAlongTheWay"), ("ReadOutAlongTheWay$Guess", 79, ⟨"ReadOutAlongTheWay", "asNumber", "(Z)I"⟩, "ReadOutAlongTheWay")]
def underF : Nat → Int32 := fun j => if j = 0 then -1 else if j = 1 then 0 else if j = 2 then 0 else if j = 3 then 1 else if j = 4 then 2 else 0
def zK (D : zD) (B : Nat) (U : State) : Prop := va_K (D.1, D.2.1) vwCl (zTys D) U ∧ va_Z "ReadOutAlongTheWay" "UNDER" "[I" (.ref D.2.2.2.2.2.1) (fun q => B ≤ q) U U.heap ∧ (va_Z "java/lang/String" "COMPACT_STRINGS" "Z" (.int 1) (fun q => B ≤ q) U U.heap ∧ va_Zq "jdk/internal/util/Preconditions" "SIOOBE_FORMATTER" "Ljava/util/function/BiFunction;" (fun q => B ≤ q) U U.heap ∧ va_T .int D.2.2.2.2.2.1 6 (fun j => .int (underF j)) (fun q => B ≤ q) U U.heap ∧ va_X D.2.2.2.2.2.2.1 D.2.2.2.2.2.2.2.1 D.2.2.2.2.2.2.2.2 U U.heap ∧ D.2.2.2.2.2.2.1 < U.heap.size ∧ ¬ B ≤ D.2.2.2.2.2.2.1) ∧ vk_S 8 zLen zByt D.2.2.2.1 D.2.2.2.2.1 (fun q => B ≤ q) U U.heap ∧ (∀ q ∈ zSt, vk_R q.1 q.2.1 q.2.2.1 (D.2.2.2.1 q.2.2.2) U) ∧ (∀ q ∈ zNs, va_Nw (.methodLinkNest q.1 q.2.1 q.2.2.1 q.2.2.2) U) ∧ va_AO RX2 U ∧ (Cond.arrayOver (.array .long)).before #[] U = true
theorem zK.go {D : zD} {B : Nat} {s U : State} {H : Heap} {locs : List Loc} (hK : zK D B s) (hS : va_S (fun q => B ≤ q) s.heap H locs) (hH : U.heap = H) (hW : s.WarmedH U.vm) : zK D B U := by
  obtain ⟨k1, k2, k3, k4, k5, k6, k7, k8⟩ := hK
  subst hH
  exact ⟨va_K.moved hW.alike k1, va_Z.moved hW.alike (va_Z.kept k2 hS.2.1), ⟨va_Z.moved hW.alike (va_Z.kept k3.1 hS.2.1), va_Zq.moved hW.alike (va_Zq.kept k3.2.1 hS.2.1), va_T.moved hW.alike (va_T.kept k3.2.2.1 hS.2.1), va_X.moved hW.alike (va_X.kept k3.2.2.2.1 (hS.2.1 _ k3.2.2.2.2.1 k3.2.2.2.2.2)), Nat.lt_of_lt_of_le k3.2.2.2.2.1 hS.1, k3.2.2.2.2.2⟩, vk_S.moved hW.alike (vk_S.kept k4 hS.2.1), fun q hq => vk_R.warm hW (k5 q hq), fun q hq => va_Nw.warmM hW (k6 q hq), va_AO.moved hW.alike k7, over_moved hW.alike k8⟩
theorem zK.blind {D : zD} {B : Nat} {U : State} {g : JFrame} {mk : MethodId} {a : Array Value} (hK : zK D B U) : zK D B (U.calling g mk a) := by
  obtain ⟨k1, k2, k3, k4, k5, k6, k7, k8⟩ := hK
  exact ⟨va_K.moved (u := U) (U := U.calling g mk a) (Vm.Alike.refl U.vm) k1, va_Z.moved (u := U) (U := U.calling g mk a) (Vm.Alike.refl U.vm) k2, ⟨va_Z.moved (u := U) (U := U.calling g mk a) (Vm.Alike.refl U.vm) k3.1, va_Zq.moved (u := U) (U := U.calling g mk a) (Vm.Alike.refl U.vm) k3.2.1, va_T.moved (u := U) (U := U.calling g mk a) (Vm.Alike.refl U.vm) k3.2.2.1, va_X.moved (u := U) (U := U.calling g mk a) (Vm.Alike.refl U.vm) k3.2.2.2.1, k3.2.2.2.2.1, k3.2.2.2.2.2⟩, vk_S.moved (u := U) (U := U.calling g mk a) (Vm.Alike.refl U.vm) k4, fun q hq => vk_R.same (u := U) (U := U.calling g mk a) rfl (k5 q hq), fun q hq => va_Nw.same (u := U) (U := U.calling g mk a) rfl rfl (k6 q hq), va_AO.moved (u := U) (U := U.calling g mk a) (Vm.Alike.refl U.vm) k7, over_moved (u := U) (E := U.calling g mk a) (Vm.Alike.refl U.vm) k8⟩
/-! ===== a method: name, code, locals, return type, depth, cells, slots ===== -/
abbrev zX : Type := MethodName × ByteArray × Nat × Option FieldType × Nat × Nat × Nat
def zdec (X : zX) (pc : Nat) : Except DecodeError (Instr × Nat) := decode X.2.1 pc
def zRoom (X : zX) : Room := { frames := X.2.2.2.2.1, cells := X.2.2.2.2.2.1, slots := X.2.2.2.2.2.2, locals := 36 * X.2.2.2.2.1 }
def zWs (X : zX) : List Cond := Cond.code X.1 X.2.1 X.2.2.1 X.2.2.2.1 :: zT
abbrev zQ : Type := Option Value → zH → Nat → Prop
def zPc (D : zD) (B : Nat) (as : List Value) (h : zH) (sz : Nat) : Array Value → State → Prop := fun v U => v = as.toArray ∧ zK D B U ∧ zV D h U.heap ∧ U.heap.size = sz ∧ B ≤ U.heap.size
def zQc (D : zD) (B : Nat) (Q : zQ) : Array Value → State → Outcome → State → Prop := fun _ st oc t => (∃ (r : Option Value) (h1 : zH), oc = .returned r ∧ Q r h1 t.heap.size ∧ zV D h1 t.heap) ∧ va_F (fun q => B ≤ q) st t
/-- the method X, called with these arguments where the heap is so, ends with Q -/
def zM (D : zD) (B : Nat) (X : zX) (as : List Value) (h : zH) (sz : Nat) (Q : zQ) : Prop := ∀ l : Launch, Met l X.1 (zWs X) (zRoom X) (zPc D B as h sz) (zQc D B Q) X.2.2.2.2.2.1 X.2.2.2.2.2.2 (fun q => B ≤ q)
def zC (D : zD) (B : Nat) (X : zX) (p : Program) (s : State) (m : MethodId) (args : Array Value) (meth : Method) (c : Code) : Prop := p.tables.exec = Jvm.exec ∧ c.code = X.2.1 ∧ c.maxLocals = X.2.2.1 ∧ s.vm.findClass X.1.cls = some m.cls ∧ (∀ w ∈ zT, w.before args s = true) ∧ meth.locks = false ∧ meth.sig.returnType = X.2.2.2.1 ∧ zK D B s ∧ meth.name = X.1.name ∧ B ≤ s.heap.size
def zls (L : List (Option Value)) : List (Nat × Value) := L.zipIdx.filterMap (fun q => q.1.map (fun v => (q.2, v)))
theorem zls_mem {L : List (Option Value)} {i : Nat} {v : Value} : (i, v) ∈ zls L ↔ L[i]? = some (some v) := by
  unfold zls
  rw [List.mem_filterMap]
  constructor
  · rintro ⟨⟨x, j⟩, h1, h2⟩
    cases x with
    | none => cases h2
    | some w =>
      cases h2
      exact List.mk_mem_zipIdx_iff_getElem?.mp h1
  · intro h
    exact ⟨(some v, i), List.mk_mem_zipIdx_iff_getElem?.mpr h, rfl⟩
abbrev zL (ls : Array Slot) (n : Nat) (L : List (Option Value)) : Prop := lv_has ls n (zls L)
theorem zL.at {ls : Array Slot} {n : Nat} {L : List (Option Value)} (h : zL ls n L) {i : Nat} {v : Value} (hi : L[i]? = some (some v)) : ls[i]? = some (.val v) := h.2.2 (i, v) (zls_mem.mpr hi)
/-- no long value lies just ahead of i -/
def zNo2 (L : List (Option Value)) : Nat → Bool
  | 0 => true
  | i + 1 => match L[i]? with
    | some (some v) => v.category == 1
    | _ => true
theorem zL.st1 {ls : Array Slot} {n : Nat} {L : List (Option Value)} {i : Nat} {v : Value} (hk : zNo2 L i = true) (h : lv_has ls n ((i, v) :: (zls L).filter (fun q => !(q.1 == i) && !(q.1 + 1 == i && q.2.category == 2)))) : zL ls n (L.set i (some v)) := by
  refine ⟨h.1, h.2.1, fun q hq => ?_⟩
  obtain ⟨j, u⟩ := q
  have hj := zls_mem.mp hq
  rw [List.getElem?_set] at hj
  by_cases e : i = j
  · subst e
    by_cases hl : i < L.length
    · simp only [hl, if_true] at hj
      cases hj
      exact h.2.2 (i, v) List.mem_cons_self
    · simp [hl] at hj
  · rw [if_neg e] at hj
    refine h.2.2 (j, u) (List.mem_cons_of_mem _ (List.mem_filter.mpr ⟨zls_mem.mpr hj, ?_⟩))
    have e1 : (j == i) = false := by simp; exact fun z => e z.symm
    rw [e1]
    by_cases e2 : j + 1 = i
    · subst e2
      simp only [zNo2, hj] at hk
      have : u.category = 1 := by simpa using hk
      simp [this]
    · simp [e2]
theorem zL.st2 {ls : Array Slot} {n : Nat} {L : List (Option Value)} {i : Nat} {v : Value} (hk : zNo2 L i = true) (h : lv_has ls n ((i, v) :: (zls L).filter (fun q => !(q.1 == i) && (!(q.1 == i + 1) && !(q.1 + 1 == i && q.2.category == 2))))) : zL ls n ((L.set i (some v)).set (i + 1) none) := by
  refine ⟨h.1, h.2.1, fun q hq => ?_⟩
  obtain ⟨j, u⟩ := q
  have hj := zls_mem.mp hq
  rw [List.getElem?_set, List.getElem?_set] at hj
  by_cases e0 : i + 1 = j
  · rw [if_pos e0] at hj
    split at hj <;> cases hj
  rw [if_neg e0] at hj
  by_cases e : i = j
  · subst e
    by_cases hl : i < L.length
    · simp only [hl, if_true] at hj
      cases hj
      exact h.2.2 (i, v) List.mem_cons_self
    · simp [hl] at hj
  · rw [if_neg e] at hj
    refine h.2.2 (j, u) (List.mem_cons_of_mem _ (List.mem_filter.mpr ⟨zls_mem.mpr hj, ?_⟩))
    have e1 : (j == i) = false := by simp; exact fun z => e z.symm
    have e3 : (j == i + 1) = false := by simp; exact fun z => e0 z.symm
    rw [e1, e3]
    by_cases e2 : j + 1 = i
    · subst e2
      simp only [zNo2, hj] at hk
      have : u.category = 1 := by simpa using hk
      simp [this]
    · simp [e2]
/-- THE WALK: at pc, with these locals, stack and heap, the method X comes to its end with Q -/
def Z (D : zD) (B : Nat) (X : zX) (cs ss : Nat) (Q : zQ) (pc : Nat) (L : List (Option Value)) (st : List Value) (h : zH) (sz : Nat) : Prop :=
  ∀ (p : Program) (l : Launch) (e : Env) (s : State) (m : MethodId) (args : Array Value) (below : List Frame) (meth : Method) (c : Code) (H : Heap) (locs : List Loc) (ls : Array Slot), zC D B X p s m args meth c → zL ls X.2.2.1 L → zV D h H → H.size = sz → va_S (fun q => B ≤ q) s.heap H locs →
    W p l e (zRoom X) s m args below meth c H locs cs ss (MQ below (zQc D B Q) args s X.2.2.2.2.2.1 X.2.2.2.2.2.2 (fun q => B ≤ q)) (F0 m pc ls st)

section ZR
variable {D : zD} {B : Nat} {X : zX} {cs ss : Nat} {Q : zQ} {pc : Nat} {L : List (Option Value)} {st : List Value} {h : zH} {sz : Nat}

theorem z_iconst {n : Int} {v : Int32} (hd : zdec X pc = .ok (.iconst n, 1)) (hv : Int32.ofInt n = v) (k : Z D B X cs ss Q (pc + 1) L (.int v :: st) h sz) : Z D B X cs ss Q pc L (st) h sz := by
  intro p l e s m args below meth c H locs ls C hL hV hz hS
  exact lv_iconst C.1 C.2.1 hd hv (k p l e s m args below meth c H locs ls C hL hV hz hS)

theorem z_bipush {n : Int} {v : Int32} (hd : zdec X pc = .ok (.bipush n, 2)) (hv : (Int8.ofInt n).toInt32 = v) (k : Z D B X cs ss Q (pc + 2) L (.int v :: st) h sz) : Z D B X cs ss Q pc L (st) h sz := by
  intro p l e s m args below meth c H locs ls C hL hV hz hS
  exact lv_bipush C.1 C.2.1 hd hv (k p l e s m args below meth c H locs ls C hL hV hz hS)

theorem z_sipush {n : Int} {v : Int32} (hd : zdec X pc = .ok (.sipush n, 3)) (hv : (Int16.ofInt n).toInt32 = v) (k : Z D B X cs ss Q (pc + 3) L (.int v :: st) h sz) : Z D B X cs ss Q pc L (st) h sz := by
  intro p l e s m args below meth c H locs ls C hL hV hz hS
  exact lv_sipush C.1 C.2.1 hd hv (k p l e s m args below meth c H locs ls C hL hV hz hS)

theorem z_lconst {n : Fin 2} {v : Int64} (hd : zdec X pc = .ok (.lconst n, 1)) (hv : Int64.ofNat (n : Nat) = v) (k : Z D B X cs ss Q (pc + 1) L (.long v :: st) h sz) : Z D B X cs ss Q pc L (st) h sz := by
  intro p l e s m args below meth c H locs ls C hL hV hz hS
  exact lv_lconst C.1 C.2.1 hd hv (k p l e s m args below meth c H locs ls C hL hV hz hS)

theorem z_iload_n {j : Fin 4} {x : Int32} (hd : zdec X pc = .ok (.iload_n j, 1)) (hl : L[(j : Nat)]? = some (some (.int x))) (k : Z D B X cs ss Q (pc + 1) L (.int x :: st) h sz) : Z D B X cs ss Q pc L (st) h sz := by
  intro p l e s m args below meth c H locs ls C hL hV hz hS
  exact lv_iload_n C.1 C.2.1 hd rfl (hL.at hl) (k p l e s m args below meth c H locs ls C hL hV hz hS)

theorem z_iload {i : Nat} {x : Int32} (hd : zdec X pc = .ok (.iload i, 2)) (hl : L[i]? = some (some (.int x))) (k : Z D B X cs ss Q (pc + 2) L (.int x :: st) h sz) : Z D B X cs ss Q pc L (st) h sz := by
  intro p l e s m args below meth c H locs ls C hL hV hz hS
  exact lv_iload C.1 C.2.1 hd (hL.at hl) (k p l e s m args below meth c H locs ls C hL hV hz hS)

theorem z_lload_n {j : Fin 4} {x : Int64} (hd : zdec X pc = .ok (.lload_n j, 1)) (hl : L[(j : Nat)]? = some (some (.long x))) (k : Z D B X cs ss Q (pc + 1) L (.long x :: st) h sz) : Z D B X cs ss Q pc L (st) h sz := by
  intro p l e s m args below meth c H locs ls C hL hV hz hS
  exact lv_lload_n C.1 C.2.1 hd rfl (hL.at hl) (k p l e s m args below meth c H locs ls C hL hV hz hS)

theorem z_lload {i : Nat} {x : Int64} (hd : zdec X pc = .ok (.lload i, 2)) (hl : L[i]? = some (some (.long x))) (k : Z D B X cs ss Q (pc + 2) L (.long x :: st) h sz) : Z D B X cs ss Q pc L (st) h sz := by
  intro p l e s m args below meth c H locs ls C hL hV hz hS
  exact lv_lload C.1 C.2.1 hd (hL.at hl) (k p l e s m args below meth c H locs ls C hL hV hz hS)

theorem z_aload_n {j : Fin 4} {x : Nat} (hd : zdec X pc = .ok (.aload_n j, 1)) (hl : L[(j : Nat)]? = some (some (.ref x))) (k : Z D B X cs ss Q (pc + 1) L (.ref x :: st) h sz) : Z D B X cs ss Q pc L (st) h sz := by
  intro p l e s m args below meth c H locs ls C hL hV hz hS
  exact lv_aload_n C.1 C.2.1 hd rfl (hL.at hl) (k p l e s m args below meth c H locs ls C hL hV hz hS)

theorem z_aload {i : Nat} {x : Nat} (hd : zdec X pc = .ok (.aload i, 2)) (hl : L[i]? = some (some (.ref x))) (k : Z D B X cs ss Q (pc + 2) L (.ref x :: st) h sz) : Z D B X cs ss Q pc L (st) h sz := by
  intro p l e s m args below meth c H locs ls C hL hV hz hS
  exact lv_aload C.1 C.2.1 hd (hL.at hl) (k p l e s m args below meth c H locs ls C hL hV hz hS)

theorem z_iadd {x y : Int32} (hd : zdec X pc = .ok (.iadd, 1)) (k : Z D B X cs ss Q (pc + 1) L (.int (x + y) :: st) h sz) : Z D B X cs ss Q pc L (.int y :: .int x :: st) h sz := by
  intro p l e s m args below meth c H locs ls C hL hV hz hS
  exact lv_iadd C.1 C.2.1 hd (k p l e s m args below meth c H locs ls C hL hV hz hS)

theorem z_isub {x y : Int32} (hd : zdec X pc = .ok (.isub, 1)) (k : Z D B X cs ss Q (pc + 1) L (.int (x - y) :: st) h sz) : Z D B X cs ss Q pc L (.int y :: .int x :: st) h sz := by
  intro p l e s m args below meth c H locs ls C hL hV hz hS
  exact lv_isub C.1 C.2.1 hd (k p l e s m args below meth c H locs ls C hL hV hz hS)

theorem z_imul {x y : Int32} (hd : zdec X pc = .ok (.imul, 1)) (k : Z D B X cs ss Q (pc + 1) L (.int (x * y) :: st) h sz) : Z D B X cs ss Q pc L (.int y :: .int x :: st) h sz := by
  intro p l e s m args below meth c H locs ls C hL hV hz hS
  exact lv_imul C.1 C.2.1 hd (k p l e s m args below meth c H locs ls C hL hV hz hS)

theorem z_iand {x y : Int32} (hd : zdec X pc = .ok (.iand, 1)) (k : Z D B X cs ss Q (pc + 1) L (.int (x &&& y) :: st) h sz) : Z D B X cs ss Q pc L (.int y :: .int x :: st) h sz := by
  intro p l e s m args below meth c H locs ls C hL hV hz hS
  exact lv_iand C.1 C.2.1 hd (k p l e s m args below meth c H locs ls C hL hV hz hS)

theorem z_ior {x y : Int32} (hd : zdec X pc = .ok (.ior, 1)) (k : Z D B X cs ss Q (pc + 1) L (.int (x ||| y) :: st) h sz) : Z D B X cs ss Q pc L (.int y :: .int x :: st) h sz := by
  intro p l e s m args below meth c H locs ls C hL hV hz hS
  exact lv_ior C.1 C.2.1 hd (k p l e s m args below meth c H locs ls C hL hV hz hS)

theorem z_ixor {x y : Int32} (hd : zdec X pc = .ok (.ixor, 1)) (k : Z D B X cs ss Q (pc + 1) L (.int (x ^^^ y) :: st) h sz) : Z D B X cs ss Q pc L (.int y :: .int x :: st) h sz := by
  intro p l e s m args below meth c H locs ls C hL hV hz hS
  exact lv_ixor C.1 C.2.1 hd (k p l e s m args below meth c H locs ls C hL hV hz hS)

theorem z_ishl {x y : Int32} (hd : zdec X pc = .ok (.ishl, 1)) (k : Z D B X cs ss Q (pc + 1) L (.int (x <<< (y &&& 31)) :: st) h sz) : Z D B X cs ss Q pc L (.int y :: .int x :: st) h sz := by
  intro p l e s m args below meth c H locs ls C hL hV hz hS
  exact lv_ishl C.1 C.2.1 hd (k p l e s m args below meth c H locs ls C hL hV hz hS)

theorem z_ishr {x y : Int32} (hd : zdec X pc = .ok (.ishr, 1)) (k : Z D B X cs ss Q (pc + 1) L (.int (x >>> (y &&& 31)) :: st) h sz) : Z D B X cs ss Q pc L (.int y :: .int x :: st) h sz := by
  intro p l e s m args below meth c H locs ls C hL hV hz hS
  exact lv_ishr C.1 C.2.1 hd (k p l e s m args below meth c H locs ls C hL hV hz hS)

theorem z_ladd {x y : Int64} (hd : zdec X pc = .ok (.ladd, 1)) (k : Z D B X cs ss Q (pc + 1) L (.long (x + y) :: st) h sz) : Z D B X cs ss Q pc L (.long y :: .long x :: st) h sz := by
  intro p l e s m args below meth c H locs ls C hL hV hz hS
  exact lv_ladd C.1 C.2.1 hd (k p l e s m args below meth c H locs ls C hL hV hz hS)

theorem z_lsub {x y : Int64} (hd : zdec X pc = .ok (.lsub, 1)) (k : Z D B X cs ss Q (pc + 1) L (.long (x - y) :: st) h sz) : Z D B X cs ss Q pc L (.long y :: .long x :: st) h sz := by
  intro p l e s m args below meth c H locs ls C hL hV hz hS
  exact lv_lsub C.1 C.2.1 hd (k p l e s m args below meth c H locs ls C hL hV hz hS)

theorem z_land {x y : Int64} (hd : zdec X pc = .ok (.land, 1)) (k : Z D B X cs ss Q (pc + 1) L (.long (x &&& y) :: st) h sz) : Z D B X cs ss Q pc L (.long y :: .long x :: st) h sz := by
  intro p l e s m args below meth c H locs ls C hL hV hz hS
  exact lv_land C.1 C.2.1 hd (k p l e s m args below meth c H locs ls C hL hV hz hS)

theorem z_lor {x y : Int64} (hd : zdec X pc = .ok (.lor, 1)) (k : Z D B X cs ss Q (pc + 1) L (.long (x ||| y) :: st) h sz) : Z D B X cs ss Q pc L (.long y :: .long x :: st) h sz := by
  intro p l e s m args below meth c H locs ls C hL hV hz hS
  exact lv_lor C.1 C.2.1 hd (k p l e s m args below meth c H locs ls C hL hV hz hS)

theorem z_idiv {x y : Int32} (hd : zdec X pc = .ok (.idiv, 1)) (hne : ¬ y = 0) (k : Z D B X cs ss Q (pc + 1) L (.int (x / y) :: st) h sz) : Z D B X cs ss Q pc L (.int y :: .int x :: st) h sz := by
  intro p l e s m args below meth c H locs ls C hL hV hz hS
  exact lv_idiv C.1 C.2.1 hd hne (k p l e s m args below meth c H locs ls C hL hV hz hS)

theorem z_irem {x y : Int32} (hd : zdec X pc = .ok (.irem, 1)) (hne : ¬ y = 0) (k : Z D B X cs ss Q (pc + 1) L (.int (x - x / y * y) :: st) h sz) : Z D B X cs ss Q pc L (.int y :: .int x :: st) h sz := by
  intro p l e s m args below meth c H locs ls C hL hV hz hS
  exact lv_irem C.1 C.2.1 hd hne (k p l e s m args below meth c H locs ls C hL hV hz hS)

theorem z_ineg {x : Int32} (hd : zdec X pc = .ok (.ineg, 1)) (k : Z D B X cs ss Q (pc + 1) L (.int (-x) :: st) h sz) : Z D B X cs ss Q pc L (.int x :: st) h sz := by
  intro p l e s m args below meth c H locs ls C hL hV hz hS
  exact lv_ineg C.1 C.2.1 hd (k p l e s m args below meth c H locs ls C hL hV hz hS)

theorem z_i2l {x : Int32} (hd : zdec X pc = .ok (.i2l, 1)) (k : Z D B X cs ss Q (pc + 1) L (.long x.toInt64 :: st) h sz) : Z D B X cs ss Q pc L (.int x :: st) h sz := by
  intro p l e s m args below meth c H locs ls C hL hV hz hS
  exact lv_i2l C.1 C.2.1 hd rfl (k p l e s m args below meth c H locs ls C hL hV hz hS)

theorem z_l2i {x : Int64} (hd : zdec X pc = .ok (.l2i, 1)) (k : Z D B X cs ss Q (pc + 1) L (.int x.toInt32 :: st) h sz) : Z D B X cs ss Q pc L (.long x :: st) h sz := by
  intro p l e s m args below meth c H locs ls C hL hV hz hS
  exact lv_l2i C.1 C.2.1 hd rfl (k p l e s m args below meth c H locs ls C hL hV hz hS)

theorem z_i2b {x : Int32} (hd : zdec X pc = .ok (.i2b, 1)) (k : Z D B X cs ss Q (pc + 1) L (.int x.toInt8.toInt32 :: st) h sz) : Z D B X cs ss Q pc L (.int x :: st) h sz := by
  intro p l e s m args below meth c H locs ls C hL hV hz hS
  exact lv_i2b C.1 C.2.1 hd rfl (k p l e s m args below meth c H locs ls C hL hV hz hS)

theorem z_i2s {x : Int32} (hd : zdec X pc = .ok (.i2s, 1)) (k : Z D B X cs ss Q (pc + 1) L (.int x.toInt16.toInt32 :: st) h sz) : Z D B X cs ss Q pc L (.int x :: st) h sz := by
  intro p l e s m args below meth c H locs ls C hL hV hz hS
  exact lv_i2s C.1 C.2.1 hd rfl (k p l e s m args below meth c H locs ls C hL hV hz hS)

theorem z_i2c {x : Int32} (hd : zdec X pc = .ok (.i2c, 1)) (k : Z D B X cs ss Q (pc + 1) L (.int (x.toUInt32 % 65536).toInt32 :: st) h sz) : Z D B X cs ss Q pc L (.int x :: st) h sz := by
  intro p l e s m args below meth c H locs ls C hL hV hz hS
  exact lv_i2c C.1 C.2.1 hd rfl (k p l e s m args below meth c H locs ls C hL hV hz hS)

theorem z_iushr {x y : Int32} (hd : zdec X pc = .ok (.iushr, 1)) (k : Z D B X cs ss Q (pc + 1) L (.int (x.toUInt32 >>> (y.toUInt32 &&& Int32.toUInt32 31)).toInt32 :: st) h sz) : Z D B X cs ss Q pc L (.int y :: .int x :: st) h sz := by
  intro p l e s m args below meth c H locs ls C hL hV hz hS
  exact lv_iushr C.1 C.2.1 hd rfl (k p l e s m args below meth c H locs ls C hL hV hz hS)

theorem z_lshl {x : Int64} {y : Int32} (hd : zdec X pc = .ok (.lshl, 1)) (k : Z D B X cs ss Q (pc + 1) L (.long (x <<< (y.toInt64 &&& 63)) :: st) h sz) : Z D B X cs ss Q pc L (.int y :: .long x :: st) h sz := by
  intro p l e s m args below meth c H locs ls C hL hV hz hS
  exact lv_lshl C.1 C.2.1 hd rfl (k p l e s m args below meth c H locs ls C hL hV hz hS)

theorem z_dup {v : Value} (hd : zdec X pc = .ok (.dup, 1)) (hc : v.category = 1) (k : Z D B X cs ss Q (pc + 1) L (v :: v :: st) h sz) : Z D B X cs ss Q pc L (v :: st) h sz := by
  intro p l e s m args below meth c H locs ls C hL hV hz hS
  exact lv_dup C.1 C.2.1 hd hc (k p l e s m args below meth c H locs ls C hL hV hz hS)

theorem z_pop {v : Value} (hd : zdec X pc = .ok (.pop, 1)) (hc : v.category = 1) (k : Z D B X cs ss Q (pc + 1) L (st) h sz) : Z D B X cs ss Q pc L (v :: st) h sz := by
  intro p l e s m args below meth c H locs ls C hL hV hz hS
  exact lv_pop C.1 C.2.1 hd hc (k p l e s m args below meth c H locs ls C hL hV hz hS)

theorem z_dup_x1 {u v : Value} (hd : zdec X pc = .ok (.dup_x1, 1)) (hc : v.category = 1) (hc2 : u.category = 1) (k : Z D B X cs ss Q (pc + 1) L (v :: u :: v :: st) h sz) : Z D B X cs ss Q pc L (v :: u :: st) h sz := by
  intro p l e s m args below meth c H locs ls C hL hV hz hS
  exact lv_dup_x1 C.1 C.2.1 hd hc hc2 (k p l e s m args below meth c H locs ls C hL hV hz hS)

theorem z_dup_x2 {t u v : Value} (hd : zdec X pc = .ok (.dup_x2, 1)) (hc : v.category = 1) (hc2 : u.category = 1) (hc3 : t.category = 1) (k : Z D B X cs ss Q (pc + 1) L (v :: u :: t :: v :: st) h sz) : Z D B X cs ss Q pc L (v :: u :: t :: st) h sz := by
  intro p l e s m args below meth c H locs ls C hL hV hz hS
  exact lv_dup_x2 C.1 C.2.1 hd hc hc2 hc3 (k p l e s m args below meth c H locs ls C hL hV hz hS)

theorem z_dup2 {u v : Value} (hd : zdec X pc = .ok (.dup2, 1)) (hc : v.category = 1) (hc2 : u.category = 1) (k : Z D B X cs ss Q (pc + 1) L (v :: u :: v :: u :: st) h sz) : Z D B X cs ss Q pc L (v :: u :: st) h sz := by
  intro p l e s m args below meth c H locs ls C hL hV hz hS
  exact lv_dup2_11 C.1 C.2.1 hd hc hc2 (k p l e s m args below meth c H locs ls C hL hV hz hS)

theorem z_null  (hd : zdec X pc = .ok (.aconst_null, 1)) (k : Z D B X cs ss Q (pc + 1) L (.null :: st) h sz) : Z D B X cs ss Q pc L (st) h sz := by
  intro p l e s m args below meth c H locs ls C hL hV hz hS
  exact lv_null C.1 C.2.1 hd (k p l e s m args below meth c H locs ls C hL hV hz hS)

theorem z_istore_n {j : Fin 4} {x : Int32} (hd : zdec X pc = .ok (.istore_n j, 1)) (hn : Nat.ble ((j : Nat) + 1) X.2.2.1 = true) (h2 : zNo2 L (j : Nat) = true) (k : Z D B X cs ss Q (pc + 1) (L.set (j : Nat) (some (.int x))) st h sz) : Z D B X cs ss Q pc L (.int x :: st) h sz := by
  intro p l e s m args below meth c H locs ls C hL hV hz hS
  exact lv_istore_n C.1 C.2.1 hd rfl hL (Nat.le_of_ble_eq_true hn) rfl (fun ls hl => k p l e s m args below meth c H locs ls C (zL.st1 h2 hl) hV hz hS)

theorem z_istore {i : Nat} {x : Int32} (hd : zdec X pc = .ok (.istore i, 2)) (hn : Nat.ble (i + 1) X.2.2.1 = true) (h2 : zNo2 L i = true) (k : Z D B X cs ss Q (pc + 2) (L.set i (some (.int x))) st h sz) : Z D B X cs ss Q pc L (.int x :: st) h sz := by
  intro p l e s m args below meth c H locs ls C hL hV hz hS
  exact lv_istore C.1 C.2.1 hd hL (Nat.le_of_ble_eq_true hn) rfl (fun ls hl => k p l e s m args below meth c H locs ls C (zL.st1 h2 hl) hV hz hS)

theorem z_astore_n {j : Fin 4} {x : Nat} (hd : zdec X pc = .ok (.astore_n j, 1)) (hn : Nat.ble ((j : Nat) + 1) X.2.2.1 = true) (h2 : zNo2 L (j : Nat) = true) (k : Z D B X cs ss Q (pc + 1) (L.set (j : Nat) (some (.ref x))) st h sz) : Z D B X cs ss Q pc L (.ref x :: st) h sz := by
  intro p l e s m args below meth c H locs ls C hL hV hz hS
  exact lv_astore_n C.1 C.2.1 hd rfl hL (Nat.le_of_ble_eq_true hn) rfl (fun ls hl => k p l e s m args below meth c H locs ls C (zL.st1 h2 hl) hV hz hS)

theorem z_astore {i : Nat} {x : Nat} (hd : zdec X pc = .ok (.astore i, 2)) (hn : Nat.ble (i + 1) X.2.2.1 = true) (h2 : zNo2 L i = true) (k : Z D B X cs ss Q (pc + 2) (L.set i (some (.ref x))) st h sz) : Z D B X cs ss Q pc L (.ref x :: st) h sz := by
  intro p l e s m args below meth c H locs ls C hL hV hz hS
  exact lv_astore C.1 C.2.1 hd hL (Nat.le_of_ble_eq_true hn) rfl (fun ls hl => k p l e s m args below meth c H locs ls C (zL.st1 h2 hl) hV hz hS)

theorem z_lstore_n {j : Fin 4} {x : Int64} (hd : zdec X pc = .ok (.lstore_n j, 1)) (hn : Nat.ble ((j : Nat) + 2) X.2.2.1 = true) (h2 : zNo2 L (j : Nat) = true) (k : Z D B X cs ss Q (pc + 1) ((L.set (j : Nat) (some (.long x))).set ((j : Nat) + 1) none) st h sz) : Z D B X cs ss Q pc L (.long x :: st) h sz := by
  intro p l e s m args below meth c H locs ls C hL hV hz hS
  exact lv_lstore_n C.1 C.2.1 hd rfl hL (Nat.le_of_ble_eq_true hn) rfl (fun ls hl => k p l e s m args below meth c H locs ls C (zL.st2 h2 hl) hV hz hS)

theorem z_lstore {i : Nat} {x : Int64} (hd : zdec X pc = .ok (.lstore i, 2)) (hn : Nat.ble (i + 2) X.2.2.1 = true) (h2 : zNo2 L i = true) (k : Z D B X cs ss Q (pc + 2) ((L.set i (some (.long x))).set (i + 1) none) st h sz) : Z D B X cs ss Q pc L (.long x :: st) h sz := by
  intro p l e s m args below meth c H locs ls C hL hV hz hS
  exact lv_lstore C.1 C.2.1 hd hL (Nat.le_of_ble_eq_true hn) rfl (fun ls hl => k p l e s m args below meth c H locs ls C (zL.st2 h2 hl) hV hz hS)

theorem z_iinc {i : Nat} {n : Int} {x v : Int32} (hd : zdec X pc = .ok (.iinc i n, 3)) (hl : L[i]? = some (some (.int x))) (hv : x + Int32.ofInt n = v) (hn : Nat.ble (i + 1) X.2.2.1 = true) (h2 : zNo2 L i = true) (k : Z D B X cs ss Q (pc + 3) (L.set i (some (.int v))) st h sz) : Z D B X cs ss Q pc L st h sz := by
  intro p l e s m args below meth c H locs ls C hL hV hz hS
  obtain ⟨j, hj⟩ := List.getElem?_of_mem (zls_mem.mpr hl)
  exact lv_iinc C.1 C.2.1 hd hL hj hv (Nat.le_of_ble_eq_true hn) rfl (fun ls hl => k p l e s m args below meth c H locs ls C (zL.st1 h2 hl) hV hz hS)

theorem z_if_eq {x : Int32} {off : Int} {tgt : Nat} (hd : zdec X pc = .ok (.ifCond .eq off, 3)) (ht : (pc : Int) + off = (tgt : Int)) (kt : x = 0 → Z D B X cs ss Q tgt L st h sz) (kf : ¬ x = 0 → Z D B X cs ss Q (pc + 3) L st h sz) : Z D B X cs ss Q pc L (.int x :: st) h sz := by
  intro p l e s m args below meth c H locs ls C hL hV hz hS
  exact lv_if_eq C.1 C.2.1 hd ht (fun q => kt q p l e s m args below meth c H locs ls C hL hV hz hS) (fun q => kf q p l e s m args below meth c H locs ls C hL hV hz hS)

theorem z_icmp_eq {x y : Int32} {off : Int} {tgt : Nat} (hd : zdec X pc = .ok (.if_icmp .eq off, 3)) (ht : (pc : Int) + off = (tgt : Int)) (kt : x = y → Z D B X cs ss Q tgt L st h sz) (kf : ¬ x = y → Z D B X cs ss Q (pc + 3) L st h sz) : Z D B X cs ss Q pc L (.int y :: .int x :: st) h sz := by
  intro p l e s m args below meth c H locs ls C hL hV hz hS
  exact lv_icmp_eq C.1 C.2.1 hd ht (fun q => kt q p l e s m args below meth c H locs ls C hL hV hz hS) (fun q => kf q p l e s m args below meth c H locs ls C hL hV hz hS)

theorem z_if_ne {x : Int32} {off : Int} {tgt : Nat} (hd : zdec X pc = .ok (.ifCond .ne off, 3)) (ht : (pc : Int) + off = (tgt : Int)) (kt : ¬ x = 0 → Z D B X cs ss Q tgt L st h sz) (kf : x = 0 → Z D B X cs ss Q (pc + 3) L st h sz) : Z D B X cs ss Q pc L (.int x :: st) h sz := by
  intro p l e s m args below meth c H locs ls C hL hV hz hS
  exact lv_if_ne C.1 C.2.1 hd ht (fun q => kt q p l e s m args below meth c H locs ls C hL hV hz hS) (fun q => kf q p l e s m args below meth c H locs ls C hL hV hz hS)

theorem z_icmp_ne {x y : Int32} {off : Int} {tgt : Nat} (hd : zdec X pc = .ok (.if_icmp .ne off, 3)) (ht : (pc : Int) + off = (tgt : Int)) (kt : ¬ x = y → Z D B X cs ss Q tgt L st h sz) (kf : x = y → Z D B X cs ss Q (pc + 3) L st h sz) : Z D B X cs ss Q pc L (.int y :: .int x :: st) h sz := by
  intro p l e s m args below meth c H locs ls C hL hV hz hS
  exact lv_icmp_ne C.1 C.2.1 hd ht (fun q => kt q p l e s m args below meth c H locs ls C hL hV hz hS) (fun q => kf q p l e s m args below meth c H locs ls C hL hV hz hS)

theorem z_if_lt {x : Int32} {off : Int} {tgt : Nat} (hd : zdec X pc = .ok (.ifCond .lt off, 3)) (ht : (pc : Int) + off = (tgt : Int)) (kt : x < 0 → Z D B X cs ss Q tgt L st h sz) (kf : ¬ x < 0 → Z D B X cs ss Q (pc + 3) L st h sz) : Z D B X cs ss Q pc L (.int x :: st) h sz := by
  intro p l e s m args below meth c H locs ls C hL hV hz hS
  exact lv_if_lt C.1 C.2.1 hd ht (fun q => kt q p l e s m args below meth c H locs ls C hL hV hz hS) (fun q => kf q p l e s m args below meth c H locs ls C hL hV hz hS)

theorem z_icmp_lt {x y : Int32} {off : Int} {tgt : Nat} (hd : zdec X pc = .ok (.if_icmp .lt off, 3)) (ht : (pc : Int) + off = (tgt : Int)) (kt : x < y → Z D B X cs ss Q tgt L st h sz) (kf : ¬ x < y → Z D B X cs ss Q (pc + 3) L st h sz) : Z D B X cs ss Q pc L (.int y :: .int x :: st) h sz := by
  intro p l e s m args below meth c H locs ls C hL hV hz hS
  exact lv_icmp_lt C.1 C.2.1 hd ht (fun q => kt q p l e s m args below meth c H locs ls C hL hV hz hS) (fun q => kf q p l e s m args below meth c H locs ls C hL hV hz hS)

theorem z_if_ge {x : Int32} {off : Int} {tgt : Nat} (hd : zdec X pc = .ok (.ifCond .ge off, 3)) (ht : (pc : Int) + off = (tgt : Int)) (kt : 0 ≤ x → Z D B X cs ss Q tgt L st h sz) (kf : ¬ 0 ≤ x → Z D B X cs ss Q (pc + 3) L st h sz) : Z D B X cs ss Q pc L (.int x :: st) h sz := by
  intro p l e s m args below meth c H locs ls C hL hV hz hS
  exact lv_if_ge C.1 C.2.1 hd ht (fun q => kt q p l e s m args below meth c H locs ls C hL hV hz hS) (fun q => kf q p l e s m args below meth c H locs ls C hL hV hz hS)

theorem z_icmp_ge {x y : Int32} {off : Int} {tgt : Nat} (hd : zdec X pc = .ok (.if_icmp .ge off, 3)) (ht : (pc : Int) + off = (tgt : Int)) (kt : y ≤ x → Z D B X cs ss Q tgt L st h sz) (kf : ¬ y ≤ x → Z D B X cs ss Q (pc + 3) L st h sz) : Z D B X cs ss Q pc L (.int y :: .int x :: st) h sz := by
  intro p l e s m args below meth c H locs ls C hL hV hz hS
  exact lv_icmp_ge C.1 C.2.1 hd ht (fun q => kt q p l e s m args below meth c H locs ls C hL hV hz hS) (fun q => kf q p l e s m args below meth c H locs ls C hL hV hz hS)

theorem z_if_gt {x : Int32} {off : Int} {tgt : Nat} (hd : zdec X pc = .ok (.ifCond .gt off, 3)) (ht : (pc : Int) + off = (tgt : Int)) (kt : 0 < x → Z D B X cs ss Q tgt L st h sz) (kf : ¬ 0 < x → Z D B X cs ss Q (pc + 3) L st h sz) : Z D B X cs ss Q pc L (.int x :: st) h sz := by
  intro p l e s m args below meth c H locs ls C hL hV hz hS
  exact lv_if_gt C.1 C.2.1 hd ht (fun q => kt q p l e s m args below meth c H locs ls C hL hV hz hS) (fun q => kf q p l e s m args below meth c H locs ls C hL hV hz hS)

theorem z_icmp_gt {x y : Int32} {off : Int} {tgt : Nat} (hd : zdec X pc = .ok (.if_icmp .gt off, 3)) (ht : (pc : Int) + off = (tgt : Int)) (kt : y < x → Z D B X cs ss Q tgt L st h sz) (kf : ¬ y < x → Z D B X cs ss Q (pc + 3) L st h sz) : Z D B X cs ss Q pc L (.int y :: .int x :: st) h sz := by
  intro p l e s m args below meth c H locs ls C hL hV hz hS
  exact lv_icmp_gt C.1 C.2.1 hd ht (fun q => kt q p l e s m args below meth c H locs ls C hL hV hz hS) (fun q => kf q p l e s m args below meth c H locs ls C hL hV hz hS)

theorem z_if_le {x : Int32} {off : Int} {tgt : Nat} (hd : zdec X pc = .ok (.ifCond .le off, 3)) (ht : (pc : Int) + off = (tgt : Int)) (kt : x ≤ 0 → Z D B X cs ss Q tgt L st h sz) (kf : ¬ x ≤ 0 → Z D B X cs ss Q (pc + 3) L st h sz) : Z D B X cs ss Q pc L (.int x :: st) h sz := by
  intro p l e s m args below meth c H locs ls C hL hV hz hS
  exact lv_if_le C.1 C.2.1 hd ht (fun q => kt q p l e s m args below meth c H locs ls C hL hV hz hS) (fun q => kf q p l e s m args below meth c H locs ls C hL hV hz hS)

theorem z_icmp_le {x y : Int32} {off : Int} {tgt : Nat} (hd : zdec X pc = .ok (.if_icmp .le off, 3)) (ht : (pc : Int) + off = (tgt : Int)) (kt : x ≤ y → Z D B X cs ss Q tgt L st h sz) (kf : ¬ x ≤ y → Z D B X cs ss Q (pc + 3) L st h sz) : Z D B X cs ss Q pc L (.int y :: .int x :: st) h sz := by
  intro p l e s m args below meth c H locs ls C hL hV hz hS
  exact lv_icmp_le C.1 C.2.1 hd ht (fun q => kt q p l e s m args below meth c H locs ls C hL hV hz hS) (fun q => kf q p l e s m args below meth c H locs ls C hL hV hz hS)

theorem z_goto {off : Int} {tgt : Nat} (hd : zdec X pc = .ok (.goto off, 3)) (ht : (pc : Int) + off = (tgt : Int)) (k : Z D B X cs ss Q tgt L st h sz) : Z D B X cs ss Q pc L st h sz := by
  intro p l e s m args below meth c H locs ls C hL hV hz hS
  exact lv_goto C.1 C.2.1 hd ht (k p l e s m args below meth c H locs ls C hL hV hz hS)
theorem z_ifnonnull {x : Nat} {off : Int} {tgt : Nat} (hd : zdec X pc = .ok (.ifnonnull off, 3)) (ht : (pc : Int) + off = (tgt : Int)) (k : Z D B X cs ss Q tgt L st h sz) : Z D B X cs ss Q pc L (.ref x :: st) h sz := by
  intro p l e s m args below meth c H locs ls C hL hV hz hS
  exact lv_ifnonnull C.1 C.2.1 hd ht (k p l e s m args below meth c H locs ls C hL hV hz hS)
theorem z_ifnonnullN {off : Int} (hd : zdec X pc = .ok (.ifnonnull off, 3)) (k : Z D B X cs ss Q (pc + 3) L st h sz) : Z D B X cs ss Q pc L (.null :: st) h sz := by
  intro p l e s m args below meth c H locs ls C hL hV hz hS
  exact lv_ifnonnullN C.1 C.2.1 hd (k p l e s m args below meth c H locs ls C hL hV hz hS)
theorem z_tableOut {dflt lo hi : Int} {offs : Array Int} {len : Nat} {x : Int32} {tgt : Nat} (hd : zdec X pc = .ok (.tableswitch dflt lo hi offs, len)) (hx : x.toInt < lo ∨ hi < x.toInt) (ht : (pc : Int) + dflt = (tgt : Int)) (k : Z D B X cs ss Q tgt L st h sz) : Z D B X cs ss Q pc L (.int x :: st) h sz := by
  intro p l e s m args below meth c H locs ls C hL hV hz hS
  exact lv_tableOut C.1 C.2.1 hd hx ht (k p l e s m args below meth c H locs ls C hL hV hz hS)
theorem z_tableIn {dflt lo hi : Int} {offs : Array Int} {len : Nat} {x : Int32} {off : Int} {tgt : Nat} (hd : zdec X pc = .ok (.tableswitch dflt lo hi offs, len)) (h1 : ¬ x.toInt < lo) (h2 : ¬ hi < x.toInt) (ho : offs[(x.toInt - lo).toNat]? = some off) (ht : (pc : Int) + off = (tgt : Int)) (k : Z D B X cs ss Q tgt L st h sz) : Z D B X cs ss Q pc L (.int x :: st) h sz := by
  intro p l e s m args below meth c H locs ls C hL hV hz hS
  exact lv_tableIn C.1 C.2.1 hd h1 h2 ho ht (k p l e s m args below meth c H locs ls C hL hV hz hS)
theorem z_lookup {dflt : Int} {ps : Array (Int × Int)} {len : Nat} {x : Int32} {off : Int} {tgt : Nat} (hd : zdec X pc = .ok (.lookupswitch dflt ps, len)) (hp : (ps.toList.zip (ps.toList.drop 1)).all (fun (a, next) => a.1 < next.1) = true) (ho : Op.lookupswitch.offset ps.toList dflt x.toInt = off) (ht : (pc : Int) + off = (tgt : Int)) (k : Z D B X cs ss Q tgt L st h sz) : Z D B X cs ss Q pc L (.int x :: st) h sz := by
  intro p l e s m args below meth c H locs ls C hL hV hz hS
  exact lv_lookup C.1 C.2.1 hd hp ho ht (k p l e s m args below meth c H locs ls C hL hV hz hS)
theorem z_lcmp {x y : Int64} (hd : zdec X pc = .ok (.lcmp, 1)) (k : Z D B X cs ss Q (pc + 1) L (.int (lg_cmp x y) :: st) h sz) : Z D B X cs ss Q pc L (.long y :: .long x :: st) h sz := by
  intro p l e s m args below meth c H locs ls C hL hV hz hS
  exact W.lcmp C.1 C.2.1 hd (k p l e s m args below meth c H locs ls C hL hV hz hS)
theorem z_top {v u : Value} (e : v = u) (k : Z D B X cs ss Q pc L (u :: st) h sz) : Z D B X cs ss Q pc L (v :: st) h sz := e ▸ k
theorem z_ldc {index : Nat} {v : Int32} (hd : zdec X pc = .ok (.ldc index, 2)) (hc : Cond.constant X.1.cls index v ∈ zT) (k : Z D B X cs ss Q (pc + 2) L (.int v :: st) h sz) : Z D B X cs ss Q pc L st h sz := by
  intro p l e s m args below meth c H locs ls C hL hV hz hS
  exact lv_ldc C.1 C.2.1 C.2.2.2.1 (C.2.2.2.2.1 _ hc) hd (k p l e s m args below meth c H locs ls C hL hV hz hS)
theorem z_ldcw {index : Nat} {v : Int32} (hd : zdec X pc = .ok (.ldc_w index, 3)) (hc : Cond.constant X.1.cls index v ∈ zT) (k : Z D B X cs ss Q (pc + 3) L (.int v :: st) h sz) : Z D B X cs ss Q pc L st h sz := by
  intro p l e s m args below meth c H locs ls C hL hV hz hS
  exact lv_ldcw C.1 C.2.1 C.2.2.2.1 (C.2.2.2.2.1 _ hc) hd (k p l e s m args below meth c H locs ls C hL hV hz hS)
theorem z_ldc2 {index : Nat} {v : Int64} (hd : zdec X pc = .ok (.ldc2_w index, 3)) (hc : Cond.constantLong X.1.cls index v ∈ zT) (k : Z D B X cs ss Q (pc + 3) L (.long v :: st) h sz) : Z D B X cs ss Q pc L st h sz := by
  intro p l e s m args below meth c H locs ls C hL hV hz hS
  exact lv_ldc2 C.1 C.2.1 C.2.2.2.1 (C.2.2.2.2.1 _ hc) hd (k p l e s m args below meth c H locs ls C hL hV hz hS)

end ZR

/-! ===== fields ===== -/
theorem zIn {ci : Nat} {q : vw_C} (hc : vwCl[ci]? = some q) : ∀ w ∈ u_ws q.1 q.2.1 q.2.2, w ∈ zT := by
  have h : ∀ r ∈ vwCl, ∀ w ∈ u_ws r.1 r.2.1 r.2.2, w ∈ zT := by decide +kernel
  exact h q (List.mem_of_getElem? hc)
def zTyF : Nat → Nat → FieldType
  | 0 => tyX0
  | 1 => tyX1
  | 2 => tyX2
  | 3 => tyX3
  | 4 => tyX4
  | _ => tyX5
theorem zTyF_ok {ci : Nat} {q : vw_C} (hc : vwCl[ci]? = some q) : ∀ k, k < q.2.2 → parseFieldDescriptor (q.2.1 k).2.2.1 = some (zTyF ci k) := by
  match ci, hc with
  | 0, hc => cases hc; exact tyX0_ok
  | 1, hc => cases hc; exact tyX1_ok
  | 2, hc => cases hc; exact tyX2_ok
  | 3, hc => cases hc; exact tyX3_ok
  | 4, hc => cases hc; exact tyX4_ok
  | 5, hc => cases hc; exact tyX5_ok
  | k + 6, hc => simp [vwCl] at hc
theorem zNm_ok {ci : Nat} {q : vw_C} (hc : vwCl[ci]? = some q) : ∀ a, a < q.2.2 → ∀ b, b < q.2.2 → a ≠ b → (q.2.1 a).2.1 ≠ (q.2.1 b).2.1 := by
  match ci, hc with
  | 0, hc => cases hc; exact nmX0
  | 1, hc => cases hc; exact nmX1
  | 2, hc => cases hc; exact nmX2
  | 3, hc => cases hc; exact nmX3
  | 4, hc => cases hc; exact nmX4
  | 5, hc => cases hc; exact nmX5
  | k + 6, hc => simp [vwCl] at hc
/-- entry idx of own's pool is field k of class ci; final or not -/
def zFl (own : String) (idx ci k : Nat) (fin : Bool) : Prop := ∃ q : vw_C, vwCl[ci]? = some q ∧ k < q.2.2 ∧ Cond.fieldLink own idx (q.2.1 k).1 (q.2.1 k).2.1 (q.2.1 k).2.2.1 ∈ zT ∧ (q.2.1 k).2.2.2 = fin ∧ (q.2.1 k).1 = q.1
section ZR2
variable {D : zD} {B : Nat} {X : zX} {cs ss : Nat} {Q : zQ} {pc : Nat} {L : List (Option Value)} {st : List Value} {h : zH} {sz : Nat}
theorem z_getf {idx ci k a : Nat} {fin : Bool} {fs : List Value} {v : Value} (hd : zdec X pc = .ok (.getfield idx, 3)) (hf : zFl X.1.cls idx ci k fin) (ha : h a = some (zO ci fs)) (hv : fs[k]? = some v) (kk : Z D B X cs ss Q (pc + 3) L (v :: st) h sz) : Z D B X cs ss Q pc L (.ref a :: st) h sz := by
  intro p l e s m args below meth c H locs ls C hL hV hz hS
  obtain ⟨q, hq, hk, hlk, -, -⟩ := hf
  have hP : va_P (D.1, D.2.1) vwCl [(a, .inr (ci, fs))] H := fun j x hx => by
    match j, hx with
    | 0, hx => cases hx; exact hV a _ ha
  exact va_get (D := (D.1, D.2.1)) (cl := vwCl) (ci := ci) (C := q.1) (T := q.2.1) (N := q.2.2) (Ts := zT) C.1 C.2.1 C.2.2.2.2.1 (fun w hw => zIn hq w hw) C.2.2.2.1 C.2.2.2.2.2.2.2.1.1 hP 0 rfl hq k hk (C.2.2.2.2.1 _ hlk) (fun _ h9 => h9) hv hd (kk p l e s m args below meth c H locs ls C hL hV hz hS)
theorem z_putf {idx ci k a : Nat} {fs : List Value} {v : Value} (hd : zdec X pc = .ok (.putfield idx, 3)) (hf : zFl X.1.cls idx ci k false) (ha : h a = some (zO ci fs)) (hB : B ≤ a) (hn : narrow (zTyF ci k) v = v) (hfit : fits (zTyF ci k) v = true) (hl : k < fs.length) (kk : Z D B X cs ss Q (pc + 3) L st (zup h a (zO ci (fs.set k v))) sz) : Z D B X cs ss Q pc L (v :: .ref a :: st) h sz := by
  intro p l e s m args below meth c H locs ls C hL hV hz hS
  obtain ⟨q, hq, hk, hlk, hfin, -⟩ := hf
  obtain ⟨C0, T, N⟩ := q
  have hts := C.2.2.2.2.1
  have hin : ∀ w ∈ u_ws C0 T N, w ∈ zT := fun w hw => zIn hq w hw
  have hK := C.2.2.2.2.2.2.2.1.1
  have hap := va_apart (D := (D.1, D.2.1)) (cl := vwCl) (own := X.1.cls) hts hin (zTyF ci) (zTyF_ok hq) (zNm_ok hq) hK hq
  obtain ⟨r, h1, cell, q1, q2, q3, q4⟩ := hV a _ ha
  have hr : r = (C0, T, N) := Option.some.inj (h1.symm.trans hq)
  subst hr
  obtain ⟨hS1, hfc, kC, hkC, hkind⟩ := hK.1 ci _ hq
  obtain ⟨cf, kf, fi, f, hi, hsl⟩ := hS1 k hk
  have hlay := hts _ (hin _ (u_in_lay hk))
  unfold u_lay at hlay
  rw [if_neg (by rw [hfin]; decide)] at hlay
  have hst := (u_facts hfc hkC (u_lays hts hin hk) hi).1
  have h6 := u_store hfc hkC hkind hlay hi (zTyF_ok hq k hk) hn hfit
  refine W.putK C.1 C.2.1 (f := f) ⟨C.2.2.2.1, hts _ hlk, ⟨_, _, _, hi⟩, hst⟩ (by rw [q2]; exact h6) q1 q3 (by rw [hsl]; exact k2_hasslot (q4 k hk)) rfl rfl hd fun H1 e1 e2 e3 => ?_
  rw [hsl] at e1 ⊢
  exact kk p l e s m args below meth c H1 _ ls C hL (hV.set (e := zO ci (fs.set k v)) ⟨_, hq, t_OB.to (V := updV (vp_V fs) k v) ⟨_, e1, q2, q3, t_set q4 hap hk v⟩ (fun j _ => vp_updV_set hl v j)⟩ e3) (e2.trans hz) (hS.put e2 e3 hB)
/-- a final field, in the constructor -/
theorem z_putF {idx ci k a : Nat} {fs : List Value} {v : Value} (hd : zdec X pc = .ok (.putfield idx, 3)) (hf : zFl X.1.cls idx ci k true) (hown : X.1.cls = (vwCl.getD ci ("", TX0, 0)).1) (hinit : X.1.name = "<init>") (ha : h a = some (zO ci fs)) (hB : B ≤ a) (hn : narrow (zTyF ci k) v = v) (hfit : fits (zTyF ci k) v = true) (hl : k < fs.length) (kk : Z D B X cs ss Q (pc + 3) L st (zup h a (zO ci (fs.set k v))) sz) : Z D B X cs ss Q pc L (v :: .ref a :: st) h sz := by
  intro p l e s m args below meth c H locs ls C hL hV hz hS
  obtain ⟨q, hq, hk, hlk, hfin, hdc⟩ := hf
  have hown2 : X.1.cls = q.1 := by rw [hown, List.getD_eq_getElem?_getD, hq]; rfl
  obtain ⟨C0, T, N⟩ := q
  have hP : va_P (D.1, D.2.1) vwCl [(a, .inr (ci, fs))] H := fun j x hx => by
    match j, hx with
    | 0, hx => cases hx; exact hV a _ ha
  have hts := C.2.2.2.2.1
  have hin : ∀ w ∈ u_ws C0 T N, w ∈ zT := fun w hw => zIn hq w hw
  have hK := C.2.2.2.2.2.2.2.1.1
  have hap := va_apart (D := (D.1, D.2.1)) (cl := vwCl) (own := X.1.cls) hts hin (zTyF ci) (zTyF_ok hq) (zNm_ok hq) hK hq
  obtain ⟨r, h1, cell, q1, q2, q3, q4⟩ := hV a _ ha
  have hr : r = (C0, T, N) := Option.some.inj (h1.symm.trans hq)
  subst hr
  obtain ⟨hS1, hfc, kC, hkC, hkind⟩ := hK.1 ci _ hq
  obtain ⟨cf, kf, fi, f, hi, hsl⟩ := hS1 k hk
  have hlay := hts _ (hin _ (u_in_lay hk))
  unfold u_lay at hlay
  rw [if_pos hfin] at hlay
  have hst := (u_facts hfc hkC (u_lays hts hin hk) hi).1
  have hcf : m.cls = cf := by
    obtain ⟨_, _, c', _, _, _, -, -, hf', -, -, -, hown3, -⟩ := Cond.laysFinal_spec hlay
    have e1 : c' = cf := by have := hi.symm.trans hf'; simp at this; exact this.1.symm
    rw [show (T k).1 = C0 from hdc] at hown3
    rw [← e1]; exact Option.some.inj ((C.2.2.2.1.symm.trans (by rw [hown2])).trans hown3)
  have h6 := u_fits hfc hkC hkind (Or.inr hlay) hi (zTyF_ok hq k hk) hn hfit
  refine W.putFinK C.1 C.2.1 C.2.2.2.1 (hts _ hlk) hi hst hcf (C.2.2.2.2.2.2.2.2.1.trans hinit) (by rw [q2]; exact h6) q1 q3 (by rw [hsl]; exact k2_hasslot (q4 k hk)) rfl rfl hd fun H1 e1 e2 e3 => ?_
  rw [hsl] at e1 ⊢
  exact kk p l e s m args below meth c H1 _ ls C hL (hV.set (e := zO ci (fs.set k v)) ⟨_, hq, t_OB.to (V := updV (vp_V fs) k v) ⟨_, e1, q2, q3, t_set q4 hap hk v⟩ (fun j _ => vp_updV_set hl v j)⟩ e3) (e2.trans hz) (hS.put e2 e3 hB)
theorem zLt {i : Int32} {n : Nat} (hin : vp_in i n) : i.toNatClampNeg < n := Nat.not_le.mp fun q => hin (Or.inr q)
theorem z_iald {a n : Nat} {f : Nat → Int32} {i : Int32} (hd : zdec X pc = .ok (.iaload, 1)) (ha : h a = some (zI n f)) (hin : vp_in i n) (kk : Z D B X cs ss Q (pc + 1) L (.int (f i.toNatClampNeg) :: st) h sz) : Z D B X cs ss Q pc L (.int i :: .ref a :: st) h sz := by
  intro p l e s m args below meth c H locs ls C hL hV hz hS
  exact W.iald (v := .int (f i.toNatClampNeg)) C.1 C.2.1 (hV a _ ha) ((C.2.2.2.2.2.2.2.1.1.2 0 (D.2.2.1 0, .int) rfl).1 n (fun j => .int (f j))) (fun q => by cases q) (by show ¬ (i < 0 ∨ (arrV _ _ _).slots.size ≤ _); rw [arrV_size]; exact hin) (by show (arrV _ _ _).slots[_]? = _; rw [arrV_read _ _ (zLt hin)]) rfl rfl hd (kk p l e s m args below meth c H locs ls C hL hV hz hS)
theorem z_zald {a n : Nat} {f : Nat → Int32} {i : Int32} (hd : zdec X pc = .ok (.baload, 1)) (ha : h a = some (zBo n f)) (hin : vp_in i n) (kk : Z D B X cs ss Q (pc + 1) L (.int (f i.toNatClampNeg) :: st) h sz) : Z D B X cs ss Q pc L (.int i :: .ref a :: st) h sz := by
  intro p l e s m args below meth c H locs ls C hL hV hz hS
  exact W.zald (v := .int (f i.toNatClampNeg)) C.1 C.2.1 (hV a _ ha) ((C.2.2.2.2.2.2.2.1.1.2 2 (D.2.2.1 2, .boolean) rfl).1 n (fun j => .int (f j))) (fun q => by cases q) (by show ¬ (i < 0 ∨ (arrV _ _ _).slots.size ≤ _); rw [arrV_size]; exact hin) (by show (arrV _ _ _).slots[_]? = _; rw [arrV_read _ _ (zLt hin)]) rfl rfl hd (kk p l e s m args below meth c H locs ls C hL hV hz hS)
theorem z_lald {a n : Nat} {f : Nat → Int64} {i : Int32} (hd : zdec X pc = .ok (.laload, 1)) (ha : h a = some (zJ n f)) (hin : vp_in i n) (kk : Z D B X cs ss Q (pc + 1) L (.long (f i.toNatClampNeg) :: st) h sz) : Z D B X cs ss Q pc L (.int i :: .ref a :: st) h sz := by
  intro p l e s m args below meth c H locs ls C hL hV hz hS
  exact W.lald (v := .long (f i.toNatClampNeg)) C.1 C.2.1 (hV a _ ha) ((C.2.2.2.2.2.2.2.1.1.2 1 (D.2.2.1 1, .long) rfl).1 n (fun j => .long (f j))) (fun q => by cases q) (by show ¬ (i < 0 ∨ (arrV _ _ _).slots.size ≤ _); rw [arrV_size]; exact hin) (by show (arrV _ _ _).slots[_]? = _; rw [arrV_read _ _ (zLt hin)]) rfl rfl hd (kk p l e s m args below meth c H locs ls C hL hV hz hS)
/-- shelves -/
theorem z_aald3 {a n : Nat} {f : Nat → Option Nat} {i : Int32} (hd : zdec X pc = .ok (.aaload, 1)) (ha : h a = some (zRf 3 n f)) (hin : vp_in i n) (kk : Z D B X cs ss Q (pc + 1) L (va_rf (f i.toNatClampNeg) :: st) h sz) : Z D B X cs ss Q pc L (.int i :: .ref a :: st) h sz := by
  intro p l e s m args below meth c H locs ls C hL hV hz hS
  exact W.aald (v := va_rf (f i.toNatClampNeg)) (ty := .object RX2) C.1 C.2.1 (hV a _ ha) ((C.2.2.2.2.2.2.2.1.1.2 3 (D.2.2.1 3, .object RX2) rfl).1 n (fun j => va_rf (f j))) rfl (fun q => by cases q) (by show ¬ (i < 0 ∨ (arrV _ _ _).slots.size ≤ _); rw [arrV_size]; exact hin) (by show (arrV _ _ _).slots[_]? = _; rw [arrV_read _ _ (zLt hin)]) rfl rfl hd (kk p l e s m args below meth c H locs ls C hL hV hz hS)
/-- rows of longs -/
theorem z_aald4 {a n : Nat} {f : Nat → Option Nat} {i : Int32} (hd : zdec X pc = .ok (.aaload, 1)) (ha : h a = some (zRf 4 n f)) (hin : vp_in i n) (kk : Z D B X cs ss Q (pc + 1) L (va_rf (f i.toNatClampNeg) :: st) h sz) : Z D B X cs ss Q pc L (.int i :: .ref a :: st) h sz := by
  intro p l e s m args below meth c H locs ls C hL hV hz hS
  exact W.aald (v := va_rf (f i.toNatClampNeg)) (ty := .array .long) C.1 C.2.1 (hV a _ ha) ((C.2.2.2.2.2.2.2.1.1.2 4 (D.2.2.1 4, .array .long) rfl).1 n (fun j => va_rf (f j))) rfl (fun q => by cases q) (by show ¬ (i < 0 ∨ (arrV _ _ _).slots.size ≤ _); rw [arrV_size]; exact hin) (by show (arrV _ _ _).slots[_]? = _; rw [arrV_read _ _ (zLt hin)]) rfl rfl hd (kk p l e s m args below meth c H locs ls C hL hV hz hS)
theorem z_iast {a n : Nat} {f : Nat → Int32} {i x : Int32} (hd : zdec X pc = .ok (.iastore, 1)) (ha : h a = some (zI n f)) (hB : B ≤ a) (hin : vp_in i n) (kk : Z D B X cs ss Q (pc + 1) L st (zup h a (zI n (upd f i.toNatClampNeg x))) sz) : Z D B X cs ss Q pc L (.int x :: .int i :: .ref a :: st) h sz := by
  intro p l e s m args below meth c H locs ls C hL hV hz hS
  refine W.iast C.1 C.2.1 (hV a _ ha) ((C.2.2.2.2.2.2.2.1.1.2 0 (D.2.2.1 0, .int) rfl).1 n (fun j => .int (f j))) (fun q => by cases q) (by show ¬ (i < 0 ∨ (arrV _ _ _).slots.size ≤ _); rw [arrV_size]; exact hin) rfl rfl hd fun H1 e1 z oq => ?_
  refine kk p l e s m args below meth c H1 _ ls C hL (hV.set (e := zI n (upd f i.toNatClampNeg x)) ?_ oq) (z.trans hz) (hS.put z oq hB)
  show H1[a]? = some (vp_cell _ _)
  rw [e1]
  show some ((vp_cell _ _).setSlot _ _) = _
  rw [vp_cell_i, vp_cell_i, arrV_store]
  congr 2
  funext q
  by_cases hq : q = i.toNatClampNeg
  · subst hq
    simp [updV, upd]
  · simp [updV, upd, hq]
theorem z_zast {a n : Nat} {f : Nat → Int32} {i x : Int32} (hd : zdec X pc = .ok (.bastore, 1)) (ha : h a = some (zBo n f)) (hB : B ≤ a) (hin : vp_in i n) (kk : Z D B X cs ss Q (pc + 1) L st (zup h a (zBo n (upd f i.toNatClampNeg (vp_nar .boolean x)))) sz) : Z D B X cs ss Q pc L (.int x :: .int i :: .ref a :: st) h sz := by
  intro p l e s m args below meth c H locs ls C hL hV hz hS
  refine W.zast C.1 C.2.1 (hV a _ ha) ((C.2.2.2.2.2.2.2.1.1.2 2 (D.2.2.1 2, .boolean) rfl).1 n (fun j => .int (f j))) (fun q => by cases q) (by show ¬ (i < 0 ∨ (arrV _ _ _).slots.size ≤ _); rw [arrV_size]; exact hin) rfl rfl hd fun H1 e1 z oq => ?_
  refine kk p l e s m args below meth c H1 _ ls C hL (hV.set (e := zBo n (upd f i.toNatClampNeg (vp_nar .boolean x))) ?_ oq) (z.trans hz) (hS.put z oq hB)
  show H1[a]? = some (vp_cell _ _)
  rw [e1]
  show some ((vp_cell _ _).setSlot _ _) = _
  rw [vp_cell_i, vp_cell_i, arrV_store]
  congr 2
  funext q
  by_cases hq : q = i.toNatClampNeg
  · subst hq
    simp [updV, upd, vp_nar]
    try rfl
  · simp [updV, upd, hq]
theorem z_last {a n : Nat} {f : Nat → Int64} {i : Int32} {x : Int64} (hd : zdec X pc = .ok (.lastore, 1)) (ha : h a = some (zJ n f)) (hB : B ≤ a) (hin : vp_in i n) (kk : Z D B X cs ss Q (pc + 1) L st (zup h a (zJ n (vp_updL f i.toNatClampNeg x))) sz) : Z D B X cs ss Q pc L (.long x :: .int i :: .ref a :: st) h sz := by
  intro p l e s m args below meth c H locs ls C hL hV hz hS
  refine W.last C.1 C.2.1 (hV a _ ha) ((C.2.2.2.2.2.2.2.1.1.2 1 (D.2.2.1 1, .long) rfl).1 n (fun j => .long (f j))) (fun q => by cases q) (by show ¬ (i < 0 ∨ (arrV _ _ _).slots.size ≤ _); rw [arrV_size]; exact hin) rfl rfl hd fun H1 e1 z oq => ?_
  refine kk p l e s m args below meth c H1 _ ls C hL (hV.set (e := zJ n (vp_updL f i.toNatClampNeg x)) ?_ oq) (z.trans hz) (hS.put z oq hB)
  show H1[a]? = some (vp_cell _ _)
  rw [e1]
  show some ((vp_cell _ _).setSlot _ _) = _
  rw [vp_cell_l, vp_cell_l, arrV_store]
  congr 2
  funext q
  by_cases hq : q = i.toNatClampNeg
  · subst hq
    simp [updV, vp_updL]
  · simp [updV, vp_updL, hq]
/-! ===== ends ===== -/
theorem z_end {t : State} {s : State} {H : Heap} {locs : List Loc} {args : Array Value} {r : Option Value} (hV : zV D h H) (hz : H.size = sz) (hS : va_S (fun q => B ≤ q) s.heap H locs) (ht : t.heap = H) (hq : Q r h sz) : zQc D B Q args s (.returned r) t :=
  ⟨⟨r, h, rfl, by rw [ht, hz]; exact hq, by rw [ht]; exact hV⟩, hS.F ht⟩
theorem z_iret {v : Int32} (hd : zdec X pc = .ok (.ireturn, 1)) (hr : X.2.2.2.1 = some .int) (h1 : cs ≤ X.2.2.2.2.2.1) (h2 : ss ≤ X.2.2.2.2.2.2) (hq : Q (some (.int v)) h sz) : Z D B X cs ss Q pc L [.int v] h sz := by
  intro p l e s m args below meth c H locs ls C hL hV hz hS
  refine W.widen h1 h2 ?_
  exact W.iret C.1 C.2.1 (C.2.2.2.2.2.2.1.trans hr) (fun t ht hW => z_end hV hz hS ht hq) hS.2.2 hd C.2.2.2.2.2.1
theorem z_zret {v : Int32} (hd : zdec X pc = .ok (.ireturn, 1)) (hr : X.2.2.2.1 = some .boolean) (h1 : cs ≤ X.2.2.2.2.2.1) (h2 : ss ≤ X.2.2.2.2.2.2) (hv : v = 0 ∨ v = 1) (hq : Q (some (.int v)) h sz) : Z D B X cs ss Q pc L [.int v] h sz := by
  intro p l e s m args below meth c H locs ls C hL hV hz hS
  refine W.widen h1 h2 ?_
  exact W.zret C.1 C.2.1 (C.2.2.2.2.2.2.1.trans hr) (by rcases hv with rfl | rfl <;> decide) (fun t ht hW => z_end hV hz hS ht hq) hS.2.2 hd C.2.2.2.2.2.1
/-- a return of a byte or a char that fits -/
theorem z_xret {v : Int32} {ty : FieldType} (hd : zdec X pc = .ok (.ireturn, 1)) (hr : X.2.2.2.1 = some ty) (hn : narrow ty (.int v) = .int v) (h1 : cs ≤ X.2.2.2.2.2.1) (h2 : ss ≤ X.2.2.2.2.2.2) (hq : Q (some (.int v)) h sz) : Z D B X cs ss Q pc L [.int v] h sz := by
  intro p l e s m args below meth c H locs ls C hL hV hz hS
  refine W.widen h1 h2 ?_
  exact W.zret C.1 C.2.1 (C.2.2.2.2.2.2.1.trans hr) hn (fun t ht hW => z_end hV hz hS ht hq) hS.2.2 hd C.2.2.2.2.2.1
theorem z_lret {v : Int64} (hd : zdec X pc = .ok (.lreturn, 1)) (hr : X.2.2.2.1 = some .long) (h1 : cs ≤ X.2.2.2.2.2.1) (h2 : ss ≤ X.2.2.2.2.2.2) (hq : Q (some (.long v)) h sz) : Z D B X cs ss Q pc L [.long v] h sz := by
  intro p l e s m args below meth c H locs ls C hL hV hz hS
  refine W.widen h1 h2 ?_
  exact W.lret C.1 C.2.1 (C.2.2.2.2.2.2.1.trans hr) (fun t ht hW => z_end hV hz hS ht hq) hS.2.2 hd C.2.2.2.2.2.1
theorem z_vret (hd : zdec X pc = .ok (.return_, 1)) (hr : X.2.2.2.1 = none) (h1 : cs ≤ X.2.2.2.2.2.1) (h2 : ss ≤ X.2.2.2.2.2.2) (hq : Q none h sz) : Z D B X cs ss Q pc L [] h sz := by
  intro p l e s m args below meth c H locs ls C hL hV hz hS
  refine W.widen h1 h2 ?_
  exact W.vret C.1 C.2.1 (C.2.2.2.2.2.2.1.trans hr) (fun t ht hW => z_end hV hz hS ht hq) hS.2.2 hd C.2.2.2.2.2.1
theorem z_aret {a : Nat} {nm : String} (hd : zdec X pc = .ok (.areturn, 1)) (hr : X.2.2.2.1 = some (.object nm)) (h1 : cs ≤ X.2.2.2.2.2.1) (h2 : ss ≤ X.2.2.2.2.2.2) (hq : Q (some (.ref a)) h sz) : Z D B X cs ss Q pc L [.ref a] h sz := by
  intro p l e s m args below meth c H locs ls C hL hV hz hS
  refine W.widen h1 h2 ?_
  exact W.aret C.1 C.2.1 (C.2.2.2.2.2.2.1.trans hr) (Or.inl ⟨_, rfl⟩) (Or.inr ⟨_, rfl⟩) (fun t ht hW => z_end hV hz hS ht hq) hS.2.2 hd C.2.2.2.2.2.1
end ZR2
/-! ===== entry and calls ===== -/
/-- the locals at the entry -/
def zArgs : List Value → List (Option Value)
  | [] => []
  | v :: vs => if v.category = 2 then some v :: none :: zArgs vs else some v :: zArgs vs
theorem zArgs_ok : ∀ (vs : List Value) (i : Nat) (j : Nat) (v : Value), (zArgs vs)[j]? = some (some v) → (i + j, v) ∈ lv_args i vs
  | [], i, j, v, h => by simp [zArgs] at h
  | u :: us, i, j, v, h => by
    unfold zArgs at h
    unfold lv_args
    by_cases hc : u.category = 2
    · rw [if_pos hc] at h ⊢
      match j, h with
      | 0, h => cases h; exact List.mem_cons_self
      | 1, h => cases h
      | j + 2, h =>
        have := zArgs_ok us (i + 2) j v h
        rw [show i + (j + 2) = i + 2 + j by omega]
        exact List.mem_cons_of_mem _ this
    · rw [if_neg hc] at h ⊢
      match j, h with
      | 0, h => cases h; exact List.mem_cons_self
      | j + 1, h =>
        have := zArgs_ok us (i + 1) j v h
        rw [show i + (j + 1) = i + 1 + j by omega]
        exact List.mem_cons_of_mem _ this
theorem zM.of {D : zD} {B : Nat} {X : zX} {as : List Value} {h : zH} {sz : Nat} {Q : zQ} (hy : plainName X.1.cls = true) (hl : Nat.ble (lg_sl as).length X.2.2.1 = true) {n : Nat}
    (k : Z D B X 0 0 Q 0 (zArgs as ++ List.replicate n none) [] h sz) : zM D B X as h sz Q := by
  intro l
  refine Met.ofW (cc := X.2.1) (maxL := X.2.2.1) (ret := X.2.2.2.1) hy rfl ?_
  intro p e s m args below meth c s₁ Bd hml hv
  obtain ⟨rfl, hK, hV, hz, hB⟩ := hv
  have hl0 := lv_entry as (n := X.2.2.1) (Nat.le_of_ble_eq_true hl)
  rw [lg_entry_eq]
  generalize (lg_sl as ++ List.replicate (X.2.2.1 - (lg_sl as).length) Slot.unset).toArray = ls at hl0 ⊢
  refine k p l e s m as.toArray below meth c s.heap [] ls ⟨Bd.exec, Bd.bytes, hml, findClass_of_methodNamed Bd.named, (fun w hw => atoms_spec (ws := zWs X) Bd.pre w (List.mem_cons_of_mem _ hw)), Bd.notSynchronized, Bd.returns, hK, (name_of_methodNamed Bd.named Bd.method).1, hB⟩ ⟨hl0.1, hl0.2.1, fun q hq => ?_⟩ hV hz va_S.rf
  obtain ⟨j, u⟩ := q
  have hj := zls_mem.mp hq
  have hj2 : (zArgs as)[j]? = some (some u) := by
    by_cases hlt : j < (zArgs as).length
    · rwa [List.getElem?_append_left hlt] at hj
    · rw [List.getElem?_append_right (by omega), List.getElem?_replicate] at hj
      split at hj <;> cases hj
  have := zArgs_ok as 0 j u hj2
  rw [Nat.zero_add] at this
  exact hl0.2.2 (j, u) this
theorem zGood {c : Cond} (hc : c ∈ zT) : GoodIn zT (c :: zT) := by
  intro w hw
  have hw2 : w ∈ zT := by
    rcases List.mem_cons.mp hw with rfl | h
    · exact hc
    · exact h
  exact ⟨hw2, good_of_word (List.mem_filter.mp hw2).2⟩
/-- entry idx of own's pool is the method Y, with n parameters -/
def zLk (own : String) (idx : Nat) (Y : zX) (n : Nat) : Prop := Cond.methodLink own idx Y.1 ∈ zT ∧ Cond.initialized Y.1.cls ∈ zT ∧ Cond.code Y.1 Y.2.1 Y.2.2.1 Y.2.2.2.1 ∈ zT ∧ (Y.1.cls ≠ "java/lang/invoke/MethodHandle" ∧ Y.1.cls ≠ "java/lang/invoke/VarHandle" ∧ (parseMethodDescriptor Y.1.desc).map (fun d => d.parameters.length) = some n)
/-- it fits -/
def zFits (X Y : zX) (cs ss : Nat) : Bool := Nat.ble (Y.2.2.2.2.1 + 1) X.2.2.2.2.1 && (Nat.ble (8 + (Y.2.2.1 + 11) + 36 * Y.2.2.2.2.1) (36 * X.2.2.2.2.1) && (Nat.ble (cs + Y.2.2.2.2.2.1) X.2.2.2.2.2.1 && Nat.ble (ss + Y.2.2.2.2.2.2) X.2.2.2.2.2.2))
theorem zFits_ok {X Y : zX} {cs ss : Nat} (h : zFits X Y cs ss = true) : (Y.2.2.2.2.1 + 1 ≤ X.2.2.2.2.1 ∧ 8 + (Y.2.2.1 + 11) + 36 * Y.2.2.2.2.1 ≤ 36 * X.2.2.2.2.1) ∧ (cs + Y.2.2.2.2.2.1 ≤ X.2.2.2.2.2.1 ∧ ss + Y.2.2.2.2.2.2 ≤ X.2.2.2.2.2.2) := by
  unfold zFits at h
  rw [Bool.and_eq_true, Bool.and_eq_true, Bool.and_eq_true] at h
  exact ⟨⟨Nat.le_of_ble_eq_true h.1, Nat.le_of_ble_eq_true h.2.1⟩, ⟨Nat.le_of_ble_eq_true h.2.2.1, Nat.le_of_ble_eq_true h.2.2.2⟩⟩
theorem zRest {m : MethodId} {pc : Nat} {ls : Array Slot} {st0 rest : List Value} (h : Nat.ble ((rest.map fun v => v.category).sum) 8 = true) : 2 * (F0 m pc ls st0).monitorRoom + (rest.map fun v => v.category).sum ≤ 8 := by
  have := Nat.le_of_ble_eq_true h
  show 2 * 0 + _ ≤ 8
  omega
section ZCALL
variable {D : zD} {B : Nat} {X Y : zX} {cs ss : Nat} {Q Qy : zQ} {pc n idx : Nat} {L : List (Option Value)} {st as : List Value} {h : zH} {sz : Nat}
theorem z_go {p : Program} {l : Launch} {e : Env} {s : State} {m : MethodId} {args a : Array Value} {below : List Frame} {meth : Method} {c : Code} {H : Heap} {locs : List Loc} {ls : Array Slot} {st0 : List Value} {QQ : State → Prop}
    (hr : va_Run p l e (zRoom X) s m args below meth c H locs cs ss Y.2.2.2.2.2.1 Y.2.2.2.2.2.2 (F0 m pc ls st0) st (zQc D B Qy a) (fun q => B ≤ q)) (hS : va_S (fun q => B ≤ q) s.heap H locs)
    (kk : ∀ (r : Option Value) (h1 : zH) (H1 : Heap) (locs1 : List Loc), Qy r h1 H1.size → zV D h1 H1 → va_S (fun q => B ≤ q) s.heap H1 locs1 → W p l e (zRoom X) s m args below meth c H1 locs1 (cs + Y.2.2.2.2.2.1) (ss + Y.2.2.2.2.2.2) QQ (F0 m (pc + 3) ls (r.toList ++ st))) : W p l e (zRoom X) s m args below meth c H locs cs ss QQ (F0 m pc ls st0) := by
  intro T hT Xs
  obtain ⟨v, st₀, t, T', L1, h0, X', hL, e1, e2, ⟨⟨r, h1, hv, hq, hV⟩, hz, hk⟩, stp⟩ := hr T hT Xs
  cases hv
  rw [h0] at hz hk
  obtain ⟨t2, a1, b1⟩ := kk v h1 T'.heap (locs ++ L1) (by rw [e1]; exact hq) (by rw [e1]; exact hV)
    ⟨Nat.le_trans hS.1 (by rw [e1]; exact hz), fun q g1 g2 => by rw [e1, hk q (Nat.lt_of_lt_of_le g1 hS.1) g2]; exact hS.2.1 q g1 g2, fun q hq => by
      rcases List.mem_append.mp hq with g | g
      · exact hS.2.2 q g
      · exact hL q g⟩ T' rfl X'
  exact ⟨t2, stp t2 a1, b1⟩
theorem zBlind {D : zD} {B : Nat} {as : List Value} {h : zH} {sz : Nat} : FrameBlind (zPc D B as h sz) := fun a U g mk q => by
  obtain ⟨q0, q1, q2, q3, q4⟩ := q
  exact ⟨q0, zK.blind q1, q2, q3, q4⟩
theorem zPre {D : zD} {B : Nat} {as : List Value} {h : zH} {sz : Nat} {s U : State} {H : Heap} {locs : List Loc} (hK : zK D B s) (hV : zV D h H) (hz : H.size = sz) (hS : va_S (fun q => B ≤ q) s.heap H locs) (hB : B ≤ s.heap.size) (hU : U.heap = H) (hW : s.WarmedH U.vm) : zPc D B as h sz as.toArray U :=
  ⟨rfl, zK.go hK hS hU hW, by rw [hU]; exact hV, by rw [hU]; exact hz, by rw [hU]; exact Nat.le_trans hB hS.1⟩
theorem z_callV {b ci : Nat} {fs : List Value} (hd : zdec X pc = .ok (.invokevirtual idx, 3)) (hk : zLk X.1.cls idx Y n) (hi : Cond.instanceMethod Y.1 ∈ zT ∧ Cond.selects Y.1.cls Y.1 Y.1 ∈ zT) (hb : h b = some (zO ci fs)) (hcl : (vwCl.getD ci ("", TX0, 0)).1 = Y.1.cls) (hci : Nat.ble (ci + 1) 6 = true) (hM : zM D B Y (.ref b :: as) h sz Qy) (hn : as.length = n) (hf : zFits X Y cs ss = true) (hr : Nat.ble ((st.map fun v => v.category).sum) 8 = true)
    (kk : ∀ (r : Option Value) (h1 : zH) (z1 : Nat), Qy r h1 z1 → Z D B X (cs + Y.2.2.2.2.2.1) (ss + Y.2.2.2.2.2.2) Q (pc + 3) L (r.toList ++ st) h1 z1) {st0 : List Value} (hst : st0 = as.reverse ++ .ref b :: st) : Z D B X cs ss Q pc L st0 h sz := by
  subst hst
  intro p l e s m args below meth c H locs ls C hL hV hz hS
  obtain ⟨hf1, hf2⟩ := zFits_ok hf
  have hts := C.2.2.2.2.1
  have hKs := C.2.2.2.2.2.2.2.1
  have hlt : ci < vwCl.length := Nat.le_of_ble_eq_true hci
  have hc : vwCl[ci]? = some (vwCl[ci]) := List.getElem?_eq_getElem hlt
  have hrecv : ∃ cellB : Cell, H[b]? = some cellB ∧ cellB.vm.isStatics = false ∧ s.vm.findClass Y.1.cls = some cellB.cls := by
    obtain ⟨q', h1, cell, g1, g2, g3, -⟩ := hV b _ hb
    refine ⟨cell, g1, by rw [g3]; rfl, ?_⟩
    rw [g2, ← hcl, List.getD_eq_getElem?_getD, hc]
    exact (hKs.1.1 ci _ hc).2.1
  refine z_go (va_runV (nL := X.2.2.1) (own := X.1.cls) (Ts := zT) (cc := X.2.1) (C := Y.1.cls) (bytes := Y.2.1) (maxL := Y.2.2.1) (ret := Y.2.2.2.1) (ws := zWs Y) (rm := zRoom Y) (As := as) (rest := st) ⟨C.1, C.2.1, C.2.2.1, C.2.2.2.1, hts⟩ (hM l) ⟨callB_of n hts (zGood hk.2.2.1) rfl rfl rfl (hts _ hk.2.1) (hts _ hk.1) hk.2.2.2 hf1, hts _ hi.1, hts _ hi.2⟩ ⟨zBlind, hrecv, fun U hU hW => zPre hKs hV hz hS C.2.2.2.2.2.2.2.2.2 hU hW⟩ rfl hn hL.1 rfl (zRest hr) hd hf2) hS (fun r h1 H1 locs1 hq hV1 hS1 => ?_)
  exact kk r h1 _ hq p l e s m args below meth c H1 locs1 ls C hL hV1 rfl hS1
theorem z_callS (hd : zdec X pc = .ok (.invokestatic idx, 3)) (hk : zLk X.1.cls idx Y n) (hi : Cond.static Y.1 ∈ zT) (hM : zM D B Y as h sz Qy) (hn : as.length = n) (hf : zFits X Y cs ss = true) (hr : Nat.ble ((st.map fun v => v.category).sum) 8 = true)
    (kk : ∀ (r : Option Value) (h1 : zH) (z1 : Nat), Qy r h1 z1 → Z D B X (cs + Y.2.2.2.2.2.1) (ss + Y.2.2.2.2.2.2) Q (pc + 3) L (r.toList ++ st) h1 z1) {st0 : List Value} (hst : st0 = as.reverse ++ st) : Z D B X cs ss Q pc L st0 h sz := by
  subst hst
  intro p l e s m args below meth c H locs ls C hL hV hz hS
  obtain ⟨hf1, hf2⟩ := zFits_ok hf
  have hts := C.2.2.2.2.1
  have hKs := C.2.2.2.2.2.2.2.1
  refine z_go (va_runS (nL := X.2.2.1) (own := X.1.cls) (Ts := zT) (cc := X.2.1) (bytes := Y.2.1) (maxL := Y.2.2.1) (ret := Y.2.2.2.1) (ws := zWs Y) (rm := zRoom Y) (As := as) (rest := st) ⟨C.1, C.2.1, C.2.2.1, C.2.2.2.1, hts⟩ (hM l) ⟨callB_of n hts (zGood hk.2.2.1) rfl rfl rfl (hts _ hk.2.1) (hts _ hk.1) hk.2.2.2 hf1, hts _ hi⟩ ⟨zBlind, fun U hU hW => zPre hKs hV hz hS C.2.2.2.2.2.2.2.2.2 hU hW⟩ rfl hn hL.1 rfl (zRest hr) hd hf2) hS (fun r h1 H1 locs1 hq hV1 hS1 => ?_)
  exact kk r h1 _ hq p l e s m args below meth c H1 locs1 ls C hL hV1 rfl hS1
end ZCALL
end
section
/-! ===== making cells ===== -/
theorem vr_outer (c : ClassId) (N h0 : Nat) : ∀ i : Nat, Jvm.Free.Multi.outerC c N h0 i = arrV c N (fun j => va_rf (if j < i then some (h0 + 1 + j) else none))
  | 0 => by
    show ({ cls := c, slots := Array.replicate N .null, vm := .none } : Cell) = _
    rw [arrV_new]
    refine congrArg (arrV c N) (funext fun j => ?_)
    simp [va_rf]
  | i + 1 => by
    show (Jvm.Free.Multi.outerC c N h0 i).setSlot i (.ref (h0 + 1 + i)) = _
    rw [vr_outer c N h0 i, arrV_store]
    refine congrArg (arrV c N) (funext fun j => ?_)
    by_cases e : j = i
    · subst e
      simp [updV, va_rf]
    · by_cases h : j < i
      · simp [updV, e, h, Nat.lt_succ_of_lt h]
      · simp [updV, e, h, show ¬ j < i + 1 by omega]
theorem zV.push {D : zD} {h : zH} {H H1 : Heap} {e : zE} (hV : zV D h H) (he : va_at (D.1, D.2.1) vwCl (H.size, zc D e) H1) (oq : ∀ q : Nat, q < H.size → H1[q]? = H[q]?) : zV D (zup h H.size e) H1 := by
  intro b e2 hb
  by_cases hq : b = H.size
  · subst hq
    rw [zup_s] at hb
    cases hb
    exact he
  · rw [zup_n hq] at hb
    exact va_at.kept (hV b e2 hb) (oq b (hV.lt hb))
theorem zV.new {D : zD} {h : zH} {H : Heap} {a : Nat} (hV : zV D h H) (ha : H.size ≤ a) : h a = none := by
  cases hx : h a with
  | none => rfl
  | some e => exact absurd (hV.lt hx) (by omega)
theorem zS.push {B : Nat} {H0 H H1 : Heap} {locs : List Loc} {n : Nat} (hS : va_S (fun q => B ≤ q) H0 H locs) (z : H1.size = H.size + n) (oq : ∀ q : Nat, q < H.size → H1[q]? = H[q]?) : va_S (fun q => B ≤ q) H0 H1 locs :=
  ⟨Nat.le_trans hS.1 (by omega), fun x h1 h2 => (oq x (Nat.lt_of_lt_of_le h1 hS.1)).trans (hS.2.1 x h1 h2), hS.2.2⟩
section ZN
variable {D : zD} {B : Nat} {X Y : zX} {cs ss : Nat} {Q Qy : zQ} {pc n idx : Nat} {L : List (Option Value)} {st as : List Value} {h : zH} {sz : Nat}
def zNw (own : String) (idx ci : Nat) : Prop := ∃ q : vw_C, vwCl[ci]? = some q ∧ Cond.classLink own idx q.1 ∈ zT ∧ Cond.instantiable q.1 q.2.2 ∈ zT ∧ Cond.initialized q.1 ∈ zT
theorem z_new {ci N : Nat} {fs : List Value} (hd : zdec X pc = .ok (.new idx, 3)) (hw : zNw X.1.cls idx ci) (hN : (vwCl.getD ci ("", TX0, 0)).2.2 = N) (hfs : ∀ j, j < N → defaultValue (zTyF ci j) = vp_V fs j) (h1 : Nat.ble (cs + 1) X.2.2.2.2.2.1 = true) (h2 : Nat.ble (ss + N) X.2.2.2.2.2.2 = true)
    (kk : (∀ a, sz ≤ a → h a = none) → Z D B X (cs + 1) (ss + N) Q (pc + 3) L (.ref sz :: st) (zup h sz (zO ci fs)) (sz + 1)) : Z D B X cs ss Q pc L st h sz := by
  intro p l e s m args below meth c H locs ls C hL hV hz hS
  obtain ⟨q, hq, w1, w2, w3⟩ := hw
  obtain ⟨C0, T, N0⟩ := q
  rw [List.getD_eq_getElem?_getD, hq] at hN
  change N0 = N at hN
  subst hN
  subst hz
  have hts := C.2.2.2.2.1
  have hK := C.2.2.2.2.2.2.2.1.1
  have hKn := hK.1 ci _ hq
  have hin : ∀ w ∈ u_ws C0 T N0, w ∈ zT := fun w hw => zIn hq w hw
  refine W.newcK C.1 C.2.1 C.2.2.2.1 (hts _ w1) (hts _ w2) (hts _ w3) rfl hd (Nat.le_of_ble_eq_true h1) (Nat.le_of_ble_eq_true h2) hKn.2.1 rfl fun H1 kC hkC e1 z1 o1 => ?_
  exact kk (fun a ha => hV.new ha) p l e s m args below meth c H1 locs ls C hL (hV.push (e := zO ci fs) ⟨_, hq, (u_born (zTyF ci) hts hin hKn hkC e1 (zTyF_ok hq)).to hfs⟩ o1) z1 (zS.push hS z1 o1)
theorem zRA_eq {s : State} {ty : FieldType} {c1 c2 : ClassId} (h : va_RA s c1 ty) (h2 : s.vm.findClass ("[" ++ ty.toString) = some c2) : c1 = c2 := by
  cases ty with
  | object C =>
    obtain ⟨_, _, _, _, _, h4⟩ := h
    exact Option.some.inj (h4.symm.trans h2)
  | _ => exact Option.some.inj (Eq.trans (Eq.symm h) h2)
theorem z_newa {atype : ArrayType} {kd N : Nat} {x : Int32} {a0 : vp_A} (hd : zdec X pc = .ok (.newarray atype, 2)) (hw : Cond.arrayClass (newarray.typeOf atype) ∈ zT) (hkd : ∀ D : zD, (zTys D)[kd]? = some (D.2.2.1 kd, newarray.typeOf atype)) (ha : ∀ cA : ClassId, vp_cell cA a0 = arrV cA N (fun _ => defaultValue (newarray.typeOf atype))) (hx : ¬ x < 0) (hN : x.toNatClampNeg = N) (hby : Nat.ble (N * componentBytes (newarray.typeOf atype)) 536870912 = true) (h1 : Nat.ble (cs + 1) X.2.2.2.2.2.1 = true) (h2 : Nat.ble (ss + N) X.2.2.2.2.2.2 = true)
    (kk : (∀ a, sz ≤ a → h a = none) → Z D B X (cs + 1) (ss + N) Q (pc + 2) L (.ref sz :: st) (zup h sz (.inl (kd, a0))) (sz + 1)) : Z D B X cs ss Q pc L (.int x :: st) h sz := by
  intro p l e s m args below meth c H locs ls C hL hV hz hS
  subst hz
  have hts := C.2.2.2.2.1
  have hK := C.2.2.2.2.2.2.2.1.1
  refine va_newaK C.1 C.2.1 (hts _ hw) rfl hd rfl hx hN (Nat.le_of_ble_eq_true hby) (Nat.le_of_ble_eq_true h1) (Nat.le_of_ble_eq_true h2) rfl fun H1 cA e1 z1 o1 hAr hNm => ?_
  have hc := zRA_eq (hK.2 kd _ (hkd D)).2 hNm
  subst hc
  exact kk (fun a ha => hV.new ha) p l e s m args below meth c H1 locs ls C hL (hV.push (e := .inl (kd, a0)) (show H1[_]? = some (vp_cell _ _) by rw [ha]; exact e1) o1) z1 (zS.push hS z1 o1)
theorem z_anew {N : Nat} {x : Int32} (hd : zdec X pc = .ok (.anewarray idx, 3)) (hw : Cond.classLink X.1.cls idx RX2 ∈ zT) (hx : ¬ x < 0) (hN : x.toNatClampNeg = N) (hby : Nat.ble (N * 4) 536870912 = true) (h1 : Nat.ble (cs + 1) X.2.2.2.2.2.1 = true) (h2 : Nat.ble (ss + N) X.2.2.2.2.2.2 = true)
    (kk : (∀ a, sz ≤ a → h a = none) → Z D B X (cs + 1) (ss + N) Q (pc + 3) L (.ref sz :: st) (zup h sz (zRf 3 N (fun _ => none))) (sz + 1)) : Z D B X cs ss Q pc L (.int x :: st) h sz := by
  intro p l e s m args below meth c H locs ls C hL hV hz hS
  subst hz
  subst hN
  have hts := C.2.2.2.2.1
  have hK := C.2.2.2.2.2.2.2.1.1
  refine W.anew C.1 C.2.1 C.2.2.2.1 (hts _ hw) (va_AO.use C.2.2.2.2.2.2.2.1.2.2.2.2.2.2.1) rfl hd rfl hx (Nat.le_of_ble_eq_true hby) (Nat.le_of_ble_eq_true h1) (Nat.le_of_ble_eq_true h2) fun cA kA comp g1 g2 g3 g4 => ?_
  have hc := zRA_eq (hK.2 3 (D.2.2.1 3, .object RX2) rfl).2 g1
  subst hc
  have o1 : ∀ q : Nat, q < H.size → (H.push ({ cls := D.2.2.1 3, slots := Array.replicate x.toNatClampNeg .null, vm := .none } : Cell))[q]? = H[q]? := fun q hq => by
    rw [Array.getElem?_push, if_neg (Nat.ne_of_lt hq)]
  refine kk (fun a ha => hV.new ha) p l e s m args below meth c _ locs ls C hL (hV.push (e := zRf 3 x.toNatClampNeg (fun _ => none)) ?_ o1) (by simp) (zS.push (n := 1) hS (by simp) o1)
  show _ = some (vp_cell _ _)
  rw [vp_cell_q]
  show _ = some (arrV _ _ (fun _ => Value.null))
  rw [← arrV_new]
  simp
/-- new long[8][40] and its like -/
def zMn (h : zH) (sz N M : Nat) : zH := fun a => if a = sz then some (zRf 4 N (fun i => if i < N then some (sz + 1 + i) else none)) else if sz < a ∧ a < sz + 1 + N then some (zJ M (fun _ => 0)) else h a
theorem z_mna {N M : Nat} {x y : Int32} (hd : zdec X pc = .ok (.multianewarray idx 2, 4)) (hw : Cond.classLink X.1.cls idx "[[J" ∈ zT ∧ Cond.arrayClass .long ∈ zT) (hx : ¬ x < 0) (hy : ¬ y < 0) (hN : x.toNatClampNeg = N) (hM : y.toNatClampNeg = M) (hb1 : Nat.ble (N * 4) 536870912 = true) (hb2 : Nat.ble (M * 8) 536870912 = true) (h1 : Nat.ble (cs + (1 + N)) X.2.2.2.2.2.1 = true) (h2 : Nat.ble (ss + (N + N * M)) X.2.2.2.2.2.2 = true)
    (kk : (∀ a, sz ≤ a → h a = none) → Z D B X (cs + 1 + N) (ss + N + N * M) Q (pc + 4) L (.ref sz :: st) (zMn h sz N M) (sz + 1 + N)) : Z D B X cs ss Q pc L (.int y :: .int x :: st) h sz := by
  intro p l e s m args below meth c H locs ls C hL hV hz hS
  subst hz
  subst hN
  subst hM
  have hts := C.2.2.2.2.1
  have hK := C.2.2.2.2.2.2.2.1
  intro T hT Xs
  have hb2' := Nat.le_of_ble_eq_true hb2
  obtain ⟨vm₁, cA, comp, -, fA, fC, hO, -, X', step⟩ := Xs.multianewarray2F (own := X.1.cls) (ty := .long) C.1 C.2.2.2.1 (hts _ hw.1) hK.2.2.2.2.2.2.2 (hts _ hw.2) (g := F0 m pc ls (.int y :: .int x :: st)) rfl (by rw [C.2.1]; exact hd) rfl hx hy (Nat.le_of_ble_eq_true hb1) hb2' (by omega) rfl rfl (Nat.le_of_ble_eq_true h1) (Nat.le_of_ble_eq_true h2)
  have ec1 : D.2.2.1 4 = cA := zRA_eq (hK.1.2 4 (D.2.2.1 4, .array .long) rfl).2 fA
  have ec2 : D.2.2.1 1 = comp := zRA_eq (ty := .long) (hK.1.2 1 (D.2.2.1 1, .long) rfl).2 fC
  subst ec1
  subst ec2
  generalize hF : Jvm.Free.Multi.fill (T.setVm vm₁) (D.2.2.1 4) (D.2.2.1 1) x.toNatClampNeg y.toNatClampNeg (defaultValue .long) x.toNatClampNeg = F at X' step
  have hTh : (T.setVm vm₁).heap = H := hT
  obtain ⟨f1, f2, -, -⟩ := Jvm.Free.Multi.fill_facts (T.setVm vm₁) (D.2.2.1 4) (D.2.2.1 1) x.toNatClampNeg y.toNatClampNeg (defaultValue .long) x.toNatClampNeg
  rw [hF, hTh] at f1 f2
  have hold : ∀ q : Nat, q < H.size → F.heap[q]? = H[q]? := fun q hq => by
    have := Jvm.Free.Multi.fill_old (T.setVm vm₁) (D.2.2.1 4) (D.2.2.1 1) x.toNatClampNeg y.toNatClampNeg (defaultValue .long) (a := q) (by rw [hTh]; exact hq) x.toNatClampNeg
    rw [hF, hTh] at this
    exact this
  have hrow : ∀ j : Nat, j < x.toNatClampNeg → F.heap[H.size + 1 + j]? = some (vp_cell (D.2.2.1 1) (y.toNatClampNeg, .inr (.inl (fun _ => 0)))) := fun j hj => by
    have := Jvm.Free.Multi.fill_inner (T.setVm vm₁) (D.2.2.1 4) (D.2.2.1 1) x.toNatClampNeg y.toNatClampNeg (defaultValue .long) x.toNatClampNeg j hj
    rw [hF, hTh] at this
    rw [this, vp_cell_l]
    show some ({ cls := D.2.2.1 1, slots := Array.replicate y.toNatClampNeg (Value.long 0), vm := .none } : Cell) = _
    rw [arrV_new]
  have hout : Jvm.Free.Multi.outerC (D.2.2.1 4) x.toNatClampNeg H.size x.toNatClampNeg = vp_cell (D.2.2.1 4) (x.toNatClampNeg, .inr (.inr (.inr (.inr (fun i => if i < x.toNatClampNeg then some (H.size + 1 + i) else none))))) := by
    rw [vp_cell_q]
    exact vr_outer (D.2.2.1 4) x.toNatClampNeg H.size x.toNatClampNeg
  rw [hout] at f2
  have f1' : F.heap.size = H.size + 1 + x.toNatClampNeg := by rw [f1]
  have hV1 : zV D (zMn h H.size x.toNatClampNeg y.toNatClampNeg) F.heap := by
    intro b e2 hb
    unfold zMn at hb
    by_cases q1 : b = H.size
    · rw [if_pos q1] at hb
      cases hb
      subst q1
      exact f2
    · rw [if_neg q1] at hb
      by_cases q2 : H.size < b ∧ b < H.size + 1 + x.toNatClampNeg
      · rw [if_pos q2] at hb
        cases hb
        have := hrow (b - (H.size + 1)) (by omega)
        rw [show H.size + 1 + (b - (H.size + 1)) = b by omega] at this
        exact this
      · rw [if_neg q2] at hb
        exact va_at.kept (hV b e2 hb) (hold b (hV.lt hb))
  obtain ⟨t, a1, b1⟩ := kk (fun a ha => hV.new ha) p l e s m args below meth c F.heap locs ls C hL hV1 f1' (zS.push (n := 1 + x.toNatClampNeg) hS (by omega) hold) F rfl X'
  refine ⟨t, step t ?_, b1⟩
  have e9 : T.heap.size = H.size := by rw [hT]
  rw [e9]
  exact a1
theorem z_aast3 {a n v : Nat} {f : Nat → Option Nat} {fs : List Value} {i : Int32} (hd : zdec X pc = .ok (.aastore, 1)) (ha : h a = some (zRf 3 n f)) (hv : h v = some (zO 2 fs)) (hB : B ≤ a) (hin : vp_in i n) (kk : Z D B X cs ss Q (pc + 1) L st (zup h a (zRf 3 n (va_up f i.toNatClampNeg (some v)))) sz) : Z D B X cs ss Q pc L (.ref v :: .int i :: .ref a :: st) h sz := by
  intro p l e s m args below meth c H locs ls C hL hV hz hS
  have hK := C.2.2.2.2.2.2.2.1.1
  have hlt := zLt hin
  have h0 : ¬ i < 0 := fun q => hin (Or.inl q)
  obtain ⟨r', hr', cellV, g1, g2, g3, -⟩ := hV v _ hv
  have hcls := (hK.1 2 (RX2, TX2, 3) rfl).2
  obtain ⟨kA, comp, k1, k2, k3, -⟩ := (hK.2 3 (D.2.2.1 3, .object RX2) rfl).2
  have hcomp : comp = D.1 2 := Option.some.inj (k3.symm.trans hcls.1)
  subst hcomp
  obtain ⟨kC, hkC, -⟩ := hcls.2
  refine W.aast C.1 C.2.1 (hV a _ ha) (fun q h => by cases h) (fun h => by cases h) k1 k2 rfl hkC ⟨h0, by show _ < (arrV _ _ _).slots.size; rw [arrV_size]; exact hlt⟩ g1 (fun q h => by rw [g3] at h; cases h) (by rw [g2]; exact hkC) (by rw [g2]; exact va_assign hcls) rfl rfl hd fun H1 e1 z oq => ?_
  refine kk p l e s m args below meth c H1 _ ls C hL (hV.set (e := zRf 3 n (va_up f i.toNatClampNeg (some v))) ?_ oq) (z.trans hz) (hS.put z oq hB)
  show H1[a]? = some (vp_cell _ _)
  rw [e1]
  show some ((vp_cell _ _).setSlot _ _) = _
  rw [vp_cell_q, vp_cell_q, arrV_store]
  congr 2
  funext q
  by_cases hq : q = i.toNatClampNeg
  · subst hq
    simp [updV, va_up, va_rf]
  · simp [updV, va_up, hq]
/-! ===== constructors, nest mates ===== -/
theorem z_objInit {a : Nat} (hd : zdec X pc = .ok (.invokespecial idx, 3)) (hw : Cond.methodLink X.1.cls idx objectInit ∈ zT ∧ Cond.instanceMethod objectInit ∈ zT ∧ Cond.code objectInit ⟨#[0xb1]⟩ 1 none ∈ zT) (h1 : Nat.ble 1 X.2.2.2.2.1 = true) (h2 : Nat.ble ((st.map fun v => v.category).sum + 12) (36 * X.2.2.2.2.1) = true) (k : Z D B X cs ss Q (pc + 3) L st h sz) : Z D B X cs ss Q pc L (.ref a :: st) h sz := by
  intro p l e s m args below meth c H locs ls C hL hV hz hS
  have hts := C.2.2.2.2.1
  refine W.objInit C.1 C.2.1 C.2.2.2.1 (hts _ hw.1) (hts _ hw.2.1) (hts _ hw.2.2) rfl (hL.1.trans C.2.2.1.symm) rfl hd (Nat.le_of_ble_eq_true h1) ?_ (k p l e s m args below meth c H locs ls C hL hV hz hS)
  have := Nat.le_of_ble_eq_true h2
  show 2 * 0 + _ + 12 ≤ 36 * X.2.2.2.2.1
  omega
theorem z_callI {b : Nat} (hd : zdec X pc = .ok (.invokespecial idx, 3)) (hk : zLk X.1.cls idx Y n) (hi : Cond.instanceMethod Y.1 ∈ zT ∧ Y.1.name = "<init>" ∧ Y.2.2.2.1 = none) (hM : zM D B Y (.ref b :: as) h sz Qy) (hn : as.length = n) (hf : zFits X Y cs ss = true) (hr : Nat.ble ((st.map fun v => v.category).sum) 8 = true)
    (kk : ∀ (r : Option Value) (h1 : zH) (z1 : Nat), Qy r h1 z1 → Z D B X (cs + Y.2.2.2.2.2.1) (ss + Y.2.2.2.2.2.2) Q (pc + 3) L (r.toList ++ st) h1 z1) {st0 : List Value} (hst : st0 = as.reverse ++ .ref b :: st) : Z D B X cs ss Q pc L st0 h sz := by
  subst hst
  intro p l e s m args below meth c H locs ls C hL hV hz hS
  obtain ⟨hf1, hf2⟩ := zFits_ok hf
  have hts := C.2.2.2.2.1
  have hKs := C.2.2.2.2.2.2.2.1
  have hcd := hk.2.2.1
  have hws : zWs Y = Cond.code Y.1 Y.2.1 Y.2.2.1 none :: zT := by unfold zWs; rw [hi.2.2]
  refine z_go (va_runI (nL := X.2.2.1) (own := X.1.cls) (Ts := zT) (cc := X.2.1) (bytes := Y.2.1) (maxL := Y.2.2.1) (ws := zWs Y) (rm := zRoom Y) (As := as) (rest := st) ⟨C.1, C.2.1, C.2.2.1, C.2.2.2.1, hts⟩ (hM l) ⟨callB_of n hts (zGood hk.2.2.1) hws rfl rfl (hts _ hk.2.1) (hts _ hk.1) hk.2.2.2 hf1, hi.2.1, hts _ hi.1⟩ ⟨zBlind, fun U hU hW => zPre hKs hV hz hS C.2.2.2.2.2.2.2.2.2 hU hW⟩ rfl hn hL.1 rfl (zRest hr) hd hf2) hS (fun r h1 H1 locs1 hq hV1 hS1 => ?_)
  exact kk r h1 _ hq p l e s m args below meth c H1 locs1 ls C hL hV1 rfl hS1
/-- entry idx of own's pool is the nest mate's private method Y -/
def zLn (own : String) (idx : Nat) (Y : zX) (n : Nat) : Prop := (∃ host : String, (own, idx, Y.1, host) ∈ zNs) ∧ Cond.initialized Y.1.cls ∈ zT ∧ Cond.code Y.1 Y.2.1 Y.2.2.1 Y.2.2.2.1 ∈ zT ∧ (Y.1.cls ≠ "java/lang/invoke/MethodHandle" ∧ Y.1.cls ≠ "java/lang/invoke/VarHandle" ∧ (parseMethodDescriptor Y.1.desc).map (fun d => d.parameters.length) = some n)
theorem z_callIN {b : Nat} (hd : zdec X pc = .ok (.invokespecial idx, 3)) (hk : zLn X.1.cls idx Y n) (hi : Cond.instanceMethod Y.1 ∈ zT ∧ Y.1.name = "<init>" ∧ Y.2.2.2.1 = none) (hM : zM D B Y (.ref b :: as) h sz Qy) (hn : as.length = n) (hf : zFits X Y cs ss = true) (hr : Nat.ble ((st.map fun v => v.category).sum) 8 = true)
    (kk : ∀ (r : Option Value) (h1 : zH) (z1 : Nat), Qy r h1 z1 → Z D B X (cs + Y.2.2.2.2.2.1) (ss + Y.2.2.2.2.2.2) Q (pc + 3) L (r.toList ++ st) h1 z1) {st0 : List Value} (hst : st0 = as.reverse ++ .ref b :: st) : Z D B X cs ss Q pc L st0 h sz := by
  subst hst
  intro p l e s m args below meth c H locs ls C hL hV hz hS
  obtain ⟨hf1, hf2⟩ := zFits_ok hf
  have hts := C.2.2.2.2.1
  have hKs := C.2.2.2.2.2.2.2.1
  obtain ⟨⟨host, hho⟩, hini, hcd, hds⟩ := hk
  have hws : zWs Y = Cond.code Y.1 Y.2.1 Y.2.2.1 none :: zT := by unfold zWs; rw [hi.2.2]
  have hl := hKs.2.2.2.2.2.1 _ hho
  refine z_go (va_runIN (nL := X.2.2.1) (own := X.1.cls) (host := host) (Ts := zT) (cc := X.2.1) (bytes := Y.2.1) (maxL := Y.2.2.1) (ws := zWs Y) (rm := zRoom Y) (As := as) (rest := st) ⟨C.1, C.2.1, C.2.2.1, C.2.2.2.1, hts⟩ (hM l) ⟨va_cnB n hts (zGood hcd) hws rfl rfl hl (hts _ hini) hds hf1, hi.2.1, hts _ hi.1⟩ ⟨zBlind, fun U hU hW => zPre hKs hV hz hS C.2.2.2.2.2.2.2.2.2 hU hW⟩ rfl hn hL.1 rfl (zRest hr) hd hf2) hS (fun r h1 H1 locs1 hq hV1 hS1 => ?_)
  exact kk r h1 _ hq p l e s m args below meth c H1 locs1 ls C hL hV1 rfl hS1
theorem z_callSN (hd : zdec X pc = .ok (.invokestatic idx, 3)) (hk : zLn X.1.cls idx Y n) (hi : Cond.static Y.1 ∈ zT) (hM : zM D B Y as h sz Qy) (hn : as.length = n) (hf : zFits X Y cs ss = true) (hr : Nat.ble ((st.map fun v => v.category).sum) 8 = true)
    (kk : ∀ (r : Option Value) (h1 : zH) (z1 : Nat), Qy r h1 z1 → Z D B X (cs + Y.2.2.2.2.2.1) (ss + Y.2.2.2.2.2.2) Q (pc + 3) L (r.toList ++ st) h1 z1) {st0 : List Value} (hst : st0 = as.reverse ++ st) : Z D B X cs ss Q pc L st0 h sz := by
  subst hst
  intro p l e s m args below meth c H locs ls C hL hV hz hS
  obtain ⟨hf1, hf2⟩ := zFits_ok hf
  have hts := C.2.2.2.2.1
  have hKs := C.2.2.2.2.2.2.2.1
  obtain ⟨⟨host, hho⟩, hini, hcd, hds⟩ := hk
  have hl := hKs.2.2.2.2.2.1 _ hho
  refine z_go (va_runSN (nL := X.2.2.1) (own := X.1.cls) (host := host) (Ts := zT) (cc := X.2.1) (bytes := Y.2.1) (maxL := Y.2.2.1) (ret := Y.2.2.2.1) (ws := zWs Y) (rm := zRoom Y) (As := as) (rest := st) ⟨C.1, C.2.1, C.2.2.1, C.2.2.2.1, hts⟩ (hM l) ⟨va_cnB n hts (zGood hcd) rfl rfl rfl hl (hts _ hini) hds hf1, hts _ hi, trivial⟩ ⟨zBlind, fun U hU hW => zPre hKs hV hz hS C.2.2.2.2.2.2.2.2.2 hU hW⟩ rfl hn hL.1 rfl (zRest hr) hd hf2) hS (fun r h1 H1 locs1 hq hV1 hS1 => ?_)
  exact kk r h1 _ hq p l e s m args below meth c H1 locs1 ls C hL hV1 rfl hS1
/-! ===== statics, texts, copies ===== -/
theorem z_under (hd : zdec X pc = .ok (.getstatic idx, 3)) (hl : Cond.fieldLink X.1.cls idx "ReadOutAlongTheWay" "UNDER" "[I" ∈ zT) (k : Z D B X cs ss Q (pc + 3) L (.ref D.2.2.2.2.2.1 :: st) h sz) : Z D B X cs ss Q pc L st h sz := by
  intro p l e s m args below meth c H locs ls C hL hV hz hS
  exact va_gets C.1 C.2.1 C.2.2.2.2.2.2.2.1.2.1 hS C.2.2.2.1 (C.2.2.2.2.1 _ hl) (fun _ h9 => h9) hd (k p l e s m args below meth c H locs ls C hL hV hz hS)
theorem z_compact (hd : zdec X pc = .ok (.getstatic idx, 3)) (hl : Cond.fieldLink X.1.cls idx "java/lang/String" "COMPACT_STRINGS" "Z" ∈ zT) (k : Z D B X cs ss Q (pc + 3) L (.int 1 :: st) h sz) : Z D B X cs ss Q pc L st h sz := by
  intro p l e s m args below meth c H locs ls C hL hV hz hS
  exact va_gets C.1 C.2.1 C.2.2.2.2.2.2.2.1.2.2.1.1 hS C.2.2.2.1 (C.2.2.2.2.1 _ hl) (fun _ h9 => h9) hd (k p l e s m args below meth c H locs ls C hL hV hz hS)
theorem z_uld {i : Int32} {v : Int32} (hd : zdec X pc = .ok (.iaload, 1)) (hin : vp_in i 6) (hv : underF i.toNatClampNeg = v) (k : Z D B X cs ss Q (pc + 1) L (.int v :: st) h sz) : Z D B X cs ss Q pc L (.int i :: .ref D.2.2.2.2.2.1 :: st) h sz := by
  intro p l e s m args below meth c H locs ls C hL hV hz hS
  exact va_ti C.1 C.2.1 C.2.2.2.2.2.2.2.1.2.2.1.2.2.1 hS hin (congrArg Value.int hv) hd (k p l e s m args below meth c H locs ls C hL hV hz hS)
theorem z_ulen (hd : zdec X pc = .ok (.arraylength, 1)) (k : Z D B X cs ss Q (pc + 1) L (.int 6 :: st) h sz) : Z D B X cs ss Q pc L (.ref D.2.2.2.2.2.1 :: st) h sz := by
  intro p l e s m args below meth c H locs ls C hL hV hz hS
  exact va_tlen C.1 C.2.1 C.2.2.2.2.2.2.2.1.2.2.1.2.2.1 hS rfl hd (k p l e s m args below meth c H locs ls C hL hV hz hS)
theorem z_sld {i : Int32} (hd : zdec X pc = .ok (.iaload, 1)) (hin : vp_in i D.2.2.2.2.2.2.2.1) (k : Z D B X cs ss Q (pc + 1) L (.int (D.2.2.2.2.2.2.2.2 i.toNatClampNeg) :: st) h sz) : Z D B X cs ss Q pc L (.int i :: .ref D.2.2.2.2.2.2.1 :: st) h sz := by
  intro p l e s m args below meth c H locs ls C hL hV hz hS
  exact va_sld C.1 C.2.1 C.2.2.2.2.2.2.2.1.2.2.1.2.2.2.1 C.2.2.2.2.2.2.2.1.2.2.1.2.2.2.2.1 C.2.2.2.2.2.2.2.1.2.2.1.2.2.2.2.2 hS hin hd (k p l e s m args below meth c H locs ls C hL hV hz hS)
theorem z_slen (hd : zdec X pc = .ok (.arraylength, 1)) (k : Z D B X cs ss Q (pc + 1) L (.int (Int32.ofNat D.2.2.2.2.2.2.2.1) :: st) h sz) : Z D B X cs ss Q pc L (.ref D.2.2.2.2.2.2.1 :: st) h sz := by
  intro p l e s m args below meth c H locs ls C hL hV hz hS
  exact va_slen C.1 C.2.1 C.2.2.2.2.2.2.2.1.2.2.1.2.2.2.1 C.2.2.2.2.2.2.2.1.2.2.1.2.2.2.2.1 C.2.2.2.2.2.2.2.1.2.2.1.2.2.2.2.2 hS hd (k p l e s m args below meth c H locs ls C hL hV hz hS)
theorem z_wd {a b : Nat} (h1 : cs ≤ a) (h2 : ss ≤ b) (k : Z D B X a b Q pc L st h sz) : Z D B X cs ss Q pc L st h sz := by
  intro p l e s m args below meth c H locs ls C hL hV hz hS
  exact W.widen h1 h2 (k p l e s m args below meth c H locs ls C hL hV hz hS)
theorem z_siob (hd : zdec X pc = .ok (.getstatic idx, 3)) (hl : Cond.fieldLink X.1.cls idx "jdk/internal/util/Preconditions" "SIOOBE_FORMATTER" "Ljava/util/function/BiFunction;" ∈ zT) (k : ∀ v : Value, (v = .null ∨ ∃ t, v = .ref t) → Z D B X cs ss Q (pc + 3) L (v :: st) h sz) : Z D B X cs ss Q pc L st h sz := by
  intro p l e s m args below meth c H locs ls C hL hV hz hS
  rcases C.2.2.2.2.2.2.2.1.2.2.1.2.1 with hq | ⟨t, hq⟩
  · exact va_gets C.1 C.2.1 hq hS C.2.2.2.1 (C.2.2.2.2.1 _ hl) (fun _ h9 => h9) hd (k _ (Or.inl rfl) p l e s m args below meth c H locs ls C hL hV hz hS)
  · exact va_gets C.1 C.2.1 hq hS C.2.2.2.1 (C.2.2.2.2.1 _ hl) (fun _ h9 => h9) hd (k _ (Or.inr ⟨t, rfl⟩) p l e s m args below meth c H locs ls C hL hV hz hS)
theorem z_ldcS {tx : String} {i : Nat} (hd : zdec X pc = .ok (.ldc idx, 2)) (hi : (X.1.cls, idx, tx, i) ∈ zSt) (k : Z D B X cs ss Q (pc + 2) L (.ref (D.2.2.2.1 i) :: st) h sz) : Z D B X cs ss Q pc L st h sz := by
  intro p l e s m args below meth c H locs ls C hL hV hz hS
  exact va_ldcS C.1 C.2.1 C.2.2.2.1 (C.2.2.2.2.2.2.2.1.2.2.2.2.1 _ hi) hd (k p l e s m args below meth c H locs ls C hL hV hz hS)
/-- a text's bytes -/
theorem z_getV {i : Nat} (hd : zdec X pc = .ok (.getfield idx, 3)) (hl : Cond.fieldLink X.1.cls idx "java/lang/String" "value" "[B" ∈ zT) (hi : i < 8) (k : Z D B X cs ss Q (pc + 3) L (.ref (D.2.2.2.2.1 i) :: st) h sz) : Z D B X cs ss Q pc L (.ref (D.2.2.2.1 i) :: st) h sz := by
  intro p l e s m args below meth c H locs ls C hL hV hz hS
  obtain ⟨cf, kf, fi, f, cell, h1, h2, h3, h4, h5, h6⟩ := va_OF.kept ((C.2.2.2.2.2.2.2.1.2.2.2.1.1 i hi).2.2.1) hS.2.1
  exact W.getf C.1 C.2.1 C.2.2.2.1 (C.2.2.2.2.1 _ hl) h1 h2 h3 h4 h5 rfl rfl hd (k p l e s m args below meth c H locs ls C hL hV hz hS)
theorem z_getC {i : Nat} (hd : zdec X pc = .ok (.getfield idx, 3)) (hl : Cond.fieldLink X.1.cls idx "java/lang/String" "coder" "B" ∈ zT) (hi : i < 8) (k : Z D B X cs ss Q (pc + 3) L (.int 0 :: st) h sz) : Z D B X cs ss Q pc L (.ref (D.2.2.2.1 i) :: st) h sz := by
  intro p l e s m args below meth c H locs ls C hL hV hz hS
  obtain ⟨cf, kf, fi, f, cell, h1, h2, h3, h4, h5, h6⟩ := va_OF.kept ((C.2.2.2.2.2.2.2.1.2.2.2.1.1 i hi).2.1) hS.2.1
  exact W.getf C.1 C.2.1 C.2.2.2.1 (C.2.2.2.2.1 _ hl) h1 h2 h3 h4 h5 rfl rfl hd (k p l e s m args below meth c H locs ls C hL hV hz hS)
theorem z_lenV {i : Nat} (hd : zdec X pc = .ok (.arraylength, 1)) (hi : i < 8) (k : Z D B X cs ss Q (pc + 1) L (.int (Int32.ofNat (zLen.getD i 0)) :: st) h sz) : Z D B X cs ss Q pc L (.ref (D.2.2.2.2.1 i) :: st) h sz := by
  intro p l e s m args below meth c H locs ls C hL hV hz hS
  exact va_tlen C.1 C.2.1 ((C.2.2.2.2.2.2.2.1.2.2.2.1.1 i hi).2.2.2) hS rfl hd (k p l e s m args below meth c H locs ls C hL hV hz hS)
theorem z_baldV {i : Nat} {j : Int32} (hd : zdec X pc = .ok (.baload, 1)) (hi : i < 8) (hin : vp_in j (zLen.getD i 0)) (k : Z D B X cs ss Q (pc + 1) L (.int ((zByt.getD i []).getD j.toNatClampNeg 0) :: st) h sz) : Z D B X cs ss Q pc L (.int j :: .ref (D.2.2.2.2.1 i) :: st) h sz := by
  intro p l e s m args below meth c H locs ls C hL hV hz hS
  exact va_tb C.1 C.2.1 ((C.2.2.2.2.2.2.2.1.2.2.2.1.1 i hi).2.2.2) hS hin rfl hd (k p l e s m args below meth c H locs ls C hL hV hz hS)
/-- a call on a text constant -/
theorem z_callT {i : Nat} (hd : zdec X pc = .ok (.invokevirtual idx, 3)) (hk : zLk X.1.cls idx Y n) (hi : Cond.instanceMethod Y.1 ∈ zT ∧ Cond.selects Y.1.cls Y.1 Y.1 ∈ zT) (hY : Y.1.cls = "java/lang/String") (hb : i < 8) (hM : zM D B Y (.ref (D.2.2.2.1 i) :: as) h sz Qy) (hn : as.length = n) (hf : zFits X Y cs ss = true) (hr : Nat.ble ((st.map fun v => v.category).sum) 8 = true)
    (kk : ∀ (r : Option Value) (h1 : zH) (z1 : Nat), Qy r h1 z1 → Z D B X (cs + Y.2.2.2.2.2.1) (ss + Y.2.2.2.2.2.2) Q (pc + 3) L (r.toList ++ st) h1 z1) {st0 : List Value} (hst : st0 = as.reverse ++ .ref (D.2.2.2.1 i) :: st) : Z D B X cs ss Q pc L st0 h sz := by
  subst hst
  intro p l e s m args below meth c H locs ls C hL hV hz hS
  obtain ⟨hf1, hf2⟩ := zFits_ok hf
  have hts := C.2.2.2.2.1
  have hKs := C.2.2.2.2.2.2.2.1
  have hrecv : ∃ cellB : Cell, H[D.2.2.2.1 i]? = some cellB ∧ cellB.vm.isStatics = false ∧ s.vm.findClass Y.1.cls = some cellB.cls := by
    obtain ⟨cell, g1, g2, g3, -⟩ := va_O.kept ((hKs.2.2.2.1.1 i hb).1) hS.2.1
    exact ⟨cell, g1, g2, by rw [hY]; exact g3⟩
  refine z_go (va_runV (nL := X.2.2.1) (own := X.1.cls) (Ts := zT) (cc := X.2.1) (C := Y.1.cls) (bytes := Y.2.1) (maxL := Y.2.2.1) (ret := Y.2.2.2.1) (ws := zWs Y) (rm := zRoom Y) (As := as) (rest := st) ⟨C.1, C.2.1, C.2.2.1, C.2.2.2.1, hts⟩ (hM l) ⟨callB_of n hts (zGood hk.2.2.1) rfl rfl rfl (hts _ hk.2.1) (hts _ hk.1) hk.2.2.2 hf1, hts _ hi.1, hts _ hi.2⟩ ⟨zBlind, hrecv, fun U hU hW => zPre hKs hV hz hS C.2.2.2.2.2.2.2.2.2 hU hW⟩ rfl hn hL.1 rfl (zRest hr) hd hf2) hS (fun r h1 H1 locs1 hq hV1 hS1 => ?_)
  exact kk r h1 _ hq p l e s m args below meth c H1 locs1 ls C hL hV1 rfl hS1
def zCp (own : String) (idx : Nat) : Prop := Cond.methodLink own idx arraycopyName ∈ zT ∧ Cond.native arraycopyName ∈ zT ∧ Cond.static arraycopyName ∈ zT ∧ Cond.initialized "java/lang/System" ∈ zT
theorem zCat (st : List Value) (n w : Nat) (h : Nat.ble ((st.map fun v => v.category).sum + w) n = true) : (st.map fun v => v.category).sum + w ≤ n := Nat.le_of_ble_eq_true h
theorem z_copyI {a b n0 n1 : Nat} {f g : Nat → Int32} {sp dp x : Int32} (hd : zdec X pc = .ok (.invokestatic idx, 3)) (hw : zCp X.1.cls idx) (ha : h a = some (zI n0 f)) (hb : h b = some (zI n1 g)) (hB : B ≤ b) (h1 : ¬ sp < 0) (h2 : ¬ dp < 0) (h3 : ¬ x < 0) (h4 : sp.toNatClampNeg + x.toNatClampNeg ≤ n0) (h5 : dp.toNatClampNeg + x.toNatClampNeg ≤ n1) (hf : Nat.ble 1 X.2.2.2.2.1 = true) (hlo : Nat.ble ((st.map fun v => v.category).sum + (nativeFrameWords "java/lang/System" "arraycopy" 5 + 11)) (36 * X.2.2.2.2.1) = true)
    (k : Z D B X cs ss Q (pc + 3) L st (zup h b (zI n1 (va_cpy f g sp.toNatClampNeg dp.toNatClampNeg x.toNatClampNeg))) sz) : Z D B X cs ss Q pc L (.int x :: .int dp :: .ref b :: .int sp :: .ref a :: st) h sz := by
  intro p l e s m args below meth c H locs ls C hL hV hz hS
  have hts := C.2.2.2.2.1
  have hK := C.2.2.2.2.2.2.2.1.1
  have nn : ∀ z : Int32, ¬ z < 0 → z.toInt = (z.toNatClampNeg : Int) := by
    intro z hz
    have hz0 : (0 : Int) ≤ z.toInt := by
      have := Int32.not_lt.mp hz
      simpa using Int32.le_iff_toInt_le.mp this
    show z.toInt = ((z.toInt.toNat : Nat) : Int)
    omega
  intro T hT Xs
  have hc0 : H[a]? = some (vp_cell (D.2.2.1 0) (n0, .inl f)) := hV a _ ha
  have hc1 : H[b]? = some (vp_cell (D.2.2.1 0) (n1, .inl g)) := hV b _ hb
  obtain ⟨-, k0, hk0, cm0, hkk0⟩ := (hK.2 0 (D.2.2.1 0, .int) rfl).1 n0 (fun j => .int (f j))
  obtain ⟨-, k1, hk1, cm1, hkk1⟩ := (hK.2 0 (D.2.2.1 0, .int) rfl).1 n1 (fun j => .int (g j))
  have hlo2 := Nat.le_of_ble_eq_true hlo
  obtain ⟨vm', X', step⟩ := Xs.arraycopy C.1 C.2.2.2.1 (hts _ hw.1) (hts _ hw.2.1) (hts _ hw.2.2.1) (hts _ hw.2.2.2) (src := a) (dst := b) (cs := vp_cell (D.2.2.1 0) (n0, .inl f)) (cd := vp_cell (D.2.2.1 0) (n1, .inl g)) (srcPos := sp) (destPos := dp) (n := x) (by rw [hT]; exact hc0) (by rw [hT]; exact hc1)
    (fun _ h => by cases h) (fun _ h => by cases h) (fun h => by cases h) (fun h => by cases h) hk0 hk1 hkk0 hkk1 rfl h1 h2 h3
    (by rw [nn sp h1, nn x h3]; show ¬ _ > ((arrV (D.2.2.1 0) n0 (fun j => .int (f j))).slots.size : Int); rw [arrV_size]; omega)
    (by rw [nn dp h2, nn x h3]; show ¬ _ > ((arrV (D.2.2.1 0) n1 (fun j => .int (g j))).slots.size : Int); rw [arrV_size]; omega)
    (fun vm₁ _ i hi => by
      have e : (vp_cell (D.2.2.1 0) (n0, .inl f)).slots.getD (sp.toNatClampNeg + i) .null = .int (f (sp.toNatClampNeg + i)) := by
        show (arrV (D.2.2.1 0) n0 (fun j => .int (f j))).slots.getD _ _ = _
        rw [Array.getD_eq_getD_getElem?, arrV_read _ _ (by omega)]
        rfl
      refine ⟨?_, ?_⟩
      · rw [e]
        rfl
      · rw [e]
        exact trivial)
    (g := F0 m pc ls (.int x :: .int dp :: .ref b :: .int sp :: .ref a :: st)) rfl (hL.1.trans C.2.2.1.symm) (rest := st) rfl (by rw [C.2.1]; exact hd) (Nat.le_of_ble_eq_true hf) (by show 2 * 0 + _ + _ ≤ 36 * X.2.2.2.2.1; omega)
  have e1 : copied (vp_cell (D.2.2.1 0) (n0, .inl f)) (vp_cell (D.2.2.1 0) (n1, .inl g)) sp dp x = vp_cell (D.2.2.1 0) (n1, .inl (va_cpy f g sp.toNatClampNeg dp.toNatClampNeg x.toNatClampNeg)) := va_copied (fun z => .int z) (D.2.2.1 0) (D.2.2.1 0) f g h4
  rw [e1] at X' step
  have hl : b < H.size := (Array.getElem?_eq_some_iff.mp hc1).1
  generalize hcell : vp_cell (D.2.2.1 0) (n1, .inl (va_cpy f g sp.toNatClampNeg dp.toNatClampNeg x.toNatClampNeg)) = cellN at X' step
  have hheap : ((T.setVm vm').setCell b cellN).heap = H.setIfInBounds b cellN := by rw [← hT]; rfl
  have oq : ∀ q : Nat, q ≠ b → (H.setIfInBounds b cellN)[q]? = H[q]? := fun q hq => by simp [Array.getElem?_setIfInBounds, Ne.symm hq]
  obtain ⟨t, a1, b1⟩ := k p l e s m args below meth c (H.setIfInBounds b cellN) _ ls C hL (hV.set (e := zI n1 (va_cpy f g sp.toNatClampNeg dp.toNatClampNeg x.toNatClampNeg)) (show (H.setIfInBounds b cellN)[b]? = some _ by rw [← hcell]; simp [Array.getElem?_setIfInBounds, hl]) oq) (by simp; exact hz) ⟨by simp; exact hS.1, fun q g1 g2 => by
      rw [oq q (fun e => g2 (by rw [e]; exact hB))]
      exact hS.2.1 q g1 g2, fun q hq => by
      rcases List.mem_append.mp hq with h | h
      · exact hS.2.2 q h
      · obtain ⟨z, -, hz⟩ := List.mem_map.mp h
        rw [← hz]
        exact hB⟩ _ hheap X'
  exact ⟨t, step t a1, b1⟩
theorem z_copyJ {a b n0 n1 : Nat} {f g : Nat → Int64} {sp dp x : Int32} (hd : zdec X pc = .ok (.invokestatic idx, 3)) (hw : zCp X.1.cls idx) (ha : h a = some (zJ n0 f)) (hb : h b = some (zJ n1 g)) (hB : B ≤ b) (h1 : ¬ sp < 0) (h2 : ¬ dp < 0) (h3 : ¬ x < 0) (h4 : sp.toNatClampNeg + x.toNatClampNeg ≤ n0) (h5 : dp.toNatClampNeg + x.toNatClampNeg ≤ n1) (hf : Nat.ble 1 X.2.2.2.2.1 = true) (hlo : Nat.ble ((st.map fun v => v.category).sum + (nativeFrameWords "java/lang/System" "arraycopy" 5 + 11)) (36 * X.2.2.2.2.1) = true)
    (k : Z D B X cs ss Q (pc + 3) L st (zup h b (zJ n1 (va_cpy f g sp.toNatClampNeg dp.toNatClampNeg x.toNatClampNeg))) sz) : Z D B X cs ss Q pc L (.int x :: .int dp :: .ref b :: .int sp :: .ref a :: st) h sz := by
  intro p l e s m args below meth c H locs ls C hL hV hz hS
  have hts := C.2.2.2.2.1
  have hK := C.2.2.2.2.2.2.2.1.1
  have nn : ∀ z : Int32, ¬ z < 0 → z.toInt = (z.toNatClampNeg : Int) := by
    intro z hz
    have hz0 : (0 : Int) ≤ z.toInt := by
      have := Int32.not_lt.mp hz
      simpa using Int32.le_iff_toInt_le.mp this
    show z.toInt = ((z.toInt.toNat : Nat) : Int)
    omega
  intro T hT Xs
  have hc0 : H[a]? = some (vp_cell (D.2.2.1 1) (n0, .inr (.inl f))) := hV a _ ha
  have hc1 : H[b]? = some (vp_cell (D.2.2.1 1) (n1, .inr (.inl g))) := hV b _ hb
  obtain ⟨-, k0, hk0, cm0, hkk0⟩ := (hK.2 1 (D.2.2.1 1, .long) rfl).1 n0 (fun j => .long (f j))
  obtain ⟨-, k1, hk1, cm1, hkk1⟩ := (hK.2 1 (D.2.2.1 1, .long) rfl).1 n1 (fun j => .long (g j))
  have hlo2 := Nat.le_of_ble_eq_true hlo
  obtain ⟨vm', X', step⟩ := Xs.arraycopy C.1 C.2.2.2.1 (hts _ hw.1) (hts _ hw.2.1) (hts _ hw.2.2.1) (hts _ hw.2.2.2) (src := a) (dst := b) (cs := vp_cell (D.2.2.1 1) (n0, .inr (.inl f))) (cd := vp_cell (D.2.2.1 1) (n1, .inr (.inl g))) (srcPos := sp) (destPos := dp) (n := x) (by rw [hT]; exact hc0) (by rw [hT]; exact hc1)
    (fun _ h => by cases h) (fun _ h => by cases h) (fun h => by cases h) (fun h => by cases h) hk0 hk1 hkk0 hkk1 rfl h1 h2 h3
    (by rw [nn sp h1, nn x h3]; show ¬ _ > ((arrV (D.2.2.1 1) n0 (fun j => .long (f j))).slots.size : Int); rw [arrV_size]; omega)
    (by rw [nn dp h2, nn x h3]; show ¬ _ > ((arrV (D.2.2.1 1) n1 (fun j => .long (g j))).slots.size : Int); rw [arrV_size]; omega)
    (fun vm₁ _ i hi => by
      have e : (vp_cell (D.2.2.1 1) (n0, .inr (.inl f))).slots.getD (sp.toNatClampNeg + i) .null = .long (f (sp.toNatClampNeg + i)) := by
        show (arrV (D.2.2.1 1) n0 (fun j => .long (f j))).slots.getD _ _ = _
        rw [Array.getD_eq_getD_getElem?, arrV_read _ _ (by omega)]
        rfl
      refine ⟨?_, ?_⟩
      · rw [e]
        rfl
      · rw [e]
        exact trivial)
    (g := F0 m pc ls (.int x :: .int dp :: .ref b :: .int sp :: .ref a :: st)) rfl (hL.1.trans C.2.2.1.symm) (rest := st) rfl (by rw [C.2.1]; exact hd) (Nat.le_of_ble_eq_true hf) (by show 2 * 0 + _ + _ ≤ 36 * X.2.2.2.2.1; omega)
  have e1 : copied (vp_cell (D.2.2.1 1) (n0, .inr (.inl f))) (vp_cell (D.2.2.1 1) (n1, .inr (.inl g))) sp dp x = vp_cell (D.2.2.1 1) (n1, .inr (.inl (va_cpy f g sp.toNatClampNeg dp.toNatClampNeg x.toNatClampNeg))) := va_copied (fun z => .long z) (D.2.2.1 1) (D.2.2.1 1) f g h4
  rw [e1] at X' step
  have hl : b < H.size := (Array.getElem?_eq_some_iff.mp hc1).1
  generalize hcell : vp_cell (D.2.2.1 1) (n1, .inr (.inl (va_cpy f g sp.toNatClampNeg dp.toNatClampNeg x.toNatClampNeg))) = cellN at X' step
  have hheap : ((T.setVm vm').setCell b cellN).heap = H.setIfInBounds b cellN := by rw [← hT]; rfl
  have oq : ∀ q : Nat, q ≠ b → (H.setIfInBounds b cellN)[q]? = H[q]? := fun q hq => by simp [Array.getElem?_setIfInBounds, Ne.symm hq]
  obtain ⟨t, a1, b1⟩ := k p l e s m args below meth c (H.setIfInBounds b cellN) _ ls C hL (hV.set (e := zJ n1 (va_cpy f g sp.toNatClampNeg dp.toNatClampNeg x.toNatClampNeg)) (show (H.setIfInBounds b cellN)[b]? = some _ by rw [← hcell]; simp [Array.getElem?_setIfInBounds, hl]) oq) (by simp; exact hz) ⟨by simp; exact hS.1, fun q g1 g2 => by
      rw [oq q (fun e => g2 (by rw [e]; exact hB))]
      exact hS.2.1 q g1 g2, fun q hq => by
      rcases List.mem_append.mp hq with h | h
      · exact hS.2.2 q h
      · obtain ⟨z, -, hz⟩ := List.mem_map.mp h
        rw [← hz]
        exact hB⟩ _ hheap X'
  exact ⟨t, step t a1, b1⟩
theorem z_copyJs {b n1 : Nat} {g : Nat → Int64} {sp dp x : Int32} (hd : zdec X pc = .ok (.invokestatic idx, 3)) (hw : zCp X.1.cls idx) (hb : h b = some (zJ n1 g)) (hB : B ≤ b) (h1 : ¬ sp < 0) (h2 : ¬ dp < 0) (h3 : ¬ x < 0) (h4 : sp.toNatClampNeg + x.toNatClampNeg ≤ n1) (h5 : dp.toNatClampNeg + x.toNatClampNeg ≤ n1) (hf : Nat.ble 1 X.2.2.2.2.1 = true) (hlo : Nat.ble ((st.map fun v => v.category).sum + (nativeFrameWords "java/lang/System" "arraycopy" 5 + 11)) (36 * X.2.2.2.2.1) = true)
    (k : Z D B X cs ss Q (pc + 3) L st (zup h b (zJ n1 (va_cpy g g sp.toNatClampNeg dp.toNatClampNeg x.toNatClampNeg))) sz) : Z D B X cs ss Q pc L (.int x :: .int dp :: .ref b :: .int sp :: .ref b :: st) h sz := by
  intro p l e s m args below meth c H locs ls C hL hV hz hS
  have hts := C.2.2.2.2.1
  have hK := C.2.2.2.2.2.2.2.1.1
  have nn : ∀ z : Int32, ¬ z < 0 → z.toInt = (z.toNatClampNeg : Int) := by
    intro z hz
    have hz0 : (0 : Int) ≤ z.toInt := by
      have := Int32.not_lt.mp hz
      simpa using Int32.le_iff_toInt_le.mp this
    show z.toInt = ((z.toInt.toNat : Nat) : Int)
    omega
  intro T hT Xs
  have hc0 : H[b]? = some (vp_cell (D.2.2.1 1) (n1, .inr (.inl g))) := hV b _ hb
  have hc1 : H[b]? = some (vp_cell (D.2.2.1 1) (n1, .inr (.inl g))) := hV b _ hb
  obtain ⟨-, k0, hk0, cm0, hkk0⟩ := (hK.2 1 (D.2.2.1 1, .long) rfl).1 n1 (fun j => .long (g j))
  obtain ⟨-, k1, hk1, cm1, hkk1⟩ := (hK.2 1 (D.2.2.1 1, .long) rfl).1 n1 (fun j => .long (g j))
  have hlo2 := Nat.le_of_ble_eq_true hlo
  obtain ⟨vm', X', step⟩ := Xs.arraycopy C.1 C.2.2.2.1 (hts _ hw.1) (hts _ hw.2.1) (hts _ hw.2.2.1) (hts _ hw.2.2.2) (src := b) (dst := b) (cs := vp_cell (D.2.2.1 1) (n1, .inr (.inl g))) (cd := vp_cell (D.2.2.1 1) (n1, .inr (.inl g))) (srcPos := sp) (destPos := dp) (n := x) (by rw [hT]; exact hc0) (by rw [hT]; exact hc1)
    (fun _ h => by cases h) (fun _ h => by cases h) (fun h => by cases h) (fun h => by cases h) hk0 hk1 hkk0 hkk1 rfl h1 h2 h3
    (by rw [nn sp h1, nn x h3]; show ¬ _ > ((arrV (D.2.2.1 1) n1 (fun j => .long (g j))).slots.size : Int); rw [arrV_size]; omega)
    (by rw [nn dp h2, nn x h3]; show ¬ _ > ((arrV (D.2.2.1 1) n1 (fun j => .long (g j))).slots.size : Int); rw [arrV_size]; omega)
    (fun vm₁ _ i hi => by
      have e : (vp_cell (D.2.2.1 1) (n1, .inr (.inl g))).slots.getD (sp.toNatClampNeg + i) .null = .long (g (sp.toNatClampNeg + i)) := by
        show (arrV (D.2.2.1 1) n1 (fun j => .long (g j))).slots.getD _ _ = _
        rw [Array.getD_eq_getD_getElem?, arrV_read _ _ (by omega)]
        rfl
      refine ⟨?_, ?_⟩
      · rw [e]
        rfl
      · rw [e]
        exact trivial)
    (g := F0 m pc ls (.int x :: .int dp :: .ref b :: .int sp :: .ref b :: st)) rfl (hL.1.trans C.2.2.1.symm) (rest := st) rfl (by rw [C.2.1]; exact hd) (Nat.le_of_ble_eq_true hf) (by show 2 * 0 + _ + _ ≤ 36 * X.2.2.2.2.1; omega)
  have e1 : copied (vp_cell (D.2.2.1 1) (n1, .inr (.inl g))) (vp_cell (D.2.2.1 1) (n1, .inr (.inl g))) sp dp x = vp_cell (D.2.2.1 1) (n1, .inr (.inl (va_cpy g g sp.toNatClampNeg dp.toNatClampNeg x.toNatClampNeg))) := va_copied (fun z => .long z) (D.2.2.1 1) (D.2.2.1 1) g g h4
  rw [e1] at X' step
  have hl : b < H.size := (Array.getElem?_eq_some_iff.mp hc1).1
  generalize hcell : vp_cell (D.2.2.1 1) (n1, .inr (.inl (va_cpy g g sp.toNatClampNeg dp.toNatClampNeg x.toNatClampNeg))) = cellN at X' step
  have hheap : ((T.setVm vm').setCell b cellN).heap = H.setIfInBounds b cellN := by rw [← hT]; rfl
  have oq : ∀ q : Nat, q ≠ b → (H.setIfInBounds b cellN)[q]? = H[q]? := fun q hq => by simp [Array.getElem?_setIfInBounds, Ne.symm hq]
  obtain ⟨t, a1, b1⟩ := k p l e s m args below meth c (H.setIfInBounds b cellN) _ ls C hL (hV.set (e := zJ n1 (va_cpy g g sp.toNatClampNeg dp.toNatClampNeg x.toNatClampNeg)) (show (H.setIfInBounds b cellN)[b]? = some _ by rw [← hcell]; simp [Array.getElem?_setIfInBounds, hl]) oq) (by simp; exact hz) ⟨by simp; exact hS.1, fun q g1 g2 => by
      rw [oq q (fun e => g2 (by rw [e]; exact hB))]
      exact hS.2.1 q g1 g2, fun q hq => by
      rcases List.mem_append.mp hq with h | h
      · exact hS.2.2 q h
      · obtain ⟨z, -, hz⟩ := List.mem_map.mp h
        rw [← hz]
        exact hB⟩ _ hheap X'
  exact ⟨t, step t a1, b1⟩
end ZN
end
