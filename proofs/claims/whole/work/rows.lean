section
-- ===== PART A: goes FIRST, ahead of the names: the tables' words, and 'selects' of the private methods out of them =====
/-- a private method of a class that the tables say can be made, by its rows of tables_1 -/
def lw_okq (q : MethodName × Nat) : Prop := (q.1.cls ≠ "java/lang/invoke/MethodHandle" ∧ q.1.cls ≠ "java/lang/invoke/VarHandle") ∧ Cond.instantiable q.1.cls q.2 ∈ tables_1 ∧ Cond.privateMethod q.1 ∈ tables_1 ∧ Cond.instanceMethod q.1 ∈ tables_1
theorem lw_p0 : lw_okq (⟨"ReadOutAlongTheWay", "noShelf", "(I)Z"⟩, 7) := ⟨⟨by decide +kernel, by decide +kernel⟩, List.mem_of_getElem? (i := 15) (by decide +kernel), List.mem_of_getElem? (i := 193) (by decide +kernel), List.mem_of_getElem? (i := 194) (by decide +kernel)⟩
theorem lw_p1 : lw_okq (⟨"ReadOutAlongTheWay", "refuse", "(I)I"⟩, 7) := ⟨⟨by decide +kernel, by decide +kernel⟩, List.mem_of_getElem? (i := 15) (by decide +kernel), List.mem_of_getElem? (i := 200) (by decide +kernel), List.mem_of_getElem? (i := 201) (by decide +kernel)⟩
theorem lw_p2 : lw_okq (⟨"ReadOutAlongTheWay$Shelf", "asKept", "(J)J"⟩, 3) := ⟨⟨by decide +kernel, by decide +kernel⟩, List.mem_of_getElem? (i := 122) (by decide +kernel), List.mem_of_getElem? (i := 232) (by decide +kernel), List.mem_of_getElem? (i := 233) (by decide +kernel)⟩
theorem lw_p3 : lw_okq (⟨"ReadOutAlongTheWay", "noLetter", "(I)Z"⟩, 7) := ⟨⟨by decide +kernel, by decide +kernel⟩, List.mem_of_getElem? (i := 15) (by decide +kernel), List.mem_of_getElem? (i := 261) (by decide +kernel), List.mem_of_getElem? (i := 262) (by decide +kernel)⟩
theorem lw_p4 : lw_okq (⟨"ReadOutAlongTheWay$Lane", "heardWith", "(III)I"⟩, 14) := ⟨⟨by decide +kernel, by decide +kernel⟩, List.mem_of_getElem? (i := 23) (by decide +kernel), List.mem_of_getElem? (i := 301) (by decide +kernel), List.mem_of_getElem? (i := 302) (by decide +kernel)⟩
theorem lw_p5 : lw_okq (⟨"ReadOutAlongTheWay$Lane", "understands", "(II)Z"⟩, 14) := ⟨⟨by decide +kernel, by decide +kernel⟩, List.mem_of_getElem? (i := 23) (by decide +kernel), List.mem_of_getElem? (i := 312) (by decide +kernel), List.mem_of_getElem? (i := 313) (by decide +kernel)⟩
theorem lw_p6 : lw_okq (⟨"ReadOutAlongTheWay$Lane", "isNearTo", "(II)Z"⟩, 14) := ⟨⟨by decide +kernel, by decide +kernel⟩, List.mem_of_getElem? (i := 23) (by decide +kernel), List.mem_of_getElem? (i := 316) (by decide +kernel), List.mem_of_getElem? (i := 317) (by decide +kernel)⟩
theorem lw_p7 : lw_okq (⟨"ReadOutAlongTheWay", "noHouse", "(I)Z"⟩, 7) := ⟨⟨by decide +kernel, by decide +kernel⟩, List.mem_of_getElem? (i := 15) (by decide +kernel), List.mem_of_getElem? (i := 331) (by decide +kernel), List.mem_of_getElem? (i := 332) (by decide +kernel)⟩
theorem lw_p8 : lw_okq (⟨"ReadOutAlongTheWay$Tape", "step", "()V"⟩, 6) := ⟨⟨by decide +kernel, by decide +kernel⟩, List.mem_of_getElem? (i := 142) (by decide +kernel), List.mem_of_getElem? (i := 409) (by decide +kernel), List.mem_of_getElem? (i := 410) (by decide +kernel)⟩
theorem lw_p9 : lw_okq (⟨"ReadOutAlongTheWay$Tape", "sortAt", "(I)I"⟩, 6) := ⟨⟨by decide +kernel, by decide +kernel⟩, List.mem_of_getElem? (i := 142) (by decide +kernel), List.mem_of_getElem? (i := 413) (by decide +kernel), List.mem_of_getElem? (i := 414) (by decide +kernel)⟩
theorem lw_p10 : lw_okq (⟨"ReadOutAlongTheWay$Tape", "readStatement", "(LReadOutAlongTheWay$Lane;)V"⟩, 6) := ⟨⟨by decide +kernel, by decide +kernel⟩, List.mem_of_getElem? (i := 142) (by decide +kernel), List.mem_of_getElem? (i := 417) (by decide +kernel), List.mem_of_getElem? (i := 418) (by decide +kernel)⟩
theorem lw_p11 : lw_okq (⟨"ReadOutAlongTheWay$Tape", "blame", "(I)V"⟩, 6) := ⟨⟨by decide +kernel, by decide +kernel⟩, List.mem_of_getElem? (i := 142) (by decide +kernel), List.mem_of_getElem? (i := 421) (by decide +kernel), List.mem_of_getElem? (i := 422) (by decide +kernel)⟩
theorem lw_p12 : lw_okq (⟨"ReadOutAlongTheWay$Tape", "isWord", "(Ljava/lang/String;)Z"⟩, 6) := ⟨⟨by decide +kernel, by decide +kernel⟩, List.mem_of_getElem? (i := 142) (by decide +kernel), List.mem_of_getElem? (i := 426) (by decide +kernel), List.mem_of_getElem? (i := 427) (by decide +kernel)⟩
theorem lw_p13 : lw_okq (⟨"ReadOutAlongTheWay$Tape", "readHouses", "(LReadOutAlongTheWay$Lane;)V"⟩, 6) := ⟨⟨by decide +kernel, by decide +kernel⟩, List.mem_of_getElem? (i := 142) (by decide +kernel), List.mem_of_getElem? (i := 478) (by decide +kernel), List.mem_of_getElem? (i := 479) (by decide +kernel)⟩
theorem lw_p14 : lw_okq (⟨"ReadOutAlongTheWay$Tape", "readNumber", "(II)I"⟩, 6) := ⟨⟨by decide +kernel, by decide +kernel⟩, List.mem_of_getElem? (i := 142) (by decide +kernel), List.mem_of_getElem? (i := 482) (by decide +kernel), List.mem_of_getElem? (i := 483) (by decide +kernel)⟩
theorem lw_p15 : lw_okq (⟨"ReadOutAlongTheWay$Tape", "readLetter", "(LReadOutAlongTheWay$Lane;)V"⟩, 6) := ⟨⟨by decide +kernel, by decide +kernel⟩, List.mem_of_getElem? (i := 142) (by decide +kernel), List.mem_of_getElem? (i := 487) (by decide +kernel), List.mem_of_getElem? (i := 488) (by decide +kernel)⟩
def lw_privs_1 : List (MethodName × Nat) := [(⟨"ReadOutAlongTheWay", "noShelf", "(I)Z"⟩, 7), (⟨"ReadOutAlongTheWay", "refuse", "(I)I"⟩, 7), (⟨"ReadOutAlongTheWay$Shelf", "asKept", "(J)J"⟩, 3), (⟨"ReadOutAlongTheWay", "noLetter", "(I)Z"⟩, 7), (⟨"ReadOutAlongTheWay$Lane", "heardWith", "(III)I"⟩, 14), (⟨"ReadOutAlongTheWay$Lane", "understands", "(II)Z"⟩, 14), (⟨"ReadOutAlongTheWay$Lane", "isNearTo", "(II)Z"⟩, 14), (⟨"ReadOutAlongTheWay", "noHouse", "(I)Z"⟩, 7), (⟨"ReadOutAlongTheWay$Tape", "step", "()V"⟩, 6), (⟨"ReadOutAlongTheWay$Tape", "sortAt", "(I)I"⟩, 6), (⟨"ReadOutAlongTheWay$Tape", "readStatement", "(LReadOutAlongTheWay$Lane;)V"⟩, 6), (⟨"ReadOutAlongTheWay$Tape", "blame", "(I)V"⟩, 6), (⟨"ReadOutAlongTheWay$Tape", "isWord", "(Ljava/lang/String;)Z"⟩, 6), (⟨"ReadOutAlongTheWay$Tape", "readHouses", "(LReadOutAlongTheWay$Lane;)V"⟩, 6), (⟨"ReadOutAlongTheWay$Tape", "readNumber", "(II)I"⟩, 6), (⟨"ReadOutAlongTheWay$Tape", "readLetter", "(LReadOutAlongTheWay$Lane;)V"⟩, 6)]
theorem lw_r1 : ∀ q ∈ lw_privs_1, lw_okq q := List.forall_mem_cons.mpr ⟨lw_p0, List.forall_mem_cons.mpr ⟨lw_p1, List.forall_mem_cons.mpr ⟨lw_p2, List.forall_mem_cons.mpr ⟨lw_p3, List.forall_mem_cons.mpr ⟨lw_p4, List.forall_mem_cons.mpr ⟨lw_p5, List.forall_mem_cons.mpr ⟨lw_p6, List.forall_mem_cons.mpr ⟨lw_p7, List.forall_mem_cons.mpr ⟨lw_p8, List.forall_mem_cons.mpr ⟨lw_p9, List.forall_mem_cons.mpr ⟨lw_p10, List.forall_mem_cons.mpr ⟨lw_p11, List.forall_mem_cons.mpr ⟨lw_p12, List.forall_mem_cons.mpr ⟨lw_p13, List.forall_mem_cons.mpr ⟨lw_p14, List.forall_mem_cons.mpr ⟨lw_p15, fun _ h => absurd h List.not_mem_nil⟩⟩⟩⟩⟩⟩⟩⟩⟩⟩⟩⟩⟩⟩⟩⟩
theorem lw_p16 : lw_okq (⟨"ReadOutAlongTheWay$Tape", "readIntoHouse", "(LReadOutAlongTheWay$Lane;[I)V"⟩, 6) := ⟨⟨by decide +kernel, by decide +kernel⟩, List.mem_of_getElem? (i := 142) (by decide +kernel), List.mem_of_getElem? (i := 494) (by decide +kernel), List.mem_of_getElem? (i := 495) (by decide +kernel)⟩
theorem lw_p17 : lw_okq (⟨"ReadOutAlongTheWay$Tape", "readCode", "(LReadOutAlongTheWay$Lane;)V"⟩, 6) := ⟨⟨by decide +kernel, by decide +kernel⟩, List.mem_of_getElem? (i := 142) (by decide +kernel), List.mem_of_getElem? (i := 500) (by decide +kernel), List.mem_of_getElem? (i := 501) (by decide +kernel)⟩
theorem lw_p18 : lw_okq (⟨"ReadOutAlongTheWay$Tape", "readCold", "(LReadOutAlongTheWay$Lane;)V"⟩, 6) := ⟨⟨by decide +kernel, by decide +kernel⟩, List.mem_of_getElem? (i := 142) (by decide +kernel), List.mem_of_getElem? (i := 506) (by decide +kernel), List.mem_of_getElem? (i := 507) (by decide +kernel)⟩
theorem lw_p19 : lw_okq (⟨"ReadOutAlongTheWay", "noSet", "(I)Z"⟩, 7) := ⟨⟨by decide +kernel, by decide +kernel⟩, List.mem_of_getElem? (i := 15) (by decide +kernel), List.mem_of_getElem? (i := 600) (by decide +kernel), List.mem_of_getElem? (i := 601) (by decide +kernel)⟩
theorem lw_p20 : lw_okq (⟨"ReadOutAlongTheWay$Guess", "isHushed", "(II)Z"⟩, 3) := ⟨⟨by decide +kernel, by decide +kernel⟩, List.mem_of_getElem? (i := 101) (by decide +kernel), List.mem_of_getElem? (i := 618) (by decide +kernel), List.mem_of_getElem? (i := 619) (by decide +kernel)⟩
theorem lw_p21 : lw_okq (⟨"ReadOutAlongTheWay", "toldFault", "(IIIZ)I"⟩, 7) := ⟨⟨by decide +kernel, by decide +kernel⟩, List.mem_of_getElem? (i := 15) (by decide +kernel), List.mem_of_getElem? (i := 651) (by decide +kernel), List.mem_of_getElem? (i := 652) (by decide +kernel)⟩
theorem lw_p22 : lw_okq (⟨"ReadOutAlongTheWay$Guess", "fitsHeard", "(LReadOutAlongTheWay$Shelf;II)Z"⟩, 3) := ⟨⟨by decide +kernel, by decide +kernel⟩, List.mem_of_getElem? (i := 101) (by decide +kernel), List.mem_of_getElem? (i := 659) (by decide +kernel), List.mem_of_getElem? (i := 660) (by decide +kernel)⟩
theorem lw_p23 : lw_okq (⟨"ReadOutAlongTheWay$Guess", "mostLeft", "(II)I"⟩, 3) := ⟨⟨by decide +kernel, by decide +kernel⟩, List.mem_of_getElem? (i := 101) (by decide +kernel), List.mem_of_getElem? (i := 693) (by decide +kernel), List.mem_of_getElem? (i := 694) (by decide +kernel)⟩
theorem lw_p24 : lw_okq (⟨"ReadOutAlongTheWay$Guess", "fitsHouse", "(LReadOutAlongTheWay$Shelf;II)Z"⟩, 3) := ⟨⟨by decide +kernel, by decide +kernel⟩, List.mem_of_getElem? (i := 101) (by decide +kernel), List.mem_of_getElem? (i := 708) (by decide +kernel), List.mem_of_getElem? (i := 709) (by decide +kernel)⟩
theorem lw_p25 : lw_okq (⟨"ReadOutAlongTheWay", "noPouring", "(IIII)Z"⟩, 7) := ⟨⟨by decide +kernel, by decide +kernel⟩, List.mem_of_getElem? (i := 15) (by decide +kernel), List.mem_of_getElem? (i := 716) (by decide +kernel), List.mem_of_getElem? (i := 717) (by decide +kernel)⟩
theorem lw_p26 : lw_okq (⟨"ReadOutAlongTheWay", "dropMissingLetters", "()V"⟩, 7) := ⟨⟨by decide +kernel, by decide +kernel⟩, List.mem_of_getElem? (i := 15) (by decide +kernel), List.mem_of_getElem? (i := 898) (by decide +kernel), List.mem_of_getElem? (i := 899) (by decide +kernel)⟩
theorem lw_p27 : lw_okq (⟨"ReadOutAlongTheWay$Lane", "draw", "(I)I"⟩, 14) := ⟨⟨by decide +kernel, by decide +kernel⟩, List.mem_of_getElem? (i := 23) (by decide +kernel), List.mem_of_getElem? (i := 914) (by decide +kernel), List.mem_of_getElem? (i := 915) (by decide +kernel)⟩
theorem lw_p28 : lw_okq (⟨"ReadOutAlongTheWay", "shelvesInUse", "()I"⟩, 7) := ⟨⟨by decide +kernel, by decide +kernel⟩, List.mem_of_getElem? (i := 15) (by decide +kernel), List.mem_of_getElem? (i := 944) (by decide +kernel), List.mem_of_getElem? (i := 945) (by decide +kernel)⟩
theorem lw_p29 : lw_okq (⟨"ReadOutAlongTheWayModel", "refuse", "(I)I"⟩, 41) := ⟨⟨by decide +kernel, by decide +kernel⟩, List.mem_of_getElem? (i := 948) (by decide +kernel), List.mem_of_getElem? (i := 1090) (by decide +kernel), List.mem_of_getElem? (i := 1091) (by decide +kernel)⟩
theorem lw_p30 : lw_okq (⟨"ReadOutAlongTheWayModel", "noRow", "(I)I"⟩, 41) := ⟨⟨by decide +kernel, by decide +kernel⟩, List.mem_of_getElem? (i := 948) (by decide +kernel), List.mem_of_getElem? (i := 1098) (by decide +kernel), List.mem_of_getElem? (i := 1099) (by decide +kernel)⟩
theorem lw_p31 : lw_okq (⟨"ReadOutAlongTheWayModel", "isLetter", "(J)Z"⟩, 41) := ⟨⟨by decide +kernel, by decide +kernel⟩, List.mem_of_getElem? (i := 948) (by decide +kernel), List.mem_of_getElem? (i := 1121) (by decide +kernel), List.mem_of_getElem? (i := 1122) (by decide +kernel)⟩
def lw_privs_2 : List (MethodName × Nat) := [(⟨"ReadOutAlongTheWay$Tape", "readIntoHouse", "(LReadOutAlongTheWay$Lane;[I)V"⟩, 6), (⟨"ReadOutAlongTheWay$Tape", "readCode", "(LReadOutAlongTheWay$Lane;)V"⟩, 6), (⟨"ReadOutAlongTheWay$Tape", "readCold", "(LReadOutAlongTheWay$Lane;)V"⟩, 6), (⟨"ReadOutAlongTheWay", "noSet", "(I)Z"⟩, 7), (⟨"ReadOutAlongTheWay$Guess", "isHushed", "(II)Z"⟩, 3), (⟨"ReadOutAlongTheWay", "toldFault", "(IIIZ)I"⟩, 7), (⟨"ReadOutAlongTheWay$Guess", "fitsHeard", "(LReadOutAlongTheWay$Shelf;II)Z"⟩, 3), (⟨"ReadOutAlongTheWay$Guess", "mostLeft", "(II)I"⟩, 3), (⟨"ReadOutAlongTheWay$Guess", "fitsHouse", "(LReadOutAlongTheWay$Shelf;II)Z"⟩, 3), (⟨"ReadOutAlongTheWay", "noPouring", "(IIII)Z"⟩, 7), (⟨"ReadOutAlongTheWay", "dropMissingLetters", "()V"⟩, 7), (⟨"ReadOutAlongTheWay$Lane", "draw", "(I)I"⟩, 14), (⟨"ReadOutAlongTheWay", "shelvesInUse", "()I"⟩, 7), (⟨"ReadOutAlongTheWayModel", "refuse", "(I)I"⟩, 41), (⟨"ReadOutAlongTheWayModel", "noRow", "(I)I"⟩, 41), (⟨"ReadOutAlongTheWayModel", "isLetter", "(J)Z"⟩, 41)]
theorem lw_r2 : ∀ q ∈ lw_privs_2, lw_okq q := List.forall_mem_cons.mpr ⟨lw_p16, List.forall_mem_cons.mpr ⟨lw_p17, List.forall_mem_cons.mpr ⟨lw_p18, List.forall_mem_cons.mpr ⟨lw_p19, List.forall_mem_cons.mpr ⟨lw_p20, List.forall_mem_cons.mpr ⟨lw_p21, List.forall_mem_cons.mpr ⟨lw_p22, List.forall_mem_cons.mpr ⟨lw_p23, List.forall_mem_cons.mpr ⟨lw_p24, List.forall_mem_cons.mpr ⟨lw_p25, List.forall_mem_cons.mpr ⟨lw_p26, List.forall_mem_cons.mpr ⟨lw_p27, List.forall_mem_cons.mpr ⟨lw_p28, List.forall_mem_cons.mpr ⟨lw_p29, List.forall_mem_cons.mpr ⟨lw_p30, List.forall_mem_cons.mpr ⟨lw_p31, fun _ h => absurd h List.not_mem_nil⟩⟩⟩⟩⟩⟩⟩⟩⟩⟩⟩⟩⟩⟩⟩⟩
theorem lw_p32 : lw_okq (⟨"ReadOutAlongTheWayModel", "heardAt", "(II)I"⟩, 41) := ⟨⟨by decide +kernel, by decide +kernel⟩, List.mem_of_getElem? (i := 948) (by decide +kernel), List.mem_of_getElem? (i := 1133) (by decide +kernel), List.mem_of_getElem? (i := 1134) (by decide +kernel)⟩
theorem lw_p33 : lw_okq (⟨"ReadOutAlongTheWayModel", "readAt", "(II)Z"⟩, 41) := ⟨⟨by decide +kernel, by decide +kernel⟩, List.mem_of_getElem? (i := 948) (by decide +kernel), List.mem_of_getElem? (i := 1137) (by decide +kernel), List.mem_of_getElem? (i := 1138) (by decide +kernel)⟩
theorem lw_p34 : lw_okq (⟨"ReadOutAlongTheWayModel", "leftOut", "(I)I"⟩, 41) := ⟨⟨by decide +kernel, by decide +kernel⟩, List.mem_of_getElem? (i := 948) (by decide +kernel), List.mem_of_getElem? (i := 1141) (by decide +kernel), List.mem_of_getElem? (i := 1142) (by decide +kernel)⟩
theorem lw_p35 : lw_okq (⟨"ReadOutAlongTheWayModel", "tipsy", "(I)I"⟩, 41) := ⟨⟨by decide +kernel, by decide +kernel⟩, List.mem_of_getElem? (i := 948) (by decide +kernel), List.mem_of_getElem? (i := 1145) (by decide +kernel), List.mem_of_getElem? (i := 1146) (by decide +kernel)⟩
theorem lw_p36 : lw_okq (⟨"ReadOutAlongTheWayModel", "held", "(II)I"⟩, 41) := ⟨⟨by decide +kernel, by decide +kernel⟩, List.mem_of_getElem? (i := 948) (by decide +kernel), List.mem_of_getElem? (i := 1149) (by decide +kernel), List.mem_of_getElem? (i := 1150) (by decide +kernel)⟩
theorem lw_p37 : lw_okq (⟨"ReadOutAlongTheWayModel", "isHouse", "(I)Z"⟩, 41) := ⟨⟨by decide +kernel, by decide +kernel⟩, List.mem_of_getElem? (i := 948) (by decide +kernel), List.mem_of_getElem? (i := 1163) (by decide +kernel), List.mem_of_getElem? (i := 1164) (by decide +kernel)⟩
theorem lw_p38 : lw_okq (⟨"ReadOutAlongTheWayModel", "addLetter", "(IIII)V"⟩, 41) := ⟨⟨by decide +kernel, by decide +kernel⟩, List.mem_of_getElem? (i := 948) (by decide +kernel), List.mem_of_getElem? (i := 1167) (by decide +kernel), List.mem_of_getElem? (i := 1168) (by decide +kernel)⟩
theorem lw_p39 : lw_okq (⟨"ReadOutAlongTheWayModel", "setCode", "(IIZ)V"⟩, 41) := ⟨⟨by decide +kernel, by decide +kernel⟩, List.mem_of_getElem? (i := 948) (by decide +kernel), List.mem_of_getElem? (i := 1183) (by decide +kernel), List.mem_of_getElem? (i := 1184) (by decide +kernel)⟩
theorem lw_p40 : lw_okq (⟨"ReadOutAlongTheWayModel", "takeFrom", "(LReadOutAlongTheWayModel;)V"⟩, 41) := ⟨⟨by decide +kernel, by decide +kernel⟩, List.mem_of_getElem? (i := 948) (by decide +kernel), List.mem_of_getElem? (i := 1210) (by decide +kernel), List.mem_of_getElem? (i := 1211) (by decide +kernel)⟩
theorem lw_p41 : lw_okq (⟨"ReadOutAlongTheWayModel", "readAll", "()Z"⟩, 41) := ⟨⟨by decide +kernel, by decide +kernel⟩, List.mem_of_getElem? (i := 948) (by decide +kernel), List.mem_of_getElem? (i := 1217) (by decide +kernel), List.mem_of_getElem? (i := 1218) (by decide +kernel)⟩
theorem lw_p42 : lw_okq (⟨"ReadOutAlongTheWayModel", "look", "()V"⟩, 41) := ⟨⟨by decide +kernel, by decide +kernel⟩, List.mem_of_getElem? (i := 948) (by decide +kernel), List.mem_of_getElem? (i := 1221) (by decide +kernel), List.mem_of_getElem? (i := 1222) (by decide +kernel)⟩
theorem lw_p43 : lw_okq (⟨"ReadOutAlongTheWayModel", "statement", "()Z"⟩, 41) := ⟨⟨by decide +kernel, by decide +kernel⟩, List.mem_of_getElem? (i := 948) (by decide +kernel), List.mem_of_getElem? (i := 1231) (by decide +kernel), List.mem_of_getElem? (i := 1232) (by decide +kernel)⟩
theorem lw_p44 : lw_okq (⟨"ReadOutAlongTheWayModel", "isWord", "(Ljava/lang/String;)Z"⟩, 41) := ⟨⟨by decide +kernel, by decide +kernel⟩, List.mem_of_getElem? (i := 948) (by decide +kernel), List.mem_of_getElem? (i := 1236) (by decide +kernel), List.mem_of_getElem? (i := 1237) (by decide +kernel)⟩
theorem lw_p45 : lw_okq (⟨"ReadOutAlongTheWayModel", "tells", "(II)Z"⟩, 41) := ⟨⟨by decide +kernel, by decide +kernel⟩, List.mem_of_getElem? (i := 948) (by decide +kernel), List.mem_of_getElem? (i := 1242) (by decide +kernel), List.mem_of_getElem? (i := 1243) (by decide +kernel)⟩
theorem lw_p46 : lw_okq (⟨"ReadOutAlongTheWayModel", "number", "(III)Z"⟩, 41) := ⟨⟨by decide +kernel, by decide +kernel⟩, List.mem_of_getElem? (i := 948) (by decide +kernel), List.mem_of_getElem? (i := 1246) (by decide +kernel), List.mem_of_getElem? (i := 1247) (by decide +kernel)⟩
theorem lw_p47 : lw_okq (⟨"ReadOutAlongTheWayModel", "wrong", "()Z"⟩, 41) := ⟨⟨by decide +kernel, by decide +kernel⟩, List.mem_of_getElem? (i := 948) (by decide +kernel), List.mem_of_getElem? (i := 1250) (by decide +kernel), List.mem_of_getElem? (i := 1251) (by decide +kernel)⟩
def lw_privs_3 : List (MethodName × Nat) := [(⟨"ReadOutAlongTheWayModel", "heardAt", "(II)I"⟩, 41), (⟨"ReadOutAlongTheWayModel", "readAt", "(II)Z"⟩, 41), (⟨"ReadOutAlongTheWayModel", "leftOut", "(I)I"⟩, 41), (⟨"ReadOutAlongTheWayModel", "tipsy", "(I)I"⟩, 41), (⟨"ReadOutAlongTheWayModel", "held", "(II)I"⟩, 41), (⟨"ReadOutAlongTheWayModel", "isHouse", "(I)Z"⟩, 41), (⟨"ReadOutAlongTheWayModel", "addLetter", "(IIII)V"⟩, 41), (⟨"ReadOutAlongTheWayModel", "setCode", "(IIZ)V"⟩, 41), (⟨"ReadOutAlongTheWayModel", "takeFrom", "(LReadOutAlongTheWayModel;)V"⟩, 41), (⟨"ReadOutAlongTheWayModel", "readAll", "()Z"⟩, 41), (⟨"ReadOutAlongTheWayModel", "look", "()V"⟩, 41), (⟨"ReadOutAlongTheWayModel", "statement", "()Z"⟩, 41), (⟨"ReadOutAlongTheWayModel", "isWord", "(Ljava/lang/String;)Z"⟩, 41), (⟨"ReadOutAlongTheWayModel", "tells", "(II)Z"⟩, 41), (⟨"ReadOutAlongTheWayModel", "number", "(III)Z"⟩, 41), (⟨"ReadOutAlongTheWayModel", "wrong", "()Z"⟩, 41)]
theorem lw_r3 : ∀ q ∈ lw_privs_3, lw_okq q := List.forall_mem_cons.mpr ⟨lw_p32, List.forall_mem_cons.mpr ⟨lw_p33, List.forall_mem_cons.mpr ⟨lw_p34, List.forall_mem_cons.mpr ⟨lw_p35, List.forall_mem_cons.mpr ⟨lw_p36, List.forall_mem_cons.mpr ⟨lw_p37, List.forall_mem_cons.mpr ⟨lw_p38, List.forall_mem_cons.mpr ⟨lw_p39, List.forall_mem_cons.mpr ⟨lw_p40, List.forall_mem_cons.mpr ⟨lw_p41, List.forall_mem_cons.mpr ⟨lw_p42, List.forall_mem_cons.mpr ⟨lw_p43, List.forall_mem_cons.mpr ⟨lw_p44, List.forall_mem_cons.mpr ⟨lw_p45, List.forall_mem_cons.mpr ⟨lw_p46, List.forall_mem_cons.mpr ⟨lw_p47, fun _ h => absurd h List.not_mem_nil⟩⟩⟩⟩⟩⟩⟩⟩⟩⟩⟩⟩⟩⟩⟩⟩
theorem lw_p48 : lw_okq (⟨"ReadOutAlongTheWayModel", "tellsLetter", "()Z"⟩, 41) := ⟨⟨by decide +kernel, by decide +kernel⟩, List.mem_of_getElem? (i := 948) (by decide +kernel), List.mem_of_getElem? (i := 1255) (by decide +kernel), List.mem_of_getElem? (i := 1256) (by decide +kernel)⟩
theorem lw_p49 : lw_okq (⟨"ReadOutAlongTheWayModel", "tellsHouse", "()Z"⟩, 41) := ⟨⟨by decide +kernel, by decide +kernel⟩, List.mem_of_getElem? (i := 948) (by decide +kernel), List.mem_of_getElem? (i := 1262) (by decide +kernel), List.mem_of_getElem? (i := 1263) (by decide +kernel)⟩
theorem lw_p50 : lw_okq (⟨"ReadOutAlongTheWayModel", "areBoth", "(II)Z"⟩, 41) := ⟨⟨by decide +kernel, by decide +kernel⟩, List.mem_of_getElem? (i := 948) (by decide +kernel), List.mem_of_getElem? (i := 1282) (by decide +kernel), List.mem_of_getElem? (i := 1283) (by decide +kernel)⟩
theorem lw_p51 : lw_okq (⟨"ReadOutAlongTheWayModel", "knowers", "(I)I"⟩, 41) := ⟨⟨by decide +kernel, by decide +kernel⟩, List.mem_of_getElem? (i := 948) (by decide +kernel), List.mem_of_getElem? (i := 1294) (by decide +kernel), List.mem_of_getElem? (i := 1295) (by decide +kernel)⟩
theorem lw_p52 : lw_okq (⟨"ReadOutAlongTheWayModel", "knowsOf", "(II)Z"⟩, 41) := ⟨⟨by decide +kernel, by decide +kernel⟩, List.mem_of_getElem? (i := 948) (by decide +kernel), List.mem_of_getElem? (i := 1298) (by decide +kernel), List.mem_of_getElem? (i := 1299) (by decide +kernel)⟩
theorem lw_p53 : lw_okq (⟨"ReadOutAlongTheWayModel", "knownAt", "(I)I"⟩, 41) := ⟨⟨by decide +kernel, by decide +kernel⟩, List.mem_of_getElem? (i := 948) (by decide +kernel), List.mem_of_getElem? (i := 1306) (by decide +kernel), List.mem_of_getElem? (i := 1307) (by decide +kernel)⟩
theorem lw_p54 : lw_okq (⟨"ReadOutAlongTheWayModel", "wordsAt", "(I)I"⟩, 41) := ⟨⟨by decide +kernel, by decide +kernel⟩, List.mem_of_getElem? (i := 948) (by decide +kernel), List.mem_of_getElem? (i := 1314) (by decide +kernel), List.mem_of_getElem? (i := 1315) (by decide +kernel)⟩
theorem lw_p55 : lw_okq (⟨"ReadOutAlongTheWayModel", "isSet", "(I)Z"⟩, 41) := ⟨⟨by decide +kernel, by decide +kernel⟩, List.mem_of_getElem? (i := 948) (by decide +kernel), List.mem_of_getElem? (i := 1378) (by decide +kernel), List.mem_of_getElem? (i := 1379) (by decide +kernel)⟩
theorem lw_p56 : lw_okq (⟨"ReadOutAlongTheWayModel", "findHush", "(II)V"⟩, 41) := ⟨⟨by decide +kernel, by decide +kernel⟩, List.mem_of_getElem? (i := 948) (by decide +kernel), List.mem_of_getElem? (i := 1398) (by decide +kernel), List.mem_of_getElem? (i := 1399) (by decide +kernel)⟩
theorem lw_p57 : lw_okq (⟨"ReadOutAlongTheWayModel", "isHushed", "(II)Z"⟩, 41) := ⟨⟨by decide +kernel, by decide +kernel⟩, List.mem_of_getElem? (i := 948) (by decide +kernel), List.mem_of_getElem? (i := 1402) (by decide +kernel), List.mem_of_getElem? (i := 1403) (by decide +kernel)⟩
theorem lw_p58 : lw_okq (⟨"ReadOutAlongTheWayModel", "knowersTogether", "()I"⟩, 41) := ⟨⟨by decide +kernel, by decide +kernel⟩, List.mem_of_getElem? (i := 948) (by decide +kernel), List.mem_of_getElem? (i := 1426) (by decide +kernel), List.mem_of_getElem? (i := 1427) (by decide +kernel)⟩
theorem lw_p59 : lw_okq (⟨"ReadOutAlongTheWayModel", "noSounds", "(IIIZ)I"⟩, 41) := ⟨⟨by decide +kernel, by decide +kernel⟩, List.mem_of_getElem? (i := 948) (by decide +kernel), List.mem_of_getElem? (i := 1442) (by decide +kernel), List.mem_of_getElem? (i := 1443) (by decide +kernel)⟩
theorem lw_p60 : lw_okq (⟨"ReadOutAlongTheWayModel", "findLengths", "(III)V"⟩, 41) := ⟨⟨by decide +kernel, by decide +kernel⟩, List.mem_of_getElem? (i := 948) (by decide +kernel), List.mem_of_getElem? (i := 1446) (by decide +kernel), List.mem_of_getElem? (i := 1447) (by decide +kernel)⟩
theorem lw_p61 : lw_okq (⟨"ReadOutAlongTheWayModel", "sounds", "(III)Z"⟩, 41) := ⟨⟨by decide +kernel, by decide +kernel⟩, List.mem_of_getElem? (i := 948) (by decide +kernel), List.mem_of_getElem? (i := 1450) (by decide +kernel), List.mem_of_getElem? (i := 1451) (by decide +kernel)⟩
theorem lw_p62 : lw_okq (⟨"ReadOutAlongTheWayModel", "worstAt", "(II)I"⟩, 41) := ⟨⟨by decide +kernel, by decide +kernel⟩, List.mem_of_getElem? (i := 948) (by decide +kernel), List.mem_of_getElem? (i := 1462) (by decide +kernel), List.mem_of_getElem? (i := 1463) (by decide +kernel)⟩
theorem lw_p63 : lw_okq (⟨"ReadOutAlongTheWayModel", "mayPour", "(IIII)Z"⟩, 41) := ⟨⟨by decide +kernel, by decide +kernel⟩, List.mem_of_getElem? (i := 948) (by decide +kernel), List.mem_of_getElem? (i := 1474) (by decide +kernel), List.mem_of_getElem? (i := 1475) (by decide +kernel)⟩
def lw_privs_4 : List (MethodName × Nat) := [(⟨"ReadOutAlongTheWayModel", "tellsLetter", "()Z"⟩, 41), (⟨"ReadOutAlongTheWayModel", "tellsHouse", "()Z"⟩, 41), (⟨"ReadOutAlongTheWayModel", "areBoth", "(II)Z"⟩, 41), (⟨"ReadOutAlongTheWayModel", "knowers", "(I)I"⟩, 41), (⟨"ReadOutAlongTheWayModel", "knowsOf", "(II)Z"⟩, 41), (⟨"ReadOutAlongTheWayModel", "knownAt", "(I)I"⟩, 41), (⟨"ReadOutAlongTheWayModel", "wordsAt", "(I)I"⟩, 41), (⟨"ReadOutAlongTheWayModel", "isSet", "(I)Z"⟩, 41), (⟨"ReadOutAlongTheWayModel", "findHush", "(II)V"⟩, 41), (⟨"ReadOutAlongTheWayModel", "isHushed", "(II)Z"⟩, 41), (⟨"ReadOutAlongTheWayModel", "knowersTogether", "()I"⟩, 41), (⟨"ReadOutAlongTheWayModel", "noSounds", "(IIIZ)I"⟩, 41), (⟨"ReadOutAlongTheWayModel", "findLengths", "(III)V"⟩, 41), (⟨"ReadOutAlongTheWayModel", "sounds", "(III)Z"⟩, 41), (⟨"ReadOutAlongTheWayModel", "worstAt", "(II)I"⟩, 41), (⟨"ReadOutAlongTheWayModel", "mayPour", "(IIII)Z"⟩, 41)]
theorem lw_r4 : ∀ q ∈ lw_privs_4, lw_okq q := List.forall_mem_cons.mpr ⟨lw_p48, List.forall_mem_cons.mpr ⟨lw_p49, List.forall_mem_cons.mpr ⟨lw_p50, List.forall_mem_cons.mpr ⟨lw_p51, List.forall_mem_cons.mpr ⟨lw_p52, List.forall_mem_cons.mpr ⟨lw_p53, List.forall_mem_cons.mpr ⟨lw_p54, List.forall_mem_cons.mpr ⟨lw_p55, List.forall_mem_cons.mpr ⟨lw_p56, List.forall_mem_cons.mpr ⟨lw_p57, List.forall_mem_cons.mpr ⟨lw_p58, List.forall_mem_cons.mpr ⟨lw_p59, List.forall_mem_cons.mpr ⟨lw_p60, List.forall_mem_cons.mpr ⟨lw_p61, List.forall_mem_cons.mpr ⟨lw_p62, List.forall_mem_cons.mpr ⟨lw_p63, fun _ h => absurd h List.not_mem_nil⟩⟩⟩⟩⟩⟩⟩⟩⟩⟩⟩⟩⟩⟩⟩⟩
theorem lw_p64 : lw_okq (⟨"ReadOutAlongTheWayModel", "leastHeard", "(III)I"⟩, 41) := ⟨⟨by decide +kernel, by decide +kernel⟩, List.mem_of_getElem? (i := 948) (by decide +kernel), List.mem_of_getElem? (i := 1478) (by decide +kernel), List.mem_of_getElem? (i := 1479) (by decide +kernel)⟩
theorem lw_p65 : lw_okq (⟨"ReadOutAlongTheWayModel", "knowsBy", "(II)I"⟩, 41) := ⟨⟨by decide +kernel, by decide +kernel⟩, List.mem_of_getElem? (i := 948) (by decide +kernel), List.mem_of_getElem? (i := 1491) (by decide +kernel), List.mem_of_getElem? (i := 1492) (by decide +kernel)⟩
theorem lw_p66 : lw_okq (⟨"ReadOutAlongTheWayModel", "goesRound", "()V"⟩, 41) := ⟨⟨by decide +kernel, by decide +kernel⟩, List.mem_of_getElem? (i := 948) (by decide +kernel), List.mem_of_getElem? (i := 1507) (by decide +kernel), List.mem_of_getElem? (i := 1508) (by decide +kernel)⟩
theorem lw_p67 : lw_okq (⟨"ReadOutAlongTheWayModel", "shelvesFollow", "()V"⟩, 41) := ⟨⟨by decide +kernel, by decide +kernel⟩, List.mem_of_getElem? (i := 948) (by decide +kernel), List.mem_of_getElem? (i := 1511) (by decide +kernel), List.mem_of_getElem? (i := 1512) (by decide +kernel)⟩
theorem lw_p68 : lw_okq (⟨"ReadOutAlongTheWayModel", "earsTogether", "()I"⟩, 41) := ⟨⟨by decide +kernel, by decide +kernel⟩, List.mem_of_getElem? (i := 948) (by decide +kernel), List.mem_of_getElem? (i := 1515) (by decide +kernel), List.mem_of_getElem? (i := 1516) (by decide +kernel)⟩
theorem lw_p69 : lw_okq (⟨"ReadOutAlongTheWayModel", "below", "(I)I"⟩, 41) := ⟨⟨by decide +kernel, by decide +kernel⟩, List.mem_of_getElem? (i := 948) (by decide +kernel), List.mem_of_getElem? (i := 1524) (by decide +kernel), List.mem_of_getElem? (i := 1525) (by decide +kernel)⟩
def lw_privs_5 : List (MethodName × Nat) := [(⟨"ReadOutAlongTheWayModel", "leastHeard", "(III)I"⟩, 41), (⟨"ReadOutAlongTheWayModel", "knowsBy", "(II)I"⟩, 41), (⟨"ReadOutAlongTheWayModel", "goesRound", "()V"⟩, 41), (⟨"ReadOutAlongTheWayModel", "shelvesFollow", "()V"⟩, 41), (⟨"ReadOutAlongTheWayModel", "earsTogether", "()I"⟩, 41), (⟨"ReadOutAlongTheWayModel", "below", "(I)I"⟩, 41)]
theorem lw_r5 : ∀ q ∈ lw_privs_5, lw_okq q := List.forall_mem_cons.mpr ⟨lw_p64, List.forall_mem_cons.mpr ⟨lw_p65, List.forall_mem_cons.mpr ⟨lw_p66, List.forall_mem_cons.mpr ⟨lw_p67, List.forall_mem_cons.mpr ⟨lw_p68, List.forall_mem_cons.mpr ⟨lw_p69, fun _ h => absurd h List.not_mem_nil⟩⟩⟩⟩⟩⟩
def lw_privs : List (MethodName × Nat) := lw_privs_1 ++ (lw_privs_2 ++ (lw_privs_3 ++ (lw_privs_4 ++ (lw_privs_5))))
def lw_tbl : List Cond := k2_sels lw_privs ++ tables_1
theorem lw_privs_ok : ∀ q ∈ lw_privs, lw_okq q := by
  show ∀ q ∈ lw_privs_1 ++ (lw_privs_2 ++ (lw_privs_3 ++ (lw_privs_4 ++ (lw_privs_5)))), lw_okq q
  exact List.forall_mem_append.mpr ⟨lw_r1, List.forall_mem_append.mpr ⟨lw_r2, List.forall_mem_append.mpr ⟨lw_r3, List.forall_mem_append.mpr ⟨lw_r4, lw_r5⟩⟩⟩⟩
-- ===== end of PART A; then your names; then what follows =====
def RX0 : String := "ReadOutAlongTheWay$Guess"
def TX0 : u_T := fun k => match k with
  | 0 => ("ReadOutAlongTheWay$Guess", "lane", "LReadOutAlongTheWay$Lane;", true)
  | 1 => ("ReadOutAlongTheWay$Guess", "marked", "[Z", true)
  | _ => ("ReadOutAlongTheWay$Guess", "tally", "[I", true)
def tyX0 : Nat → FieldType := fun k => match k with
  | 0 => .object "ReadOutAlongTheWay$Lane"
  | 1 => .array .boolean
  | _ => .array .int
abbrev wsX00 : List Cond := u_ws RX0 TX0 3
theorem nmX0 : ∀ a, a < 3 → ∀ b, b < 3 → a ≠ b → (TX0 a).2.1 ≠ (TX0 b).2.1 := by decide +kernel
theorem tyX0_ok : ∀ k, k < 3 → parseFieldDescriptor (TX0 k).2.2.1 = some (tyX0 k) := by decide +kernel
abbrev cX0_init : ByteArray := prog_2_method_1_code
def yX0_init : MethodName := ⟨RX0, "<init>", "()V"⟩
abbrev cX0_freshFrom : ByteArray := prog_2_method_2_code
def yX0_freshFrom : MethodName := ⟨RX0, "freshFrom", "(LReadOutAlongTheWay$Lane;)LReadOutAlongTheWay$Lane;"⟩
abbrev cX0_addressFor : ByteArray := prog_2_method_3_code
def yX0_addressFor : MethodName := ⟨RX0, "addressFor", "(LReadOutAlongTheWay$Lane;II)I"⟩
abbrev cX0_leastHush : ByteArray := prog_2_method_4_code
def yX0_leastHush : MethodName := ⟨RX0, "leastHush", "(LReadOutAlongTheWay$Lane;II)I"⟩
abbrev cX0_hushHouse : ByteArray := prog_2_method_5_code
def yX0_hushHouse : MethodName := ⟨RX0, "hushHouse", "(LReadOutAlongTheWay$Lane;III)I"⟩
abbrev cX0_isHushed : ByteArray := prog_2_method_6_code
def yX0_isHushed : MethodName := ⟨RX0, "isHushed", "(II)Z"⟩
abbrev cX0_sealFor : ByteArray := prog_2_method_7_code
def yX0_sealFor : MethodName := ⟨RX0, "sealFor", "(LReadOutAlongTheWay$Lane;II)I"⟩
abbrev cX0_leastLength : ByteArray := prog_2_method_8_code
def yX0_leastLength : MethodName := ⟨RX0, "leastLength", "(LReadOutAlongTheWay$Lane;II)I"⟩
abbrev cX0_fitsHeard : ByteArray := prog_2_method_9_code
def yX0_fitsHeard : MethodName := ⟨RX0, "fitsHeard", "(LReadOutAlongTheWay$Shelf;II)Z"⟩
abbrev cX0_markLengths : ByteArray := prog_2_method_10_code
def yX0_markLengths : MethodName := ⟨RX0, "markLengths", "(LReadOutAlongTheWay$Lane;LReadOutAlongTheWay$Shelf;II)I"⟩
abbrev cX0_leastMarked : ByteArray := prog_2_method_11_code
def yX0_leastMarked : MethodName := ⟨RX0, "leastMarked", "()I"⟩
abbrev cX0_greatestMarked : ByteArray := prog_2_method_12_code
def yX0_greatestMarked : MethodName := ⟨RX0, "greatestMarked", "()I"⟩
abbrev cX0_bestParting : ByteArray := prog_2_method_13_code
def yX0_bestParting : MethodName := ⟨RX0, "bestParting", "(I)I"⟩
abbrev cX0_mostLeft : ByteArray := prog_2_method_14_code
def yX0_mostLeft : MethodName := ⟨RX0, "mostLeft", "(II)I"⟩
abbrev cX0_fittingKinds : ByteArray := prog_2_method_15_code
def yX0_fittingKinds : MethodName := ⟨RX0, "fittingKinds", "(LReadOutAlongTheWay$Lane;LReadOutAlongTheWay$Shelf;II)I"⟩
abbrev cX0_fittingTos : ByteArray := prog_2_method_16_code
def yX0_fittingTos : MethodName := ⟨RX0, "fittingTos", "(LReadOutAlongTheWay$Lane;LReadOutAlongTheWay$Shelf;II)I"⟩
abbrev cX0_fittingWinds : ByteArray := prog_2_method_17_code
def yX0_fittingWinds : MethodName := ⟨RX0, "fittingWinds", "(LReadOutAlongTheWay$Lane;LReadOutAlongTheWay$Shelf;II)I"⟩
abbrev cX0_fitsHouse : ByteArray := prog_2_method_18_code
def yX0_fitsHouse : MethodName := ⟨RX0, "fitsHouse", "(LReadOutAlongTheWay$Shelf;II)Z"⟩
abbrev cX0_bestDrink : ByteArray := prog_2_method_19_code
def yX0_bestDrink : MethodName := ⟨RX0, "bestDrink", "(LReadOutAlongTheWay$Lane;IIII)I"⟩
abbrev cX0_heardOfPoured : ByteArray := prog_2_method_20_code
def yX0_heardOfPoured : MethodName := ⟨RX0, "heardOfPoured", "(LReadOutAlongTheWay$Lane;IIIII)I"⟩
abbrev cX0_answerTo : ByteArray := prog_2_method_21_code
def yX0_answerTo : MethodName := ⟨RX0, "answerTo", "(LReadOutAlongTheWay$Lane;IIIII)I"⟩
abbrev cX0_windsOfKnowing : ByteArray := prog_2_method_22_code
def yX0_windsOfKnowing : MethodName := ⟨RX0, "windsOfKnowing", "(LReadOutAlongTheWay$Lane;II)I"⟩
abbrev cX0_sureKnowers : ByteArray := prog_2_method_23_code
def yX0_sureKnowers : MethodName := ⟨RX0, "sureKnowers", "(LReadOutAlongTheWay$Lane;I)I"⟩
abbrev cX0_knowersTurned : ByteArray := prog_2_method_24_code
def yX0_knowersTurned : MethodName := ⟨RX0, "knowersTurned", "(LReadOutAlongTheWay$Lane;I)I"⟩
abbrev cX0_leastCold : ByteArray := prog_2_method_25_code
def yX0_leastCold : MethodName := ⟨RX0, "leastCold", "(LReadOutAlongTheWay$Lane;II)I"⟩
abbrev cX0_widestTo : ByteArray := prog_2_method_26_code
def yX0_widestTo : MethodName := ⟨RX0, "widestTo", "(LReadOutAlongTheWay$Lane;I)I"⟩
abbrev cX0_knowersIfTo : ByteArray := prog_2_method_27_code
def yX0_knowersIfTo : MethodName := ⟨RX0, "knowersIfTo", "(LReadOutAlongTheWay$Lane;II)I"⟩
abbrev cX0_leastQuietWind : ByteArray := prog_2_method_28_code
def yX0_leastQuietWind : MethodName := ⟨RX0, "leastQuietWind", "(LReadOutAlongTheWay$Lane;I)I"⟩
abbrev cX0_knowersSober : ByteArray := prog_2_method_29_code
def yX0_knowersSober : MethodName := ⟨RX0, "knowersSober", "(LReadOutAlongTheWay$Lane;I)I"⟩
abbrev cX0_allKnowersIfDrink : ByteArray := prog_2_method_30_code
def yX0_allKnowersIfDrink : MethodName := ⟨RX0, "allKnowersIfDrink", "(LReadOutAlongTheWay$Lane;II)I"⟩
abbrev cX0_isKnownIfTaught : ByteArray := prog_2_method_31_code
def yX0_isKnownIfTaught : MethodName := ⟨RX0, "isKnownIfTaught", "(LReadOutAlongTheWay$Lane;II)Z"⟩
abbrev cX0_merriestHouse : ByteArray := prog_2_method_32_code
def yX0_merriestHouse : MethodName := ⟨RX0, "merriestHouse", "(LReadOutAlongTheWay$Lane;I)I"⟩
def RX1 : String := "ReadOutAlongTheWay$Lane"
def TX1 : u_T := fun k => match k with
  | 0 => ("ReadOutAlongTheWay$Lane", "houses", "I", false)
  | 1 => ("ReadOutAlongTheWay$Lane", "wind", "[I", true)
  | 2 => ("ReadOutAlongTheWay$Lane", "drink", "[I", true)
  | 3 => ("ReadOutAlongTheWay$Lane", "codes", "[I", true)
  | 4 => ("ReadOutAlongTheWay$Lane", "ears", "[I", true)
  | 5 => ("ReadOutAlongTheWay$Lane", "cold", "I", false)
  | 6 => ("ReadOutAlongTheWay$Lane", "back", "Z", false)
  | 7 => ("ReadOutAlongTheWay$Lane", "days", "I", false)
  | 8 => ("ReadOutAlongTheWay$Lane", "seed", "I", false)
  | 9 => ("ReadOutAlongTheWay$Lane", "letters", "I", false)
  | 10 => ("ReadOutAlongTheWay$Lane", "kind", "[I", true)
  | 11 => ("ReadOutAlongTheWay$Lane", "a", "[I", true)
  | 12 => ("ReadOutAlongTheWay$Lane", "to", "[I", true)
  | _ => ("ReadOutAlongTheWay$Lane", "length", "[I", true)
def tyX1 : Nat → FieldType := fun k => match k with
  | 0 => .int
  | 1 => .array .int
  | 2 => .array .int
  | 3 => .array .int
  | 4 => .array .int
  | 5 => .int
  | 6 => .boolean
  | 7 => .int
  | 8 => .int
  | 9 => .int
  | 10 => .array .int
  | 11 => .array .int
  | 12 => .array .int
  | _ => .array .int
abbrev wsX10 : List Cond := u_ws RX1 TX1 14
theorem nmX1 : ∀ a, a < 14 → ∀ b, b < 14 → a ≠ b → (TX1 a).2.1 ≠ (TX1 b).2.1 := by decide +kernel
theorem tyX1_ok : ∀ k, k < 14 → parseFieldDescriptor (TX1 k).2.2.1 = some (tyX1 k) := by decide +kernel
abbrev cX1_init : ByteArray := prog_3_method_1_code
def yX1_init : MethodName := ⟨RX1, "<init>", "()V"⟩
abbrev cX1_takeFrom : ByteArray := prog_3_method_2_code
def yX1_takeFrom : MethodName := ⟨RX1, "takeFrom", "(LReadOutAlongTheWay$Lane;)V"⟩
abbrev cX1_hasRoom : ByteArray := prog_3_method_3_code
def yX1_hasRoom : MethodName := ⟨RX1, "hasRoom", "()Z"⟩
abbrev cX1_addLetter : ByteArray := prog_3_method_4_code
def yX1_addLetter : MethodName := ⟨RX1, "addLetter", "(IIII)I"⟩
abbrev cX1_learn : ByteArray := prog_3_method_5_code
def yX1_learn : MethodName := ⟨RX1, "learn", "(II)V"⟩
abbrev cX1_houseAtStep : ByteArray := prog_3_method_6_code
def yX1_houseAtStep : MethodName := ⟨RX1, "houseAtStep", "(I)I"⟩
abbrev cX1_readAt : ByteArray := prog_3_method_7_code
def yX1_readAt : MethodName := ⟨RX1, "readAt", "(II)Z"⟩
abbrev cX1_tipsyAt : ByteArray := prog_3_method_8_code
def yX1_tipsyAt : MethodName := ⟨RX1, "tipsyAt", "(I)I"⟩
abbrev cX1_leftOutAfter : ByteArray := prog_3_method_9_code
def yX1_leftOutAfter : MethodName := ⟨RX1, "leftOutAfter", "(I)I"⟩
abbrev cX1_heardAt : ByteArray := prog_3_method_10_code
def yX1_heardAt : MethodName := ⟨RX1, "heardAt", "(II)I"⟩
abbrev cX1_heardWith : ByteArray := prog_3_method_11_code
def yX1_heardWith : MethodName := ⟨RX1, "heardWith", "(III)I"⟩
abbrev cX1_within : ByteArray := prog_3_method_12_code
def yX1_within : MethodName := ⟨RX1, "within", "(II)I"⟩
abbrev cX1_understands : ByteArray := prog_3_method_13_code
def yX1_understands : MethodName := ⟨RX1, "understands", "(II)Z"⟩
abbrev cX1_isNearTo : ByteArray := prog_3_method_14_code
def yX1_isNearTo : MethodName := ⟨RX1, "isNearTo", "(II)Z"⟩
abbrev cX1_isKnown : ByteArray := prog_3_method_15_code
def yX1_isKnown : MethodName := ⟨RX1, "isKnown", "(II)Z"⟩
abbrev cX1_knowers : ByteArray := prog_3_method_16_code
def yX1_knowers : MethodName := ⟨RX1, "knowers", "(I)I"⟩
abbrev cX1_allKnowers : ByteArray := prog_3_method_17_code
def yX1_allKnowers : MethodName := ⟨RX1, "allKnowers", "()I"⟩
abbrev cX1_knownAt : ByteArray := prog_3_method_18_code
def yX1_knownAt : MethodName := ⟨RX1, "knownAt", "(I)I"⟩
abbrev cX1_lettersReadAt : ByteArray := prog_3_method_19_code
def yX1_lettersReadAt : MethodName := ⟨RX1, "lettersReadAt", "(I)I"⟩
abbrev cX1_endKnower : ByteArray := prog_3_method_20_code
def yX1_endKnower : MethodName := ⟨RX1, "endKnower", "(IZ)I"⟩
abbrev cX1_loudestAt : ByteArray := prog_3_method_21_code
def yX1_loudestAt : MethodName := ⟨RX1, "loudestAt", "(I)I"⟩
abbrev cX1_wordsAt : ByteArray := prog_3_method_22_code
def yX1_wordsAt : MethodName := ⟨RX1, "wordsAt", "(I)I"⟩
abbrev cX1_houseWithMost : ByteArray := prog_3_method_23_code
def yX1_houseWithMost : MethodName := ⟨RX1, "houseWithMost", "()I"⟩
abbrev cX1_houseWithFewest : ByteArray := prog_3_method_24_code
def yX1_houseWithFewest : MethodName := ⟨RX1, "houseWithFewest", "()I"⟩
abbrev cX1_allDrink : ByteArray := prog_3_method_25_code
def yX1_allDrink : MethodName := ⟨RX1, "allDrink", "()I"⟩
abbrev cX1_allEars : ByteArray := prog_3_method_26_code
def yX1_allEars : MethodName := ⟨RX1, "allEars", "()I"⟩
abbrev cX1_goRound : ByteArray := prog_3_method_27_code
def yX1_goRound : MethodName := ⟨RX1, "goRound", "()V"⟩
abbrev cX1_goDrawnDay : ByteArray := prog_3_method_28_code
def yX1_goDrawnDay : MethodName := ⟨RX1, "goDrawnDay", "()V"⟩
abbrev cX1_draw : ByteArray := prog_3_method_29_code
def yX1_draw : MethodName := ⟨RX1, "draw", "(I)I"⟩
def RX2 : String := "ReadOutAlongTheWay$Shelf"
def TX2 : u_T := fun k => match k with
  | 0 => ("ReadOutAlongTheWay$Shelf", "held", "I", false)
  | 1 => ("ReadOutAlongTheWay$Shelf", "size", "I", false)
  | _ => ("ReadOutAlongTheWay$Shelf", "elements", "[J", true)
def tyX2 : Nat → FieldType := fun k => match k with
  | 0 => .int
  | 1 => .int
  | _ => .array .long
abbrev wsX20 : List Cond := u_ws RX2 TX2 3
theorem nmX2 : ∀ a, a < 3 → ∀ b, b < 3 → a ≠ b → (TX2 a).2.1 ≠ (TX2 b).2.1 := by decide +kernel
theorem tyX2_ok : ∀ k, k < 3 → parseFieldDescriptor (TX2 k).2.2.1 = some (tyX2 k) := by decide +kernel
abbrev cX2_init : ByteArray := prog_4_method_1_code
def yX2_init : MethodName := ⟨RX2, "<init>", "()V"⟩
abbrev cX2_clearOut : ByteArray := prog_4_method_2_code
def yX2_clearOut : MethodName := ⟨RX2, "clearOut", "()V"⟩
abbrev cX2_takeLetter : ByteArray := prog_4_method_3_code
def yX2_takeLetter : MethodName := ⟨RX2, "takeLetter", "(I)V"⟩
abbrev cX2_takeRow : ByteArray := prog_4_method_4_code
def yX2_takeRow : MethodName := ⟨RX2, "takeRow", "(II)V"⟩
abbrev cX2_holdsNothing : ByteArray := prog_4_method_5_code
def yX2_holdsNothing : MethodName := ⟨RX2, "holdsNothing", "()Z"⟩
abbrev cX2_holdsLetter : ByteArray := prog_4_method_6_code
def yX2_holdsLetter : MethodName := ⟨RX2, "holdsLetter", "()Z"⟩
abbrev cX2_shownLetter : ByteArray := prog_4_method_7_code
def yX2_shownLetter : MethodName := ⟨RX2, "shownLetter", "()I"⟩
abbrev cX2_hasElement : ByteArray := prog_4_method_8_code
def yX2_hasElement : MethodName := ⟨RX2, "hasElement", "(I)Z"⟩
abbrev cX2_hasPart : ByteArray := prog_4_method_9_code
def yX2_hasPart : MethodName := ⟨RX2, "hasPart", "(II)Z"⟩
abbrev cX2_rowFault : ByteArray := prog_4_method_10_code
def yX2_rowFault : MethodName := ⟨RX2, "rowFault", "(I)I"⟩
abbrev cX2_put : ByteArray := prog_4_method_11_code
def yX2_put : MethodName := ⟨RX2, "put", "(IJ)V"⟩
abbrev cX2_asKept : ByteArray := prog_4_method_12_code
def yX2_asKept : MethodName := ⟨RX2, "asKept", "(J)J"⟩
def RX3 : String := "ReadOutAlongTheWay$Tape"
def TX3 : u_T := fun k => match k with
  | 0 => ("ReadOutAlongTheWay$Tape", "bytes", "[I", true)
  | 1 => ("ReadOutAlongTheWay$Tape", "size", "I", false)
  | 2 => ("ReadOutAlongTheWay$Tape", "token", "I", false)
  | 3 => ("ReadOutAlongTheWay$Tape", "start", "I", false)
  | 4 => ("ReadOutAlongTheWay$Tape", "end", "I", false)
  | _ => ("ReadOutAlongTheWay$Tape", "fault", "I", false)
def tyX3 : Nat → FieldType := fun k => match k with
  | 0 => .array .int
  | 1 => .int
  | 2 => .int
  | 3 => .int
  | 4 => .int
  | _ => .int
abbrev wsX30 : List Cond := u_ws RX3 TX3 6
theorem nmX3 : ∀ a, a < 6 → ∀ b, b < 6 → a ≠ b → (TX3 a).2.1 ≠ (TX3 b).2.1 := by decide +kernel
theorem tyX3_ok : ∀ k, k < 6 → parseFieldDescriptor (TX3 k).2.2.1 = some (tyX3 k) := by decide +kernel
abbrev cX3_init : ByteArray := prog_5_method_1_code
def yX3_init : MethodName := ⟨RX3, "<init>", "()V"⟩
abbrev cX3_hasRoom : ByteArray := prog_5_method_2_code
def yX3_hasRoom : MethodName := ⟨RX3, "hasRoom", "()Z"⟩
abbrev cX3_append : ByteArray := prog_5_method_3_code
def yX3_append : MethodName := ⟨RX3, "append", "(I)I"⟩
abbrev cX3_empty : ByteArray := prog_5_method_4_code
def yX3_empty : MethodName := ⟨RX3, "empty", "()I"⟩
abbrev cX3_size : ByteArray := prog_5_method_5_code
def yX3_size : MethodName := ⟨RX3, "size", "()I"⟩
abbrev cX3_fault : ByteArray := prog_5_method_6_code
def yX3_fault : MethodName := ⟨RX3, "fault", "()I"⟩
abbrev cX3_readInto : ByteArray := prog_5_method_7_code
def yX3_readInto : MethodName := ⟨RX3, "readInto", "(LReadOutAlongTheWay$Lane;)I"⟩
abbrev cX3_blame : ByteArray := prog_5_method_8_code
def yX3_blame : MethodName := ⟨RX3, "blame", "(I)V"⟩
abbrev cX3_readStatement : ByteArray := prog_5_method_9_code
def yX3_readStatement : MethodName := ⟨RX3, "readStatement", "(LReadOutAlongTheWay$Lane;)V"⟩
abbrev cX3_readHouses : ByteArray := prog_5_method_10_code
def yX3_readHouses : MethodName := ⟨RX3, "readHouses", "(LReadOutAlongTheWay$Lane;)V"⟩
abbrev cX3_readLetter : ByteArray := prog_5_method_11_code
def yX3_readLetter : MethodName := ⟨RX3, "readLetter", "(LReadOutAlongTheWay$Lane;)V"⟩
abbrev cX3_readIntoHouse : ByteArray := prog_5_method_12_code
def yX3_readIntoHouse : MethodName := ⟨RX3, "readIntoHouse", "(LReadOutAlongTheWay$Lane;[I)V"⟩
abbrev cX3_readCode : ByteArray := prog_5_method_13_code
def yX3_readCode : MethodName := ⟨RX3, "readCode", "(LReadOutAlongTheWay$Lane;)V"⟩
abbrev cX3_readCold : ByteArray := prog_5_method_14_code
def yX3_readCold : MethodName := ⟨RX3, "readCold", "(LReadOutAlongTheWay$Lane;)V"⟩
abbrev cX3_readNumber : ByteArray := prog_5_method_15_code
def yX3_readNumber : MethodName := ⟨RX3, "readNumber", "(II)I"⟩
abbrev cX3_step : ByteArray := prog_5_method_16_code
def yX3_step : MethodName := ⟨RX3, "step", "()V"⟩
abbrev cX3_sortAt : ByteArray := prog_5_method_17_code
def yX3_sortAt : MethodName := ⟨RX3, "sortAt", "(I)I"⟩
abbrev cX3_isWord : ByteArray := prog_5_method_18_code
def yX3_isWord : MethodName := ⟨RX3, "isWord", "(Ljava/lang/String;)Z"⟩
def RX4 : String := "ReadOutAlongTheWay"
def TX4 : u_T := fun k => match k with
  | 0 => ("ReadOutAlongTheWay", "now", "LReadOutAlongTheWay$Lane;", true)
  | 1 => ("ReadOutAlongTheWay", "kept", "LReadOutAlongTheWay$Lane;", true)
  | 2 => ("ReadOutAlongTheWay", "guess", "LReadOutAlongTheWay$Guess;", true)
  | 3 => ("ReadOutAlongTheWay", "shelves", "[LReadOutAlongTheWay$Shelf;", true)
  | 4 => ("ReadOutAlongTheWay", "tape", "LReadOutAlongTheWay$Tape;", true)
  | 5 => ("ReadOutAlongTheWay", "refusals", "[I", true)
  | _ => ("ReadOutAlongTheWay", "isKept", "Z", false)
def tyX4 : Nat → FieldType := fun k => match k with
  | 0 => .object "ReadOutAlongTheWay$Lane"
  | 1 => .object "ReadOutAlongTheWay$Lane"
  | 2 => .object "ReadOutAlongTheWay$Guess"
  | 3 => .array (.object "ReadOutAlongTheWay$Shelf")
  | 4 => .object "ReadOutAlongTheWay$Tape"
  | 5 => .array .int
  | _ => .boolean
abbrev wsX40 : List Cond := u_ws RX4 TX4 7
theorem nmX4 : ∀ a, a < 7 → ∀ b, b < 7 → a ≠ b → (TX4 a).2.1 ≠ (TX4 b).2.1 := by decide +kernel
theorem tyX4_ok : ∀ k, k < 7 → parseFieldDescriptor (TX4 k).2.2.1 = some (tyX4 k) := by decide +kernel
abbrev cX4_init : ByteArray := prog_1_method_1_code
def yX4_init : MethodName := ⟨RX4, "<init>", "()V"⟩
abbrev cX4_row : ByteArray := prog_1_method_2_code
def yX4_row : MethodName := ⟨RX4, "row", "(III)I"⟩
abbrev cX4_set : ByteArray := prog_1_method_3_code
def yX4_set : MethodName := ⟨RX4, "set", "(IIJ)I"⟩
abbrev cX4_copy : ByteArray := prog_1_method_4_code
def yX4_copy : MethodName := ⟨RX4, "copy", "(IIIII)I"⟩
abbrev cX4_element : ByteArray := prog_1_method_5_code
def yX4_element : MethodName := ⟨RX4, "element", "(II)J"⟩
abbrev cX4_holds : ByteArray := prog_1_method_6_code
def yX4_holds : MethodName := ⟨RX4, "holds", "(I)I"⟩
abbrev cX4_show : ByteArray := prog_1_method_7_code
def yX4_show : MethodName := ⟨RX4, "show", "(II)I"⟩
abbrev cX4_says : ByteArray := prog_1_method_8_code
def yX4_says : MethodName := ⟨RX4, "says", "(II)I"⟩
abbrev cX4_houses : ByteArray := prog_1_method_9_code
def yX4_houses : MethodName := ⟨RX4, "houses", "(I)I"⟩
abbrev cX4_letter : ByteArray := prog_1_method_10_code
def yX4_letter : MethodName := ⟨RX4, "letter", "(IIII)I"⟩
abbrev cX4_mend : ByteArray := prog_1_method_11_code
def yX4_mend : MethodName := ⟨RX4, "mend", "(III)I"⟩
abbrev cX4_tell : ByteArray := prog_1_method_12_code
def yX4_tell : MethodName := ⟨RX4, "tell", "(III)I"⟩
abbrev cX4_code : ByteArray := prog_1_method_13_code
def yX4_code : MethodName := ⟨RX4, "code", "(IIZ)I"⟩
abbrev cX4_cold : ByteArray := prog_1_method_14_code
def yX4_cold : MethodName := ⟨RX4, "cold", "(I)I"⟩
abbrev cX4_way : ByteArray := prog_1_method_15_code
def yX4_way : MethodName := ⟨RX4, "way", "(Z)I"⟩
abbrev cX4_feed : ByteArray := prog_1_method_16_code
def yX4_feed : MethodName := ⟨RX4, "feed", "(I)I"⟩
abbrev cX4_wipe : ByteArray := prog_1_method_17_code
def yX4_wipe : MethodName := ⟨RX4, "wipe", "()I"⟩
abbrev cX4_lane : ByteArray := prog_1_method_18_code
def yX4_lane : MethodName := ⟨RX4, "lane", "()I"⟩
abbrev cX4_letterOf : ByteArray := prog_1_method_19_code
def yX4_letterOf : MethodName := ⟨RX4, "letterOf", "(II)I"⟩
abbrev cX4_houseOf : ByteArray := prog_1_method_20_code
def yX4_houseOf : MethodName := ⟨RX4, "houseOf", "(II)I"⟩
abbrev cX4_heard : ByteArray := prog_1_method_21_code
def yX4_heard : MethodName := ⟨RX4, "heard", "(II)I"⟩
abbrev cX4_isRead : ByteArray := prog_1_method_22_code
def yX4_isRead : MethodName := ⟨RX4, "isRead", "(II)I"⟩
abbrev cX4_whoKnows : ByteArray := prog_1_method_23_code
def yX4_whoKnows : MethodName := ⟨RX4, "whoKnows", "(I)I"⟩
abbrev cX4_knows : ByteArray := prog_1_method_24_code
def yX4_knows : MethodName := ⟨RX4, "knows", "(I)I"⟩
abbrev cX4_first : ByteArray := prog_1_method_25_code
def yX4_first : MethodName := ⟨RX4, "first", "(II)I"⟩
abbrev cX4_loudest : ByteArray := prog_1_method_26_code
def yX4_loudest : MethodName := ⟨RX4, "loudest", "(I)I"⟩
abbrev cX4_words : ByteArray := prog_1_method_27_code
def yX4_words : MethodName := ⟨RX4, "words", "(I)I"⟩
abbrev cX4_best : ByteArray := prog_1_method_28_code
def yX4_best : MethodName := ⟨RX4, "best", "(I)I"⟩
abbrev cX4_address : ByteArray := prog_1_method_29_code
def yX4_address : MethodName := ⟨RX4, "address", "(II)I"⟩
abbrev cX4_hush : ByteArray := prog_1_method_30_code
def yX4_hush : MethodName := ⟨RX4, "hush", "(III)I"⟩
abbrev cX4_seal : ByteArray := prog_1_method_31_code
def yX4_seal : MethodName := ⟨RX4, "seal", "(II)I"⟩
abbrev cX4_shout : ByteArray := prog_1_method_32_code
def yX4_shout : MethodName := ⟨RX4, "shout", "(II)I"⟩
abbrev cX4_lengths : ByteArray := prog_1_method_33_code
def yX4_lengths : MethodName := ⟨RX4, "lengths", "(IIII)I"⟩
abbrev cX4_fits : ByteArray := prog_1_method_34_code
def yX4_fits : MethodName := ⟨RX4, "fits", "(IIII)I"⟩
abbrev cX4_ask : ByteArray := prog_1_method_35_code
def yX4_ask : MethodName := ⟨RX4, "ask", "(III)I"⟩
abbrev cX4_winds : ByteArray := prog_1_method_36_code
def yX4_winds : MethodName := ⟨RX4, "winds", "(III)I"⟩
abbrev cX4_pour : ByteArray := prog_1_method_37_code
def yX4_pour : MethodName := ⟨RX4, "pour", "(IIIII)I"⟩
abbrev cX4_answer : ByteArray := prog_1_method_38_code
def yX4_answer : MethodName := ⟨RX4, "answer", "(IIIII)I"⟩
abbrev cX4_chance : ByteArray := prog_1_method_39_code
def yX4_chance : MethodName := ⟨RX4, "chance", "(II)I"⟩
abbrev cX4_sure : ByteArray := prog_1_method_40_code
def yX4_sure : MethodName := ⟨RX4, "sure", "(I)I"⟩
abbrev cX4_turned : ByteArray := prog_1_method_41_code
def yX4_turned : MethodName := ⟨RX4, "turned", "(I)I"⟩
abbrev cX4_gossips : ByteArray := prog_1_method_42_code
def yX4_gossips : MethodName := ⟨RX4, "gossips", "()I"⟩
abbrev cX4_colds : ByteArray := prog_1_method_43_code
def yX4_colds : MethodName := ⟨RX4, "colds", "(II)I"⟩
abbrev cX4_widest : ByteArray := prog_1_method_44_code
def yX4_widest : MethodName := ⟨RX4, "widest", "(II)I"⟩
abbrev cX4_wise : ByteArray := prog_1_method_45_code
def yX4_wise : MethodName := ⟨RX4, "wise", "()I"⟩
abbrev cX4_secret : ByteArray := prog_1_method_46_code
def yX4_secret : MethodName := ⟨RX4, "secret", "()I"⟩
abbrev cX4_lost : ByteArray := prog_1_method_47_code
def yX4_lost : MethodName := ⟨RX4, "lost", "()I"⟩
abbrev cX4_reach : ByteArray := prog_1_method_48_code
def yX4_reach : MethodName := ⟨RX4, "reach", "(II)I"⟩
abbrev cX4_lacks : ByteArray := prog_1_method_49_code
def yX4_lacks : MethodName := ⟨RX4, "lacks", "(II)I"⟩
abbrev cX4_alike : ByteArray := prog_1_method_50_code
def yX4_alike : MethodName := ⟨RX4, "alike", "(II)I"⟩
abbrev cX4_quiet : ByteArray := prog_1_method_51_code
def yX4_quiet : MethodName := ⟨RX4, "quiet", "(I)I"⟩
abbrev cX4_sober : ByteArray := prog_1_method_52_code
def yX4_sober : MethodName := ⟨RX4, "sober", "(I)I"⟩
abbrev cX4_thirst : ByteArray := prog_1_method_53_code
def yX4_thirst : MethodName := ⟨RX4, "thirst", "(I)I"⟩
abbrev cX4_taught : ByteArray := prog_1_method_54_code
def yX4_taught : MethodName := ⟨RX4, "taught", "(II)I"⟩
abbrev cX4_merry : ByteArray := prog_1_method_55_code
def yX4_merry : MethodName := ⟨RX4, "merry", "(I)I"⟩
abbrev cX4_common : ByteArray := prog_1_method_56_code
def yX4_common : MethodName := ⟨RX4, "common", "(II)I"⟩
abbrev cX4_doubt : ByteArray := prog_1_method_57_code
def yX4_doubt : MethodName := ⟨RX4, "doubt", "(I)I"⟩
abbrev cX4_ofKind : ByteArray := prog_1_method_58_code
def yX4_ofKind : MethodName := ⟨RX4, "ofKind", "(I)I"⟩
abbrev cX4_judge : ByteArray := prog_1_method_59_code
def yX4_judge : MethodName := ⟨RX4, "judge", "(II)I"⟩
abbrev cX4_round : ByteArray := prog_1_method_60_code
def yX4_round : MethodName := ⟨RX4, "round", "(Z)I"⟩
abbrev cX4_days : ByteArray := prog_1_method_61_code
def yX4_days : MethodName := ⟨RX4, "days", "(I)I"⟩
abbrev cX4_seed : ByteArray := prog_1_method_62_code
def yX4_seed : MethodName := ⟨RX4, "seed", "(I)I"⟩
abbrev cX4_image : ByteArray := prog_1_method_63_code
def yX4_image : MethodName := ⟨RX4, "image", "()I"⟩
abbrev cX4_back : ByteArray := prog_1_method_64_code
def yX4_back : MethodName := ⟨RX4, "back", "()I"⟩
abbrev cX4_status : ByteArray := prog_1_method_65_code
def yX4_status : MethodName := ⟨RX4, "status", "(I)I"⟩
abbrev cX4_refuse : ByteArray := prog_1_method_66_code
def yX4_refuse : MethodName := ⟨RX4, "refuse", "(I)I"⟩
abbrev cX4_outside : ByteArray := prog_1_method_67_code
def yX4_outside : MethodName := ⟨RX4, "outside", "(III)Z"⟩
abbrev cX4_noShelf : ByteArray := prog_1_method_68_code
def yX4_noShelf : MethodName := ⟨RX4, "noShelf", "(I)Z"⟩
abbrev cX4_noHouse : ByteArray := prog_1_method_69_code
def yX4_noHouse : MethodName := ⟨RX4, "noHouse", "(I)Z"⟩
abbrev cX4_noLetter : ByteArray := prog_1_method_70_code
def yX4_noLetter : MethodName := ⟨RX4, "noLetter", "(I)Z"⟩
abbrev cX4_noKind : ByteArray := prog_1_method_71_code
def yX4_noKind : MethodName := ⟨RX4, "noKind", "(I)Z"⟩
abbrev cX4_noSet : ByteArray := prog_1_method_72_code
def yX4_noSet : MethodName := ⟨RX4, "noSet", "(I)Z"⟩
abbrev cX4_noPouring : ByteArray := prog_1_method_73_code
def yX4_noPouring : MethodName := ⟨RX4, "noPouring", "(IIII)Z"⟩
abbrev cX4_toldFault : ByteArray := prog_1_method_74_code
def yX4_toldFault : MethodName := ⟨RX4, "toldFault", "(IIIZ)I"⟩
abbrev cX4_isOrStandsUnder : ByteArray := prog_1_method_75_code
def yX4_isOrStandsUnder : MethodName := ⟨RX4, "isOrStandsUnder", "(II)Z"⟩
abbrev cX4_asNumber : ByteArray := prog_1_method_76_code
def yX4_asNumber : MethodName := ⟨RX4, "asNumber", "(Z)I"⟩
abbrev cX4_dropMissingLetters : ByteArray := prog_1_method_77_code
def yX4_dropMissingLetters : MethodName := ⟨RX4, "dropMissingLetters", "()V"⟩
abbrev cX4_shelvesInUse : ByteArray := prog_1_method_78_code
def yX4_shelvesInUse : MethodName := ⟨RX4, "shelvesInUse", "()I"⟩
def RX5 : String := "ReadOutAlongTheWayModel"
def TX5 : u_T := fun k => match k with
  | 0 => ("ReadOutAlongTheWayModel", "shelf", "[I", true)
  | 1 => ("ReadOutAlongTheWayModel", "rowSort", "[I", true)
  | 2 => ("ReadOutAlongTheWayModel", "rowSize", "[I", true)
  | 3 => ("ReadOutAlongTheWayModel", "rows", "[[J", true)
  | 4 => ("ReadOutAlongTheWayModel", "moved", "[J", true)
  | 5 => ("ReadOutAlongTheWayModel", "shown", "[I", true)
  | 6 => ("ReadOutAlongTheWayModel", "tape", "[I", true)
  | 7 => ("ReadOutAlongTheWayModel", "tapeSize", "I", false)
  | 8 => ("ReadOutAlongTheWayModel", "refused", "[I", true)
  | 9 => ("ReadOutAlongTheWayModel", "houses", "I", false)
  | 10 => ("ReadOutAlongTheWayModel", "wind", "[I", true)
  | 11 => ("ReadOutAlongTheWayModel", "drink", "[I", true)
  | 12 => ("ReadOutAlongTheWayModel", "codes", "[I", true)
  | 13 => ("ReadOutAlongTheWayModel", "ears", "[I", true)
  | 14 => ("ReadOutAlongTheWayModel", "cold", "I", false)
  | 15 => ("ReadOutAlongTheWayModel", "backward", "Z", false)
  | 16 => ("ReadOutAlongTheWayModel", "gone", "I", false)
  | 17 => ("ReadOutAlongTheWayModel", "letters", "I", false)
  | 18 => ("ReadOutAlongTheWayModel", "kind", "[I", true)
  | 19 => ("ReadOutAlongTheWayModel", "by", "[I", true)
  | 20 => ("ReadOutAlongTheWayModel", "to", "[I", true)
  | 21 => ("ReadOutAlongTheWayModel", "length", "[I", true)
  | 22 => ("ReadOutAlongTheWayModel", "seed", "I", false)
  | 23 => ("ReadOutAlongTheWayModel", "kept", "LReadOutAlongTheWayModel;", false)
  | 24 => ("ReadOutAlongTheWayModel", "tried", "LReadOutAlongTheWayModel;", false)
  | 25 => ("ReadOutAlongTheWayModel", "at", "I", false)
  | 26 => ("ReadOutAlongTheWayModel", "token", "I", false)
  | 27 => ("ReadOutAlongTheWayModel", "from", "I", false)
  | 28 => ("ReadOutAlongTheWayModel", "figures", "I", false)
  | 29 => ("ReadOutAlongTheWayModel", "fault", "I", false)
  | 30 => ("ReadOutAlongTheWayModel", "told", "[I", true)
  | 31 => ("ReadOutAlongTheWayModel", "statements", "I", false)
  | 32 => ("ReadOutAlongTheWayModel", "hushMore", "I", false)
  | 33 => ("ReadOutAlongTheWayModel", "hushWhere", "I", false)
  | 34 => ("ReadOutAlongTheWayModel", "poured", "[I", true)
  | 35 => ("ReadOutAlongTheWayModel", "may", "[Z", true)
  | 36 => ("ReadOutAlongTheWayModel", "mayBe", "I", false)
  | 37 => ("ReadOutAlongTheWayModel", "least", "I", false)
  | 38 => ("ReadOutAlongTheWayModel", "greatest", "I", false)
  | 39 => ("ReadOutAlongTheWayModel", "heardBy", "[I", true)
  | _ => ("ReadOutAlongTheWayModel", "answered", "I", false)
def tyX5 : Nat → FieldType := fun k => match k with
  | 0 => .array .int
  | 1 => .array .int
  | 2 => .array .int
  | 3 => .array (.array .long)
  | 4 => .array .long
  | 5 => .array .int
  | 6 => .array .int
  | 7 => .int
  | 8 => .array .int
  | 9 => .int
  | 10 => .array .int
  | 11 => .array .int
  | 12 => .array .int
  | 13 => .array .int
  | 14 => .int
  | 15 => .boolean
  | 16 => .int
  | 17 => .int
  | 18 => .array .int
  | 19 => .array .int
  | 20 => .array .int
  | 21 => .array .int
  | 22 => .int
  | 23 => .object "ReadOutAlongTheWayModel"
  | 24 => .object "ReadOutAlongTheWayModel"
  | 25 => .int
  | 26 => .int
  | 27 => .int
  | 28 => .int
  | 29 => .int
  | 30 => .array .int
  | 31 => .int
  | 32 => .int
  | 33 => .int
  | 34 => .array .int
  | 35 => .array .boolean
  | 36 => .int
  | 37 => .int
  | 38 => .int
  | 39 => .array .int
  | _ => .int
abbrev wsX50 : List Cond := u_ws RX5 TX5 41
theorem nmX5 : ∀ a, a < 41 → ∀ b, b < 41 → a ≠ b → (TX5 a).2.1 ≠ (TX5 b).2.1 := by decide +kernel
theorem tyX5_ok : ∀ k, k < 41 → parseFieldDescriptor (TX5 k).2.2.1 = some (tyX5 k) := by decide +kernel
abbrev cX5_init : ByteArray := prog_7_method_1_code
def yX5_init : MethodName := ⟨RX5, "<init>", "()V"⟩
abbrev cX5_refuse : ByteArray := prog_7_method_2_code
def yX5_refuse : MethodName := ⟨RX5, "refuse", "(I)I"⟩
abbrev cX5_in : ByteArray := prog_7_method_3_code
def yX5_in : MethodName := ⟨RX5, "in", "(JJJ)Z"⟩
abbrev cX5_isHouse : ByteArray := prog_7_method_4_code
def yX5_isHouse : MethodName := ⟨RX5, "isHouse", "(I)Z"⟩
abbrev cX5_isLetter : ByteArray := prog_7_method_5_code
def yX5_isLetter : MethodName := ⟨RX5, "isLetter", "(J)Z"⟩
abbrev cX5_bits : ByteArray := prog_7_method_6_code
def yX5_bits : MethodName := ⟨RX5, "bits", "(I)I"⟩
abbrev cX5_row : ByteArray := prog_7_method_7_code
def yX5_row : MethodName := ⟨RX5, "row", "(III)I"⟩
abbrev cX5_fit : ByteArray := prog_7_method_8_code
def yX5_fit : MethodName := ⟨RX5, "fit", "(IJ)J"⟩
abbrev cX5_noRow : ByteArray := prog_7_method_9_code
def yX5_noRow : MethodName := ⟨RX5, "noRow", "(I)I"⟩
abbrev cX5_set : ByteArray := prog_7_method_10_code
def yX5_set : MethodName := ⟨RX5, "set", "(IIJ)I"⟩
abbrev cX5_copy : ByteArray := prog_7_method_11_code
def yX5_copy : MethodName := ⟨RX5, "copy", "(IIIII)I"⟩
abbrev cX5_element : ByteArray := prog_7_method_12_code
def yX5_element : MethodName := ⟨RX5, "element", "(II)J"⟩
abbrev cX5_holds : ByteArray := prog_7_method_13_code
def yX5_holds : MethodName := ⟨RX5, "holds", "(I)I"⟩
abbrev cX5_show : ByteArray := prog_7_method_14_code
def yX5_show : MethodName := ⟨RX5, "show", "(II)I"⟩
abbrev cX5_isUnder : ByteArray := prog_7_method_15_code
def yX5_isUnder : MethodName := ⟨RX5, "isUnder", "(II)Z"⟩
abbrev cX5_says : ByteArray := prog_7_method_16_code
def yX5_says : MethodName := ⟨RX5, "says", "(II)I"⟩
abbrev cX5_addLetter : ByteArray := prog_7_method_17_code
def yX5_addLetter : MethodName := ⟨RX5, "addLetter", "(IIII)V"⟩
abbrev cX5_houses : ByteArray := prog_7_method_18_code
def yX5_houses : MethodName := ⟨RX5, "houses", "(I)I"⟩
abbrev cX5_letter : ByteArray := prog_7_method_19_code
def yX5_letter : MethodName := ⟨RX5, "letter", "(IIII)I"⟩
abbrev cX5_mend : ByteArray := prog_7_method_20_code
def yX5_mend : MethodName := ⟨RX5, "mend", "(III)I"⟩
abbrev cX5_tell : ByteArray := prog_7_method_21_code
def yX5_tell : MethodName := ⟨RX5, "tell", "(III)I"⟩
abbrev cX5_setCode : ByteArray := prog_7_method_22_code
def yX5_setCode : MethodName := ⟨RX5, "setCode", "(IIZ)V"⟩
abbrev cX5_code : ByteArray := prog_7_method_23_code
def yX5_code : MethodName := ⟨RX5, "code", "(IIZ)I"⟩
abbrev cX5_cold : ByteArray := prog_7_method_24_code
def yX5_cold : MethodName := ⟨RX5, "cold", "(I)I"⟩
abbrev cX5_way : ByteArray := prog_7_method_25_code
def yX5_way : MethodName := ⟨RX5, "way", "(Z)I"⟩
abbrev cX5_feed : ByteArray := prog_7_method_26_code
def yX5_feed : MethodName := ⟨RX5, "feed", "(I)I"⟩
abbrev cX5_wipe : ByteArray := prog_7_method_27_code
def yX5_wipe : MethodName := ⟨RX5, "wipe", "()I"⟩
abbrev cX5_isLower : ByteArray := prog_7_method_28_code
def yX5_isLower : MethodName := ⟨RX5, "isLower", "(I)Z"⟩
abbrev cX5_isDigit : ByteArray := prog_7_method_29_code
def yX5_isDigit : MethodName := ⟨RX5, "isDigit", "(I)Z"⟩
abbrev cX5_look : ByteArray := prog_7_method_30_code
def yX5_look : MethodName := ⟨RX5, "look", "()V"⟩
abbrev cX5_wrong : ByteArray := prog_7_method_31_code
def yX5_wrong : MethodName := ⟨RX5, "wrong", "()Z"⟩
abbrev cX5_isWord : ByteArray := prog_7_method_32_code
def yX5_isWord : MethodName := ⟨RX5, "isWord", "(Ljava/lang/String;)Z"⟩
abbrev cX5_number : ByteArray := prog_7_method_33_code
def yX5_number : MethodName := ⟨RX5, "number", "(III)Z"⟩
abbrev cX5_tells : ByteArray := prog_7_method_34_code
def yX5_tells : MethodName := ⟨RX5, "tells", "(II)Z"⟩
abbrev cX5_tellsLetter : ByteArray := prog_7_method_35_code
def yX5_tellsLetter : MethodName := ⟨RX5, "tellsLetter", "()Z"⟩
abbrev cX5_tellsHouse : ByteArray := prog_7_method_36_code
def yX5_tellsHouse : MethodName := ⟨RX5, "tellsHouse", "()Z"⟩
abbrev cX5_statement : ByteArray := prog_7_method_37_code
def yX5_statement : MethodName := ⟨RX5, "statement", "()Z"⟩
abbrev cX5_readAll : ByteArray := prog_7_method_38_code
def yX5_readAll : MethodName := ⟨RX5, "readAll", "()Z"⟩
abbrev cX5_lane : ByteArray := prog_7_method_39_code
def yX5_lane : MethodName := ⟨RX5, "lane", "()I"⟩
abbrev cX5_letterOf : ByteArray := prog_7_method_40_code
def yX5_letterOf : MethodName := ⟨RX5, "letterOf", "(II)I"⟩
abbrev cX5_tipsy : ByteArray := prog_7_method_41_code
def yX5_tipsy : MethodName := ⟨RX5, "tipsy", "(I)I"⟩
abbrev cX5_leftOut : ByteArray := prog_7_method_42_code
def yX5_leftOut : MethodName := ⟨RX5, "leftOut", "(I)I"⟩
abbrev cX5_readAt : ByteArray := prog_7_method_43_code
def yX5_readAt : MethodName := ⟨RX5, "readAt", "(II)Z"⟩
abbrev cX5_held : ByteArray := prog_7_method_44_code
def yX5_held : MethodName := ⟨RX5, "held", "(II)I"⟩
abbrev cX5_heardAt : ByteArray := prog_7_method_45_code
def yX5_heardAt : MethodName := ⟨RX5, "heardAt", "(II)I"⟩
abbrev cX5_knowsOf : ByteArray := prog_7_method_46_code
def yX5_knowsOf : MethodName := ⟨RX5, "knowsOf", "(II)Z"⟩
abbrev cX5_knowers : ByteArray := prog_7_method_47_code
def yX5_knowers : MethodName := ⟨RX5, "knowers", "(I)I"⟩
abbrev cX5_knownAt : ByteArray := prog_7_method_48_code
def yX5_knownAt : MethodName := ⟨RX5, "knownAt", "(I)I"⟩
abbrev cX5_wordsAt : ByteArray := prog_7_method_49_code
def yX5_wordsAt : MethodName := ⟨RX5, "wordsAt", "(I)I"⟩
abbrev cX5_houseOf : ByteArray := prog_7_method_50_code
def yX5_houseOf : MethodName := ⟨RX5, "houseOf", "(II)I"⟩
abbrev cX5_areBoth : ByteArray := prog_7_method_51_code
def yX5_areBoth : MethodName := ⟨RX5, "areBoth", "(II)Z"⟩
abbrev cX5_heard : ByteArray := prog_7_method_52_code
def yX5_heard : MethodName := ⟨RX5, "heard", "(II)I"⟩
abbrev cX5_isRead : ByteArray := prog_7_method_53_code
def yX5_isRead : MethodName := ⟨RX5, "isRead", "(II)I"⟩
abbrev cX5_whoKnows : ByteArray := prog_7_method_54_code
def yX5_whoKnows : MethodName := ⟨RX5, "whoKnows", "(I)I"⟩
abbrev cX5_knows : ByteArray := prog_7_method_55_code
def yX5_knows : MethodName := ⟨RX5, "knows", "(I)I"⟩
abbrev cX5_words : ByteArray := prog_7_method_56_code
def yX5_words : MethodName := ⟨RX5, "words", "(I)I"⟩
abbrev cX5_common : ByteArray := prog_7_method_57_code
def yX5_common : MethodName := ⟨RX5, "common", "(II)I"⟩
abbrev cX5_alike : ByteArray := prog_7_method_58_code
def yX5_alike : MethodName := ⟨RX5, "alike", "(II)I"⟩
abbrev cX5_ofKind : ByteArray := prog_7_method_59_code
def yX5_ofKind : MethodName := ⟨RX5, "ofKind", "(I)I"⟩
abbrev cX5_lacks : ByteArray := prog_7_method_60_code
def yX5_lacks : MethodName := ⟨RX5, "lacks", "(II)I"⟩
abbrev cX5_doubt : ByteArray := prog_7_method_61_code
def yX5_doubt : MethodName := ⟨RX5, "doubt", "(I)I"⟩
abbrev cX5_reach : ByteArray := prog_7_method_62_code
def yX5_reach : MethodName := ⟨RX5, "reach", "(II)I"⟩
abbrev cX5_first : ByteArray := prog_7_method_63_code
def yX5_first : MethodName := ⟨RX5, "first", "(II)I"⟩
abbrev cX5_loudest : ByteArray := prog_7_method_64_code
def yX5_loudest : MethodName := ⟨RX5, "loudest", "(I)I"⟩
abbrev cX5_best : ByteArray := prog_7_method_65_code
def yX5_best : MethodName := ⟨RX5, "best", "(I)I"⟩
abbrev cX5_wise : ByteArray := prog_7_method_66_code
def yX5_wise : MethodName := ⟨RX5, "wise", "()I"⟩
abbrev cX5_secret : ByteArray := prog_7_method_67_code
def yX5_secret : MethodName := ⟨RX5, "secret", "()I"⟩
abbrev cX5_lost : ByteArray := prog_7_method_68_code
def yX5_lost : MethodName := ⟨RX5, "lost", "()I"⟩
abbrev cX5_gossips : ByteArray := prog_7_method_69_code
def yX5_gossips : MethodName := ⟨RX5, "gossips", "()I"⟩
abbrev cX5_isSet : ByteArray := prog_7_method_70_code
def yX5_isSet : MethodName := ⟨RX5, "isSet", "(I)Z"⟩
abbrev cX5_address : ByteArray := prog_7_method_71_code
def yX5_address : MethodName := ⟨RX5, "address", "(II)I"⟩
abbrev cX5_widest : ByteArray := prog_7_method_72_code
def yX5_widest : MethodName := ⟨RX5, "widest", "(II)I"⟩
abbrev cX5_seal : ByteArray := prog_7_method_73_code
def yX5_seal : MethodName := ⟨RX5, "seal", "(II)I"⟩
abbrev cX5_shout : ByteArray := prog_7_method_74_code
def yX5_shout : MethodName := ⟨RX5, "shout", "(II)I"⟩
abbrev cX5_isHushed : ByteArray := prog_7_method_75_code
def yX5_isHushed : MethodName := ⟨RX5, "isHushed", "(II)Z"⟩
abbrev cX5_findHush : ByteArray := prog_7_method_76_code
def yX5_findHush : MethodName := ⟨RX5, "findHush", "(II)V"⟩
abbrev cX5_hush : ByteArray := prog_7_method_77_code
def yX5_hush : MethodName := ⟨RX5, "hush", "(III)I"⟩
abbrev cX5_turned : ByteArray := prog_7_method_78_code
def yX5_turned : MethodName := ⟨RX5, "turned", "(I)I"⟩
abbrev cX5_colds : ByteArray := prog_7_method_79_code
def yX5_colds : MethodName := ⟨RX5, "colds", "(II)I"⟩
abbrev cX5_quiet : ByteArray := prog_7_method_80_code
def yX5_quiet : MethodName := ⟨RX5, "quiet", "(I)I"⟩
abbrev cX5_sober : ByteArray := prog_7_method_81_code
def yX5_sober : MethodName := ⟨RX5, "sober", "(I)I"⟩
abbrev cX5_knowersTogether : ByteArray := prog_7_method_82_code
def yX5_knowersTogether : MethodName := ⟨RX5, "knowersTogether", "()I"⟩
abbrev cX5_thirst : ByteArray := prog_7_method_83_code
def yX5_thirst : MethodName := ⟨RX5, "thirst", "(I)I"⟩
abbrev cX5_taught : ByteArray := prog_7_method_84_code
def yX5_taught : MethodName := ⟨RX5, "taught", "(II)I"⟩
abbrev cX5_merry : ByteArray := prog_7_method_85_code
def yX5_merry : MethodName := ⟨RX5, "merry", "(I)I"⟩
abbrev cX5_noSounds : ByteArray := prog_7_method_86_code
def yX5_noSounds : MethodName := ⟨RX5, "noSounds", "(IIIZ)I"⟩
abbrev cX5_sounds : ByteArray := prog_7_method_87_code
def yX5_sounds : MethodName := ⟨RX5, "sounds", "(III)Z"⟩
abbrev cX5_findLengths : ByteArray := prog_7_method_88_code
def yX5_findLengths : MethodName := ⟨RX5, "findLengths", "(III)V"⟩
abbrev cX5_lengths : ByteArray := prog_7_method_89_code
def yX5_lengths : MethodName := ⟨RX5, "lengths", "(IIII)I"⟩
abbrev cX5_fits : ByteArray := prog_7_method_90_code
def yX5_fits : MethodName := ⟨RX5, "fits", "(IIII)I"⟩
abbrev cX5_worstAt : ByteArray := prog_7_method_91_code
def yX5_worstAt : MethodName := ⟨RX5, "worstAt", "(II)I"⟩
abbrev cX5_ask : ByteArray := prog_7_method_92_code
def yX5_ask : MethodName := ⟨RX5, "ask", "(III)I"⟩
abbrev cX5_winds : ByteArray := prog_7_method_93_code
def yX5_winds : MethodName := ⟨RX5, "winds", "(III)I"⟩
abbrev cX5_leastHeard : ByteArray := prog_7_method_94_code
def yX5_leastHeard : MethodName := ⟨RX5, "leastHeard", "(III)I"⟩
abbrev cX5_mayPour : ByteArray := prog_7_method_95_code
def yX5_mayPour : MethodName := ⟨RX5, "mayPour", "(IIII)Z"⟩
abbrev cX5_pour : ByteArray := prog_7_method_96_code
def yX5_pour : MethodName := ⟨RX5, "pour", "(IIIII)I"⟩
abbrev cX5_answer : ByteArray := prog_7_method_97_code
def yX5_answer : MethodName := ⟨RX5, "answer", "(IIIII)I"⟩
abbrev cX5_knowsBy : ByteArray := prog_7_method_98_code
def yX5_knowsBy : MethodName := ⟨RX5, "knowsBy", "(II)I"⟩
abbrev cX5_chance : ByteArray := prog_7_method_99_code
def yX5_chance : MethodName := ⟨RX5, "chance", "(II)I"⟩
abbrev cX5_sure : ByteArray := prog_7_method_100_code
def yX5_sure : MethodName := ⟨RX5, "sure", "(I)I"⟩
abbrev cX5_judge : ByteArray := prog_7_method_101_code
def yX5_judge : MethodName := ⟨RX5, "judge", "(II)I"⟩
abbrev cX5_goesRound : ByteArray := prog_7_method_102_code
def yX5_goesRound : MethodName := ⟨RX5, "goesRound", "()V"⟩
abbrev cX5_earsTogether : ByteArray := prog_7_method_103_code
def yX5_earsTogether : MethodName := ⟨RX5, "earsTogether", "()I"⟩
abbrev cX5_shelvesFollow : ByteArray := prog_7_method_104_code
def yX5_shelvesFollow : MethodName := ⟨RX5, "shelvesFollow", "()V"⟩
abbrev cX5_round : ByteArray := prog_7_method_105_code
def yX5_round : MethodName := ⟨RX5, "round", "(Z)I"⟩
abbrev cX5_below : ByteArray := prog_7_method_106_code
def yX5_below : MethodName := ⟨RX5, "below", "(I)I"⟩
abbrev cX5_days : ByteArray := prog_7_method_107_code
def yX5_days : MethodName := ⟨RX5, "days", "(I)I"⟩
abbrev cX5_seed : ByteArray := prog_7_method_108_code
def yX5_seed : MethodName := ⟨RX5, "seed", "(I)I"⟩
abbrev cX5_copied : ByteArray := prog_7_method_109_code
def yX5_copied : MethodName := ⟨RX5, "copied", "([I[I)V"⟩
abbrev cX5_takeFrom : ByteArray := prog_7_method_110_code
def yX5_takeFrom : MethodName := ⟨RX5, "takeFrom", "(LReadOutAlongTheWayModel;)V"⟩
abbrev cX5_image : ByteArray := prog_7_method_111_code
def yX5_image : MethodName := ⟨RX5, "image", "()I"⟩
abbrev cX5_back : ByteArray := prog_7_method_112_code
def yX5_back : MethodName := ⟨RX5, "back", "()I"⟩
abbrev cX5_status : ByteArray := prog_7_method_113_code
def yX5_status : MethodName := ⟨RX5, "status", "(I)I"⟩
def RJ6 : String := "java/lang/Integer"
def TJ6 : u_T := fun k => match k with
  | _ => ("", "", "", false)
def tyJ6 : Nat → FieldType := fun k => match k with
  | _ => .int
abbrev wsJ60 : List Cond := u_ws RJ6 TJ6 0
theorem nmJ6 : ∀ a, a < 0 → ∀ b, b < 0 → a ≠ b → (TJ6 a).2.1 ≠ (TJ6 b).2.1 := by decide +kernel
theorem tyJ6_ok : ∀ k, k < 0 → parseFieldDescriptor (TJ6 k).2.2.1 = some (tyJ6 k) := by decide +kernel
abbrev cJ6_bitCount_0f7a4 : ByteArray := prog_8_method_49_code
def yJ6_bitCount_0f7a4 : MethodName := ⟨RJ6, "bitCount", "(I)I"⟩
def RJ9 : String := "java/lang/Math"
def TJ9 : u_T := fun k => match k with
  | _ => ("", "", "", false)
def tyJ9 : Nat → FieldType := fun k => match k with
  | _ => .int
abbrev wsJ90 : List Cond := u_ws RJ9 TJ9 0
theorem nmJ9 : ∀ a, a < 0 → ∀ b, b < 0 → a ≠ b → (TJ9 a).2.1 ≠ (TJ9 b).2.1 := by decide +kernel
theorem tyJ9_ok : ∀ k, k < 0 → parseFieldDescriptor (TJ9 k).2.2.1 = some (tyJ9 k) := by decide +kernel
abbrev cJ9_abs_0f7a4 : ByteArray := prog_9_method_59_code
def yJ9_abs_0f7a4 : MethodName := ⟨RJ9, "abs", "(I)I"⟩
abbrev cJ9_max_7cf53 : ByteArray := prog_9_method_65_code
def yJ9_max_7cf53 : MethodName := ⟨RJ9, "max", "(II)I"⟩
def RJ0 : String := "java/lang/String"
def TJ0 : u_T := fun k => match k with
  | _ => ("", "", "", false)
def tyJ0 : Nat → FieldType := fun k => match k with
  | _ => .int
abbrev wsJ00 : List Cond := u_ws RJ0 TJ0 0
theorem nmJ0 : ∀ a, a < 0 → ∀ b, b < 0 → a ≠ b → (TJ0 a).2.1 ≠ (TJ0 b).2.1 := by decide +kernel
theorem tyJ0_ok : ∀ k, k < 0 → parseFieldDescriptor (TJ0 k).2.2.1 = some (tyJ0 k) := by decide +kernel
abbrev cJ0_length_8abf5 : ByteArray := prog_10_method_54_code
def yJ0_length_8abf5 : MethodName := ⟨RJ0, "length", "()I"⟩
abbrev cJ0_charAt_5068e : ByteArray := prog_10_method_56_code
def yJ0_charAt_5068e : MethodName := ⟨RJ0, "charAt", "(I)C"⟩
abbrev cJ0_coder_7d493 : ByteArray := prog_10_method_152_code
def yJ0_coder_7d493 : MethodName := ⟨RJ0, "coder", "()B"⟩
abbrev cJ0_isLatin1_aae02 : ByteArray := prog_10_method_154_code
def yJ0_isLatin1_aae02 : MethodName := ⟨RJ0, "isLatin1", "()Z"⟩
abbrev cJ0_checkIndex_df160 : ByteArray := prog_10_method_155_code
def yJ0_checkIndex_df160 : MethodName := ⟨RJ0, "checkIndex", "(II)V"⟩
def RJ1 : String := "java/lang/StringLatin1"
def TJ1 : u_T := fun k => match k with
  | _ => ("", "", "", false)
def tyJ1 : Nat → FieldType := fun k => match k with
  | _ => .int
abbrev wsJ10 : List Cond := u_ws RJ1 TJ1 0
theorem nmJ1 : ∀ a, a < 0 → ∀ b, b < 0 → a ≠ b → (TJ1 a).2.1 ≠ (TJ1 b).2.1 := by decide +kernel
theorem tyJ1_ok : ∀ k, k < 0 → parseFieldDescriptor (TJ1 k).2.2.1 = some (tyJ1 k) := by decide +kernel
abbrev cJ1_charAt_3b067 : ByteArray := prog_11_method_2_code
def yJ1_charAt_3b067 : MethodName := ⟨RJ1, "charAt", "([BI)C"⟩
def RJ2 : String := "java/lang/StringUTF16"
def TJ2 : u_T := fun k => match k with
  | _ => ("", "", "", false)
def tyJ2 : Nat → FieldType := fun k => match k with
  | _ => .int
abbrev wsJ20 : List Cond := u_ws RJ2 TJ2 0
theorem nmJ2 : ∀ a, a < 0 → ∀ b, b < 0 → a ≠ b → (TJ2 a).2.1 ≠ (TJ2 b).2.1 := by decide +kernel
theorem tyJ2_ok : ∀ k, k < 0 → parseFieldDescriptor (TJ2 k).2.2.1 = some (tyJ2 k) := by decide +kernel
abbrev cJ2_getChar_3b067 : ByteArray := prog_12_method_5_code
def yJ2_getChar_3b067 : MethodName := ⟨RJ2, "getChar", "([BI)C"⟩
abbrev cJ2_length_9d52b : ByteArray := prog_12_method_6_code
def yJ2_length_9d52b : MethodName := ⟨RJ2, "length", "([B)I"⟩
abbrev cJ2_charAt_3b067 : ByteArray := prog_12_method_83_code
def yJ2_charAt_3b067 : MethodName := ⟨RJ2, "charAt", "([BI)C"⟩
abbrev cJ2_checkIndex_2214a : ByteArray := prog_12_method_91_code
def yJ2_checkIndex_2214a : MethodName := ⟨RJ2, "checkIndex", "(I[B)V"⟩
def RJ10 : String := "java/lang/System"
def TJ10 : u_T := fun k => match k with
  | _ => ("", "", "", false)
def tyJ10 : Nat → FieldType := fun k => match k with
  | _ => .int
abbrev wsJ100 : List Cond := u_ws RJ10 TJ10 0
theorem nmJ10 : ∀ a, a < 0 → ∀ b, b < 0 → a ≠ b → (TJ10 a).2.1 ≠ (TJ10 b).2.1 := by decide +kernel
theorem tyJ10_ok : ∀ k, k < 0 → parseFieldDescriptor (TJ10 k).2.2.1 = some (tyJ10 k) := by decide +kernel
def RJ3 : String := "jdk/internal/util/Preconditions"
def TJ3 : u_T := fun k => match k with
  | _ => ("", "", "", false)
def tyJ3 : Nat → FieldType := fun k => match k with
  | _ => .int
abbrev wsJ30 : List Cond := u_ws RJ3 TJ3 0
theorem nmJ3 : ∀ a, a < 0 → ∀ b, b < 0 → a ≠ b → (TJ3 a).2.1 ≠ (TJ3 b).2.1 := by decide +kernel
theorem tyJ3_ok : ∀ k, k < 0 → parseFieldDescriptor (TJ3 k).2.2.1 = some (tyJ3 k) := by decide +kernel
abbrev cJ3_checkIndex_8e157 : ByteArray := prog_14_method_11_code
def yJ3_checkIndex_8e157 : MethodName := ⟨RJ3, "checkIndex", "(IILjava/util/function/BiFunction;)I"⟩
def RL : String := "ReadOutAlongTheWayLaw"
abbrev cL_law : ByteArray := code
def yL_law : MethodName := ⟨RL, "law", "([I)Z"⟩
abbrev vwCl : List vw_C := [(RX0, TX0, 3), (RX1, TX1, 14), (RX2, TX2, 3), (RX3, TX3, 6), (RX4, TX4, 7), (RX5, TX5, 41)]
end
section
/-! ===== the view of the heap: addresses to what lies there ===== -/
abbrev zE : Type := (Nat × vp_A) ⊕ (Nat × List Value)
abbrev zH : Type := Nat → Option zE
/-- class ids, slots, array classes by kind, the text constants' addresses, their bytes' addresses, UNDER's address -/
abbrev zD : Type := (Nat → ClassId) × (Nat → Nat → Nat) × (Nat → ClassId) × (Nat → Nat) × (Nat → Nat) × Nat
abbrev zI (n : Nat) (f : Nat → Int32) : zE := .inl (0, n, .inl f)
abbrev zJ (n : Nat) (f : Nat → Int64) : zE := .inl (1, n, .inr (.inl f))
abbrev zBo (n : Nat) (f : Nat → Int32) : zE := .inl (2, n, .inl f)
abbrev zRf (k n : Nat) (f : Nat → Option Nat) : zE := .inl (k, n, .inr (.inr (.inr (.inr f))))
abbrev zO (c : Nat) (fs : List Value) : zE := .inr (c, fs)
def zc (D : zD) : zE → va_E
  | .inl (k, a) => .inl (D.2.2.1 k, a)
  | .inr q => .inr q
def zTys (D : zD) : List (ClassId × FieldType) := [(D.2.2.1 0, .int), (D.2.2.1 1, .long), (D.2.2.1 2, .boolean), (D.2.2.1 3, .object RX2), (D.2.2.1 4, .array .long)]
def zV (D : zD) (h : zH) (H : Heap) : Prop := ∀ (a : Nat) (e : zE), h a = some e → va_at (D.1, D.2.1) vwCl (a, zc D e) H
def zup (h : zH) (a : Nat) (e : zE) : zH := fun q => if q = a then some e else h q
theorem zup_s {h : zH} {a : Nat} {e : zE} : zup h a e a = some e := if_pos rfl
theorem zup_n {h : zH} {a b : Nat} {e : zE} (hn : b ≠ a) : zup h a e b = h b := if_neg hn
theorem zup_zup {h : zH} {a : Nat} {e e2 : zE} : zup (zup h a e) a e2 = zup h a e2 := by
  funext q
  by_cases hq : q = a <;> simp [zup, hq]
theorem zup_id {h : zH} {a : Nat} {e : zE} (he : h a = some e) : zup h a e = h := by
  funext q
  by_cases hq : q = a
  · subst hq; simp [zup, he]
  · simp [zup, hq]
theorem zV.lt {D : zD} {h : zH} {H : Heap} (hV : zV D h H) {a : Nat} {e : zE} (he : h a = some e) : a < H.size := va_at.lt (hV a e he)
theorem zV.set {D : zD} {h : zH} {H H1 : Heap} {a : Nat} {e : zE} (hV : zV D h H) (he : va_at (D.1, D.2.1) vwCl (a, zc D e) H1) (oq : ∀ q : Nat, q ≠ a → H1[q]? = H[q]?) : zV D (zup h a e) H1 := by
  intro b e2 hb
  by_cases hq : b = a
  · subst hq
    rw [zup_s] at hb
    cases hb
    exact he
  · rw [zup_n hq] at hb
    exact va_at.kept (hV b e2 hb) (oq b hq)
/-! ===== what is known of the state, wherever a method begins ===== -/
def zT : List Cond := lw_tbl.filter goodWord
def zLen : List Nat := [6, 6, 4, 5, 4, 4, 4, 5]
def zByt : List (List Int32) := [[104, 111, 117, 115, 101, 115], [108, 101, 116, 116, 101, 114], [119, 105, 110, 100], [100, 114, 105, 110, 107], [99, 111, 100, 101], [99, 111, 108, 100], [98, 97, 99, 107], [102, 111, 114, 116, 104]]
def zSt : List (String × Nat × String × Nat) := [("ReadOutAlongTheWay$Tape", 46, "houses", 0), ("ReadOutAlongTheWay$Tape", 55, "letter", 1), ("ReadOutAlongTheWay$Tape", 60, "wind", 2), ("ReadOutAlongTheWay$Tape", 70, "drink", 3), ("ReadOutAlongTheWay$Tape", 74, "code", 4), ("ReadOutAlongTheWay$Tape", 79, "cold", 5), ("ReadOutAlongTheWay$Tape", 84, "back", 6), ("ReadOutAlongTheWay$Tape", 89, "forth", 7), ("ReadOutAlongTheWayModel", 198, "houses", 0), ("ReadOutAlongTheWayModel", 199, "letter", 1), ("ReadOutAlongTheWayModel", 191, "wind", 2), ("ReadOutAlongTheWayModel", 204, "drink", 3), ("ReadOutAlongTheWayModel", 196, "code", 4), ("ReadOutAlongTheWayModel", 208, "cold", 5), ("ReadOutAlongTheWayModel", 209, "back", 6), ("ReadOutAlongTheWayModel", 211, "forth", 7)]
def zNs : List (String × Nat × MethodName × String) := [("ReadOutAlongTheWay", 9, ⟨"ReadOutAlongTheWay$Lane", "<init>", "()V"⟩, "ReadOutAlongTheWay"), ("ReadOutAlongTheWay", 21, ⟨"ReadOutAlongTheWay$Guess", "<init>", "()V"⟩, "ReadOutAlongTheWay"), ("ReadOutAlongTheWay$Guess", 11, ⟨"ReadOutAlongTheWay$Lane", "<init>", "()V"⟩, "ReadOutAlongTheWay"), ("ReadOutAlongTheWay", 32, ⟨"ReadOutAlongTheWay$Shelf", "<init>", "()V"⟩, "ReadOutAlongTheWay"), ("ReadOutAlongTheWay", 35, ⟨"ReadOutAlongTheWay$Tape", "<init>", "()V"⟩, "ReadOutAlongTheWay"), ("ReadOutAlongTheWay$Guess", 79, ⟨"ReadOutAlongTheWay", "asNumber", "(Z)I"⟩, "ReadOutAlongTheWay")]
def zK (D : zD) (B : Nat) (U : State) : Prop := va_K (D.1, D.2.1) vwCl (zTys D) U ∧ va_Z "ReadOutAlongTheWay" "UNDER" "[I" (.ref D.2.2.2.2.2) (fun q => B ≤ q) U U.heap ∧ va_Z "java/lang/String" "COMPACT_STRINGS" "Z" (.int 1) (fun q => B ≤ q) U U.heap ∧ vk_S 8 zLen zByt D.2.2.2.1 D.2.2.2.2.1 (fun q => B ≤ q) U U.heap ∧ (∀ q ∈ zSt, vk_R q.1 q.2.1 q.2.2.1 (D.2.2.2.1 q.2.2.2) U) ∧ (∀ q ∈ zNs, va_Nw (.methodLinkNest q.1 q.2.1 q.2.2.1 q.2.2.2) U) ∧ va_AO RX2 U ∧ (Cond.arrayOver (.array .long)).before #[] U = true
theorem zK.go {D : zD} {B : Nat} {s U : State} {H : Heap} {locs : List Loc} (hK : zK D B s) (hS : va_S (fun q => B ≤ q) s.heap H locs) (hH : U.heap = H) (hW : s.WarmedH U.vm) : zK D B U := by
  obtain ⟨k1, k2, k3, k4, k5, k6, k7, k8⟩ := hK
  subst hH
  exact ⟨va_K.moved hW.alike k1, va_Z.moved hW.alike (va_Z.kept k2 hS.2.1), va_Z.moved hW.alike (va_Z.kept k3 hS.2.1), vk_S.moved hW.alike (vk_S.kept k4 hS.2.1), fun q hq => vk_R.warm hW (k5 q hq), fun q hq => va_Nw.warmM hW (k6 q hq), va_AO.moved hW.alike k7, over_moved hW.alike k8⟩
theorem zK.blind {D : zD} {B : Nat} {U : State} {g : JFrame} {mk : MethodId} {a : Array Value} (hK : zK D B U) : zK D B (U.calling g mk a) := by
  obtain ⟨k1, k2, k3, k4, k5, k6, k7, k8⟩ := hK
  exact ⟨va_K.moved (u := U) (U := U.calling g mk a) (Vm.Alike.refl U.vm) k1, va_Z.moved (u := U) (U := U.calling g mk a) (Vm.Alike.refl U.vm) k2, va_Z.moved (u := U) (U := U.calling g mk a) (Vm.Alike.refl U.vm) k3, vk_S.moved (u := U) (U := U.calling g mk a) (Vm.Alike.refl U.vm) k4, fun q hq => vk_R.same (u := U) (U := U.calling g mk a) rfl (k5 q hq), fun q hq => va_Nw.same (u := U) (U := U.calling g mk a) rfl rfl (k6 q hq), va_AO.moved (u := U) (U := U.calling g mk a) (Vm.Alike.refl U.vm) k7, over_moved (u := U) (E := U.calling g mk a) (Vm.Alike.refl U.vm) k8⟩
/-! ===== a method: name, code, locals, return type, depth, cells, slots ===== -/
abbrev zX : Type := MethodName × ByteArray × Nat × Option FieldType × Nat × Nat × Nat
def zdec (X : zX) (pc : Nat) : Except DecodeError (Instr × Nat) := decode X.2.1 pc
def zRoom (X : zX) : Room := { frames := X.2.2.2.2.1, cells := X.2.2.2.2.2.1, slots := X.2.2.2.2.2.2, locals := 36 * X.2.2.2.2.1 }
def zWs (X : zX) : List Cond := Cond.code X.1 X.2.1 X.2.2.1 X.2.2.2.1 :: zT
abbrev zQ : Type := Option Value → zH → Nat → Prop
def zPc (D : zD) (B : Nat) (as : List Value) (h : zH) (sz : Nat) : Array Value → State → Prop := fun v U => v = as.toArray ∧ zK D B U ∧ zV D h U.heap ∧ U.heap.size = sz ∧ B ≤ U.heap.size
def zQc (D : zD) (B : Nat) (Q : zQ) : Array Value → State → Outcome → State → Prop := fun _ st oc t => (∃ (r : Option Value) (h1 : zH), oc = .returned r ∧ Q r h1 t.heap.size ∧ zV D h1 t.heap) ∧ va_F (fun q => B ≤ q) st t
/-- the method X, called with these arguments where the heap is so, ends with Q -/
def zM (D : zD) (B : Nat) (X : zX) (as : List Value) (h : zH) (sz : Nat) (Q : zQ) : Prop := ∀ l : Launch, Met l X.1 (zWs X) (zRoom X) (zPc D B as h sz) (zQc D B Q) X.2.2.2.2.2.1 X.2.2.2.2.2.2 (fun q => B ≤ q)
def zC (D : zD) (B : Nat) (X : zX) (p : Program) (s : State) (m : MethodId) (args : Array Value) (meth : Method) (c : Code) : Prop := p.tables.exec = Jvm.exec ∧ c.code = X.2.1 ∧ c.maxLocals = X.2.2.1 ∧ s.vm.findClass X.1.cls = some m.cls ∧ (∀ w ∈ zT, w.before args s = true) ∧ meth.locks = false ∧ meth.sig.returnType = X.2.2.2.1 ∧ zK D B s ∧ meth.name = X.1.name ∧ B ≤ s.heap.size
def zls (L : List (Option Value)) : List (Nat × Value) := L.zipIdx.filterMap (fun q => q.1.map (fun v => (q.2, v)))
theorem zls_mem {L : List (Option Value)} {i : Nat} {v : Value} : (i, v) ∈ zls L ↔ L[i]? = some (some v) := by
  unfold zls
  rw [List.mem_filterMap]
  constructor
  · rintro ⟨⟨x, j⟩, h1, h2⟩
    cases x with
    | none => cases h2
    | some w =>
      cases h2
      exact List.mk_mem_zipIdx_iff_getElem?.mp h1
  · intro h
    exact ⟨(some v, i), List.mk_mem_zipIdx_iff_getElem?.mpr h, rfl⟩
abbrev zL (ls : Array Slot) (n : Nat) (L : List (Option Value)) : Prop := lv_has ls n (zls L)
theorem zL.at {ls : Array Slot} {n : Nat} {L : List (Option Value)} (h : zL ls n L) {i : Nat} {v : Value} (hi : L[i]? = some (some v)) : ls[i]? = some (.val v) := h.2.2 (i, v) (zls_mem.mpr hi)
/-- no long value lies just ahead of i -/
def zNo2 (L : List (Option Value)) : Nat → Bool
  | 0 => true
  | i + 1 => match L[i]? with
    | some (some v) => v.category == 1
    | _ => true
theorem zL.st1 {ls : Array Slot} {n : Nat} {L : List (Option Value)} {i : Nat} {v : Value} (hk : zNo2 L i = true) (h : lv_has ls n ((i, v) :: (zls L).filter (fun q => !(q.1 == i) && !(q.1 + 1 == i && q.2.category == 2)))) : zL ls n (L.set i (some v)) := by
  refine ⟨h.1, h.2.1, fun q hq => ?_⟩
  obtain ⟨j, u⟩ := q
  have hj := zls_mem.mp hq
  rw [List.getElem?_set] at hj
  by_cases e : i = j
  · subst e
    by_cases hl : i < L.length
    · simp only [hl, if_true] at hj
      cases hj
      exact h.2.2 (i, v) List.mem_cons_self
    · simp [hl] at hj
  · rw [if_neg e] at hj
    refine h.2.2 (j, u) (List.mem_cons_of_mem _ (List.mem_filter.mpr ⟨zls_mem.mpr hj, ?_⟩))
    have e1 : (j == i) = false := by simp; exact fun z => e z.symm
    rw [e1]
    by_cases e2 : j + 1 = i
    · subst e2
      simp only [zNo2, hj] at hk
      have : u.category = 1 := by simpa using hk
      simp [this]
    · simp [e2]
theorem zL.st2 {ls : Array Slot} {n : Nat} {L : List (Option Value)} {i : Nat} {v : Value} (hk : zNo2 L i = true) (h : lv_has ls n ((i, v) :: (zls L).filter (fun q => !(q.1 == i) && (!(q.1 == i + 1) && !(q.1 + 1 == i && q.2.category == 2))))) : zL ls n ((L.set i (some v)).set (i + 1) none) := by
  refine ⟨h.1, h.2.1, fun q hq => ?_⟩
  obtain ⟨j, u⟩ := q
  have hj := zls_mem.mp hq
  rw [List.getElem?_set, List.getElem?_set] at hj
  by_cases e0 : i + 1 = j
  · rw [if_pos e0] at hj
    split at hj <;> cases hj
  rw [if_neg e0] at hj
  by_cases e : i = j
  · subst e
    by_cases hl : i < L.length
    · simp only [hl, if_true] at hj
      cases hj
      exact h.2.2 (i, v) List.mem_cons_self
    · simp [hl] at hj
  · rw [if_neg e] at hj
    refine h.2.2 (j, u) (List.mem_cons_of_mem _ (List.mem_filter.mpr ⟨zls_mem.mpr hj, ?_⟩))
    have e1 : (j == i) = false := by simp; exact fun z => e z.symm
    have e3 : (j == i + 1) = false := by simp; exact fun z => e0 z.symm
    rw [e1, e3]
    by_cases e2 : j + 1 = i
    · subst e2
      simp only [zNo2, hj] at hk
      have : u.category = 1 := by simpa using hk
      simp [this]
    · simp [e2]
/-- THE WALK: at pc, with these locals, stack and heap, the method X comes to its end with Q -/
def Z (D : zD) (B : Nat) (X : zX) (cs ss : Nat) (Q : zQ) (pc : Nat) (L : List (Option Value)) (st : List Value) (h : zH) (sz : Nat) : Prop :=
  ∀ (p : Program) (l : Launch) (e : Env) (s : State) (m : MethodId) (args : Array Value) (below : List Frame) (meth : Method) (c : Code) (H : Heap) (locs : List Loc) (ls : Array Slot), zC D B X p s m args meth c → zL ls X.2.2.1 L → zV D h H → H.size = sz → va_S (fun q => B ≤ q) s.heap H locs →
    W p l e (zRoom X) s m args below meth c H locs cs ss (MQ below (zQc D B Q) args s X.2.2.2.2.2.1 X.2.2.2.2.2.2 (fun q => B ≤ q)) (F0 m pc ls st)

section ZR
variable {D : zD} {B : Nat} {X : zX} {cs ss : Nat} {Q : zQ} {pc : Nat} {L : List (Option Value)} {st : List Value} {h : zH} {sz : Nat}

theorem z_iconst {n : Int} {v : Int32} (hd : zdec X pc = .ok (.iconst n, 1)) (hv : Int32.ofInt n = v) (k : Z D B X cs ss Q (pc + 1) L (.int v :: st) h sz) : Z D B X cs ss Q pc L (st) h sz := by
  intro p l e s m args below meth c H locs ls C hL hV hz hS
  exact lv_iconst C.1 C.2.1 hd hv (k p l e s m args below meth c H locs ls C hL hV hz hS)

theorem z_bipush {n : Int} {v : Int32} (hd : zdec X pc = .ok (.bipush n, 2)) (hv : (Int8.ofInt n).toInt32 = v) (k : Z D B X cs ss Q (pc + 2) L (.int v :: st) h sz) : Z D B X cs ss Q pc L (st) h sz := by
  intro p l e s m args below meth c H locs ls C hL hV hz hS
  exact lv_bipush C.1 C.2.1 hd hv (k p l e s m args below meth c H locs ls C hL hV hz hS)

theorem z_sipush {n : Int} {v : Int32} (hd : zdec X pc = .ok (.sipush n, 3)) (hv : (Int16.ofInt n).toInt32 = v) (k : Z D B X cs ss Q (pc + 3) L (.int v :: st) h sz) : Z D B X cs ss Q pc L (st) h sz := by
  intro p l e s m args below meth c H locs ls C hL hV hz hS
  exact lv_sipush C.1 C.2.1 hd hv (k p l e s m args below meth c H locs ls C hL hV hz hS)

theorem z_lconst {n : Fin 2} {v : Int64} (hd : zdec X pc = .ok (.lconst n, 1)) (hv : Int64.ofNat (n : Nat) = v) (k : Z D B X cs ss Q (pc + 1) L (.long v :: st) h sz) : Z D B X cs ss Q pc L (st) h sz := by
  intro p l e s m args below meth c H locs ls C hL hV hz hS
  exact lv_lconst C.1 C.2.1 hd hv (k p l e s m args below meth c H locs ls C hL hV hz hS)

theorem z_iload_n {j : Fin 4} {x : Int32} (hd : zdec X pc = .ok (.iload_n j, 1)) (hl : L[(j : Nat)]? = some (some (.int x))) (k : Z D B X cs ss Q (pc + 1) L (.int x :: st) h sz) : Z D B X cs ss Q pc L (st) h sz := by
  intro p l e s m args below meth c H locs ls C hL hV hz hS
  exact lv_iload_n C.1 C.2.1 hd rfl (hL.at hl) (k p l e s m args below meth c H locs ls C hL hV hz hS)

theorem z_iload {i : Nat} {x : Int32} (hd : zdec X pc = .ok (.iload i, 2)) (hl : L[i]? = some (some (.int x))) (k : Z D B X cs ss Q (pc + 2) L (.int x :: st) h sz) : Z D B X cs ss Q pc L (st) h sz := by
  intro p l e s m args below meth c H locs ls C hL hV hz hS
  exact lv_iload C.1 C.2.1 hd (hL.at hl) (k p l e s m args below meth c H locs ls C hL hV hz hS)

theorem z_lload_n {j : Fin 4} {x : Int64} (hd : zdec X pc = .ok (.lload_n j, 1)) (hl : L[(j : Nat)]? = some (some (.long x))) (k : Z D B X cs ss Q (pc + 1) L (.long x :: st) h sz) : Z D B X cs ss Q pc L (st) h sz := by
  intro p l e s m args below meth c H locs ls C hL hV hz hS
  exact lv_lload_n C.1 C.2.1 hd rfl (hL.at hl) (k p l e s m args below meth c H locs ls C hL hV hz hS)

theorem z_lload {i : Nat} {x : Int64} (hd : zdec X pc = .ok (.lload i, 2)) (hl : L[i]? = some (some (.long x))) (k : Z D B X cs ss Q (pc + 2) L (.long x :: st) h sz) : Z D B X cs ss Q pc L (st) h sz := by
  intro p l e s m args below meth c H locs ls C hL hV hz hS
  exact lv_lload C.1 C.2.1 hd (hL.at hl) (k p l e s m args below meth c H locs ls C hL hV hz hS)

theorem z_aload_n {j : Fin 4} {x : Nat} (hd : zdec X pc = .ok (.aload_n j, 1)) (hl : L[(j : Nat)]? = some (some (.ref x))) (k : Z D B X cs ss Q (pc + 1) L (.ref x :: st) h sz) : Z D B X cs ss Q pc L (st) h sz := by
  intro p l e s m args below meth c H locs ls C hL hV hz hS
  exact lv_aload_n C.1 C.2.1 hd rfl (hL.at hl) (k p l e s m args below meth c H locs ls C hL hV hz hS)

theorem z_aload {i : Nat} {x : Nat} (hd : zdec X pc = .ok (.aload i, 2)) (hl : L[i]? = some (some (.ref x))) (k : Z D B X cs ss Q (pc + 2) L (.ref x :: st) h sz) : Z D B X cs ss Q pc L (st) h sz := by
  intro p l e s m args below meth c H locs ls C hL hV hz hS
  exact lv_aload C.1 C.2.1 hd (hL.at hl) (k p l e s m args below meth c H locs ls C hL hV hz hS)

theorem z_iadd {x y : Int32} (hd : zdec X pc = .ok (.iadd, 1)) (k : Z D B X cs ss Q (pc + 1) L (.int (x + y) :: st) h sz) : Z D B X cs ss Q pc L (.int y :: .int x :: st) h sz := by
  intro p l e s m args below meth c H locs ls C hL hV hz hS
  exact lv_iadd C.1 C.2.1 hd (k p l e s m args below meth c H locs ls C hL hV hz hS)

theorem z_isub {x y : Int32} (hd : zdec X pc = .ok (.isub, 1)) (k : Z D B X cs ss Q (pc + 1) L (.int (x - y) :: st) h sz) : Z D B X cs ss Q pc L (.int y :: .int x :: st) h sz := by
  intro p l e s m args below meth c H locs ls C hL hV hz hS
  exact lv_isub C.1 C.2.1 hd (k p l e s m args below meth c H locs ls C hL hV hz hS)

theorem z_imul {x y : Int32} (hd : zdec X pc = .ok (.imul, 1)) (k : Z D B X cs ss Q (pc + 1) L (.int (x * y) :: st) h sz) : Z D B X cs ss Q pc L (.int y :: .int x :: st) h sz := by
  intro p l e s m args below meth c H locs ls C hL hV hz hS
  exact lv_imul C.1 C.2.1 hd (k p l e s m args below meth c H locs ls C hL hV hz hS)

theorem z_iand {x y : Int32} (hd : zdec X pc = .ok (.iand, 1)) (k : Z D B X cs ss Q (pc + 1) L (.int (x &&& y) :: st) h sz) : Z D B X cs ss Q pc L (.int y :: .int x :: st) h sz := by
  intro p l e s m args below meth c H locs ls C hL hV hz hS
  exact lv_iand C.1 C.2.1 hd (k p l e s m args below meth c H locs ls C hL hV hz hS)

theorem z_ior {x y : Int32} (hd : zdec X pc = .ok (.ior, 1)) (k : Z D B X cs ss Q (pc + 1) L (.int (x ||| y) :: st) h sz) : Z D B X cs ss Q pc L (.int y :: .int x :: st) h sz := by
  intro p l e s m args below meth c H locs ls C hL hV hz hS
  exact lv_ior C.1 C.2.1 hd (k p l e s m args below meth c H locs ls C hL hV hz hS)

theorem z_ixor {x y : Int32} (hd : zdec X pc = .ok (.ixor, 1)) (k : Z D B X cs ss Q (pc + 1) L (.int (x ^^^ y) :: st) h sz) : Z D B X cs ss Q pc L (.int y :: .int x :: st) h sz := by
  intro p l e s m args below meth c H locs ls C hL hV hz hS
  exact lv_ixor C.1 C.2.1 hd (k p l e s m args below meth c H locs ls C hL hV hz hS)

theorem z_ishl {x y : Int32} (hd : zdec X pc = .ok (.ishl, 1)) (k : Z D B X cs ss Q (pc + 1) L (.int (x <<< (y &&& 31)) :: st) h sz) : Z D B X cs ss Q pc L (.int y :: .int x :: st) h sz := by
  intro p l e s m args below meth c H locs ls C hL hV hz hS
  exact lv_ishl C.1 C.2.1 hd (k p l e s m args below meth c H locs ls C hL hV hz hS)

theorem z_ishr {x y : Int32} (hd : zdec X pc = .ok (.ishr, 1)) (k : Z D B X cs ss Q (pc + 1) L (.int (x >>> (y &&& 31)) :: st) h sz) : Z D B X cs ss Q pc L (.int y :: .int x :: st) h sz := by
  intro p l e s m args below meth c H locs ls C hL hV hz hS
  exact lv_ishr C.1 C.2.1 hd (k p l e s m args below meth c H locs ls C hL hV hz hS)

theorem z_ladd {x y : Int64} (hd : zdec X pc = .ok (.ladd, 1)) (k : Z D B X cs ss Q (pc + 1) L (.long (x + y) :: st) h sz) : Z D B X cs ss Q pc L (.long y :: .long x :: st) h sz := by
  intro p l e s m args below meth c H locs ls C hL hV hz hS
  exact lv_ladd C.1 C.2.1 hd (k p l e s m args below meth c H locs ls C hL hV hz hS)

theorem z_lsub {x y : Int64} (hd : zdec X pc = .ok (.lsub, 1)) (k : Z D B X cs ss Q (pc + 1) L (.long (x - y) :: st) h sz) : Z D B X cs ss Q pc L (.long y :: .long x :: st) h sz := by
  intro p l e s m args below meth c H locs ls C hL hV hz hS
  exact lv_lsub C.1 C.2.1 hd (k p l e s m args below meth c H locs ls C hL hV hz hS)

theorem z_land {x y : Int64} (hd : zdec X pc = .ok (.land, 1)) (k : Z D B X cs ss Q (pc + 1) L (.long (x &&& y) :: st) h sz) : Z D B X cs ss Q pc L (.long y :: .long x :: st) h sz := by
  intro p l e s m args below meth c H locs ls C hL hV hz hS
  exact lv_land C.1 C.2.1 hd (k p l e s m args below meth c H locs ls C hL hV hz hS)

theorem z_lor {x y : Int64} (hd : zdec X pc = .ok (.lor, 1)) (k : Z D B X cs ss Q (pc + 1) L (.long (x ||| y) :: st) h sz) : Z D B X cs ss Q pc L (.long y :: .long x :: st) h sz := by
  intro p l e s m args below meth c H locs ls C hL hV hz hS
  exact lv_lor C.1 C.2.1 hd (k p l e s m args below meth c H locs ls C hL hV hz hS)

theorem z_idiv {x y : Int32} (hd : zdec X pc = .ok (.idiv, 1)) (hne : ¬ y = 0) (k : Z D B X cs ss Q (pc + 1) L (.int (x / y) :: st) h sz) : Z D B X cs ss Q pc L (.int y :: .int x :: st) h sz := by
  intro p l e s m args below meth c H locs ls C hL hV hz hS
  exact lv_idiv C.1 C.2.1 hd hne (k p l e s m args below meth c H locs ls C hL hV hz hS)

theorem z_irem {x y : Int32} (hd : zdec X pc = .ok (.irem, 1)) (hne : ¬ y = 0) (k : Z D B X cs ss Q (pc + 1) L (.int (x - x / y * y) :: st) h sz) : Z D B X cs ss Q pc L (.int y :: .int x :: st) h sz := by
  intro p l e s m args below meth c H locs ls C hL hV hz hS
  exact lv_irem C.1 C.2.1 hd hne (k p l e s m args below meth c H locs ls C hL hV hz hS)

theorem z_ineg {x : Int32} (hd : zdec X pc = .ok (.ineg, 1)) (k : Z D B X cs ss Q (pc + 1) L (.int (-x) :: st) h sz) : Z D B X cs ss Q pc L (.int x :: st) h sz := by
  intro p l e s m args below meth c H locs ls C hL hV hz hS
  exact lv_ineg C.1 C.2.1 hd (k p l e s m args below meth c H locs ls C hL hV hz hS)

theorem z_i2l {x : Int32} (hd : zdec X pc = .ok (.i2l, 1)) (k : Z D B X cs ss Q (pc + 1) L (.long x.toInt64 :: st) h sz) : Z D B X cs ss Q pc L (.int x :: st) h sz := by
  intro p l e s m args below meth c H locs ls C hL hV hz hS
  exact lv_i2l C.1 C.2.1 hd rfl (k p l e s m args below meth c H locs ls C hL hV hz hS)

theorem z_l2i {x : Int64} (hd : zdec X pc = .ok (.l2i, 1)) (k : Z D B X cs ss Q (pc + 1) L (.int x.toInt32 :: st) h sz) : Z D B X cs ss Q pc L (.long x :: st) h sz := by
  intro p l e s m args below meth c H locs ls C hL hV hz hS
  exact lv_l2i C.1 C.2.1 hd rfl (k p l e s m args below meth c H locs ls C hL hV hz hS)

theorem z_i2b {x : Int32} (hd : zdec X pc = .ok (.i2b, 1)) (k : Z D B X cs ss Q (pc + 1) L (.int x.toInt8.toInt32 :: st) h sz) : Z D B X cs ss Q pc L (.int x :: st) h sz := by
  intro p l e s m args below meth c H locs ls C hL hV hz hS
  exact lv_i2b C.1 C.2.1 hd rfl (k p l e s m args below meth c H locs ls C hL hV hz hS)

theorem z_i2s {x : Int32} (hd : zdec X pc = .ok (.i2s, 1)) (k : Z D B X cs ss Q (pc + 1) L (.int x.toInt16.toInt32 :: st) h sz) : Z D B X cs ss Q pc L (.int x :: st) h sz := by
  intro p l e s m args below meth c H locs ls C hL hV hz hS
  exact lv_i2s C.1 C.2.1 hd rfl (k p l e s m args below meth c H locs ls C hL hV hz hS)

theorem z_i2c {x : Int32} (hd : zdec X pc = .ok (.i2c, 1)) (k : Z D B X cs ss Q (pc + 1) L (.int (x.toUInt32 % 65536).toInt32 :: st) h sz) : Z D B X cs ss Q pc L (.int x :: st) h sz := by
  intro p l e s m args below meth c H locs ls C hL hV hz hS
  exact lv_i2c C.1 C.2.1 hd rfl (k p l e s m args below meth c H locs ls C hL hV hz hS)

theorem z_iushr {x y : Int32} (hd : zdec X pc = .ok (.iushr, 1)) (k : Z D B X cs ss Q (pc + 1) L (.int (x.toUInt32 >>> (y.toUInt32 &&& Int32.toUInt32 31)).toInt32 :: st) h sz) : Z D B X cs ss Q pc L (.int y :: .int x :: st) h sz := by
  intro p l e s m args below meth c H locs ls C hL hV hz hS
  exact lv_iushr C.1 C.2.1 hd rfl (k p l e s m args below meth c H locs ls C hL hV hz hS)

theorem z_lshl {x : Int64} {y : Int32} (hd : zdec X pc = .ok (.lshl, 1)) (k : Z D B X cs ss Q (pc + 1) L (.long (x <<< (y.toInt64 &&& 63)) :: st) h sz) : Z D B X cs ss Q pc L (.int y :: .long x :: st) h sz := by
  intro p l e s m args below meth c H locs ls C hL hV hz hS
  exact lv_lshl C.1 C.2.1 hd rfl (k p l e s m args below meth c H locs ls C hL hV hz hS)

theorem z_dup {v : Value} (hd : zdec X pc = .ok (.dup, 1)) (hc : v.category = 1) (k : Z D B X cs ss Q (pc + 1) L (v :: v :: st) h sz) : Z D B X cs ss Q pc L (v :: st) h sz := by
  intro p l e s m args below meth c H locs ls C hL hV hz hS
  exact lv_dup C.1 C.2.1 hd hc (k p l e s m args below meth c H locs ls C hL hV hz hS)

theorem z_pop {v : Value} (hd : zdec X pc = .ok (.pop, 1)) (hc : v.category = 1) (k : Z D B X cs ss Q (pc + 1) L (st) h sz) : Z D B X cs ss Q pc L (v :: st) h sz := by
  intro p l e s m args below meth c H locs ls C hL hV hz hS
  exact lv_pop C.1 C.2.1 hd hc (k p l e s m args below meth c H locs ls C hL hV hz hS)

theorem z_dup_x1 {u v : Value} (hd : zdec X pc = .ok (.dup_x1, 1)) (hc : v.category = 1) (hc2 : u.category = 1) (k : Z D B X cs ss Q (pc + 1) L (v :: u :: v :: st) h sz) : Z D B X cs ss Q pc L (v :: u :: st) h sz := by
  intro p l e s m args below meth c H locs ls C hL hV hz hS
  exact lv_dup_x1 C.1 C.2.1 hd hc hc2 (k p l e s m args below meth c H locs ls C hL hV hz hS)

theorem z_dup_x2 {t u v : Value} (hd : zdec X pc = .ok (.dup_x2, 1)) (hc : v.category = 1) (hc2 : u.category = 1) (hc3 : t.category = 1) (k : Z D B X cs ss Q (pc + 1) L (v :: u :: t :: v :: st) h sz) : Z D B X cs ss Q pc L (v :: u :: t :: st) h sz := by
  intro p l e s m args below meth c H locs ls C hL hV hz hS
  exact lv_dup_x2 C.1 C.2.1 hd hc hc2 hc3 (k p l e s m args below meth c H locs ls C hL hV hz hS)

theorem z_dup2 {u v : Value} (hd : zdec X pc = .ok (.dup2, 1)) (hc : v.category = 1) (hc2 : u.category = 1) (k : Z D B X cs ss Q (pc + 1) L (v :: u :: v :: u :: st) h sz) : Z D B X cs ss Q pc L (v :: u :: st) h sz := by
  intro p l e s m args below meth c H locs ls C hL hV hz hS
  exact lv_dup2_11 C.1 C.2.1 hd hc hc2 (k p l e s m args below meth c H locs ls C hL hV hz hS)

theorem z_null  (hd : zdec X pc = .ok (.aconst_null, 1)) (k : Z D B X cs ss Q (pc + 1) L (.null :: st) h sz) : Z D B X cs ss Q pc L (st) h sz := by
  intro p l e s m args below meth c H locs ls C hL hV hz hS
  exact lv_null C.1 C.2.1 hd (k p l e s m args below meth c H locs ls C hL hV hz hS)

theorem z_istore_n {j : Fin 4} {x : Int32} (hd : zdec X pc = .ok (.istore_n j, 1)) (hn : Nat.ble ((j : Nat) + 1) X.2.2.1 = true) (h2 : zNo2 L (j : Nat) = true) (k : Z D B X cs ss Q (pc + 1) (L.set (j : Nat) (some (.int x))) st h sz) : Z D B X cs ss Q pc L (.int x :: st) h sz := by
  intro p l e s m args below meth c H locs ls C hL hV hz hS
  exact lv_istore_n C.1 C.2.1 hd rfl hL (Nat.le_of_ble_eq_true hn) rfl (fun ls hl => k p l e s m args below meth c H locs ls C (zL.st1 h2 hl) hV hz hS)

theorem z_istore {i : Nat} {x : Int32} (hd : zdec X pc = .ok (.istore i, 2)) (hn : Nat.ble (i + 1) X.2.2.1 = true) (h2 : zNo2 L i = true) (k : Z D B X cs ss Q (pc + 2) (L.set i (some (.int x))) st h sz) : Z D B X cs ss Q pc L (.int x :: st) h sz := by
  intro p l e s m args below meth c H locs ls C hL hV hz hS
  exact lv_istore C.1 C.2.1 hd hL (Nat.le_of_ble_eq_true hn) rfl (fun ls hl => k p l e s m args below meth c H locs ls C (zL.st1 h2 hl) hV hz hS)

theorem z_astore_n {j : Fin 4} {x : Nat} (hd : zdec X pc = .ok (.astore_n j, 1)) (hn : Nat.ble ((j : Nat) + 1) X.2.2.1 = true) (h2 : zNo2 L (j : Nat) = true) (k : Z D B X cs ss Q (pc + 1) (L.set (j : Nat) (some (.ref x))) st h sz) : Z D B X cs ss Q pc L (.ref x :: st) h sz := by
  intro p l e s m args below meth c H locs ls C hL hV hz hS
  exact lv_astore_n C.1 C.2.1 hd rfl hL (Nat.le_of_ble_eq_true hn) rfl (fun ls hl => k p l e s m args below meth c H locs ls C (zL.st1 h2 hl) hV hz hS)

theorem z_astore {i : Nat} {x : Nat} (hd : zdec X pc = .ok (.astore i, 2)) (hn : Nat.ble (i + 1) X.2.2.1 = true) (h2 : zNo2 L i = true) (k : Z D B X cs ss Q (pc + 2) (L.set i (some (.ref x))) st h sz) : Z D B X cs ss Q pc L (.ref x :: st) h sz := by
  intro p l e s m args below meth c H locs ls C hL hV hz hS
  exact lv_astore C.1 C.2.1 hd hL (Nat.le_of_ble_eq_true hn) rfl (fun ls hl => k p l e s m args below meth c H locs ls C (zL.st1 h2 hl) hV hz hS)

theorem z_lstore_n {j : Fin 4} {x : Int64} (hd : zdec X pc = .ok (.lstore_n j, 1)) (hn : Nat.ble ((j : Nat) + 2) X.2.2.1 = true) (h2 : zNo2 L (j : Nat) = true) (k : Z D B X cs ss Q (pc + 1) ((L.set (j : Nat) (some (.long x))).set ((j : Nat) + 1) none) st h sz) : Z D B X cs ss Q pc L (.long x :: st) h sz := by
  intro p l e s m args below meth c H locs ls C hL hV hz hS
  exact lv_lstore_n C.1 C.2.1 hd rfl hL (Nat.le_of_ble_eq_true hn) rfl (fun ls hl => k p l e s m args below meth c H locs ls C (zL.st2 h2 hl) hV hz hS)

theorem z_lstore {i : Nat} {x : Int64} (hd : zdec X pc = .ok (.lstore i, 2)) (hn : Nat.ble (i + 2) X.2.2.1 = true) (h2 : zNo2 L i = true) (k : Z D B X cs ss Q (pc + 2) ((L.set i (some (.long x))).set (i + 1) none) st h sz) : Z D B X cs ss Q pc L (.long x :: st) h sz := by
  intro p l e s m args below meth c H locs ls C hL hV hz hS
  exact lv_lstore C.1 C.2.1 hd hL (Nat.le_of_ble_eq_true hn) rfl (fun ls hl => k p l e s m args below meth c H locs ls C (zL.st2 h2 hl) hV hz hS)

theorem z_iinc {i : Nat} {n : Int} {x v : Int32} (hd : zdec X pc = .ok (.iinc i n, 3)) (hl : L[i]? = some (some (.int x))) (hv : x + Int32.ofInt n = v) (hn : Nat.ble (i + 1) X.2.2.1 = true) (h2 : zNo2 L i = true) (k : Z D B X cs ss Q (pc + 3) (L.set i (some (.int v))) st h sz) : Z D B X cs ss Q pc L st h sz := by
  intro p l e s m args below meth c H locs ls C hL hV hz hS
  obtain ⟨j, hj⟩ := List.getElem?_of_mem (zls_mem.mpr hl)
  exact lv_iinc C.1 C.2.1 hd hL hj hv (Nat.le_of_ble_eq_true hn) rfl (fun ls hl => k p l e s m args below meth c H locs ls C (zL.st1 h2 hl) hV hz hS)

theorem z_if_eq {x : Int32} {off : Int} {tgt : Nat} (hd : zdec X pc = .ok (.ifCond .eq off, 3)) (ht : (pc : Int) + off = (tgt : Int)) (kt : x = 0 → Z D B X cs ss Q tgt L st h sz) (kf : ¬ x = 0 → Z D B X cs ss Q (pc + 3) L st h sz) : Z D B X cs ss Q pc L (.int x :: st) h sz := by
  intro p l e s m args below meth c H locs ls C hL hV hz hS
  exact lv_if_eq C.1 C.2.1 hd ht (fun q => kt q p l e s m args below meth c H locs ls C hL hV hz hS) (fun q => kf q p l e s m args below meth c H locs ls C hL hV hz hS)

theorem z_icmp_eq {x y : Int32} {off : Int} {tgt : Nat} (hd : zdec X pc = .ok (.if_icmp .eq off, 3)) (ht : (pc : Int) + off = (tgt : Int)) (kt : x = y → Z D B X cs ss Q tgt L st h sz) (kf : ¬ x = y → Z D B X cs ss Q (pc + 3) L st h sz) : Z D B X cs ss Q pc L (.int y :: .int x :: st) h sz := by
  intro p l e s m args below meth c H locs ls C hL hV hz hS
  exact lv_icmp_eq C.1 C.2.1 hd ht (fun q => kt q p l e s m args below meth c H locs ls C hL hV hz hS) (fun q => kf q p l e s m args below meth c H locs ls C hL hV hz hS)

theorem z_if_ne {x : Int32} {off : Int} {tgt : Nat} (hd : zdec X pc = .ok (.ifCond .ne off, 3)) (ht : (pc : Int) + off = (tgt : Int)) (kt : ¬ x = 0 → Z D B X cs ss Q tgt L st h sz) (kf : x = 0 → Z D B X cs ss Q (pc + 3) L st h sz) : Z D B X cs ss Q pc L (.int x :: st) h sz := by
  intro p l e s m args below meth c H locs ls C hL hV hz hS
  exact lv_if_ne C.1 C.2.1 hd ht (fun q => kt q p l e s m args below meth c H locs ls C hL hV hz hS) (fun q => kf q p l e s m args below meth c H locs ls C hL hV hz hS)

theorem z_icmp_ne {x y : Int32} {off : Int} {tgt : Nat} (hd : zdec X pc = .ok (.if_icmp .ne off, 3)) (ht : (pc : Int) + off = (tgt : Int)) (kt : ¬ x = y → Z D B X cs ss Q tgt L st h sz) (kf : x = y → Z D B X cs ss Q (pc + 3) L st h sz) : Z D B X cs ss Q pc L (.int y :: .int x :: st) h sz := by
  intro p l e s m args below meth c H locs ls C hL hV hz hS
  exact lv_icmp_ne C.1 C.2.1 hd ht (fun q => kt q p l e s m args below meth c H locs ls C hL hV hz hS) (fun q => kf q p l e s m args below meth c H locs ls C hL hV hz hS)

theorem z_if_lt {x : Int32} {off : Int} {tgt : Nat} (hd : zdec X pc = .ok (.ifCond .lt off, 3)) (ht : (pc : Int) + off = (tgt : Int)) (kt : x < 0 → Z D B X cs ss Q tgt L st h sz) (kf : ¬ x < 0 → Z D B X cs ss Q (pc + 3) L st h sz) : Z D B X cs ss Q pc L (.int x :: st) h sz := by
  intro p l e s m args below meth c H locs ls C hL hV hz hS
  exact lv_if_lt C.1 C.2.1 hd ht (fun q => kt q p l e s m args below meth c H locs ls C hL hV hz hS) (fun q => kf q p l e s m args below meth c H locs ls C hL hV hz hS)

theorem z_icmp_lt {x y : Int32} {off : Int} {tgt : Nat} (hd : zdec X pc = .ok (.if_icmp .lt off, 3)) (ht : (pc : Int) + off = (tgt : Int)) (kt : x < y → Z D B X cs ss Q tgt L st h sz) (kf : ¬ x < y → Z D B X cs ss Q (pc + 3) L st h sz) : Z D B X cs ss Q pc L (.int y :: .int x :: st) h sz := by
  intro p l e s m args below meth c H locs ls C hL hV hz hS
  exact lv_icmp_lt C.1 C.2.1 hd ht (fun q => kt q p l e s m args below meth c H locs ls C hL hV hz hS) (fun q => kf q p l e s m args below meth c H locs ls C hL hV hz hS)

theorem z_if_ge {x : Int32} {off : Int} {tgt : Nat} (hd : zdec X pc = .ok (.ifCond .ge off, 3)) (ht : (pc : Int) + off = (tgt : Int)) (kt : 0 ≤ x → Z D B X cs ss Q tgt L st h sz) (kf : ¬ 0 ≤ x → Z D B X cs ss Q (pc + 3) L st h sz) : Z D B X cs ss Q pc L (.int x :: st) h sz := by
  intro p l e s m args below meth c H locs ls C hL hV hz hS
  exact lv_if_ge C.1 C.2.1 hd ht (fun q => kt q p l e s m args below meth c H locs ls C hL hV hz hS) (fun q => kf q p l e s m args below meth c H locs ls C hL hV hz hS)

theorem z_icmp_ge {x y : Int32} {off : Int} {tgt : Nat} (hd : zdec X pc = .ok (.if_icmp .ge off, 3)) (ht : (pc : Int) + off = (tgt : Int)) (kt : y ≤ x → Z D B X cs ss Q tgt L st h sz) (kf : ¬ y ≤ x → Z D B X cs ss Q (pc + 3) L st h sz) : Z D B X cs ss Q pc L (.int y :: .int x :: st) h sz := by
  intro p l e s m args below meth c H locs ls C hL hV hz hS
  exact lv_icmp_ge C.1 C.2.1 hd ht (fun q => kt q p l e s m args below meth c H locs ls C hL hV hz hS) (fun q => kf q p l e s m args below meth c H locs ls C hL hV hz hS)

theorem z_if_gt {x : Int32} {off : Int} {tgt : Nat} (hd : zdec X pc = .ok (.ifCond .gt off, 3)) (ht : (pc : Int) + off = (tgt : Int)) (kt : 0 < x → Z D B X cs ss Q tgt L st h sz) (kf : ¬ 0 < x → Z D B X cs ss Q (pc + 3) L st h sz) : Z D B X cs ss Q pc L (.int x :: st) h sz := by
  intro p l e s m args below meth c H locs ls C hL hV hz hS
  exact lv_if_gt C.1 C.2.1 hd ht (fun q => kt q p l e s m args below meth c H locs ls C hL hV hz hS) (fun q => kf q p l e s m args below meth c H locs ls C hL hV hz hS)

theorem z_icmp_gt {x y : Int32} {off : Int} {tgt : Nat} (hd : zdec X pc = .ok (.if_icmp .gt off, 3)) (ht : (pc : Int) + off = (tgt : Int)) (kt : y < x → Z D B X cs ss Q tgt L st h sz) (kf : ¬ y < x → Z D B X cs ss Q (pc + 3) L st h sz) : Z D B X cs ss Q pc L (.int y :: .int x :: st) h sz := by
  intro p l e s m args below meth c H locs ls C hL hV hz hS
  exact lv_icmp_gt C.1 C.2.1 hd ht (fun q => kt q p l e s m args below meth c H locs ls C hL hV hz hS) (fun q => kf q p l e s m args below meth c H locs ls C hL hV hz hS)

theorem z_if_le {x : Int32} {off : Int} {tgt : Nat} (hd : zdec X pc = .ok (.ifCond .le off, 3)) (ht : (pc : Int) + off = (tgt : Int)) (kt : x ≤ 0 → Z D B X cs ss Q tgt L st h sz) (kf : ¬ x ≤ 0 → Z D B X cs ss Q (pc + 3) L st h sz) : Z D B X cs ss Q pc L (.int x :: st) h sz := by
  intro p l e s m args below meth c H locs ls C hL hV hz hS
  exact lv_if_le C.1 C.2.1 hd ht (fun q => kt q p l e s m args below meth c H locs ls C hL hV hz hS) (fun q => kf q p l e s m args below meth c H locs ls C hL hV hz hS)

theorem z_icmp_le {x y : Int32} {off : Int} {tgt : Nat} (hd : zdec X pc = .ok (.if_icmp .le off, 3)) (ht : (pc : Int) + off = (tgt : Int)) (kt : x ≤ y → Z D B X cs ss Q tgt L st h sz) (kf : ¬ x ≤ y → Z D B X cs ss Q (pc + 3) L st h sz) : Z D B X cs ss Q pc L (.int y :: .int x :: st) h sz := by
  intro p l e s m args below meth c H locs ls C hL hV hz hS
  exact lv_icmp_le C.1 C.2.1 hd ht (fun q => kt q p l e s m args below meth c H locs ls C hL hV hz hS) (fun q => kf q p l e s m args below meth c H locs ls C hL hV hz hS)

theorem z_goto {off : Int} {tgt : Nat} (hd : zdec X pc = .ok (.goto off, 3)) (ht : (pc : Int) + off = (tgt : Int)) (k : Z D B X cs ss Q tgt L st h sz) : Z D B X cs ss Q pc L st h sz := by
  intro p l e s m args below meth c H locs ls C hL hV hz hS
  exact lv_goto C.1 C.2.1 hd ht (k p l e s m args below meth c H locs ls C hL hV hz hS)
theorem z_ifnonnull {x : Nat} {off : Int} {tgt : Nat} (hd : zdec X pc = .ok (.ifnonnull off, 3)) (ht : (pc : Int) + off = (tgt : Int)) (k : Z D B X cs ss Q tgt L st h sz) : Z D B X cs ss Q pc L (.ref x :: st) h sz := by
  intro p l e s m args below meth c H locs ls C hL hV hz hS
  exact lv_ifnonnull C.1 C.2.1 hd ht (k p l e s m args below meth c H locs ls C hL hV hz hS)
theorem z_ifnonnullN {off : Int} (hd : zdec X pc = .ok (.ifnonnull off, 3)) (k : Z D B X cs ss Q (pc + 3) L st h sz) : Z D B X cs ss Q pc L (.null :: st) h sz := by
  intro p l e s m args below meth c H locs ls C hL hV hz hS
  exact lv_ifnonnullN C.1 C.2.1 hd (k p l e s m args below meth c H locs ls C hL hV hz hS)
theorem z_tableOut {dflt lo hi : Int} {offs : Array Int} {len : Nat} {x : Int32} {tgt : Nat} (hd : zdec X pc = .ok (.tableswitch dflt lo hi offs, len)) (hx : x.toInt < lo ∨ hi < x.toInt) (ht : (pc : Int) + dflt = (tgt : Int)) (k : Z D B X cs ss Q tgt L st h sz) : Z D B X cs ss Q pc L (.int x :: st) h sz := by
  intro p l e s m args below meth c H locs ls C hL hV hz hS
  exact lv_tableOut C.1 C.2.1 hd hx ht (k p l e s m args below meth c H locs ls C hL hV hz hS)
theorem z_tableIn {dflt lo hi : Int} {offs : Array Int} {len : Nat} {x : Int32} {off : Int} {tgt : Nat} (hd : zdec X pc = .ok (.tableswitch dflt lo hi offs, len)) (h1 : ¬ x.toInt < lo) (h2 : ¬ hi < x.toInt) (ho : offs[(x.toInt - lo).toNat]? = some off) (ht : (pc : Int) + off = (tgt : Int)) (k : Z D B X cs ss Q tgt L st h sz) : Z D B X cs ss Q pc L (.int x :: st) h sz := by
  intro p l e s m args below meth c H locs ls C hL hV hz hS
  exact lv_tableIn C.1 C.2.1 hd h1 h2 ho ht (k p l e s m args below meth c H locs ls C hL hV hz hS)
theorem z_lookup {dflt : Int} {ps : Array (Int × Int)} {len : Nat} {x : Int32} {off : Int} {tgt : Nat} (hd : zdec X pc = .ok (.lookupswitch dflt ps, len)) (hp : (ps.toList.zip (ps.toList.drop 1)).all (fun (a, next) => a.1 < next.1) = true) (ho : Op.lookupswitch.offset ps.toList dflt x.toInt = off) (ht : (pc : Int) + off = (tgt : Int)) (k : Z D B X cs ss Q tgt L st h sz) : Z D B X cs ss Q pc L (.int x :: st) h sz := by
  intro p l e s m args below meth c H locs ls C hL hV hz hS
  exact lv_lookup C.1 C.2.1 hd hp ho ht (k p l e s m args below meth c H locs ls C hL hV hz hS)
theorem z_lcmp {x y : Int64} (hd : zdec X pc = .ok (.lcmp, 1)) (k : Z D B X cs ss Q (pc + 1) L (.int (lg_cmp x y) :: st) h sz) : Z D B X cs ss Q pc L (.long y :: .long x :: st) h sz := by
  intro p l e s m args below meth c H locs ls C hL hV hz hS
  exact W.lcmp C.1 C.2.1 hd (k p l e s m args below meth c H locs ls C hL hV hz hS)
theorem z_top {v u : Value} (e : v = u) (k : Z D B X cs ss Q pc L (u :: st) h sz) : Z D B X cs ss Q pc L (v :: st) h sz := e ▸ k
theorem z_ldc {index : Nat} {v : Int32} (hd : zdec X pc = .ok (.ldc index, 2)) (hc : Cond.constant X.1.cls index v ∈ zT) (k : Z D B X cs ss Q (pc + 2) L (.int v :: st) h sz) : Z D B X cs ss Q pc L st h sz := by
  intro p l e s m args below meth c H locs ls C hL hV hz hS
  exact lv_ldc C.1 C.2.1 C.2.2.2.1 (C.2.2.2.2.1 _ hc) hd (k p l e s m args below meth c H locs ls C hL hV hz hS)
theorem z_ldcw {index : Nat} {v : Int32} (hd : zdec X pc = .ok (.ldc_w index, 3)) (hc : Cond.constant X.1.cls index v ∈ zT) (k : Z D B X cs ss Q (pc + 3) L (.int v :: st) h sz) : Z D B X cs ss Q pc L st h sz := by
  intro p l e s m args below meth c H locs ls C hL hV hz hS
  exact lv_ldcw C.1 C.2.1 C.2.2.2.1 (C.2.2.2.2.1 _ hc) hd (k p l e s m args below meth c H locs ls C hL hV hz hS)
theorem z_ldc2 {index : Nat} {v : Int64} (hd : zdec X pc = .ok (.ldc2_w index, 3)) (hc : Cond.constantLong X.1.cls index v ∈ zT) (k : Z D B X cs ss Q (pc + 3) L (.long v :: st) h sz) : Z D B X cs ss Q pc L st h sz := by
  intro p l e s m args below meth c H locs ls C hL hV hz hS
  exact lv_ldc2 C.1 C.2.1 C.2.2.2.1 (C.2.2.2.2.1 _ hc) hd (k p l e s m args below meth c H locs ls C hL hV hz hS)

end ZR

/-! ===== fields ===== -/
theorem zIn {ci : Nat} {q : vw_C} (hc : vwCl[ci]? = some q) : ∀ w ∈ u_ws q.1 q.2.1 q.2.2, w ∈ zT := by
  have h : ∀ r ∈ vwCl, ∀ w ∈ u_ws r.1 r.2.1 r.2.2, w ∈ zT := by decide +kernel
  exact h q (List.mem_of_getElem? hc)
def zTyF : Nat → Nat → FieldType
  | 0 => tyX0
  | 1 => tyX1
  | 2 => tyX2
  | 3 => tyX3
  | 4 => tyX4
  | _ => tyX5
theorem zTyF_ok {ci : Nat} {q : vw_C} (hc : vwCl[ci]? = some q) : ∀ k, k < q.2.2 → parseFieldDescriptor (q.2.1 k).2.2.1 = some (zTyF ci k) := by
  match ci, hc with
  | 0, hc => cases hc; exact tyX0_ok
  | 1, hc => cases hc; exact tyX1_ok
  | 2, hc => cases hc; exact tyX2_ok
  | 3, hc => cases hc; exact tyX3_ok
  | 4, hc => cases hc; exact tyX4_ok
  | 5, hc => cases hc; exact tyX5_ok
  | k + 6, hc => simp [vwCl] at hc
theorem zNm_ok {ci : Nat} {q : vw_C} (hc : vwCl[ci]? = some q) : ∀ a, a < q.2.2 → ∀ b, b < q.2.2 → a ≠ b → (q.2.1 a).2.1 ≠ (q.2.1 b).2.1 := by
  match ci, hc with
  | 0, hc => cases hc; exact nmX0
  | 1, hc => cases hc; exact nmX1
  | 2, hc => cases hc; exact nmX2
  | 3, hc => cases hc; exact nmX3
  | 4, hc => cases hc; exact nmX4
  | 5, hc => cases hc; exact nmX5
  | k + 6, hc => simp [vwCl] at hc
/-- entry idx of own's pool is field k of class ci; final or not -/
def zFl (own : String) (idx ci k : Nat) (fin : Bool) : Prop := ∃ q : vw_C, vwCl[ci]? = some q ∧ k < q.2.2 ∧ Cond.fieldLink own idx (q.2.1 k).1 (q.2.1 k).2.1 (q.2.1 k).2.2.1 ∈ zT ∧ (q.2.1 k).2.2.2 = fin ∧ (q.2.1 k).1 = q.1
section ZR2
variable {D : zD} {B : Nat} {X : zX} {cs ss : Nat} {Q : zQ} {pc : Nat} {L : List (Option Value)} {st : List Value} {h : zH} {sz : Nat}
theorem z_getf {idx ci k a : Nat} {fin : Bool} {fs : List Value} {v : Value} (hd : zdec X pc = .ok (.getfield idx, 3)) (hf : zFl X.1.cls idx ci k fin) (ha : h a = some (zO ci fs)) (hv : fs[k]? = some v) (kk : Z D B X cs ss Q (pc + 3) L (v :: st) h sz) : Z D B X cs ss Q pc L (.ref a :: st) h sz := by
  intro p l e s m args below meth c H locs ls C hL hV hz hS
  obtain ⟨q, hq, hk, hlk, -, -⟩ := hf
  have hP : va_P (D.1, D.2.1) vwCl [(a, .inr (ci, fs))] H := fun j x hx => by
    match j, hx with
    | 0, hx => cases hx; exact hV a _ ha
  exact va_get (D := (D.1, D.2.1)) (cl := vwCl) (ci := ci) (C := q.1) (T := q.2.1) (N := q.2.2) (Ts := zT) C.1 C.2.1 C.2.2.2.2.1 (fun w hw => zIn hq w hw) C.2.2.2.1 C.2.2.2.2.2.2.2.1.1 hP 0 rfl hq k hk (C.2.2.2.2.1 _ hlk) (fun _ h9 => h9) hv hd (kk p l e s m args below meth c H locs ls C hL hV hz hS)
theorem z_putf {idx ci k a : Nat} {fs : List Value} {v : Value} (hd : zdec X pc = .ok (.putfield idx, 3)) (hf : zFl X.1.cls idx ci k false) (ha : h a = some (zO ci fs)) (hB : B ≤ a) (hn : narrow (zTyF ci k) v = v) (hfit : fits (zTyF ci k) v = true) (hl : k < fs.length) (kk : Z D B X cs ss Q (pc + 3) L st (zup h a (zO ci (fs.set k v))) sz) : Z D B X cs ss Q pc L (v :: .ref a :: st) h sz := by
  intro p l e s m args below meth c H locs ls C hL hV hz hS
  obtain ⟨q, hq, hk, hlk, hfin, -⟩ := hf
  obtain ⟨C0, T, N⟩ := q
  have hts := C.2.2.2.2.1
  have hin : ∀ w ∈ u_ws C0 T N, w ∈ zT := fun w hw => zIn hq w hw
  have hK := C.2.2.2.2.2.2.2.1.1
  have hap := va_apart (D := (D.1, D.2.1)) (cl := vwCl) (own := X.1.cls) hts hin (zTyF ci) (zTyF_ok hq) (zNm_ok hq) hK hq
  obtain ⟨r, h1, cell, q1, q2, q3, q4⟩ := hV a _ ha
  have hr : r = (C0, T, N) := Option.some.inj (h1.symm.trans hq)
  subst hr
  obtain ⟨hS1, hfc, kC, hkC, hkind⟩ := hK.1 ci _ hq
  obtain ⟨cf, kf, fi, f, hi, hsl⟩ := hS1 k hk
  have hlay := hts _ (hin _ (u_in_lay hk))
  unfold u_lay at hlay
  rw [if_neg (by rw [hfin]; decide)] at hlay
  have hst := (u_facts hfc hkC (u_lays hts hin hk) hi).1
  have h6 := u_store hfc hkC hkind hlay hi (zTyF_ok hq k hk) hn hfit
  refine W.putK C.1 C.2.1 (f := f) ⟨C.2.2.2.1, hts _ hlk, ⟨_, _, _, hi⟩, hst⟩ (by rw [q2]; exact h6) q1 q3 (by rw [hsl]; exact k2_hasslot (q4 k hk)) rfl rfl hd fun H1 e1 e2 e3 => ?_
  rw [hsl] at e1 ⊢
  exact kk p l e s m args below meth c H1 _ ls C hL (hV.set (e := zO ci (fs.set k v)) ⟨_, hq, t_OB.to (V := updV (vp_V fs) k v) ⟨_, e1, q2, q3, t_set q4 hap hk v⟩ (fun j _ => vp_updV_set hl v j)⟩ e3) (e2.trans hz) (hS.put e2 e3 hB)
/-- a final field, in the constructor -/
theorem z_putF {idx ci k a : Nat} {fs : List Value} {v : Value} (hd : zdec X pc = .ok (.putfield idx, 3)) (hf : zFl X.1.cls idx ci k true) (hown : X.1.cls = (vwCl.getD ci ("", TX0, 0)).1) (hinit : X.1.name = "<init>") (ha : h a = some (zO ci fs)) (hB : B ≤ a) (hn : narrow (zTyF ci k) v = v) (hfit : fits (zTyF ci k) v = true) (hl : k < fs.length) (kk : Z D B X cs ss Q (pc + 3) L st (zup h a (zO ci (fs.set k v))) sz) : Z D B X cs ss Q pc L (v :: .ref a :: st) h sz := by
  intro p l e s m args below meth c H locs ls C hL hV hz hS
  obtain ⟨q, hq, hk, hlk, hfin, hdc⟩ := hf
  have hown2 : X.1.cls = q.1 := by rw [hown, List.getD_eq_getElem?_getD, hq]; rfl
  obtain ⟨C0, T, N⟩ := q
  have hP : va_P (D.1, D.2.1) vwCl [(a, .inr (ci, fs))] H := fun j x hx => by
    match j, hx with
    | 0, hx => cases hx; exact hV a _ ha
  have hts := C.2.2.2.2.1
  have hin : ∀ w ∈ u_ws C0 T N, w ∈ zT := fun w hw => zIn hq w hw
  have hK := C.2.2.2.2.2.2.2.1.1
  have hap := va_apart (D := (D.1, D.2.1)) (cl := vwCl) (own := X.1.cls) hts hin (zTyF ci) (zTyF_ok hq) (zNm_ok hq) hK hq
  obtain ⟨r, h1, cell, q1, q2, q3, q4⟩ := hV a _ ha
  have hr : r = (C0, T, N) := Option.some.inj (h1.symm.trans hq)
  subst hr
  obtain ⟨hS1, hfc, kC, hkC, hkind⟩ := hK.1 ci _ hq
  obtain ⟨cf, kf, fi, f, hi, hsl⟩ := hS1 k hk
  have hlay := hts _ (hin _ (u_in_lay hk))
  unfold u_lay at hlay
  rw [if_pos hfin] at hlay
  have hst := (u_facts hfc hkC (u_lays hts hin hk) hi).1
  have hcf : m.cls = cf := by
    obtain ⟨_, _, c', _, _, _, -, -, hf', -, -, -, hown3, -⟩ := Cond.laysFinal_spec hlay
    have e1 : c' = cf := by have := hi.symm.trans hf'; simp at this; exact this.1.symm
    rw [show (T k).1 = C0 from hdc] at hown3
    rw [← e1]; exact Option.some.inj ((C.2.2.2.1.symm.trans (by rw [hown2])).trans hown3)
  have h6 := u_fits hfc hkC hkind (Or.inr hlay) hi (zTyF_ok hq k hk) hn hfit
  refine W.putFinK C.1 C.2.1 C.2.2.2.1 (hts _ hlk) hi hst hcf (C.2.2.2.2.2.2.2.2.1.trans hinit) (by rw [q2]; exact h6) q1 q3 (by rw [hsl]; exact k2_hasslot (q4 k hk)) rfl rfl hd fun H1 e1 e2 e3 => ?_
  rw [hsl] at e1 ⊢
  exact kk p l e s m args below meth c H1 _ ls C hL (hV.set (e := zO ci (fs.set k v)) ⟨_, hq, t_OB.to (V := updV (vp_V fs) k v) ⟨_, e1, q2, q3, t_set q4 hap hk v⟩ (fun j _ => vp_updV_set hl v j)⟩ e3) (e2.trans hz) (hS.put e2 e3 hB)
theorem zLt {i : Int32} {n : Nat} (hin : vp_in i n) : i.toNatClampNeg < n := Nat.not_le.mp fun q => hin (Or.inr q)
theorem z_iald {a n : Nat} {f : Nat → Int32} {i : Int32} (hd : zdec X pc = .ok (.iaload, 1)) (ha : h a = some (zI n f)) (hin : vp_in i n) (kk : Z D B X cs ss Q (pc + 1) L (.int (f i.toNatClampNeg) :: st) h sz) : Z D B X cs ss Q pc L (.int i :: .ref a :: st) h sz := by
  intro p l e s m args below meth c H locs ls C hL hV hz hS
  exact W.iald (v := .int (f i.toNatClampNeg)) C.1 C.2.1 (hV a _ ha) ((C.2.2.2.2.2.2.2.1.1.2 0 (D.2.2.1 0, .int) rfl).1 n (fun j => .int (f j))) (fun q => by cases q) (by show ¬ (i < 0 ∨ (arrV _ _ _).slots.size ≤ _); rw [arrV_size]; exact hin) (by show (arrV _ _ _).slots[_]? = _; rw [arrV_read _ _ (zLt hin)]) rfl rfl hd (kk p l e s m args below meth c H locs ls C hL hV hz hS)
theorem z_zald {a n : Nat} {f : Nat → Int32} {i : Int32} (hd : zdec X pc = .ok (.baload, 1)) (ha : h a = some (zBo n f)) (hin : vp_in i n) (kk : Z D B X cs ss Q (pc + 1) L (.int (f i.toNatClampNeg) :: st) h sz) : Z D B X cs ss Q pc L (.int i :: .ref a :: st) h sz := by
  intro p l e s m args below meth c H locs ls C hL hV hz hS
  exact W.zald (v := .int (f i.toNatClampNeg)) C.1 C.2.1 (hV a _ ha) ((C.2.2.2.2.2.2.2.1.1.2 2 (D.2.2.1 2, .boolean) rfl).1 n (fun j => .int (f j))) (fun q => by cases q) (by show ¬ (i < 0 ∨ (arrV _ _ _).slots.size ≤ _); rw [arrV_size]; exact hin) (by show (arrV _ _ _).slots[_]? = _; rw [arrV_read _ _ (zLt hin)]) rfl rfl hd (kk p l e s m args below meth c H locs ls C hL hV hz hS)
theorem z_lald {a n : Nat} {f : Nat → Int64} {i : Int32} (hd : zdec X pc = .ok (.laload, 1)) (ha : h a = some (zJ n f)) (hin : vp_in i n) (kk : Z D B X cs ss Q (pc + 1) L (.long (f i.toNatClampNeg) :: st) h sz) : Z D B X cs ss Q pc L (.int i :: .ref a :: st) h sz := by
  intro p l e s m args below meth c H locs ls C hL hV hz hS
  exact W.lald (v := .long (f i.toNatClampNeg)) C.1 C.2.1 (hV a _ ha) ((C.2.2.2.2.2.2.2.1.1.2 1 (D.2.2.1 1, .long) rfl).1 n (fun j => .long (f j))) (fun q => by cases q) (by show ¬ (i < 0 ∨ (arrV _ _ _).slots.size ≤ _); rw [arrV_size]; exact hin) (by show (arrV _ _ _).slots[_]? = _; rw [arrV_read _ _ (zLt hin)]) rfl rfl hd (kk p l e s m args below meth c H locs ls C hL hV hz hS)
/-- shelves -/
theorem z_aald3 {a n : Nat} {f : Nat → Option Nat} {i : Int32} (hd : zdec X pc = .ok (.aaload, 1)) (ha : h a = some (zRf 3 n f)) (hin : vp_in i n) (kk : Z D B X cs ss Q (pc + 1) L (va_rf (f i.toNatClampNeg) :: st) h sz) : Z D B X cs ss Q pc L (.int i :: .ref a :: st) h sz := by
  intro p l e s m args below meth c H locs ls C hL hV hz hS
  exact W.aald (v := va_rf (f i.toNatClampNeg)) (ty := .object RX2) C.1 C.2.1 (hV a _ ha) ((C.2.2.2.2.2.2.2.1.1.2 3 (D.2.2.1 3, .object RX2) rfl).1 n (fun j => va_rf (f j))) rfl (fun q => by cases q) (by show ¬ (i < 0 ∨ (arrV _ _ _).slots.size ≤ _); rw [arrV_size]; exact hin) (by show (arrV _ _ _).slots[_]? = _; rw [arrV_read _ _ (zLt hin)]) rfl rfl hd (kk p l e s m args below meth c H locs ls C hL hV hz hS)
/-- rows of longs -/
theorem z_aald4 {a n : Nat} {f : Nat → Option Nat} {i : Int32} (hd : zdec X pc = .ok (.aaload, 1)) (ha : h a = some (zRf 4 n f)) (hin : vp_in i n) (kk : Z D B X cs ss Q (pc + 1) L (va_rf (f i.toNatClampNeg) :: st) h sz) : Z D B X cs ss Q pc L (.int i :: .ref a :: st) h sz := by
  intro p l e s m args below meth c H locs ls C hL hV hz hS
  exact W.aald (v := va_rf (f i.toNatClampNeg)) (ty := .array .long) C.1 C.2.1 (hV a _ ha) ((C.2.2.2.2.2.2.2.1.1.2 4 (D.2.2.1 4, .array .long) rfl).1 n (fun j => va_rf (f j))) rfl (fun q => by cases q) (by show ¬ (i < 0 ∨ (arrV _ _ _).slots.size ≤ _); rw [arrV_size]; exact hin) (by show (arrV _ _ _).slots[_]? = _; rw [arrV_read _ _ (zLt hin)]) rfl rfl hd (kk p l e s m args below meth c H locs ls C hL hV hz hS)
theorem z_iast {a n : Nat} {f : Nat → Int32} {i x : Int32} (hd : zdec X pc = .ok (.iastore, 1)) (ha : h a = some (zI n f)) (hB : B ≤ a) (hin : vp_in i n) (kk : Z D B X cs ss Q (pc + 1) L st (zup h a (zI n (upd f i.toNatClampNeg x))) sz) : Z D B X cs ss Q pc L (.int x :: .int i :: .ref a :: st) h sz := by
  intro p l e s m args below meth c H locs ls C hL hV hz hS
  refine W.iast C.1 C.2.1 (hV a _ ha) ((C.2.2.2.2.2.2.2.1.1.2 0 (D.2.2.1 0, .int) rfl).1 n (fun j => .int (f j))) (fun q => by cases q) (by show ¬ (i < 0 ∨ (arrV _ _ _).slots.size ≤ _); rw [arrV_size]; exact hin) rfl rfl hd fun H1 e1 z oq => ?_
  refine kk p l e s m args below meth c H1 _ ls C hL (hV.set (e := zI n (upd f i.toNatClampNeg x)) ?_ oq) (z.trans hz) (hS.put z oq hB)
  show H1[a]? = some (vp_cell _ _)
  rw [e1]
  show some ((vp_cell _ _).setSlot _ _) = _
  rw [vp_cell_i, vp_cell_i, arrV_store]
  congr 2
  funext q
  by_cases hq : q = i.toNatClampNeg
  · subst hq
    simp [updV, upd]
  · simp [updV, upd, hq]
theorem z_zast {a n : Nat} {f : Nat → Int32} {i x : Int32} (hd : zdec X pc = .ok (.bastore, 1)) (ha : h a = some (zBo n f)) (hB : B ≤ a) (hin : vp_in i n) (kk : Z D B X cs ss Q (pc + 1) L st (zup h a (zBo n (upd f i.toNatClampNeg (vp_nar .boolean x)))) sz) : Z D B X cs ss Q pc L (.int x :: .int i :: .ref a :: st) h sz := by
  intro p l e s m args below meth c H locs ls C hL hV hz hS
  refine W.zast C.1 C.2.1 (hV a _ ha) ((C.2.2.2.2.2.2.2.1.1.2 2 (D.2.2.1 2, .boolean) rfl).1 n (fun j => .int (f j))) (fun q => by cases q) (by show ¬ (i < 0 ∨ (arrV _ _ _).slots.size ≤ _); rw [arrV_size]; exact hin) rfl rfl hd fun H1 e1 z oq => ?_
  refine kk p l e s m args below meth c H1 _ ls C hL (hV.set (e := zBo n (upd f i.toNatClampNeg (vp_nar .boolean x))) ?_ oq) (z.trans hz) (hS.put z oq hB)
  show H1[a]? = some (vp_cell _ _)
  rw [e1]
  show some ((vp_cell _ _).setSlot _ _) = _
  rw [vp_cell_i, vp_cell_i, arrV_store]
  congr 2
  funext q
  by_cases hq : q = i.toNatClampNeg
  · subst hq
    simp [updV, upd, vp_nar]
    try rfl
  · simp [updV, upd, hq]
theorem z_last {a n : Nat} {f : Nat → Int64} {i : Int32} {x : Int64} (hd : zdec X pc = .ok (.lastore, 1)) (ha : h a = some (zJ n f)) (hB : B ≤ a) (hin : vp_in i n) (kk : Z D B X cs ss Q (pc + 1) L st (zup h a (zJ n (vp_updL f i.toNatClampNeg x))) sz) : Z D B X cs ss Q pc L (.long x :: .int i :: .ref a :: st) h sz := by
  intro p l e s m args below meth c H locs ls C hL hV hz hS
  refine W.last C.1 C.2.1 (hV a _ ha) ((C.2.2.2.2.2.2.2.1.1.2 1 (D.2.2.1 1, .long) rfl).1 n (fun j => .long (f j))) (fun q => by cases q) (by show ¬ (i < 0 ∨ (arrV _ _ _).slots.size ≤ _); rw [arrV_size]; exact hin) rfl rfl hd fun H1 e1 z oq => ?_
  refine kk p l e s m args below meth c H1 _ ls C hL (hV.set (e := zJ n (vp_updL f i.toNatClampNeg x)) ?_ oq) (z.trans hz) (hS.put z oq hB)
  show H1[a]? = some (vp_cell _ _)
  rw [e1]
  show some ((vp_cell _ _).setSlot _ _) = _
  rw [vp_cell_l, vp_cell_l, arrV_store]
  congr 2
  funext q
  by_cases hq : q = i.toNatClampNeg
  · subst hq
    simp [updV, vp_updL]
  · simp [updV, vp_updL, hq]
/-! ===== ends ===== -/
theorem z_end {t : State} {s : State} {H : Heap} {locs : List Loc} {args : Array Value} {r : Option Value} (hV : zV D h H) (hz : H.size = sz) (hS : va_S (fun q => B ≤ q) s.heap H locs) (ht : t.heap = H) (hq : Q r h sz) : zQc D B Q args s (.returned r) t :=
  ⟨⟨r, h, rfl, by rw [ht, hz]; exact hq, by rw [ht]; exact hV⟩, hS.F ht⟩
theorem z_iret {v : Int32} (hd : zdec X pc = .ok (.ireturn, 1)) (hr : X.2.2.2.1 = some .int) (h1 : cs ≤ X.2.2.2.2.2.1) (h2 : ss ≤ X.2.2.2.2.2.2) (hq : Q (some (.int v)) h sz) : Z D B X cs ss Q pc L [.int v] h sz := by
  intro p l e s m args below meth c H locs ls C hL hV hz hS
  refine W.widen h1 h2 ?_
  exact W.iret C.1 C.2.1 (C.2.2.2.2.2.2.1.trans hr) (fun t ht hW => z_end hV hz hS ht hq) hS.2.2 hd C.2.2.2.2.2.1
theorem z_zret {v : Int32} (hd : zdec X pc = .ok (.ireturn, 1)) (hr : X.2.2.2.1 = some .boolean) (h1 : cs ≤ X.2.2.2.2.2.1) (h2 : ss ≤ X.2.2.2.2.2.2) (hv : v = 0 ∨ v = 1) (hq : Q (some (.int v)) h sz) : Z D B X cs ss Q pc L [.int v] h sz := by
  intro p l e s m args below meth c H locs ls C hL hV hz hS
  refine W.widen h1 h2 ?_
  exact W.zret C.1 C.2.1 (C.2.2.2.2.2.2.1.trans hr) (by rcases hv with rfl | rfl <;> decide) (fun t ht hW => z_end hV hz hS ht hq) hS.2.2 hd C.2.2.2.2.2.1
/-- a return of a byte or a char that fits -/
theorem z_xret {v : Int32} {ty : FieldType} (hd : zdec X pc = .ok (.ireturn, 1)) (hr : X.2.2.2.1 = some ty) (hn : narrow ty (.int v) = .int v) (h1 : cs ≤ X.2.2.2.2.2.1) (h2 : ss ≤ X.2.2.2.2.2.2) (hq : Q (some (.int v)) h sz) : Z D B X cs ss Q pc L [.int v] h sz := by
  intro p l e s m args below meth c H locs ls C hL hV hz hS
  refine W.widen h1 h2 ?_
  exact W.zret C.1 C.2.1 (C.2.2.2.2.2.2.1.trans hr) hn (fun t ht hW => z_end hV hz hS ht hq) hS.2.2 hd C.2.2.2.2.2.1
theorem z_lret {v : Int64} (hd : zdec X pc = .ok (.lreturn, 1)) (hr : X.2.2.2.1 = some .long) (h1 : cs ≤ X.2.2.2.2.2.1) (h2 : ss ≤ X.2.2.2.2.2.2) (hq : Q (some (.long v)) h sz) : Z D B X cs ss Q pc L [.long v] h sz := by
  intro p l e s m args below meth c H locs ls C hL hV hz hS
  refine W.widen h1 h2 ?_
  exact W.lret C.1 C.2.1 (C.2.2.2.2.2.2.1.trans hr) (fun t ht hW => z_end hV hz hS ht hq) hS.2.2 hd C.2.2.2.2.2.1
theorem z_vret (hd : zdec X pc = .ok (.return_, 1)) (hr : X.2.2.2.1 = none) (h1 : cs ≤ X.2.2.2.2.2.1) (h2 : ss ≤ X.2.2.2.2.2.2) (hq : Q none h sz) : Z D B X cs ss Q pc L [] h sz := by
  intro p l e s m args below meth c H locs ls C hL hV hz hS
  refine W.widen h1 h2 ?_
  exact W.vret C.1 C.2.1 (C.2.2.2.2.2.2.1.trans hr) (fun t ht hW => z_end hV hz hS ht hq) hS.2.2 hd C.2.2.2.2.2.1
theorem z_aret {a : Nat} {nm : String} (hd : zdec X pc = .ok (.areturn, 1)) (hr : X.2.2.2.1 = some (.object nm)) (h1 : cs ≤ X.2.2.2.2.2.1) (h2 : ss ≤ X.2.2.2.2.2.2) (hq : Q (some (.ref a)) h sz) : Z D B X cs ss Q pc L [.ref a] h sz := by
  intro p l e s m args below meth c H locs ls C hL hV hz hS
  refine W.widen h1 h2 ?_
  exact W.aret C.1 C.2.1 (C.2.2.2.2.2.2.1.trans hr) (Or.inl ⟨_, rfl⟩) (Or.inr ⟨_, rfl⟩) (fun t ht hW => z_end hV hz hS ht hq) hS.2.2 hd C.2.2.2.2.2.1
end ZR2
/-! ===== entry and calls ===== -/
/-- the locals at the entry -/
def zArgs : List Value → List (Option Value)
  | [] => []
  | v :: vs => if v.category = 2 then some v :: none :: zArgs vs else some v :: zArgs vs
theorem zArgs_ok : ∀ (vs : List Value) (i : Nat) (j : Nat) (v : Value), (zArgs vs)[j]? = some (some v) → (i + j, v) ∈ lv_args i vs
  | [], i, j, v, h => by simp [zArgs] at h
  | u :: us, i, j, v, h => by
    unfold zArgs at h
    unfold lv_args
    by_cases hc : u.category = 2
    · rw [if_pos hc] at h ⊢
      match j, h with
      | 0, h => cases h; exact List.mem_cons_self
      | 1, h => cases h
      | j + 2, h =>
        have := zArgs_ok us (i + 2) j v h
        rw [show i + (j + 2) = i + 2 + j by omega]
        exact List.mem_cons_of_mem _ this
    · rw [if_neg hc] at h ⊢
      match j, h with
      | 0, h => cases h; exact List.mem_cons_self
      | j + 1, h =>
        have := zArgs_ok us (i + 1) j v h
        rw [show i + (j + 1) = i + 1 + j by omega]
        exact List.mem_cons_of_mem _ this
theorem zM.of {D : zD} {B : Nat} {X : zX} {as : List Value} {h : zH} {sz : Nat} {Q : zQ} (hy : plainName X.1.cls = true) (hl : Nat.ble (lg_sl as).length X.2.2.1 = true) {n : Nat}
    (k : Z D B X 0 0 Q 0 (zArgs as ++ List.replicate n none) [] h sz) : zM D B X as h sz Q := by
  intro l
  refine Met.ofW (cc := X.2.1) (maxL := X.2.2.1) (ret := X.2.2.2.1) hy rfl ?_
  intro p e s m args below meth c s₁ Bd hml hv
  obtain ⟨rfl, hK, hV, hz, hB⟩ := hv
  have hl0 := lv_entry as (n := X.2.2.1) (Nat.le_of_ble_eq_true hl)
  rw [lg_entry_eq]
  generalize (lg_sl as ++ List.replicate (X.2.2.1 - (lg_sl as).length) Slot.unset).toArray = ls at hl0 ⊢
  refine k p l e s m as.toArray below meth c s.heap [] ls ⟨Bd.exec, Bd.bytes, hml, findClass_of_methodNamed Bd.named, (fun w hw => atoms_spec (ws := zWs X) Bd.pre w (List.mem_cons_of_mem _ hw)), Bd.notSynchronized, Bd.returns, hK, (name_of_methodNamed Bd.named Bd.method).1, hB⟩ ⟨hl0.1, hl0.2.1, fun q hq => ?_⟩ hV hz va_S.rf
  obtain ⟨j, u⟩ := q
  have hj := zls_mem.mp hq
  have hj2 : (zArgs as)[j]? = some (some u) := by
    by_cases hlt : j < (zArgs as).length
    · rwa [List.getElem?_append_left hlt] at hj
    · rw [List.getElem?_append_right (by omega), List.getElem?_replicate] at hj
      split at hj <;> cases hj
  have := zArgs_ok as 0 j u hj2
  rw [Nat.zero_add] at this
  exact hl0.2.2 (j, u) this
theorem zGood {c : Cond} (hc : c ∈ zT) : GoodIn zT (c :: zT) := by
  intro w hw
  have hw2 : w ∈ zT := by
    rcases List.mem_cons.mp hw with rfl | h
    · exact hc
    · exact h
  exact ⟨hw2, good_of_word (List.mem_filter.mp hw2).2⟩
/-- entry idx of own's pool is the method Y, with n parameters -/
def zLk (own : String) (idx : Nat) (Y : zX) (n : Nat) : Prop := Cond.methodLink own idx Y.1 ∈ zT ∧ Cond.initialized Y.1.cls ∈ zT ∧ Cond.code Y.1 Y.2.1 Y.2.2.1 Y.2.2.2.1 ∈ zT ∧ (Y.1.cls ≠ "java/lang/invoke/MethodHandle" ∧ Y.1.cls ≠ "java/lang/invoke/VarHandle" ∧ (parseMethodDescriptor Y.1.desc).map (fun d => d.parameters.length) = some n)
/-- it fits -/
def zFits (X Y : zX) (cs ss : Nat) : Bool := Nat.ble (Y.2.2.2.2.1 + 1) X.2.2.2.2.1 && (Nat.ble (8 + (Y.2.2.1 + 11) + 36 * Y.2.2.2.2.1) (36 * X.2.2.2.2.1) && (Nat.ble (cs + Y.2.2.2.2.2.1) X.2.2.2.2.2.1 && Nat.ble (ss + Y.2.2.2.2.2.2) X.2.2.2.2.2.2))
theorem zFits_ok {X Y : zX} {cs ss : Nat} (h : zFits X Y cs ss = true) : (Y.2.2.2.2.1 + 1 ≤ X.2.2.2.2.1 ∧ 8 + (Y.2.2.1 + 11) + 36 * Y.2.2.2.2.1 ≤ 36 * X.2.2.2.2.1) ∧ (cs + Y.2.2.2.2.2.1 ≤ X.2.2.2.2.2.1 ∧ ss + Y.2.2.2.2.2.2 ≤ X.2.2.2.2.2.2) := by
  unfold zFits at h
  rw [Bool.and_eq_true, Bool.and_eq_true, Bool.and_eq_true] at h
  exact ⟨⟨Nat.le_of_ble_eq_true h.1, Nat.le_of_ble_eq_true h.2.1⟩, ⟨Nat.le_of_ble_eq_true h.2.2.1, Nat.le_of_ble_eq_true h.2.2.2⟩⟩
theorem zRest {m : MethodId} {pc : Nat} {ls : Array Slot} {st0 rest : List Value} (h : Nat.ble ((rest.map fun v => v.category).sum) 8 = true) : 2 * (F0 m pc ls st0).monitorRoom + (rest.map fun v => v.category).sum ≤ 8 := by
  have := Nat.le_of_ble_eq_true h
  show 2 * 0 + _ ≤ 8
  omega
section ZCALL
variable {D : zD} {B : Nat} {X Y : zX} {cs ss : Nat} {Q Qy : zQ} {pc n idx : Nat} {L : List (Option Value)} {st as : List Value} {h : zH} {sz : Nat}
theorem z_go {p : Program} {l : Launch} {e : Env} {s : State} {m : MethodId} {args a : Array Value} {below : List Frame} {meth : Method} {c : Code} {H : Heap} {locs : List Loc} {ls : Array Slot} {st0 : List Value} {QQ : State → Prop}
    (hr : va_Run p l e (zRoom X) s m args below meth c H locs cs ss Y.2.2.2.2.2.1 Y.2.2.2.2.2.2 (F0 m pc ls st0) st (zQc D B Qy a) (fun q => B ≤ q)) (hS : va_S (fun q => B ≤ q) s.heap H locs)
    (kk : ∀ (r : Option Value) (h1 : zH) (H1 : Heap) (locs1 : List Loc), Qy r h1 H1.size → zV D h1 H1 → va_S (fun q => B ≤ q) s.heap H1 locs1 → W p l e (zRoom X) s m args below meth c H1 locs1 (cs + Y.2.2.2.2.2.1) (ss + Y.2.2.2.2.2.2) QQ (F0 m (pc + 3) ls (r.toList ++ st))) : W p l e (zRoom X) s m args below meth c H locs cs ss QQ (F0 m pc ls st0) := by
  intro T hT Xs
  obtain ⟨v, st₀, t, T', L1, h0, X', hL, e1, e2, ⟨⟨r, h1, hv, hq, hV⟩, hz, hk⟩, stp⟩ := hr T hT Xs
  cases hv
  rw [h0] at hz hk
  obtain ⟨t2, a1, b1⟩ := kk v h1 T'.heap (locs ++ L1) (by rw [e1]; exact hq) (by rw [e1]; exact hV)
    ⟨Nat.le_trans hS.1 (by rw [e1]; exact hz), fun q g1 g2 => by rw [e1, hk q (Nat.lt_of_lt_of_le g1 hS.1) g2]; exact hS.2.1 q g1 g2, fun q hq => by
      rcases List.mem_append.mp hq with g | g
      · exact hS.2.2 q g
      · exact hL q g⟩ T' rfl X'
  exact ⟨t2, stp t2 a1, b1⟩
theorem zBlind {D : zD} {B : Nat} {as : List Value} {h : zH} {sz : Nat} : FrameBlind (zPc D B as h sz) := fun a U g mk q => by
  obtain ⟨q0, q1, q2, q3, q4⟩ := q
  exact ⟨q0, zK.blind q1, q2, q3, q4⟩
theorem zPre {D : zD} {B : Nat} {as : List Value} {h : zH} {sz : Nat} {s U : State} {H : Heap} {locs : List Loc} (hK : zK D B s) (hV : zV D h H) (hz : H.size = sz) (hS : va_S (fun q => B ≤ q) s.heap H locs) (hB : B ≤ s.heap.size) (hU : U.heap = H) (hW : s.WarmedH U.vm) : zPc D B as h sz as.toArray U :=
  ⟨rfl, zK.go hK hS hU hW, by rw [hU]; exact hV, by rw [hU]; exact hz, by rw [hU]; exact Nat.le_trans hB hS.1⟩
theorem z_callV {b ci : Nat} {fs : List Value} (hd : zdec X pc = .ok (.invokevirtual idx, 3)) (hk : zLk X.1.cls idx Y n) (hi : Cond.instanceMethod Y.1 ∈ zT ∧ Cond.selects Y.1.cls Y.1 Y.1 ∈ zT) (hb : h b = some (zO ci fs)) (hcl : (vwCl.getD ci ("", TX0, 0)).1 = Y.1.cls) (hci : Nat.ble (ci + 1) 6 = true) (hM : zM D B Y (.ref b :: as) h sz Qy) (hn : as.length = n) (hf : zFits X Y cs ss = true) (hr : Nat.ble ((st.map fun v => v.category).sum) 8 = true)
    (kk : ∀ (r : Option Value) (h1 : zH) (z1 : Nat), Qy r h1 z1 → Z D B X (cs + Y.2.2.2.2.2.1) (ss + Y.2.2.2.2.2.2) Q (pc + 3) L (r.toList ++ st) h1 z1) {st0 : List Value} (hst : st0 = as.reverse ++ .ref b :: st) : Z D B X cs ss Q pc L st0 h sz := by
  subst hst
  intro p l e s m args below meth c H locs ls C hL hV hz hS
  obtain ⟨hf1, hf2⟩ := zFits_ok hf
  have hts := C.2.2.2.2.1
  have hKs := C.2.2.2.2.2.2.2.1
  have hlt : ci < vwCl.length := Nat.le_of_ble_eq_true hci
  have hc : vwCl[ci]? = some (vwCl[ci]) := List.getElem?_eq_getElem hlt
  have hrecv : ∃ cellB : Cell, H[b]? = some cellB ∧ cellB.vm.isStatics = false ∧ s.vm.findClass Y.1.cls = some cellB.cls := by
    obtain ⟨q', h1, cell, g1, g2, g3, -⟩ := hV b _ hb
    refine ⟨cell, g1, by rw [g3]; rfl, ?_⟩
    rw [g2, ← hcl, List.getD_eq_getElem?_getD, hc]
    exact (hKs.1.1 ci _ hc).2.1
  refine z_go (va_runV (nL := X.2.2.1) (own := X.1.cls) (Ts := zT) (cc := X.2.1) (C := Y.1.cls) (bytes := Y.2.1) (maxL := Y.2.2.1) (ret := Y.2.2.2.1) (ws := zWs Y) (rm := zRoom Y) (As := as) (rest := st) ⟨C.1, C.2.1, C.2.2.1, C.2.2.2.1, hts⟩ (hM l) ⟨callB_of n hts (zGood hk.2.2.1) rfl rfl rfl (hts _ hk.2.1) (hts _ hk.1) hk.2.2.2 hf1, hts _ hi.1, hts _ hi.2⟩ ⟨zBlind, hrecv, fun U hU hW => zPre hKs hV hz hS C.2.2.2.2.2.2.2.2.2 hU hW⟩ rfl hn hL.1 rfl (zRest hr) hd hf2) hS (fun r h1 H1 locs1 hq hV1 hS1 => ?_)
  exact kk r h1 _ hq p l e s m args below meth c H1 locs1 ls C hL hV1 rfl hS1
theorem z_callS (hd : zdec X pc = .ok (.invokestatic idx, 3)) (hk : zLk X.1.cls idx Y n) (hi : Cond.static Y.1 ∈ zT) (hM : zM D B Y as h sz Qy) (hn : as.length = n) (hf : zFits X Y cs ss = true) (hr : Nat.ble ((st.map fun v => v.category).sum) 8 = true)
    (kk : ∀ (r : Option Value) (h1 : zH) (z1 : Nat), Qy r h1 z1 → Z D B X (cs + Y.2.2.2.2.2.1) (ss + Y.2.2.2.2.2.2) Q (pc + 3) L (r.toList ++ st) h1 z1) {st0 : List Value} (hst : st0 = as.reverse ++ st) : Z D B X cs ss Q pc L st0 h sz := by
  subst hst
  intro p l e s m args below meth c H locs ls C hL hV hz hS
  obtain ⟨hf1, hf2⟩ := zFits_ok hf
  have hts := C.2.2.2.2.1
  have hKs := C.2.2.2.2.2.2.2.1
  refine z_go (va_runS (nL := X.2.2.1) (own := X.1.cls) (Ts := zT) (cc := X.2.1) (bytes := Y.2.1) (maxL := Y.2.2.1) (ret := Y.2.2.2.1) (ws := zWs Y) (rm := zRoom Y) (As := as) (rest := st) ⟨C.1, C.2.1, C.2.2.1, C.2.2.2.1, hts⟩ (hM l) ⟨callB_of n hts (zGood hk.2.2.1) rfl rfl rfl (hts _ hk.2.1) (hts _ hk.1) hk.2.2.2 hf1, hts _ hi⟩ ⟨zBlind, fun U hU hW => zPre hKs hV hz hS C.2.2.2.2.2.2.2.2.2 hU hW⟩ rfl hn hL.1 rfl (zRest hr) hd hf2) hS (fun r h1 H1 locs1 hq hV1 hS1 => ?_)
  exact kk r h1 _ hq p l e s m args below meth c H1 locs1 ls C hL hV1 rfl hS1
end ZCALL
end
section
/-! ===== making cells ===== -/
theorem vr_outer (c : ClassId) (N h0 : Nat) : ∀ i : Nat, Jvm.Free.Multi.outerC c N h0 i = arrV c N (fun j => va_rf (if j < i then some (h0 + 1 + j) else none))
  | 0 => by
    show ({ cls := c, slots := Array.replicate N .null, vm := .none } : Cell) = _
    rw [arrV_new]
    refine congrArg (arrV c N) (funext fun j => ?_)
    simp [va_rf]
  | i + 1 => by
    show (Jvm.Free.Multi.outerC c N h0 i).setSlot i (.ref (h0 + 1 + i)) = _
    rw [vr_outer c N h0 i, arrV_store]
    refine congrArg (arrV c N) (funext fun j => ?_)
    by_cases e : j = i
    · subst e
      simp [updV, va_rf]
    · by_cases h : j < i
      · simp [updV, e, h, Nat.lt_succ_of_lt h]
      · simp [updV, e, h, show ¬ j < i + 1 by omega]
theorem zV.push {D : zD} {h : zH} {H H1 : Heap} {e : zE} (hV : zV D h H) (he : va_at (D.1, D.2.1) vwCl (H.size, zc D e) H1) (oq : ∀ q : Nat, q < H.size → H1[q]? = H[q]?) : zV D (zup h H.size e) H1 := by
  intro b e2 hb
  by_cases hq : b = H.size
  · subst hq
    rw [zup_s] at hb
    cases hb
    exact he
  · rw [zup_n hq] at hb
    exact va_at.kept (hV b e2 hb) (oq b (hV.lt hb))
theorem zV.new {D : zD} {h : zH} {H : Heap} {a : Nat} (hV : zV D h H) (ha : H.size ≤ a) : h a = none := by
  cases hx : h a with
  | none => rfl
  | some e => exact absurd (hV.lt hx) (by omega)
theorem zS.push {B : Nat} {H0 H H1 : Heap} {locs : List Loc} {n : Nat} (hS : va_S (fun q => B ≤ q) H0 H locs) (z : H1.size = H.size + n) (oq : ∀ q : Nat, q < H.size → H1[q]? = H[q]?) : va_S (fun q => B ≤ q) H0 H1 locs :=
  ⟨Nat.le_trans hS.1 (by omega), fun x h1 h2 => (oq x (Nat.lt_of_lt_of_le h1 hS.1)).trans (hS.2.1 x h1 h2), hS.2.2⟩
section ZN
variable {D : zD} {B : Nat} {X Y : zX} {cs ss : Nat} {Q Qy : zQ} {pc n idx : Nat} {L : List (Option Value)} {st as : List Value} {h : zH} {sz : Nat}
def zNw (own : String) (idx ci : Nat) : Prop := ∃ q : vw_C, vwCl[ci]? = some q ∧ Cond.classLink own idx q.1 ∈ zT ∧ Cond.instantiable q.1 q.2.2 ∈ zT ∧ Cond.initialized q.1 ∈ zT
theorem z_new {ci N : Nat} {fs : List Value} (hd : zdec X pc = .ok (.new idx, 3)) (hw : zNw X.1.cls idx ci) (hN : (vwCl.getD ci ("", TX0, 0)).2.2 = N) (hfs : ∀ j, j < N → defaultValue (zTyF ci j) = vp_V fs j) (h1 : Nat.ble (cs + 1) X.2.2.2.2.2.1 = true) (h2 : Nat.ble (ss + N) X.2.2.2.2.2.2 = true)
    (kk : (∀ a, sz ≤ a → h a = none) → Z D B X (cs + 1) (ss + N) Q (pc + 3) L (.ref sz :: st) (zup h sz (zO ci fs)) (sz + 1)) : Z D B X cs ss Q pc L st h sz := by
  intro p l e s m args below meth c H locs ls C hL hV hz hS
  obtain ⟨q, hq, w1, w2, w3⟩ := hw
  obtain ⟨C0, T, N0⟩ := q
  rw [List.getD_eq_getElem?_getD, hq] at hN
  change N0 = N at hN
  subst hN
  subst hz
  have hts := C.2.2.2.2.1
  have hK := C.2.2.2.2.2.2.2.1.1
  have hKn := hK.1 ci _ hq
  have hin : ∀ w ∈ u_ws C0 T N0, w ∈ zT := fun w hw => zIn hq w hw
  refine W.newcK C.1 C.2.1 C.2.2.2.1 (hts _ w1) (hts _ w2) (hts _ w3) rfl hd (Nat.le_of_ble_eq_true h1) (Nat.le_of_ble_eq_true h2) hKn.2.1 rfl fun H1 kC hkC e1 z1 o1 => ?_
  exact kk (fun a ha => hV.new ha) p l e s m args below meth c H1 locs ls C hL (hV.push (e := zO ci fs) ⟨_, hq, (u_born (zTyF ci) hts hin hKn hkC e1 (zTyF_ok hq)).to hfs⟩ o1) z1 (zS.push hS z1 o1)
theorem zRA_eq {s : State} {ty : FieldType} {c1 c2 : ClassId} (h : va_RA s c1 ty) (h2 : s.vm.findClass ("[" ++ ty.toString) = some c2) : c1 = c2 := by
  cases ty with
  | object C =>
    obtain ⟨_, _, _, _, _, h4⟩ := h
    exact Option.some.inj (h4.symm.trans h2)
  | _ => exact Option.some.inj (Eq.trans (Eq.symm h) h2)
theorem z_newa {atype : ArrayType} {kd N : Nat} {x : Int32} {a0 : vp_A} (hd : zdec X pc = .ok (.newarray atype, 2)) (hw : Cond.arrayClass (newarray.typeOf atype) ∈ zT) (hkd : ∀ D : zD, (zTys D)[kd]? = some (D.2.2.1 kd, newarray.typeOf atype)) (ha : ∀ cA : ClassId, vp_cell cA a0 = arrV cA N (fun _ => defaultValue (newarray.typeOf atype))) (hx : ¬ x < 0) (hN : x.toNatClampNeg = N) (hby : Nat.ble (N * componentBytes (newarray.typeOf atype)) 536870912 = true) (h1 : Nat.ble (cs + 1) X.2.2.2.2.2.1 = true) (h2 : Nat.ble (ss + N) X.2.2.2.2.2.2 = true)
    (kk : (∀ a, sz ≤ a → h a = none) → Z D B X (cs + 1) (ss + N) Q (pc + 2) L (.ref sz :: st) (zup h sz (.inl (kd, a0))) (sz + 1)) : Z D B X cs ss Q pc L (.int x :: st) h sz := by
  intro p l e s m args below meth c H locs ls C hL hV hz hS
  subst hz
  have hts := C.2.2.2.2.1
  have hK := C.2.2.2.2.2.2.2.1.1
  refine va_newaK C.1 C.2.1 (hts _ hw) rfl hd rfl hx hN (Nat.le_of_ble_eq_true hby) (Nat.le_of_ble_eq_true h1) (Nat.le_of_ble_eq_true h2) rfl fun H1 cA e1 z1 o1 hAr hNm => ?_
  have hc := zRA_eq (hK.2 kd _ (hkd D)).2 hNm
  subst hc
  exact kk (fun a ha => hV.new ha) p l e s m args below meth c H1 locs ls C hL (hV.push (e := .inl (kd, a0)) (show H1[_]? = some (vp_cell _ _) by rw [ha]; exact e1) o1) z1 (zS.push hS z1 o1)
theorem z_anew {N : Nat} {x : Int32} (hd : zdec X pc = .ok (.anewarray idx, 3)) (hw : Cond.classLink X.1.cls idx RX2 ∈ zT) (hx : ¬ x < 0) (hN : x.toNatClampNeg = N) (hby : Nat.ble (N * 4) 536870912 = true) (h1 : Nat.ble (cs + 1) X.2.2.2.2.2.1 = true) (h2 : Nat.ble (ss + N) X.2.2.2.2.2.2 = true)
    (kk : (∀ a, sz ≤ a → h a = none) → Z D B X (cs + 1) (ss + N) Q (pc + 3) L (.ref sz :: st) (zup h sz (zRf 3 N (fun _ => none))) (sz + 1)) : Z D B X cs ss Q pc L (.int x :: st) h sz := by
  intro p l e s m args below meth c H locs ls C hL hV hz hS
  subst hz
  subst hN
  have hts := C.2.2.2.2.1
  have hK := C.2.2.2.2.2.2.2.1.1
  refine W.anew C.1 C.2.1 C.2.2.2.1 (hts _ hw) (va_AO.use C.2.2.2.2.2.2.2.1.2.2.2.2.2.2.1) rfl hd rfl hx (Nat.le_of_ble_eq_true hby) (Nat.le_of_ble_eq_true h1) (Nat.le_of_ble_eq_true h2) fun cA kA comp g1 g2 g3 g4 => ?_
  have hc := zRA_eq (hK.2 3 (D.2.2.1 3, .object RX2) rfl).2 g1
  subst hc
  have o1 : ∀ q : Nat, q < H.size → (H.push ({ cls := D.2.2.1 3, slots := Array.replicate x.toNatClampNeg .null, vm := .none } : Cell))[q]? = H[q]? := fun q hq => by
    rw [Array.getElem?_push, if_neg (Nat.ne_of_lt hq)]
  refine kk (fun a ha => hV.new ha) p l e s m args below meth c _ locs ls C hL (hV.push (e := zRf 3 x.toNatClampNeg (fun _ => none)) ?_ o1) (by simp) (zS.push (n := 1) hS (by simp) o1)
  show _ = some (vp_cell _ _)
  rw [vp_cell_q]
  show _ = some (arrV _ _ (fun _ => Value.null))
  rw [← arrV_new]
  simp
/-- new long[8][40] and its like -/
def zMn (h : zH) (sz N M : Nat) : zH := fun a => if a = sz then some (zRf 4 N (fun i => if i < N then some (sz + 1 + i) else none)) else if sz < a ∧ a < sz + 1 + N then some (zJ M (fun _ => 0)) else h a
theorem z_mna {N M : Nat} {x y : Int32} (hd : zdec X pc = .ok (.multianewarray idx 2, 4)) (hw : Cond.classLink X.1.cls idx "[[J" ∈ zT ∧ Cond.arrayClass .long ∈ zT) (hx : ¬ x < 0) (hy : ¬ y < 0) (hN : x.toNatClampNeg = N) (hM : y.toNatClampNeg = M) (hb1 : Nat.ble (N * 4) 536870912 = true) (hb2 : Nat.ble (M * 8) 536870912 = true) (h1 : Nat.ble (cs + (1 + N)) X.2.2.2.2.2.1 = true) (h2 : Nat.ble (ss + (N + N * M)) X.2.2.2.2.2.2 = true)
    (kk : (∀ a, sz ≤ a → h a = none) → Z D B X (cs + 1 + N) (ss + N + N * M) Q (pc + 4) L (.ref sz :: st) (zMn h sz N M) (sz + 1 + N)) : Z D B X cs ss Q pc L (.int y :: .int x :: st) h sz := by
  intro p l e s m args below meth c H locs ls C hL hV hz hS
  subst hz
  subst hN
  subst hM
  have hts := C.2.2.2.2.1
  have hK := C.2.2.2.2.2.2.2.1
  intro T hT Xs
  have hb2' := Nat.le_of_ble_eq_true hb2
  obtain ⟨vm₁, cA, comp, -, fA, fC, hO, -, X', step⟩ := Xs.multianewarray2F (own := X.1.cls) (ty := .long) C.1 C.2.2.2.1 (hts _ hw.1) hK.2.2.2.2.2.2.2 (hts _ hw.2) (g := F0 m pc ls (.int y :: .int x :: st)) rfl (by rw [C.2.1]; exact hd) rfl hx hy (Nat.le_of_ble_eq_true hb1) hb2' (by omega) rfl rfl (Nat.le_of_ble_eq_true h1) (Nat.le_of_ble_eq_true h2)
  have ec1 : D.2.2.1 4 = cA := zRA_eq (hK.1.2 4 (D.2.2.1 4, .array .long) rfl).2 fA
  have ec2 : D.2.2.1 1 = comp := zRA_eq (ty := .long) (hK.1.2 1 (D.2.2.1 1, .long) rfl).2 fC
  subst ec1
  subst ec2
  generalize hF : Jvm.Free.Multi.fill (T.setVm vm₁) (D.2.2.1 4) (D.2.2.1 1) x.toNatClampNeg y.toNatClampNeg (defaultValue .long) x.toNatClampNeg = F at X' step
  have hTh : (T.setVm vm₁).heap = H := hT
  obtain ⟨f1, f2, -, -⟩ := Jvm.Free.Multi.fill_facts (T.setVm vm₁) (D.2.2.1 4) (D.2.2.1 1) x.toNatClampNeg y.toNatClampNeg (defaultValue .long) x.toNatClampNeg
  rw [hF, hTh] at f1 f2
  have hold : ∀ q : Nat, q < H.size → F.heap[q]? = H[q]? := fun q hq => by
    have := Jvm.Free.Multi.fill_old (T.setVm vm₁) (D.2.2.1 4) (D.2.2.1 1) x.toNatClampNeg y.toNatClampNeg (defaultValue .long) (a := q) (by rw [hTh]; exact hq) x.toNatClampNeg
    rw [hF, hTh] at this
    exact this
  have hrow : ∀ j : Nat, j < x.toNatClampNeg → F.heap[H.size + 1 + j]? = some (vp_cell (D.2.2.1 1) (y.toNatClampNeg, .inr (.inl (fun _ => 0)))) := fun j hj => by
    have := Jvm.Free.Multi.fill_inner (T.setVm vm₁) (D.2.2.1 4) (D.2.2.1 1) x.toNatClampNeg y.toNatClampNeg (defaultValue .long) x.toNatClampNeg j hj
    rw [hF, hTh] at this
    rw [this, vp_cell_l]
    show some ({ cls := D.2.2.1 1, slots := Array.replicate y.toNatClampNeg (Value.long 0), vm := .none } : Cell) = _
    rw [arrV_new]
  have hout : Jvm.Free.Multi.outerC (D.2.2.1 4) x.toNatClampNeg H.size x.toNatClampNeg = vp_cell (D.2.2.1 4) (x.toNatClampNeg, .inr (.inr (.inr (.inr (fun i => if i < x.toNatClampNeg then some (H.size + 1 + i) else none))))) := by
    rw [vp_cell_q]
    exact vr_outer (D.2.2.1 4) x.toNatClampNeg H.size x.toNatClampNeg
  rw [hout] at f2
  have f1' : F.heap.size = H.size + 1 + x.toNatClampNeg := by rw [f1]
  have hV1 : zV D (zMn h H.size x.toNatClampNeg y.toNatClampNeg) F.heap := by
    intro b e2 hb
    unfold zMn at hb
    by_cases q1 : b = H.size
    · rw [if_pos q1] at hb
      cases hb
      subst q1
      exact f2
    · rw [if_neg q1] at hb
      by_cases q2 : H.size < b ∧ b < H.size + 1 + x.toNatClampNeg
      · rw [if_pos q2] at hb
        cases hb
        have := hrow (b - (H.size + 1)) (by omega)
        rw [show H.size + 1 + (b - (H.size + 1)) = b by omega] at this
        exact this
      · rw [if_neg q2] at hb
        exact va_at.kept (hV b e2 hb) (hold b (hV.lt hb))
  obtain ⟨t, a1, b1⟩ := kk (fun a ha => hV.new ha) p l e s m args below meth c F.heap locs ls C hL hV1 f1' (zS.push (n := 1 + x.toNatClampNeg) hS (by omega) hold) F rfl X'
  refine ⟨t, step t ?_, b1⟩
  have e9 : T.heap.size = H.size := by rw [hT]
  rw [e9]
  exact a1
theorem z_aast3 {a n v : Nat} {f : Nat → Option Nat} {fs : List Value} {i : Int32} (hd : zdec X pc = .ok (.aastore, 1)) (ha : h a = some (zRf 3 n f)) (hv : h v = some (zO 2 fs)) (hB : B ≤ a) (hin : vp_in i n) (kk : Z D B X cs ss Q (pc + 1) L st (zup h a (zRf 3 n (va_up f i.toNatClampNeg (some v)))) sz) : Z D B X cs ss Q pc L (.ref v :: .int i :: .ref a :: st) h sz := by
  intro p l e s m args below meth c H locs ls C hL hV hz hS
  have hK := C.2.2.2.2.2.2.2.1.1
  have hlt := zLt hin
  have h0 : ¬ i < 0 := fun q => hin (Or.inl q)
  obtain ⟨r', hr', cellV, g1, g2, g3, -⟩ := hV v _ hv
  have hcls := (hK.1 2 (RX2, TX2, 3) rfl).2
  obtain ⟨kA, comp, k1, k2, k3, -⟩ := (hK.2 3 (D.2.2.1 3, .object RX2) rfl).2
  have hcomp : comp = D.1 2 := Option.some.inj (k3.symm.trans hcls.1)
  subst hcomp
  obtain ⟨kC, hkC, -⟩ := hcls.2
  refine W.aast C.1 C.2.1 (hV a _ ha) (fun q h => by cases h) (fun h => by cases h) k1 k2 rfl hkC ⟨h0, by show _ < (arrV _ _ _).slots.size; rw [arrV_size]; exact hlt⟩ g1 (fun q h => by rw [g3] at h; cases h) (by rw [g2]; exact hkC) (by rw [g2]; exact va_assign hcls) rfl rfl hd fun H1 e1 z oq => ?_
  refine kk p l e s m args below meth c H1 _ ls C hL (hV.set (e := zRf 3 n (va_up f i.toNatClampNeg (some v))) ?_ oq) (z.trans hz) (hS.put z oq hB)
  show H1[a]? = some (vp_cell _ _)
  rw [e1]
  show some ((vp_cell _ _).setSlot _ _) = _
  rw [vp_cell_q, vp_cell_q, arrV_store]
  congr 2
  funext q
  by_cases hq : q = i.toNatClampNeg
  · subst hq
    simp [updV, va_up, va_rf]
  · simp [updV, va_up, hq]
/-! ===== constructors, nest mates ===== -/
theorem z_objInit {a : Nat} (hd : zdec X pc = .ok (.invokespecial idx, 3)) (hw : Cond.methodLink X.1.cls idx objectInit ∈ zT ∧ Cond.instanceMethod objectInit ∈ zT ∧ Cond.code objectInit ⟨#[0xb1]⟩ 1 none ∈ zT) (h1 : Nat.ble 1 X.2.2.2.2.1 = true) (h2 : Nat.ble ((st.map fun v => v.category).sum + 12) (36 * X.2.2.2.2.1) = true) (k : Z D B X cs ss Q (pc + 3) L st h sz) : Z D B X cs ss Q pc L (.ref a :: st) h sz := by
  intro p l e s m args below meth c H locs ls C hL hV hz hS
  have hts := C.2.2.2.2.1
  refine W.objInit C.1 C.2.1 C.2.2.2.1 (hts _ hw.1) (hts _ hw.2.1) (hts _ hw.2.2) rfl (hL.1.trans C.2.2.1.symm) rfl hd (Nat.le_of_ble_eq_true h1) ?_ (k p l e s m args below meth c H locs ls C hL hV hz hS)
  have := Nat.le_of_ble_eq_true h2
  show 2 * 0 + _ + 12 ≤ 36 * X.2.2.2.2.1
  omega
theorem z_callI {b : Nat} (hd : zdec X pc = .ok (.invokespecial idx, 3)) (hk : zLk X.1.cls idx Y n) (hi : Cond.instanceMethod Y.1 ∈ zT ∧ Y.1.name = "<init>" ∧ Y.2.2.2.1 = none) (hM : zM D B Y (.ref b :: as) h sz Qy) (hn : as.length = n) (hf : zFits X Y cs ss = true) (hr : Nat.ble ((st.map fun v => v.category).sum) 8 = true)
    (kk : ∀ (r : Option Value) (h1 : zH) (z1 : Nat), Qy r h1 z1 → Z D B X (cs + Y.2.2.2.2.2.1) (ss + Y.2.2.2.2.2.2) Q (pc + 3) L (r.toList ++ st) h1 z1) {st0 : List Value} (hst : st0 = as.reverse ++ .ref b :: st) : Z D B X cs ss Q pc L st0 h sz := by
  subst hst
  intro p l e s m args below meth c H locs ls C hL hV hz hS
  obtain ⟨hf1, hf2⟩ := zFits_ok hf
  have hts := C.2.2.2.2.1
  have hKs := C.2.2.2.2.2.2.2.1
  have hcd := hk.2.2.1
  have hws : zWs Y = Cond.code Y.1 Y.2.1 Y.2.2.1 none :: zT := by unfold zWs; rw [hi.2.2]
  refine z_go (va_runI (nL := X.2.2.1) (own := X.1.cls) (Ts := zT) (cc := X.2.1) (bytes := Y.2.1) (maxL := Y.2.2.1) (ws := zWs Y) (rm := zRoom Y) (As := as) (rest := st) ⟨C.1, C.2.1, C.2.2.1, C.2.2.2.1, hts⟩ (hM l) ⟨callB_of n hts (zGood hk.2.2.1) hws rfl rfl (hts _ hk.2.1) (hts _ hk.1) hk.2.2.2 hf1, hi.2.1, hts _ hi.1⟩ ⟨zBlind, fun U hU hW => zPre hKs hV hz hS C.2.2.2.2.2.2.2.2.2 hU hW⟩ rfl hn hL.1 rfl (zRest hr) hd hf2) hS (fun r h1 H1 locs1 hq hV1 hS1 => ?_)
  exact kk r h1 _ hq p l e s m args below meth c H1 locs1 ls C hL hV1 rfl hS1
/-- entry idx of own's pool is the nest mate's private method Y -/
def zLn (own : String) (idx : Nat) (Y : zX) (n : Nat) : Prop := (∃ host : String, (own, idx, Y.1, host) ∈ zNs) ∧ Cond.initialized Y.1.cls ∈ zT ∧ Cond.code Y.1 Y.2.1 Y.2.2.1 Y.2.2.2.1 ∈ zT ∧ (Y.1.cls ≠ "java/lang/invoke/MethodHandle" ∧ Y.1.cls ≠ "java/lang/invoke/VarHandle" ∧ (parseMethodDescriptor Y.1.desc).map (fun d => d.parameters.length) = some n)
theorem z_callIN {b : Nat} (hd : zdec X pc = .ok (.invokespecial idx, 3)) (hk : zLn X.1.cls idx Y n) (hi : Cond.instanceMethod Y.1 ∈ zT ∧ Y.1.name = "<init>" ∧ Y.2.2.2.1 = none) (hM : zM D B Y (.ref b :: as) h sz Qy) (hn : as.length = n) (hf : zFits X Y cs ss = true) (hr : Nat.ble ((st.map fun v => v.category).sum) 8 = true)
    (kk : ∀ (r : Option Value) (h1 : zH) (z1 : Nat), Qy r h1 z1 → Z D B X (cs + Y.2.2.2.2.2.1) (ss + Y.2.2.2.2.2.2) Q (pc + 3) L (r.toList ++ st) h1 z1) {st0 : List Value} (hst : st0 = as.reverse ++ .ref b :: st) : Z D B X cs ss Q pc L st0 h sz := by
  subst hst
  intro p l e s m args below meth c H locs ls C hL hV hz hS
  obtain ⟨hf1, hf2⟩ := zFits_ok hf
  have hts := C.2.2.2.2.1
  have hKs := C.2.2.2.2.2.2.2.1
  obtain ⟨⟨host, hho⟩, hini, hcd, hds⟩ := hk
  have hws : zWs Y = Cond.code Y.1 Y.2.1 Y.2.2.1 none :: zT := by unfold zWs; rw [hi.2.2]
  have hl := hKs.2.2.2.2.2.1 _ hho
  refine z_go (va_runIN (nL := X.2.2.1) (own := X.1.cls) (host := host) (Ts := zT) (cc := X.2.1) (bytes := Y.2.1) (maxL := Y.2.2.1) (ws := zWs Y) (rm := zRoom Y) (As := as) (rest := st) ⟨C.1, C.2.1, C.2.2.1, C.2.2.2.1, hts⟩ (hM l) ⟨va_cnB n hts (zGood hcd) hws rfl rfl hl (hts _ hini) hds hf1, hi.2.1, hts _ hi.1⟩ ⟨zBlind, fun U hU hW => zPre hKs hV hz hS C.2.2.2.2.2.2.2.2.2 hU hW⟩ rfl hn hL.1 rfl (zRest hr) hd hf2) hS (fun r h1 H1 locs1 hq hV1 hS1 => ?_)
  exact kk r h1 _ hq p l e s m args below meth c H1 locs1 ls C hL hV1 rfl hS1
theorem z_callSN (hd : zdec X pc = .ok (.invokestatic idx, 3)) (hk : zLn X.1.cls idx Y n) (hi : Cond.static Y.1 ∈ zT) (hM : zM D B Y as h sz Qy) (hn : as.length = n) (hf : zFits X Y cs ss = true) (hr : Nat.ble ((st.map fun v => v.category).sum) 8 = true)
    (kk : ∀ (r : Option Value) (h1 : zH) (z1 : Nat), Qy r h1 z1 → Z D B X (cs + Y.2.2.2.2.2.1) (ss + Y.2.2.2.2.2.2) Q (pc + 3) L (r.toList ++ st) h1 z1) {st0 : List Value} (hst : st0 = as.reverse ++ st) : Z D B X cs ss Q pc L st0 h sz := by
  subst hst
  intro p l e s m args below meth c H locs ls C hL hV hz hS
  obtain ⟨hf1, hf2⟩ := zFits_ok hf
  have hts := C.2.2.2.2.1
  have hKs := C.2.2.2.2.2.2.2.1
  obtain ⟨⟨host, hho⟩, hini, hcd, hds⟩ := hk
  have hl := hKs.2.2.2.2.2.1 _ hho
  refine z_go (va_runSN (nL := X.2.2.1) (own := X.1.cls) (host := host) (Ts := zT) (cc := X.2.1) (bytes := Y.2.1) (maxL := Y.2.2.1) (ret := Y.2.2.2.1) (ws := zWs Y) (rm := zRoom Y) (As := as) (rest := st) ⟨C.1, C.2.1, C.2.2.1, C.2.2.2.1, hts⟩ (hM l) ⟨va_cnB n hts (zGood hcd) rfl rfl rfl hl (hts _ hini) hds hf1, hts _ hi, trivial⟩ ⟨zBlind, fun U hU hW => zPre hKs hV hz hS C.2.2.2.2.2.2.2.2.2 hU hW⟩ rfl hn hL.1 rfl (zRest hr) hd hf2) hS (fun r h1 H1 locs1 hq hV1 hS1 => ?_)
  exact kk r h1 _ hq p l e s m args below meth c H1 locs1 ls C hL hV1 rfl hS1
/-! ===== statics, texts, copies ===== -/
theorem z_under (hd : zdec X pc = .ok (.getstatic idx, 3)) (hl : Cond.fieldLink X.1.cls idx "ReadOutAlongTheWay" "UNDER" "[I" ∈ zT) (k : Z D B X cs ss Q (pc + 3) L (.ref D.2.2.2.2.2 :: st) h sz) : Z D B X cs ss Q pc L st h sz := by
  intro p l e s m args below meth c H locs ls C hL hV hz hS
  exact va_gets C.1 C.2.1 C.2.2.2.2.2.2.2.1.2.1 hS C.2.2.2.1 (C.2.2.2.2.1 _ hl) (fun _ h9 => h9) hd (k p l e s m args below meth c H locs ls C hL hV hz hS)
theorem z_compact (hd : zdec X pc = .ok (.getstatic idx, 3)) (hl : Cond.fieldLink X.1.cls idx "java/lang/String" "COMPACT_STRINGS" "Z" ∈ zT) (k : Z D B X cs ss Q (pc + 3) L (.int 1 :: st) h sz) : Z D B X cs ss Q pc L st h sz := by
  intro p l e s m args below meth c H locs ls C hL hV hz hS
  exact va_gets C.1 C.2.1 C.2.2.2.2.2.2.2.1.2.2.1 hS C.2.2.2.1 (C.2.2.2.2.1 _ hl) (fun _ h9 => h9) hd (k p l e s m args below meth c H locs ls C hL hV hz hS)
theorem z_ldcS {tx : String} {i : Nat} (hd : zdec X pc = .ok (.ldc idx, 2)) (hi : (X.1.cls, idx, tx, i) ∈ zSt) (k : Z D B X cs ss Q (pc + 2) L (.ref (D.2.2.2.1 i) :: st) h sz) : Z D B X cs ss Q pc L st h sz := by
  intro p l e s m args below meth c H locs ls C hL hV hz hS
  exact va_ldcS C.1 C.2.1 C.2.2.2.1 (C.2.2.2.2.2.2.2.1.2.2.2.2.1 _ hi) hd (k p l e s m args below meth c H locs ls C hL hV hz hS)
/-- a text's bytes -/
theorem z_getV {i : Nat} (hd : zdec X pc = .ok (.getfield idx, 3)) (hl : Cond.fieldLink X.1.cls idx "java/lang/String" "value" "[B" ∈ zT) (hi : i < 8) (k : Z D B X cs ss Q (pc + 3) L (.ref (D.2.2.2.2.1 i) :: st) h sz) : Z D B X cs ss Q pc L (.ref (D.2.2.2.1 i) :: st) h sz := by
  intro p l e s m args below meth c H locs ls C hL hV hz hS
  obtain ⟨cf, kf, fi, f, cell, h1, h2, h3, h4, h5, h6⟩ := va_OF.kept ((C.2.2.2.2.2.2.2.1.2.2.2.1.1 i hi).2.2.1) hS.2.1
  exact W.getf C.1 C.2.1 C.2.2.2.1 (C.2.2.2.2.1 _ hl) h1 h2 h3 h4 h5 rfl rfl hd (k p l e s m args below meth c H locs ls C hL hV hz hS)
theorem z_getC {i : Nat} (hd : zdec X pc = .ok (.getfield idx, 3)) (hl : Cond.fieldLink X.1.cls idx "java/lang/String" "coder" "B" ∈ zT) (hi : i < 8) (k : Z D B X cs ss Q (pc + 3) L (.int 0 :: st) h sz) : Z D B X cs ss Q pc L (.ref (D.2.2.2.1 i) :: st) h sz := by
  intro p l e s m args below meth c H locs ls C hL hV hz hS
  obtain ⟨cf, kf, fi, f, cell, h1, h2, h3, h4, h5, h6⟩ := va_OF.kept ((C.2.2.2.2.2.2.2.1.2.2.2.1.1 i hi).2.1) hS.2.1
  exact W.getf C.1 C.2.1 C.2.2.2.1 (C.2.2.2.2.1 _ hl) h1 h2 h3 h4 h5 rfl rfl hd (k p l e s m args below meth c H locs ls C hL hV hz hS)
theorem z_lenV {i : Nat} (hd : zdec X pc = .ok (.arraylength, 1)) (hi : i < 8) (k : Z D B X cs ss Q (pc + 1) L (.int (Int32.ofNat (zLen.getD i 0)) :: st) h sz) : Z D B X cs ss Q pc L (.ref (D.2.2.2.2.1 i) :: st) h sz := by
  intro p l e s m args below meth c H locs ls C hL hV hz hS
  exact va_tlen C.1 C.2.1 ((C.2.2.2.2.2.2.2.1.2.2.2.1.1 i hi).2.2.2) hS rfl hd (k p l e s m args below meth c H locs ls C hL hV hz hS)
theorem z_baldV {i : Nat} {j : Int32} (hd : zdec X pc = .ok (.baload, 1)) (hi : i < 8) (hin : vp_in j (zLen.getD i 0)) (k : Z D B X cs ss Q (pc + 1) L (.int ((zByt.getD i []).getD j.toNatClampNeg 0) :: st) h sz) : Z D B X cs ss Q pc L (.int j :: .ref (D.2.2.2.2.1 i) :: st) h sz := by
  intro p l e s m args below meth c H locs ls C hL hV hz hS
  exact va_tb C.1 C.2.1 ((C.2.2.2.2.2.2.2.1.2.2.2.1.1 i hi).2.2.2) hS hin rfl hd (k p l e s m args below meth c H locs ls C hL hV hz hS)
/-- a call on a text constant -/
theorem z_callT {i : Nat} (hd : zdec X pc = .ok (.invokevirtual idx, 3)) (hk : zLk X.1.cls idx Y n) (hi : Cond.instanceMethod Y.1 ∈ zT ∧ Cond.selects Y.1.cls Y.1 Y.1 ∈ zT) (hY : Y.1.cls = "java/lang/String") (hb : i < 8) (hM : zM D B Y (.ref (D.2.2.2.1 i) :: as) h sz Qy) (hn : as.length = n) (hf : zFits X Y cs ss = true) (hr : Nat.ble ((st.map fun v => v.category).sum) 8 = true)
    (kk : ∀ (r : Option Value) (h1 : zH) (z1 : Nat), Qy r h1 z1 → Z D B X (cs + Y.2.2.2.2.2.1) (ss + Y.2.2.2.2.2.2) Q (pc + 3) L (r.toList ++ st) h1 z1) {st0 : List Value} (hst : st0 = as.reverse ++ .ref (D.2.2.2.1 i) :: st) : Z D B X cs ss Q pc L st0 h sz := by
  subst hst
  intro p l e s m args below meth c H locs ls C hL hV hz hS
  obtain ⟨hf1, hf2⟩ := zFits_ok hf
  have hts := C.2.2.2.2.1
  have hKs := C.2.2.2.2.2.2.2.1
  have hrecv : ∃ cellB : Cell, H[D.2.2.2.1 i]? = some cellB ∧ cellB.vm.isStatics = false ∧ s.vm.findClass Y.1.cls = some cellB.cls := by
    obtain ⟨cell, g1, g2, g3, -⟩ := va_O.kept ((hKs.2.2.2.1.1 i hb).1) hS.2.1
    exact ⟨cell, g1, g2, by rw [hY]; exact g3⟩
  refine z_go (va_runV (nL := X.2.2.1) (own := X.1.cls) (Ts := zT) (cc := X.2.1) (C := Y.1.cls) (bytes := Y.2.1) (maxL := Y.2.2.1) (ret := Y.2.2.2.1) (ws := zWs Y) (rm := zRoom Y) (As := as) (rest := st) ⟨C.1, C.2.1, C.2.2.1, C.2.2.2.1, hts⟩ (hM l) ⟨callB_of n hts (zGood hk.2.2.1) rfl rfl rfl (hts _ hk.2.1) (hts _ hk.1) hk.2.2.2 hf1, hts _ hi.1, hts _ hi.2⟩ ⟨zBlind, hrecv, fun U hU hW => zPre hKs hV hz hS C.2.2.2.2.2.2.2.2.2 hU hW⟩ rfl hn hL.1 rfl (zRest hr) hd hf2) hS (fun r h1 H1 locs1 hq hV1 hS1 => ?_)
  exact kk r h1 _ hq p l e s m args below meth c H1 locs1 ls C hL hV1 rfl hS1
def zCp (own : String) (idx : Nat) : Prop := Cond.methodLink own idx arraycopyName ∈ zT ∧ Cond.native arraycopyName ∈ zT ∧ Cond.static arraycopyName ∈ zT ∧ Cond.initialized "java/lang/System" ∈ zT
theorem zCat (st : List Value) (n w : Nat) (h : Nat.ble ((st.map fun v => v.category).sum + w) n = true) : (st.map fun v => v.category).sum + w ≤ n := Nat.le_of_ble_eq_true h
theorem z_copyI {a b n0 n1 : Nat} {f g : Nat → Int32} {sp dp x : Int32} (hd : zdec X pc = .ok (.invokestatic idx, 3)) (hw : zCp X.1.cls idx) (ha : h a = some (zI n0 f)) (hb : h b = some (zI n1 g)) (hB : B ≤ b) (h1 : ¬ sp < 0) (h2 : ¬ dp < 0) (h3 : ¬ x < 0) (h4 : sp.toNatClampNeg + x.toNatClampNeg ≤ n0) (h5 : dp.toNatClampNeg + x.toNatClampNeg ≤ n1) (hf : Nat.ble 1 X.2.2.2.2.1 = true) (hlo : Nat.ble ((st.map fun v => v.category).sum + (nativeFrameWords "java/lang/System" "arraycopy" 5 + 11)) (36 * X.2.2.2.2.1) = true)
    (k : Z D B X cs ss Q (pc + 3) L st (zup h b (zI n1 (va_cpy f g sp.toNatClampNeg dp.toNatClampNeg x.toNatClampNeg))) sz) : Z D B X cs ss Q pc L (.int x :: .int dp :: .ref b :: .int sp :: .ref a :: st) h sz := by
  intro p l e s m args below meth c H locs ls C hL hV hz hS
  have hts := C.2.2.2.2.1
  have hK := C.2.2.2.2.2.2.2.1.1
  have nn : ∀ z : Int32, ¬ z < 0 → z.toInt = (z.toNatClampNeg : Int) := by
    intro z hz
    have hz0 : (0 : Int) ≤ z.toInt := by
      have := Int32.not_lt.mp hz
      simpa using Int32.le_iff_toInt_le.mp this
    show z.toInt = ((z.toInt.toNat : Nat) : Int)
    omega
  intro T hT Xs
  have hc0 : H[a]? = some (vp_cell (D.2.2.1 0) (n0, .inl f)) := hV a _ ha
  have hc1 : H[b]? = some (vp_cell (D.2.2.1 0) (n1, .inl g)) := hV b _ hb
  obtain ⟨-, k0, hk0, cm0, hkk0⟩ := (hK.2 0 (D.2.2.1 0, .int) rfl).1 n0 (fun j => .int (f j))
  obtain ⟨-, k1, hk1, cm1, hkk1⟩ := (hK.2 0 (D.2.2.1 0, .int) rfl).1 n1 (fun j => .int (g j))
  have hlo2 := Nat.le_of_ble_eq_true hlo
  obtain ⟨vm', X', step⟩ := Xs.arraycopy C.1 C.2.2.2.1 (hts _ hw.1) (hts _ hw.2.1) (hts _ hw.2.2.1) (hts _ hw.2.2.2) (src := a) (dst := b) (cs := vp_cell (D.2.2.1 0) (n0, .inl f)) (cd := vp_cell (D.2.2.1 0) (n1, .inl g)) (srcPos := sp) (destPos := dp) (n := x) (by rw [hT]; exact hc0) (by rw [hT]; exact hc1)
    (fun _ h => by cases h) (fun _ h => by cases h) (fun h => by cases h) (fun h => by cases h) hk0 hk1 hkk0 hkk1 rfl h1 h2 h3
    (by rw [nn sp h1, nn x h3]; show ¬ _ > ((arrV (D.2.2.1 0) n0 (fun j => .int (f j))).slots.size : Int); rw [arrV_size]; omega)
    (by rw [nn dp h2, nn x h3]; show ¬ _ > ((arrV (D.2.2.1 0) n1 (fun j => .int (g j))).slots.size : Int); rw [arrV_size]; omega)
    (fun vm₁ _ i hi => by
      have e : (vp_cell (D.2.2.1 0) (n0, .inl f)).slots.getD (sp.toNatClampNeg + i) .null = .int (f (sp.toNatClampNeg + i)) := by
        show (arrV (D.2.2.1 0) n0 (fun j => .int (f j))).slots.getD _ _ = _
        rw [Array.getD_eq_getD_getElem?, arrV_read _ _ (by omega)]
        rfl
      refine ⟨?_, ?_⟩
      · rw [e]
        rfl
      · rw [e]
        exact trivial)
    (g := F0 m pc ls (.int x :: .int dp :: .ref b :: .int sp :: .ref a :: st)) rfl (hL.1.trans C.2.2.1.symm) (rest := st) rfl (by rw [C.2.1]; exact hd) (Nat.le_of_ble_eq_true hf) (by show 2 * 0 + _ + _ ≤ 36 * X.2.2.2.2.1; omega)
  have e1 : copied (vp_cell (D.2.2.1 0) (n0, .inl f)) (vp_cell (D.2.2.1 0) (n1, .inl g)) sp dp x = vp_cell (D.2.2.1 0) (n1, .inl (va_cpy f g sp.toNatClampNeg dp.toNatClampNeg x.toNatClampNeg)) := va_copied (fun z => .int z) (D.2.2.1 0) (D.2.2.1 0) f g h4
  rw [e1] at X' step
  have hl : b < H.size := (Array.getElem?_eq_some_iff.mp hc1).1
  generalize hcell : vp_cell (D.2.2.1 0) (n1, .inl (va_cpy f g sp.toNatClampNeg dp.toNatClampNeg x.toNatClampNeg)) = cellN at X' step
  have hheap : ((T.setVm vm').setCell b cellN).heap = H.setIfInBounds b cellN := by rw [← hT]; rfl
  have oq : ∀ q : Nat, q ≠ b → (H.setIfInBounds b cellN)[q]? = H[q]? := fun q hq => by simp [Array.getElem?_setIfInBounds, Ne.symm hq]
  obtain ⟨t, a1, b1⟩ := k p l e s m args below meth c (H.setIfInBounds b cellN) _ ls C hL (hV.set (e := zI n1 (va_cpy f g sp.toNatClampNeg dp.toNatClampNeg x.toNatClampNeg)) (show (H.setIfInBounds b cellN)[b]? = some _ by rw [← hcell]; simp [Array.getElem?_setIfInBounds, hl]) oq) (by simp; exact hz) ⟨by simp; exact hS.1, fun q g1 g2 => by
      rw [oq q (fun e => g2 (by rw [e]; exact hB))]
      exact hS.2.1 q g1 g2, fun q hq => by
      rcases List.mem_append.mp hq with h | h
      · exact hS.2.2 q h
      · obtain ⟨z, -, hz⟩ := List.mem_map.mp h
        rw [← hz]
        exact hB⟩ _ hheap X'
  exact ⟨t, step t a1, b1⟩
theorem z_copyJ {a b n0 n1 : Nat} {f g : Nat → Int64} {sp dp x : Int32} (hd : zdec X pc = .ok (.invokestatic idx, 3)) (hw : zCp X.1.cls idx) (ha : h a = some (zJ n0 f)) (hb : h b = some (zJ n1 g)) (hB : B ≤ b) (h1 : ¬ sp < 0) (h2 : ¬ dp < 0) (h3 : ¬ x < 0) (h4 : sp.toNatClampNeg + x.toNatClampNeg ≤ n0) (h5 : dp.toNatClampNeg + x.toNatClampNeg ≤ n1) (hf : Nat.ble 1 X.2.2.2.2.1 = true) (hlo : Nat.ble ((st.map fun v => v.category).sum + (nativeFrameWords "java/lang/System" "arraycopy" 5 + 11)) (36 * X.2.2.2.2.1) = true)
    (k : Z D B X cs ss Q (pc + 3) L st (zup h b (zJ n1 (va_cpy f g sp.toNatClampNeg dp.toNatClampNeg x.toNatClampNeg))) sz) : Z D B X cs ss Q pc L (.int x :: .int dp :: .ref b :: .int sp :: .ref a :: st) h sz := by
  intro p l e s m args below meth c H locs ls C hL hV hz hS
  have hts := C.2.2.2.2.1
  have hK := C.2.2.2.2.2.2.2.1.1
  have nn : ∀ z : Int32, ¬ z < 0 → z.toInt = (z.toNatClampNeg : Int) := by
    intro z hz
    have hz0 : (0 : Int) ≤ z.toInt := by
      have := Int32.not_lt.mp hz
      simpa using Int32.le_iff_toInt_le.mp this
    show z.toInt = ((z.toInt.toNat : Nat) : Int)
    omega
  intro T hT Xs
  have hc0 : H[a]? = some (vp_cell (D.2.2.1 1) (n0, .inr (.inl f))) := hV a _ ha
  have hc1 : H[b]? = some (vp_cell (D.2.2.1 1) (n1, .inr (.inl g))) := hV b _ hb
  obtain ⟨-, k0, hk0, cm0, hkk0⟩ := (hK.2 1 (D.2.2.1 1, .long) rfl).1 n0 (fun j => .long (f j))
  obtain ⟨-, k1, hk1, cm1, hkk1⟩ := (hK.2 1 (D.2.2.1 1, .long) rfl).1 n1 (fun j => .long (g j))
  have hlo2 := Nat.le_of_ble_eq_true hlo
  obtain ⟨vm', X', step⟩ := Xs.arraycopy C.1 C.2.2.2.1 (hts _ hw.1) (hts _ hw.2.1) (hts _ hw.2.2.1) (hts _ hw.2.2.2) (src := a) (dst := b) (cs := vp_cell (D.2.2.1 1) (n0, .inr (.inl f))) (cd := vp_cell (D.2.2.1 1) (n1, .inr (.inl g))) (srcPos := sp) (destPos := dp) (n := x) (by rw [hT]; exact hc0) (by rw [hT]; exact hc1)
    (fun _ h => by cases h) (fun _ h => by cases h) (fun h => by cases h) (fun h => by cases h) hk0 hk1 hkk0 hkk1 rfl h1 h2 h3
    (by rw [nn sp h1, nn x h3]; show ¬ _ > ((arrV (D.2.2.1 1) n0 (fun j => .long (f j))).slots.size : Int); rw [arrV_size]; omega)
    (by rw [nn dp h2, nn x h3]; show ¬ _ > ((arrV (D.2.2.1 1) n1 (fun j => .long (g j))).slots.size : Int); rw [arrV_size]; omega)
    (fun vm₁ _ i hi => by
      have e : (vp_cell (D.2.2.1 1) (n0, .inr (.inl f))).slots.getD (sp.toNatClampNeg + i) .null = .long (f (sp.toNatClampNeg + i)) := by
        show (arrV (D.2.2.1 1) n0 (fun j => .long (f j))).slots.getD _ _ = _
        rw [Array.getD_eq_getD_getElem?, arrV_read _ _ (by omega)]
        rfl
      refine ⟨?_, ?_⟩
      · rw [e]
        rfl
      · rw [e]
        exact trivial)
    (g := F0 m pc ls (.int x :: .int dp :: .ref b :: .int sp :: .ref a :: st)) rfl (hL.1.trans C.2.2.1.symm) (rest := st) rfl (by rw [C.2.1]; exact hd) (Nat.le_of_ble_eq_true hf) (by show 2 * 0 + _ + _ ≤ 36 * X.2.2.2.2.1; omega)
  have e1 : copied (vp_cell (D.2.2.1 1) (n0, .inr (.inl f))) (vp_cell (D.2.2.1 1) (n1, .inr (.inl g))) sp dp x = vp_cell (D.2.2.1 1) (n1, .inr (.inl (va_cpy f g sp.toNatClampNeg dp.toNatClampNeg x.toNatClampNeg))) := va_copied (fun z => .long z) (D.2.2.1 1) (D.2.2.1 1) f g h4
  rw [e1] at X' step
  have hl : b < H.size := (Array.getElem?_eq_some_iff.mp hc1).1
  generalize hcell : vp_cell (D.2.2.1 1) (n1, .inr (.inl (va_cpy f g sp.toNatClampNeg dp.toNatClampNeg x.toNatClampNeg))) = cellN at X' step
  have hheap : ((T.setVm vm').setCell b cellN).heap = H.setIfInBounds b cellN := by rw [← hT]; rfl
  have oq : ∀ q : Nat, q ≠ b → (H.setIfInBounds b cellN)[q]? = H[q]? := fun q hq => by simp [Array.getElem?_setIfInBounds, Ne.symm hq]
  obtain ⟨t, a1, b1⟩ := k p l e s m args below meth c (H.setIfInBounds b cellN) _ ls C hL (hV.set (e := zJ n1 (va_cpy f g sp.toNatClampNeg dp.toNatClampNeg x.toNatClampNeg)) (show (H.setIfInBounds b cellN)[b]? = some _ by rw [← hcell]; simp [Array.getElem?_setIfInBounds, hl]) oq) (by simp; exact hz) ⟨by simp; exact hS.1, fun q g1 g2 => by
      rw [oq q (fun e => g2 (by rw [e]; exact hB))]
      exact hS.2.1 q g1 g2, fun q hq => by
      rcases List.mem_append.mp hq with h | h
      · exact hS.2.2 q h
      · obtain ⟨z, -, hz⟩ := List.mem_map.mp h
        rw [← hz]
        exact hB⟩ _ hheap X'
  exact ⟨t, step t a1, b1⟩
theorem z_copyJs {b n1 : Nat} {g : Nat → Int64} {sp dp x : Int32} (hd : zdec X pc = .ok (.invokestatic idx, 3)) (hw : zCp X.1.cls idx) (hb : h b = some (zJ n1 g)) (hB : B ≤ b) (h1 : ¬ sp < 0) (h2 : ¬ dp < 0) (h3 : ¬ x < 0) (h4 : sp.toNatClampNeg + x.toNatClampNeg ≤ n1) (h5 : dp.toNatClampNeg + x.toNatClampNeg ≤ n1) (hf : Nat.ble 1 X.2.2.2.2.1 = true) (hlo : Nat.ble ((st.map fun v => v.category).sum + (nativeFrameWords "java/lang/System" "arraycopy" 5 + 11)) (36 * X.2.2.2.2.1) = true)
    (k : Z D B X cs ss Q (pc + 3) L st (zup h b (zJ n1 (va_cpy g g sp.toNatClampNeg dp.toNatClampNeg x.toNatClampNeg))) sz) : Z D B X cs ss Q pc L (.int x :: .int dp :: .ref b :: .int sp :: .ref b :: st) h sz := by
  intro p l e s m args below meth c H locs ls C hL hV hz hS
  have hts := C.2.2.2.2.1
  have hK := C.2.2.2.2.2.2.2.1.1
  have nn : ∀ z : Int32, ¬ z < 0 → z.toInt = (z.toNatClampNeg : Int) := by
    intro z hz
    have hz0 : (0 : Int) ≤ z.toInt := by
      have := Int32.not_lt.mp hz
      simpa using Int32.le_iff_toInt_le.mp this
    show z.toInt = ((z.toInt.toNat : Nat) : Int)
    omega
  intro T hT Xs
  have hc0 : H[b]? = some (vp_cell (D.2.2.1 1) (n1, .inr (.inl g))) := hV b _ hb
  have hc1 : H[b]? = some (vp_cell (D.2.2.1 1) (n1, .inr (.inl g))) := hV b _ hb
  obtain ⟨-, k0, hk0, cm0, hkk0⟩ := (hK.2 1 (D.2.2.1 1, .long) rfl).1 n1 (fun j => .long (g j))
  obtain ⟨-, k1, hk1, cm1, hkk1⟩ := (hK.2 1 (D.2.2.1 1, .long) rfl).1 n1 (fun j => .long (g j))
  have hlo2 := Nat.le_of_ble_eq_true hlo
  obtain ⟨vm', X', step⟩ := Xs.arraycopy C.1 C.2.2.2.1 (hts _ hw.1) (hts _ hw.2.1) (hts _ hw.2.2.1) (hts _ hw.2.2.2) (src := b) (dst := b) (cs := vp_cell (D.2.2.1 1) (n1, .inr (.inl g))) (cd := vp_cell (D.2.2.1 1) (n1, .inr (.inl g))) (srcPos := sp) (destPos := dp) (n := x) (by rw [hT]; exact hc0) (by rw [hT]; exact hc1)
    (fun _ h => by cases h) (fun _ h => by cases h) (fun h => by cases h) (fun h => by cases h) hk0 hk1 hkk0 hkk1 rfl h1 h2 h3
    (by rw [nn sp h1, nn x h3]; show ¬ _ > ((arrV (D.2.2.1 1) n1 (fun j => .long (g j))).slots.size : Int); rw [arrV_size]; omega)
    (by rw [nn dp h2, nn x h3]; show ¬ _ > ((arrV (D.2.2.1 1) n1 (fun j => .long (g j))).slots.size : Int); rw [arrV_size]; omega)
    (fun vm₁ _ i hi => by
      have e : (vp_cell (D.2.2.1 1) (n1, .inr (.inl g))).slots.getD (sp.toNatClampNeg + i) .null = .long (g (sp.toNatClampNeg + i)) := by
        show (arrV (D.2.2.1 1) n1 (fun j => .long (g j))).slots.getD _ _ = _
        rw [Array.getD_eq_getD_getElem?, arrV_read _ _ (by omega)]
        rfl
      refine ⟨?_, ?_⟩
      · rw [e]
        rfl
      · rw [e]
        exact trivial)
    (g := F0 m pc ls (.int x :: .int dp :: .ref b :: .int sp :: .ref b :: st)) rfl (hL.1.trans C.2.2.1.symm) (rest := st) rfl (by rw [C.2.1]; exact hd) (Nat.le_of_ble_eq_true hf) (by show 2 * 0 + _ + _ ≤ 36 * X.2.2.2.2.1; omega)
  have e1 : copied (vp_cell (D.2.2.1 1) (n1, .inr (.inl g))) (vp_cell (D.2.2.1 1) (n1, .inr (.inl g))) sp dp x = vp_cell (D.2.2.1 1) (n1, .inr (.inl (va_cpy g g sp.toNatClampNeg dp.toNatClampNeg x.toNatClampNeg))) := va_copied (fun z => .long z) (D.2.2.1 1) (D.2.2.1 1) g g h4
  rw [e1] at X' step
  have hl : b < H.size := (Array.getElem?_eq_some_iff.mp hc1).1
  generalize hcell : vp_cell (D.2.2.1 1) (n1, .inr (.inl (va_cpy g g sp.toNatClampNeg dp.toNatClampNeg x.toNatClampNeg))) = cellN at X' step
  have hheap : ((T.setVm vm').setCell b cellN).heap = H.setIfInBounds b cellN := by rw [← hT]; rfl
  have oq : ∀ q : Nat, q ≠ b → (H.setIfInBounds b cellN)[q]? = H[q]? := fun q hq => by simp [Array.getElem?_setIfInBounds, Ne.symm hq]
  obtain ⟨t, a1, b1⟩ := k p l e s m args below meth c (H.setIfInBounds b cellN) _ ls C hL (hV.set (e := zJ n1 (va_cpy g g sp.toNatClampNeg dp.toNatClampNeg x.toNatClampNeg)) (show (H.setIfInBounds b cellN)[b]? = some _ by rw [← hcell]; simp [Array.getElem?_setIfInBounds, hl]) oq) (by simp; exact hz) ⟨by simp; exact hS.1, fun q g1 g2 => by
      rw [oq q (fun e => g2 (by rw [e]; exact hB))]
      exact hS.2.1 q g1 g2, fun q hq => by
      rcases List.mem_append.mp hq with h | h
      · exact hS.2.2 q h
      · obtain ⟨z, -, hz⟩ := List.mem_map.mp h
        rw [← hz]
        exact hB⟩ _ hheap X'
  exact ⟨t, step t a1, b1⟩
end ZN
end
section
def zOk (f : Nat → Except DecodeError (Instr × Nat)) (l : List (Nat × Instr × Nat)) : Bool := l.all (fun q => decide (f q.1 = .ok q.2))
theorem zOk_mem {f : Nat → Except DecodeError (Instr × Nat)} {l : List (Nat × Instr × Nat)} (h : zOk f l = true) {q : Nat × Instr × Nat} (hq : q ∈ l) : f q.1 = .ok q.2 := of_decide_eq_true (List.all_eq_true.mp h q hq)
theorem zk0 {X : zX} { l} {pc : Nat} {i : Instr} {n : Nat} (h : zOk (zdec X) ((pc, i, n) :: l) = true) : zdec X pc = .ok (i, n) := zOk_mem (q := (pc, i, n)) h (.head _)
theorem zk1 {X : zX} {a0 l} {pc : Nat} {i : Instr} {n : Nat} (h : zOk (zdec X) (a0 :: (pc, i, n) :: l) = true) : zdec X pc = .ok (i, n) := zOk_mem (q := (pc, i, n)) h (.tail _ (.head _))
theorem zk2 {X : zX} {a0 a1 l} {pc : Nat} {i : Instr} {n : Nat} (h : zOk (zdec X) (a0 :: a1 :: (pc, i, n) :: l) = true) : zdec X pc = .ok (i, n) := zOk_mem (q := (pc, i, n)) h (.tail _ (.tail _ (.head _)))
theorem zk3 {X : zX} {a0 a1 a2 l} {pc : Nat} {i : Instr} {n : Nat} (h : zOk (zdec X) (a0 :: a1 :: a2 :: (pc, i, n) :: l) = true) : zdec X pc = .ok (i, n) := zOk_mem (q := (pc, i, n)) h (.tail _ (.tail _ (.tail _ (.head _))))
theorem zk4 {X : zX} {a0 a1 a2 a3 l} {pc : Nat} {i : Instr} {n : Nat} (h : zOk (zdec X) (a0 :: a1 :: a2 :: a3 :: (pc, i, n) :: l) = true) : zdec X pc = .ok (i, n) := zOk_mem (q := (pc, i, n)) h (.tail _ (.tail _ (.tail _ (.tail _ (.head _)))))
theorem zk5 {X : zX} {a0 a1 a2 a3 a4 l} {pc : Nat} {i : Instr} {n : Nat} (h : zOk (zdec X) (a0 :: a1 :: a2 :: a3 :: a4 :: (pc, i, n) :: l) = true) : zdec X pc = .ok (i, n) := zOk_mem (q := (pc, i, n)) h (.tail _ (.tail _ (.tail _ (.tail _ (.tail _ (.head _))))))
theorem zk6 {X : zX} {a0 a1 a2 a3 a4 a5 l} {pc : Nat} {i : Instr} {n : Nat} (h : zOk (zdec X) (a0 :: a1 :: a2 :: a3 :: a4 :: a5 :: (pc, i, n) :: l) = true) : zdec X pc = .ok (i, n) := zOk_mem (q := (pc, i, n)) h (.tail _ (.tail _ (.tail _ (.tail _ (.tail _ (.tail _ (.head _)))))))
theorem zk7 {X : zX} {a0 a1 a2 a3 a4 a5 a6 l} {pc : Nat} {i : Instr} {n : Nat} (h : zOk (zdec X) (a0 :: a1 :: a2 :: a3 :: a4 :: a5 :: a6 :: (pc, i, n) :: l) = true) : zdec X pc = .ok (i, n) := zOk_mem (q := (pc, i, n)) h (.tail _ (.tail _ (.tail _ (.tail _ (.tail _ (.tail _ (.tail _ (.head _))))))))
theorem zk8 {X : zX} {a0 a1 a2 a3 a4 a5 a6 a7 l} {pc : Nat} {i : Instr} {n : Nat} (h : zOk (zdec X) (a0 :: a1 :: a2 :: a3 :: a4 :: a5 :: a6 :: a7 :: (pc, i, n) :: l) = true) : zdec X pc = .ok (i, n) := zOk_mem (q := (pc, i, n)) h (.tail _ (.tail _ (.tail _ (.tail _ (.tail _ (.tail _ (.tail _ (.tail _ (.head _)))))))))
theorem zk9 {X : zX} {a0 a1 a2 a3 a4 a5 a6 a7 a8 l} {pc : Nat} {i : Instr} {n : Nat} (h : zOk (zdec X) (a0 :: a1 :: a2 :: a3 :: a4 :: a5 :: a6 :: a7 :: a8 :: (pc, i, n) :: l) = true) : zdec X pc = .ok (i, n) := zOk_mem (q := (pc, i, n)) h (.tail _ (.tail _ (.tail _ (.tail _ (.tail _ (.tail _ (.tail _ (.tail _ (.tail _ (.head _))))))))))
theorem zk10 {X : zX} {a0 a1 a2 a3 a4 a5 a6 a7 a8 a9 l} {pc : Nat} {i : Instr} {n : Nat} (h : zOk (zdec X) (a0 :: a1 :: a2 :: a3 :: a4 :: a5 :: a6 :: a7 :: a8 :: a9 :: (pc, i, n) :: l) = true) : zdec X pc = .ok (i, n) := zOk_mem (q := (pc, i, n)) h (.tail _ (.tail _ (.tail _ (.tail _ (.tail _ (.tail _ (.tail _ (.tail _ (.tail _ (.tail _ (.head _)))))))))))
theorem zk11 {X : zX} {a0 a1 a2 a3 a4 a5 a6 a7 a8 a9 a10 l} {pc : Nat} {i : Instr} {n : Nat} (h : zOk (zdec X) (a0 :: a1 :: a2 :: a3 :: a4 :: a5 :: a6 :: a7 :: a8 :: a9 :: a10 :: (pc, i, n) :: l) = true) : zdec X pc = .ok (i, n) := zOk_mem (q := (pc, i, n)) h (.tail _ (.tail _ (.tail _ (.tail _ (.tail _ (.tail _ (.tail _ (.tail _ (.tail _ (.tail _ (.tail _ (.head _))))))))))))
theorem zk12 {X : zX} {a0 a1 a2 a3 a4 a5 a6 a7 a8 a9 a10 a11 l} {pc : Nat} {i : Instr} {n : Nat} (h : zOk (zdec X) (a0 :: a1 :: a2 :: a3 :: a4 :: a5 :: a6 :: a7 :: a8 :: a9 :: a10 :: a11 :: (pc, i, n) :: l) = true) : zdec X pc = .ok (i, n) := zOk_mem (q := (pc, i, n)) h (.tail _ (.tail _ (.tail _ (.tail _ (.tail _ (.tail _ (.tail _ (.tail _ (.tail _ (.tail _ (.tail _ (.tail _ (.head _)))))))))))))
theorem zk13 {X : zX} {a0 a1 a2 a3 a4 a5 a6 a7 a8 a9 a10 a11 a12 l} {pc : Nat} {i : Instr} {n : Nat} (h : zOk (zdec X) (a0 :: a1 :: a2 :: a3 :: a4 :: a5 :: a6 :: a7 :: a8 :: a9 :: a10 :: a11 :: a12 :: (pc, i, n) :: l) = true) : zdec X pc = .ok (i, n) := zOk_mem (q := (pc, i, n)) h (.tail _ (.tail _ (.tail _ (.tail _ (.tail _ (.tail _ (.tail _ (.tail _ (.tail _ (.tail _ (.tail _ (.tail _ (.tail _ (.head _))))))))))))))
theorem zk14 {X : zX} {a0 a1 a2 a3 a4 a5 a6 a7 a8 a9 a10 a11 a12 a13 l} {pc : Nat} {i : Instr} {n : Nat} (h : zOk (zdec X) (a0 :: a1 :: a2 :: a3 :: a4 :: a5 :: a6 :: a7 :: a8 :: a9 :: a10 :: a11 :: a12 :: a13 :: (pc, i, n) :: l) = true) : zdec X pc = .ok (i, n) := zOk_mem (q := (pc, i, n)) h (.tail _ (.tail _ (.tail _ (.tail _ (.tail _ (.tail _ (.tail _ (.tail _ (.tail _ (.tail _ (.tail _ (.tail _ (.tail _ (.tail _ (.head _)))))))))))))))
theorem zk15 {X : zX} {a0 a1 a2 a3 a4 a5 a6 a7 a8 a9 a10 a11 a12 a13 a14 l} {pc : Nat} {i : Instr} {n : Nat} (h : zOk (zdec X) (a0 :: a1 :: a2 :: a3 :: a4 :: a5 :: a6 :: a7 :: a8 :: a9 :: a10 :: a11 :: a12 :: a13 :: a14 :: (pc, i, n) :: l) = true) : zdec X pc = .ok (i, n) := zOk_mem (q := (pc, i, n)) h (.tail _ (.tail _ (.tail _ (.tail _ (.tail _ (.tail _ (.tail _ (.tail _ (.tail _ (.tail _ (.tail _ (.tail _ (.tail _ (.tail _ (.tail _ (.head _))))))))))))))))
def xX0_init : zX := (yX0_init, cX0_init, 1, none, 2, 11, 176)
def xX0_freshFrom : zX := (yX0_freshFrom, cX0_freshFrom, 2, (some (.object "ReadOutAlongTheWay$Lane")), 2, 0, 0)
def xX0_addressFor : zX := (yX0_addressFor, cX0_addressFor, 5, (some .int), 5, 0, 0)
def xX0_leastHush : zX := (yX0_leastHush, cX0_leastHush, 5, (some .int), 7, 0, 0)
def xX0_hushHouse : zX := (yX0_hushHouse, cX0_hushHouse, 6, (some .int), 6, 0, 0)
def xX0_isHushed : zX := (yX0_isHushed, cX0_isHushed, 6, (some .boolean), 5, 0, 0)
def xX0_sealFor : zX := (yX0_sealFor, cX0_sealFor, 5, (some .int), 5, 0, 0)
def xX0_leastLength : zX := (yX0_leastLength, cX0_leastLength, 5, (some .int), 6, 0, 0)
def xX0_fitsHeard : zX := (yX0_fitsHeard, cX0_fitsHeard, 5, (some .boolean), 5, 0, 0)
def xX0_markLengths : zX := (yX0_markLengths, cX0_markLengths, 7, (some .int), 6, 0, 0)
def xX0_leastMarked : zX := (yX0_leastMarked, cX0_leastMarked, 2, (some .int), 1, 0, 0)
def xX0_greatestMarked : zX := (yX0_greatestMarked, cX0_greatestMarked, 2, (some .int), 1, 0, 0)
def xX0_bestParting : zX := (yX0_bestParting, cX0_bestParting, 6, (some .int), 6, 0, 0)
def xX0_mostLeft : zX := (yX0_mostLeft, cX0_mostLeft, 6, (some .int), 5, 0, 0)
def xX0_fittingKinds : zX := (yX0_fittingKinds, cX0_fittingKinds, 7, (some .int), 6, 0, 0)
def xX0_fittingTos : zX := (yX0_fittingTos, cX0_fittingTos, 7, (some .int), 6, 0, 0)
def xX0_fittingWinds : zX := (yX0_fittingWinds, cX0_fittingWinds, 7, (some .int), 6, 0, 0)
def xX0_fitsHouse : zX := (yX0_fitsHouse, cX0_fitsHouse, 5, (some .boolean), 5, 0, 0)
def xX0_bestDrink : zX := (yX0_bestDrink, cX0_bestDrink, 10, (some .int), 7, 0, 0)
def xX0_heardOfPoured : zX := (yX0_heardOfPoured, cX0_heardOfPoured, 8, (some .int), 6, 0, 0)
def xX0_answerTo : zX := (yX0_answerTo, cX0_answerTo, 11, (some .int), 5, 0, 0)
def xX0_windsOfKnowing : zX := (yX0_windsOfKnowing, cX0_windsOfKnowing, 6, (some .int), 6, 0, 0)
def xX0_sureKnowers : zX := (yX0_sureKnowers, cX0_sureKnowers, 5, (some .int), 7, 0, 0)
def xX0_knowersTurned : zX := (yX0_knowersTurned, cX0_knowersTurned, 3, (some .int), 5, 0, 0)
def xX0_leastCold : zX := (yX0_leastCold, cX0_leastCold, 5, (some .int), 6, 0, 0)
def xX0_widestTo : zX := (yX0_widestTo, cX0_widestTo, 7, (some .int), 6, 0, 0)
def xX0_knowersIfTo : zX := (yX0_knowersIfTo, cX0_knowersIfTo, 4, (some .int), 5, 0, 0)
def xX0_leastQuietWind : zX := (yX0_leastQuietWind, cX0_leastQuietWind, 4, (some .int), 5, 0, 0)
def xX0_knowersSober : zX := (yX0_knowersSober, cX0_knowersSober, 4, (some .int), 5, 0, 0)
def xX0_allKnowersIfDrink : zX := (yX0_allKnowersIfDrink, cX0_allKnowersIfDrink, 4, (some .int), 6, 0, 0)
def xX0_isKnownIfTaught : zX := (yX0_isKnownIfTaught, cX0_isKnownIfTaught, 4, (some .boolean), 6, 0, 0)
def xX0_merriestHouse : zX := (yX0_merriestHouse, cX0_merriestHouse, 7, (some .int), 5, 0, 0)
def xX1_init : zX := (yX1_init, cX1_init, 1, none, 1, 8, 80)
def xX1_takeFrom : zX := (yX1_takeFrom, cX1_takeFrom, 2, none, 1, 0, 0)
def xX1_hasRoom : zX := (yX1_hasRoom, cX1_hasRoom, 1, (some .boolean), 1, 0, 0)
def xX1_addLetter : zX := (yX1_addLetter, cX1_addLetter, 6, (some .int), 2, 0, 0)
def xX1_learn : zX := (yX1_learn, cX1_learn, 3, none, 1, 0, 0)
def xX1_houseAtStep : zX := (yX1_houseAtStep, cX1_houseAtStep, 2, (some .int), 1, 0, 0)
def xX1_readAt : zX := (yX1_readAt, cX1_readAt, 3, (some .boolean), 1, 0, 0)
def xX1_tipsyAt : zX := (yX1_tipsyAt, cX1_tipsyAt, 6, (some .int), 1, 0, 0)
def xX1_leftOutAfter : zX := (yX1_leftOutAfter, cX1_leftOutAfter, 2, (some .int), 1, 0, 0)
def xX1_heardAt : zX := (yX1_heardAt, cX1_heardAt, 3, (some .int), 4, 0, 0)
def xX1_heardWith : zX := (yX1_heardWith, cX1_heardWith, 7, (some .int), 3, 0, 0)
def xX1_within : zX := (yX1_within, cX1_within, 2, (some .int), 1, 0, 0)
def xX1_understands : zX := (yX1_understands, cX1_understands, 3, (some .boolean), 1, 0, 0)
def xX1_isNearTo : zX := (yX1_isNearTo, cX1_isNearTo, 3, (some .boolean), 2, 0, 0)
def xX1_isKnown : zX := (yX1_isKnown, cX1_isKnown, 3, (some .boolean), 5, 0, 0)
def xX1_knowers : zX := (yX1_knowers, cX1_knowers, 6, (some .int), 4, 0, 0)
def xX1_allKnowers : zX := (yX1_allKnowers, cX1_allKnowers, 3, (some .int), 5, 0, 0)
def xX1_knownAt : zX := (yX1_knownAt, cX1_knownAt, 5, (some .int), 4, 0, 0)
def xX1_lettersReadAt : zX := (yX1_lettersReadAt, cX1_lettersReadAt, 4, (some .int), 2, 0, 0)
def xX1_endKnower : zX := (yX1_endKnower, cX1_endKnower, 7, (some .int), 5, 0, 0)
def xX1_loudestAt : zX := (yX1_loudestAt, cX1_loudestAt, 6, (some .int), 5, 0, 0)
def xX1_wordsAt : zX := (yX1_wordsAt, cX1_wordsAt, 5, (some .int), 4, 0, 0)
def xX1_houseWithMost : zX := (yX1_houseWithMost, cX1_houseWithMost, 3, (some .int), 5, 0, 0)
def xX1_houseWithFewest : zX := (yX1_houseWithFewest, cX1_houseWithFewest, 3, (some .int), 5, 0, 0)
def xX1_allDrink : zX := (yX1_allDrink, cX1_allDrink, 3, (some .int), 1, 0, 0)
def xX1_allEars : zX := (yX1_allEars, cX1_allEars, 3, (some .int), 1, 0, 0)
def xX1_goRound : zX := (yX1_goRound, cX1_goRound, 2, none, 5, 0, 0)
def xX1_goDrawnDay : zX := (yX1_goDrawnDay, cX1_goDrawnDay, 3, none, 6, 0, 0)
def xX1_draw : zX := (yX1_draw, cX1_draw, 2, (some .int), 1, 0, 0)
def xX2_init : zX := (yX2_init, cX2_init, 1, none, 1, 1, 40)
def xX2_clearOut : zX := (yX2_clearOut, cX2_clearOut, 1, none, 1, 0, 0)
def xX2_takeLetter : zX := (yX2_takeLetter, cX2_takeLetter, 2, none, 1, 0, 0)
def xX2_takeRow : zX := (yX2_takeRow, cX2_takeRow, 4, none, 1, 0, 0)
def xX2_holdsNothing : zX := (yX2_holdsNothing, cX2_holdsNothing, 1, (some .boolean), 1, 0, 0)
def xX2_holdsLetter : zX := (yX2_holdsLetter, cX2_holdsLetter, 1, (some .boolean), 1, 0, 0)
def xX2_shownLetter : zX := (yX2_shownLetter, cX2_shownLetter, 1, (some .int), 2, 0, 0)
def xX2_hasElement : zX := (yX2_hasElement, cX2_hasElement, 2, (some .boolean), 1, 0, 0)
def xX2_hasPart : zX := (yX2_hasPart, cX2_hasPart, 3, (some .boolean), 1, 0, 0)
def xX2_rowFault : zX := (yX2_rowFault, cX2_rowFault, 2, (some .int), 2, 0, 0)
def xX2_put : zX := (yX2_put, cX2_put, 4, none, 2, 0, 0)
def xX2_asKept : zX := (yX2_asKept, cX2_asKept, 3, (some .long), 1, 0, 0)
def xX3_init : zX := (yX3_init, cX3_init, 1, none, 1, 1, 250)
def xX3_hasRoom : zX := (yX3_hasRoom, cX3_hasRoom, 1, (some .boolean), 1, 0, 0)
def xX3_append : zX := (yX3_append, cX3_append, 2, (some .int), 2, 0, 0)
def xX3_empty : zX := (yX3_empty, cX3_empty, 2, (some .int), 1, 0, 0)
def xX3_size : zX := (yX3_size, cX3_size, 1, (some .int), 1, 0, 0)
def xX3_fault : zX := (yX3_fault, cX3_fault, 1, (some .int), 1, 0, 0)
def xX3_readInto : zX := (yX3_readInto, cX3_readInto, 4, (some .int), 8, 0, 0)
def xX3_blame : zX := (yX3_blame, cX3_blame, 2, none, 1, 0, 0)
def xX3_readStatement : zX := (yX3_readStatement, cX3_readStatement, 2, none, 7, 0, 0)
def xX3_readHouses : zX := (yX3_readHouses, cX3_readHouses, 3, none, 4, 0, 0)
def xX3_readLetter : zX := (yX3_readLetter, cX3_readLetter, 6, none, 4, 0, 0)
def xX3_readIntoHouse : zX := (yX3_readIntoHouse, cX3_readIntoHouse, 5, none, 4, 0, 0)
def xX3_readCode : zX := (yX3_readCode, cX3_readCode, 4, none, 4, 0, 0)
def xX3_readCold : zX := (yX3_readCold, cX3_readCold, 3, none, 4, 0, 0)
def xX3_readNumber : zX := (yX3_readNumber, cX3_readNumber, 5, (some .int), 3, 0, 0)
def xX3_step : zX := (yX3_step, cX3_step, 1, none, 2, 0, 0)
def xX3_sortAt : zX := (yX3_sortAt, cX3_sortAt, 3, (some .int), 1, 0, 0)
def xX3_isWord : zX := (yX3_isWord, cX3_isWord, 3, (some .boolean), 6, 0, 0)
def xX4_init : zX := (yX4_init, cX4_init, 2, none, 3, 50, 980)
def xX4_row : zX := (yX4_row, cX4_row, 4, (some .int), 3, 0, 0)
def xX4_set : zX := (yX4_set, cX4_set, 6, (some .int), 3, 0, 0)
def xX4_copy : zX := (yX4_copy, cX4_copy, 9, (some .int), 3, 0, 0)
def xX4_element : zX := (yX4_element, cX4_element, 3, (some .long), 3, 0, 0)
def xX4_holds : zX := (yX4_holds, cX4_holds, 2, (some .int), 3, 0, 0)
def xX4_show : zX := (yX4_show, cX4_show, 3, (some .int), 3, 0, 0)
def xX4_says : zX := (yX4_says, cX4_says, 4, (some .int), 5, 0, 0)
def xX4_houses : zX := (yX4_houses, cX4_houses, 3, (some .int), 3, 0, 0)
def xX4_letter : zX := (yX4_letter, cX4_letter, 5, (some .int), 3, 0, 0)
def xX4_mend : zX := (yX4_mend, cX4_mend, 6, (some .int), 3, 0, 0)
def xX4_tell : zX := (yX4_tell, cX4_tell, 6, (some .int), 3, 0, 0)
def xX4_code : zX := (yX4_code, cX4_code, 5, (some .int), 3, 0, 0)
def xX4_cold : zX := (yX4_cold, cX4_cold, 3, (some .int), 3, 0, 0)
def xX4_way : zX := (yX4_way, cX4_way, 3, (some .int), 2, 0, 0)
def xX4_feed : zX := (yX4_feed, cX4_feed, 2, (some .int), 3, 0, 0)
def xX4_wipe : zX := (yX4_wipe, cX4_wipe, 1, (some .int), 2, 0, 0)
def xX4_lane : zX := (yX4_lane, cX4_lane, 3, (some .int), 9, 0, 0)
def xX4_letterOf : zX := (yX4_letterOf, cX4_letterOf, 3, (some .int), 3, 0, 0)
def xX4_houseOf : zX := (yX4_houseOf, cX4_houseOf, 3, (some .int), 3, 0, 0)
def xX4_heard : zX := (yX4_heard, cX4_heard, 3, (some .int), 5, 0, 0)
def xX4_isRead : zX := (yX4_isRead, cX4_isRead, 3, (some .int), 3, 0, 0)
def xX4_whoKnows : zX := (yX4_whoKnows, cX4_whoKnows, 2, (some .int), 5, 0, 0)
def xX4_knows : zX := (yX4_knows, cX4_knows, 2, (some .int), 5, 0, 0)
def xX4_first : zX := (yX4_first, cX4_first, 3, (some .int), 6, 0, 0)
def xX4_loudest : zX := (yX4_loudest, cX4_loudest, 2, (some .int), 6, 0, 0)
def xX4_words : zX := (yX4_words, cX4_words, 2, (some .int), 5, 0, 0)
def xX4_best : zX := (yX4_best, cX4_best, 3, (some .int), 6, 0, 0)
def xX4_address : zX := (yX4_address, cX4_address, 3, (some .int), 6, 0, 0)
def xX4_hush : zX := (yX4_hush, cX4_hush, 5, (some .int), 8, 0, 0)
def xX4_seal : zX := (yX4_seal, cX4_seal, 3, (some .int), 6, 0, 0)
def xX4_shout : zX := (yX4_shout, cX4_shout, 3, (some .int), 7, 0, 0)
def xX4_lengths : zX := (yX4_lengths, cX4_lengths, 7, (some .int), 7, 0, 0)
def xX4_fits : zX := (yX4_fits, cX4_fits, 6, (some .int), 7, 0, 0)
def xX4_ask : zX := (yX4_ask, cX4_ask, 6, (some .int), 7, 0, 0)
def xX4_winds : zX := (yX4_winds, cX4_winds, 5, (some .int), 7, 0, 0)
def xX4_pour : zX := (yX4_pour, cX4_pour, 7, (some .int), 8, 0, 0)
def xX4_answer : zX := (yX4_answer, cX4_answer, 6, (some .int), 6, 0, 0)
def xX4_chance : zX := (yX4_chance, cX4_chance, 3, (some .int), 7, 0, 0)
def xX4_sure : zX := (yX4_sure, cX4_sure, 2, (some .int), 8, 0, 0)
def xX4_turned : zX := (yX4_turned, cX4_turned, 2, (some .int), 6, 0, 0)
def xX4_gossips : zX := (yX4_gossips, cX4_gossips, 7, (some .int), 5, 0, 0)
def xX4_colds : zX := (yX4_colds, cX4_colds, 3, (some .int), 7, 0, 0)
def xX4_widest : zX := (yX4_widest, cX4_widest, 4, (some .int), 7, 0, 0)
def xX4_wise : zX := (yX4_wise, cX4_wise, 4, (some .int), 5, 0, 0)
def xX4_secret : zX := (yX4_secret, cX4_secret, 3, (some .int), 5, 0, 0)
def xX4_lost : zX := (yX4_lost, cX4_lost, 3, (some .int), 6, 0, 0)
def xX4_reach : zX := (yX4_reach, cX4_reach, 7, (some .int), 5, 0, 0)
def xX4_lacks : zX := (yX4_lacks, cX4_lacks, 4, (some .int), 5, 0, 0)
def xX4_alike : zX := (yX4_alike, cX4_alike, 3, (some .int), 5, 0, 0)
def xX4_quiet : zX := (yX4_quiet, cX4_quiet, 2, (some .int), 6, 0, 0)
def xX4_sober : zX := (yX4_sober, cX4_sober, 2, (some .int), 6, 0, 0)
def xX4_thirst : zX := (yX4_thirst, cX4_thirst, 2, (some .int), 7, 0, 0)
def xX4_taught : zX := (yX4_taught, cX4_taught, 3, (some .int), 7, 0, 0)
def xX4_merry : zX := (yX4_merry, cX4_merry, 2, (some .int), 6, 0, 0)
def xX4_common : zX := (yX4_common, cX4_common, 3, (some .int), 5, 0, 0)
def xX4_doubt : zX := (yX4_doubt, cX4_doubt, 4, (some .int), 5, 0, 0)
def xX4_ofKind : zX := (yX4_ofKind, cX4_ofKind, 4, (some .int), 3, 0, 0)
def xX4_judge : zX := (yX4_judge, cX4_judge, 5, (some .int), 5, 0, 0)
def xX4_round : zX := (yX4_round, cX4_round, 2, (some .int), 6, 0, 0)
def xX4_days : zX := (yX4_days, cX4_days, 3, (some .int), 7, 0, 0)
def xX4_seed : zX := (yX4_seed, cX4_seed, 3, (some .int), 1, 0, 0)
def xX4_image : zX := (yX4_image, cX4_image, 1, (some .int), 2, 0, 0)
def xX4_back : zX := (yX4_back, cX4_back, 1, (some .int), 4, 0, 0)
def xX4_status : zX := (yX4_status, cX4_status, 2, (some .int), 3, 0, 0)
def xX4_refuse : zX := (yX4_refuse, cX4_refuse, 2, (some .int), 2, 0, 0)
def xX4_outside : zX := (yX4_outside, cX4_outside, 3, (some .boolean), 1, 0, 0)
def xX4_noShelf : zX := (yX4_noShelf, cX4_noShelf, 2, (some .boolean), 2, 0, 0)
def xX4_noHouse : zX := (yX4_noHouse, cX4_noHouse, 2, (some .boolean), 2, 0, 0)
def xX4_noLetter : zX := (yX4_noLetter, cX4_noLetter, 2, (some .boolean), 2, 0, 0)
def xX4_noKind : zX := (yX4_noKind, cX4_noKind, 1, (some .boolean), 2, 0, 0)
def xX4_noSet : zX := (yX4_noSet, cX4_noSet, 2, (some .boolean), 2, 0, 0)
def xX4_noPouring : zX := (yX4_noPouring, cX4_noPouring, 5, (some .boolean), 3, 0, 0)
def xX4_toldFault : zX := (yX4_toldFault, cX4_toldFault, 5, (some .int), 3, 0, 0)
def xX4_isOrStandsUnder : zX := (yX4_isOrStandsUnder, cX4_isOrStandsUnder, 4, (some .boolean), 3, 0, 0)
def xX4_asNumber : zX := (yX4_asNumber, cX4_asNumber, 1, (some .int), 1, 0, 0)
def xX4_dropMissingLetters : zX := (yX4_dropMissingLetters, cX4_dropMissingLetters, 2, none, 3, 0, 0)
def xX4_shelvesInUse : zX := (yX4_shelvesInUse, cX4_shelvesInUse, 3, (some .int), 2, 0, 0)
def xX5_init : zX := (yX5_init, cX5_init, 1, none, 1, 28, 836)
def xX5_refuse : zX := (yX5_refuse, cX5_refuse, 2, (some .int), 1, 0, 0)
def xX5_in : zX := (yX5_in, cX5_in, 6, (some .boolean), 1, 0, 0)
def xX5_isHouse : zX := (yX5_isHouse, cX5_isHouse, 2, (some .boolean), 2, 0, 0)
def xX5_isLetter : zX := (yX5_isLetter, cX5_isLetter, 3, (some .boolean), 2, 0, 0)
def xX5_bits : zX := (yX5_bits, cX5_bits, 3, (some .int), 1, 0, 0)
def xX5_row : zX := (yX5_row, cX5_row, 5, (some .int), 2, 0, 0)
def xX5_fit : zX := (yX5_fit, cX5_fit, 3, (some .long), 1, 0, 0)
def xX5_noRow : zX := (yX5_noRow, cX5_noRow, 2, (some .int), 2, 0, 0)
def xX5_set : zX := (yX5_set, cX5_set, 6, (some .int), 3, 0, 0)
def xX5_copy : zX := (yX5_copy, cX5_copy, 7, (some .int), 2, 0, 0)
def xX5_element : zX := (yX5_element, cX5_element, 3, (some .long), 2, 0, 0)
def xX5_holds : zX := (yX5_holds, cX5_holds, 2, (some .int), 2, 0, 0)
def xX5_show : zX := (yX5_show, cX5_show, 3, (some .int), 3, 0, 0)
def xX5_isUnder : zX := (yX5_isUnder, cX5_isUnder, 2, (some .boolean), 1, 0, 0)
def xX5_says : zX := (yX5_says, cX5_says, 3, (some .int), 4, 0, 0)
def xX5_addLetter : zX := (yX5_addLetter, cX5_addLetter, 5, none, 1, 0, 0)
def xX5_houses : zX := (yX5_houses, cX5_houses, 3, (some .int), 2, 0, 0)
def xX5_letter : zX := (yX5_letter, cX5_letter, 5, (some .int), 3, 0, 0)
def xX5_mend : zX := (yX5_mend, cX5_mend, 5, (some .int), 3, 0, 0)
def xX5_tell : zX := (yX5_tell, cX5_tell, 5, (some .int), 3, 0, 0)
def xX5_setCode : zX := (yX5_setCode, cX5_setCode, 4, none, 1, 0, 0)
def xX5_code : zX := (yX5_code, cX5_code, 5, (some .int), 3, 0, 0)
def xX5_cold : zX := (yX5_cold, cX5_cold, 3, (some .int), 2, 0, 0)
def xX5_way : zX := (yX5_way, cX5_way, 3, (some .int), 1, 0, 0)
def xX5_feed : zX := (yX5_feed, cX5_feed, 2, (some .int), 2, 0, 0)
def xX5_wipe : zX := (yX5_wipe, cX5_wipe, 2, (some .int), 1, 0, 0)
def xX5_isLower : zX := (yX5_isLower, cX5_isLower, 1, (some .boolean), 1, 0, 0)
def xX5_isDigit : zX := (yX5_isDigit, cX5_isDigit, 1, (some .boolean), 1, 0, 0)
def xX5_look : zX := (yX5_look, cX5_look, 1, none, 2, 0, 0)
def xX5_wrong : zX := (yX5_wrong, cX5_wrong, 1, (some .boolean), 1, 0, 0)
def xX5_isWord : zX := (yX5_isWord, cX5_isWord, 3, (some .boolean), 6, 0, 0)
def xX5_number : zX := (yX5_number, cX5_number, 4, (some .boolean), 3, 0, 0)
def xX5_tells : zX := (yX5_tells, cX5_tells, 3, (some .boolean), 4, 0, 0)
def xX5_tellsLetter : zX := (yX5_tellsLetter, cX5_tellsLetter, 2, (some .boolean), 5, 0, 0)
def xX5_tellsHouse : zX := (yX5_tellsHouse, cX5_tellsHouse, 4, (some .boolean), 7, 0, 0)
def xX5_statement : zX := (yX5_statement, cX5_statement, 3, (some .boolean), 8, 0, 0)
def xX5_readAll : zX := (yX5_readAll, cX5_readAll, 1, (some .boolean), 9, 0, 0)
def xX5_lane : zX := (yX5_lane, cX5_lane, 2, (some .int), 10, 29, 877)
def xX5_letterOf : zX := (yX5_letterOf, cX5_letterOf, 3, (some .int), 3, 0, 0)
def xX5_tipsy : zX := (yX5_tipsy, cX5_tipsy, 4, (some .int), 1, 0, 0)
def xX5_leftOut : zX := (yX5_leftOut, cX5_leftOut, 2, (some .int), 2, 0, 0)
def xX5_readAt : zX := (yX5_readAt, cX5_readAt, 3, (some .boolean), 1, 0, 0)
def xX5_held : zX := (yX5_held, cX5_held, 3, (some .int), 1, 0, 0)
def xX5_heardAt : zX := (yX5_heardAt, cX5_heardAt, 7, (some .int), 3, 0, 0)
def xX5_knowsOf : zX := (yX5_knowsOf, cX5_knowsOf, 3, (some .boolean), 4, 0, 0)
def xX5_knowers : zX := (yX5_knowers, cX5_knowers, 4, (some .int), 5, 0, 0)
def xX5_knownAt : zX := (yX5_knownAt, cX5_knownAt, 4, (some .int), 5, 0, 0)
def xX5_wordsAt : zX := (yX5_wordsAt, cX5_wordsAt, 4, (some .int), 4, 0, 0)
def xX5_houseOf : zX := (yX5_houseOf, cX5_houseOf, 3, (some .int), 3, 0, 0)
def xX5_areBoth : zX := (yX5_areBoth, cX5_areBoth, 3, (some .boolean), 3, 0, 0)
def xX5_heard : zX := (yX5_heard, cX5_heard, 3, (some .int), 4, 0, 0)
def xX5_isRead : zX := (yX5_isRead, cX5_isRead, 3, (some .int), 4, 0, 0)
def xX5_whoKnows : zX := (yX5_whoKnows, cX5_whoKnows, 2, (some .int), 6, 0, 0)
def xX5_knows : zX := (yX5_knows, cX5_knows, 2, (some .int), 6, 0, 0)
def xX5_words : zX := (yX5_words, cX5_words, 2, (some .int), 5, 0, 0)
def xX5_common : zX := (yX5_common, cX5_common, 3, (some .int), 6, 0, 0)
def xX5_alike : zX := (yX5_alike, cX5_alike, 3, (some .int), 6, 0, 0)
def xX5_ofKind : zX := (yX5_ofKind, cX5_ofKind, 4, (some .int), 2, 0, 0)
def xX5_lacks : zX := (yX5_lacks, cX5_lacks, 4, (some .int), 4, 0, 0)
def xX5_doubt : zX := (yX5_doubt, cX5_doubt, 4, (some .int), 5, 0, 0)
def xX5_reach : zX := (yX5_reach, cX5_reach, 6, (some .int), 4, 0, 0)
def xX5_first : zX := (yX5_first, cX5_first, 8, (some .int), 5, 0, 0)
def xX5_loudest : zX := (yX5_loudest, cX5_loudest, 5, (some .int), 4, 0, 0)
def xX5_best : zX := (yX5_best, cX5_best, 5, (some .int), 5, 0, 0)
def xX5_wise : zX := (yX5_wise, cX5_wise, 5, (some .int), 6, 0, 0)
def xX5_secret : zX := (yX5_secret, cX5_secret, 3, (some .int), 6, 0, 0)
def xX5_lost : zX := (yX5_lost, cX5_lost, 3, (some .int), 5, 0, 0)
def xX5_gossips : zX := (yX5_gossips, cX5_gossips, 6, (some .int), 6, 0, 0)
def xX5_isSet : zX := (yX5_isSet, cX5_isSet, 2, (some .boolean), 2, 0, 0)
def xX5_address : zX := (yX5_address, cX5_address, 6, (some .int), 6, 0, 0)
def xX5_widest : zX := (yX5_widest, cX5_widest, 8, (some .int), 6, 0, 0)
def xX5_seal : zX := (yX5_seal, cX5_seal, 6, (some .int), 6, 0, 0)
def xX5_shout : zX := (yX5_shout, cX5_shout, 6, (some .int), 5, 0, 0)
def xX5_isHushed : zX := (yX5_isHushed, cX5_isHushed, 5, (some .boolean), 6, 0, 0)
def xX5_findHush : zX := (yX5_findHush, cX5_findHush, 5, none, 7, 0, 0)
def xX5_hush : zX := (yX5_hush, cX5_hush, 4, (some .int), 8, 0, 0)
def xX5_turned : zX := (yX5_turned, cX5_turned, 3, (some .int), 6, 0, 0)
def xX5_colds : zX := (yX5_colds, cX5_colds, 6, (some .int), 5, 0, 0)
def xX5_quiet : zX := (yX5_quiet, cX5_quiet, 5, (some .int), 6, 0, 0)
def xX5_sober : zX := (yX5_sober, cX5_sober, 4, (some .int), 6, 0, 0)
def xX5_knowersTogether : zX := (yX5_knowersTogether, cX5_knowersTogether, 3, (some .int), 6, 0, 0)
def xX5_thirst : zX := (yX5_thirst, cX5_thirst, 5, (some .int), 7, 0, 0)
def xX5_taught : zX := (yX5_taught, cX5_taught, 5, (some .int), 5, 0, 0)
def xX5_merry : zX := (yX5_merry, cX5_merry, 7, (some .int), 6, 0, 0)
def xX5_noSounds : zX := (yX5_noSounds, cX5_noSounds, 6, (some .int), 3, 0, 0)
def xX5_sounds : zX := (yX5_sounds, cX5_sounds, 5, (some .boolean), 4, 0, 0)
def xX5_findLengths : zX := (yX5_findLengths, cX5_findLengths, 6, none, 5, 0, 0)
def xX5_lengths : zX := (yX5_lengths, cX5_lengths, 6, (some .int), 6, 0, 0)
def xX5_fits : zX := (yX5_fits, cX5_fits, 10, (some .int), 5, 0, 0)
def xX5_worstAt : zX := (yX5_worstAt, cX5_worstAt, 7, (some .int), 4, 0, 0)
def xX5_ask : zX := (yX5_ask, cX5_ask, 10, (some .int), 6, 0, 0)
def xX5_winds : zX := (yX5_winds, cX5_winds, 10, (some .int), 4, 0, 0)
def xX5_leastHeard : zX := (yX5_leastHeard, cX5_leastHeard, 8, (some .int), 4, 0, 0)
def xX5_mayPour : zX := (yX5_mayPour, cX5_mayPour, 5, (some .boolean), 4, 0, 0)
def xX5_pour : zX := (yX5_pour, cX5_pour, 11, (some .int), 5, 0, 0)
def xX5_answer : zX := (yX5_answer, cX5_answer, 7, (some .int), 5, 0, 0)
def xX5_knowsBy : zX := (yX5_knowsBy, cX5_knowsBy, 6, (some .int), 5, 0, 0)
def xX5_chance : zX := (yX5_chance, cX5_chance, 3, (some .int), 6, 0, 0)
def xX5_sure : zX := (yX5_sure, cX5_sure, 4, (some .int), 6, 0, 0)
def xX5_judge : zX := (yX5_judge, cX5_judge, 5, (some .int), 6, 0, 0)
def xX5_goesRound : zX := (yX5_goesRound, cX5_goesRound, 2, none, 5, 0, 0)
def xX5_earsTogether : zX := (yX5_earsTogether, cX5_earsTogether, 3, (some .int), 1, 0, 0)
def xX5_shelvesFollow : zX := (yX5_shelvesFollow, cX5_shelvesFollow, 2, none, 1, 0, 0)
def xX5_round : zX := (yX5_round, cX5_round, 2, (some .int), 6, 0, 0)
def xX5_below : zX := (yX5_below, cX5_below, 2, (some .int), 1, 0, 0)
def xX5_days : zX := (yX5_days, cX5_days, 5, (some .int), 6, 0, 0)
def xX5_seed : zX := (yX5_seed, cX5_seed, 3, (some .int), 1, 0, 0)
def xX5_copied : zX := (yX5_copied, cX5_copied, 3, none, 1, 0, 0)
def xX5_takeFrom : zX := (yX5_takeFrom, cX5_takeFrom, 2, none, 2, 0, 0)
def xX5_image : zX := (yX5_image, cX5_image, 1, (some .int), 3, 29, 877)
def xX5_back : zX := (yX5_back, cX5_back, 1, (some .int), 3, 0, 0)
def xX5_status : zX := (yX5_status, cX5_status, 4, (some .int), 2, 0, 0)
def xJ6_bitCount_0f7a4 : zX := (yJ6_bitCount_0f7a4, cJ6_bitCount_0f7a4, 1, (some .int), 1, 0, 0)
def xJ9_abs_0f7a4 : zX := (yJ9_abs_0f7a4, cJ9_abs_0f7a4, 1, (some .int), 1, 0, 0)
def xJ9_max_7cf53 : zX := (yJ9_max_7cf53, cJ9_max_7cf53, 2, (some .int), 1, 0, 0)
def xJ0_length_8abf5 : zX := (yJ0_length_8abf5, cJ0_length_8abf5, 1, (some .int), 2, 0, 0)
def xJ0_charAt_5068e : zX := (yJ0_charAt_5068e, cJ0_charAt_5068e, 2, (some .char), 5, 0, 0)
def xJ0_coder_7d493 : zX := (yJ0_coder_7d493, cJ0_coder_7d493, 1, (some .byte), 1, 0, 0)
def xJ0_isLatin1_aae02 : zX := (yJ0_isLatin1_aae02, cJ0_isLatin1_aae02, 1, (some .boolean), 1, 0, 0)
def xJ1_charAt_3b067 : zX := (yJ1_charAt_3b067, cJ1_charAt_3b067, 2, (some .char), 3, 0, 0)
def xL_law : zX := (yL_law, cL_law, 4, (some .boolean), 12, 600000, 7302250)
theorem kX0_init_0 : zOk (zdec xX0_init) [(0, .aload_n 0, 1), (1, .invokespecial 3, 3), (4, .aload_n 0, 1), (5, .new 9, 3), (8, .dup, 1), (9, .invokespecial 11, 3), (12, .putfield 12, 3), (15, .aload_n 0, 1), (16, .bipush 41, 2), (18, .newarray .boolean, 2), (20, .putfield 18, 3), (23, .aload_n 0, 1), (24, .bipush 41, 2), (26, .newarray .int, 2), (28, .putfield 22, 3), (31, .return_, 1)] = true := by decide +kernel
theorem kX0_freshFrom_0 : zOk (zdec xX0_freshFrom) [(0, .aload_n 0, 1), (1, .getfield 12, 3), (4, .aload_n 1, 1), (5, .invokevirtual 26, 3), (8, .aload_n 0, 1), (9, .getfield 12, 3), (12, .areturn, 1)] = true := by decide +kernel
theorem kX0_addressFor_0 : zOk (zdec xX0_addressFor) [(0, .aload_n 0, 1), (1, .aload_n 1, 1), (2, .invokevirtual 30, 3), (5, .pop, 1), (6, .iconst 0, 1), (7, .istore 4, 2), (9, .iload 4, 2), (11, .aload_n 0, 1), (12, .getfield 12, 3), (15, .getfield 34, 3), (18, .if_icmp .ge 35, 3), (21, .aload_n 0, 1), (22, .getfield 12, 3), (25, .getfield 38, 3), (28, .iload_n 2, 1), (29, .iload 4, 2)] = true := by decide +kernel
theorem kX0_addressFor_1 : zOk (zdec xX0_addressFor) [(31, .iastore, 1), (32, .aload_n 0, 1), (33, .getfield 12, 3), (36, .iload_n 2, 1), (37, .invokevirtual 41, 3), (40, .iload_n 3, 1), (41, .if_icmp .ne 6, 3), (44, .iload 4, 2), (46, .ireturn, 1), (47, .iinc 4 1, 3), (50, .goto (-41), 3), (53, .iconst (-1), 1), (54, .ireturn, 1)] = true := by decide +kernel
theorem kX0_leastHush_0 : zOk (zdec xX0_leastHush) [(0, .aload_n 0, 1), (1, .aload_n 1, 1), (2, .invokevirtual 30, 3), (5, .pop, 1), (6, .aload_n 0, 1), (7, .iload_n 2, 1), (8, .iload_n 3, 1), (9, .invokevirtual 45, 3), (12, .ifCond .eq 5, 3), (15, .iconst 0, 1), (16, .ireturn, 1), (17, .iconst 1, 1), (18, .istore 4, 2), (20, .iload 4, 2), (22, .bipush 40, 2), (24, .if_icmp .gt 25, 3)] = true := by decide +kernel
theorem kX0_leastHush_1 : zOk (zdec xX0_leastHush) [(27, .aload_n 0, 1), (28, .aload_n 1, 1), (29, .iload_n 2, 1), (30, .iload_n 3, 1), (31, .iload 4, 2), (33, .invokevirtual 49, 3), (36, .iconst (-1), 1), (37, .if_icmp .eq 6, 3), (40, .iload 4, 2), (42, .ireturn, 1), (43, .iinc 4 1, 3), (46, .goto (-26), 3), (49, .iconst (-1), 1), (50, .ireturn, 1)] = true := by decide +kernel
theorem kX0_hushHouse_0 : zOk (zdec xX0_hushHouse) [(0, .iload 4, 2), (2, .ifCond .ne 5, 3), (5, .iconst (-1), 1), (6, .ireturn, 1), (7, .aload_n 0, 1), (8, .aload_n 1, 1), (9, .invokevirtual 30, 3), (12, .pop, 1), (13, .iconst 0, 1), (14, .istore 5, 2), (16, .iload 5, 2), (18, .aload_n 0, 1), (19, .getfield 12, 3), (22, .getfield 34, 3), (25, .if_icmp .ge 51, 3), (28, .aload_n 0, 1)] = true := by decide +kernel
theorem kX0_hushHouse_1 : zOk (zdec xX0_hushHouse) [(29, .getfield 12, 3), (32, .getfield 53, 3), (35, .iload 5, 2), (37, .dup2, 1), (38, .iaload, 1), (39, .iload 4, 2), (41, .iadd, 1), (42, .iastore, 1), (43, .aload_n 0, 1), (44, .iload_n 2, 1), (45, .iload_n 3, 1), (46, .invokevirtual 45, 3), (49, .ifCond .eq 6, 3), (52, .iload 5, 2), (54, .ireturn, 1), (55, .aload_n 0, 1)] = true := by decide +kernel
theorem kX0_hushHouse_2 : zOk (zdec xX0_hushHouse) [(56, .getfield 12, 3), (59, .getfield 53, 3), (62, .iload 5, 2), (64, .dup2, 1), (65, .iaload, 1), (66, .iload 4, 2), (68, .isub, 1), (69, .iastore, 1), (70, .iinc 5 1, 3), (73, .goto (-57), 3), (76, .iconst (-1), 1), (77, .ireturn, 1)] = true := by decide +kernel
theorem kX0_isHushed_0 : zOk (zdec xX0_isHushed) [(0, .aload_n 0, 1), (1, .getfield 12, 3), (4, .iload_n 1, 1), (5, .invokevirtual 41, 3), (8, .istore_n 3, 1), (9, .iconst 1, 1), (10, .aload_n 0, 1), (11, .getfield 12, 3), (14, .getfield 38, 3), (17, .iload_n 1, 1), (18, .iaload, 1), (19, .ishl, 1), (20, .istore 4, 2), (22, .iload_n 2, 1), (23, .iload 4, 2), (25, .iand, 1)] = true := by decide +kernel
theorem kX0_isHushed_1 : zOk (zdec xX0_isHushed) [(26, .ifCond .ne 10, 3), (29, .iload_n 3, 1), (30, .iload 4, 2), (32, .iand, 1), (33, .ifCond .eq 7, 3), (36, .iconst 1, 1), (37, .goto 4, 3), (40, .iconst 0, 1), (41, .istore 5, 2), (43, .iload_n 3, 1), (44, .iload_n 2, 1), (45, .iand, 1), (46, .ifCond .ne 12, 3), (49, .iload 5, 2), (51, .ifCond .eq 7, 3), (54, .iconst 1, 1)] = true := by decide +kernel
theorem kX0_isHushed_2 : zOk (zdec xX0_isHushed) [(55, .goto 4, 3), (58, .iconst 0, 1), (59, .ireturn, 1)] = true := by decide +kernel
theorem kX0_sealFor_0 : zOk (zdec xX0_sealFor) [(0, .aload_n 0, 1), (1, .aload_n 1, 1), (2, .invokevirtual 30, 3), (5, .pop, 1), (6, .iconst 0, 1), (7, .istore 4, 2), (9, .iload 4, 2), (11, .iconst 5, 1), (12, .if_icmp .gt 35, 3), (15, .aload_n 0, 1), (16, .getfield 12, 3), (19, .getfield 56, 3), (22, .iload_n 2, 1), (23, .iload 4, 2), (25, .iastore, 1), (26, .aload_n 0, 1)] = true := by decide +kernel
theorem kX0_sealFor_1 : zOk (zdec xX0_sealFor) [(27, .getfield 12, 3), (30, .iload_n 2, 1), (31, .invokevirtual 41, 3), (34, .iload_n 3, 1), (35, .if_icmp .ne 6, 3), (38, .iload 4, 2), (40, .ireturn, 1), (41, .iinc 4 1, 3), (44, .goto (-35), 3), (47, .iconst (-1), 1), (48, .ireturn, 1)] = true := by decide +kernel
theorem kX0_leastLength_0 : zOk (zdec xX0_leastLength) [(0, .aload_n 0, 1), (1, .aload_n 1, 1), (2, .invokevirtual 30, 3), (5, .pop, 1), (6, .iconst 1, 1), (7, .istore 4, 2), (9, .iload 4, 2), (11, .bipush 40, 2), (13, .if_icmp .gt 35, 3), (16, .aload_n 0, 1), (17, .getfield 12, 3), (20, .getfield 59, 3), (23, .iload_n 2, 1), (24, .iload 4, 2), (26, .iastore, 1), (27, .aload_n 0, 1)] = true := by decide +kernel
theorem kX0_leastLength_1 : zOk (zdec xX0_leastLength) [(28, .getfield 12, 3), (31, .iload_n 2, 1), (32, .iload_n 3, 1), (33, .invokevirtual 62, 3), (36, .ifCond .eq 6, 3), (39, .iload 4, 2), (41, .ireturn, 1), (42, .iinc 4 1, 3), (45, .goto (-36), 3), (48, .iconst (-1), 1), (49, .ireturn, 1)] = true := by decide +kernel
theorem kX0_fitsHeard_0 : zOk (zdec xX0_fitsHeard) [(0, .iconst 0, 1), (1, .istore 4, 2), (3, .iload 4, 2), (5, .iload_n 2, 1), (6, .if_icmp .ge 33, 3), (9, .aload_n 0, 1), (10, .getfield 12, 3), (13, .iload_n 3, 1), (14, .iload 4, 2), (16, .invokevirtual 65, 3), (19, .i2l, 1), (20, .aload_n 1, 1), (21, .getfield 69, 3), (24, .iload 4, 2), (26, .laload, 1), (27, .lcmp, 1)] = true := by decide +kernel
theorem kX0_fitsHeard_1 : zOk (zdec xX0_fitsHeard) [(28, .ifCond .eq 5, 3), (31, .iconst 0, 1), (32, .ireturn, 1), (33, .iinc 4 1, 3), (36, .goto (-33), 3), (39, .iconst 1, 1), (40, .ireturn, 1)] = true := by decide +kernel
theorem kX0_markLengths_0 : zOk (zdec xX0_markLengths) [(0, .aload_n 0, 1), (1, .aload_n 1, 1), (2, .invokevirtual 30, 3), (5, .pop, 1), (6, .iconst 0, 1), (7, .istore 5, 2), (9, .iconst 1, 1), (10, .istore 6, 2), (12, .iload 6, 2), (14, .bipush 40, 2), (16, .if_icmp .gt 51, 3), (19, .aload_n 0, 1), (20, .getfield 12, 3), (23, .getfield 59, 3), (26, .iload 4, 2), (28, .iload 6, 2)] = true := by decide +kernel
theorem kX0_markLengths_1 : zOk (zdec xX0_markLengths) [(30, .iastore, 1), (31, .aload_n 0, 1), (32, .getfield 18, 3), (35, .iload 6, 2), (37, .aload_n 0, 1), (38, .aload_n 2, 1), (39, .iload_n 3, 1), (40, .iload 4, 2), (42, .invokevirtual 75, 3), (45, .bastore, 1), (46, .iload 5, 2), (48, .aload_n 0, 1), (49, .getfield 18, 3), (52, .iload 6, 2), (54, .baload, 1), (55, .invokestatic 79, 3)] = true := by decide +kernel
theorem kX0_markLengths_2 : zOk (zdec xX0_markLengths) [(58, .iadd, 1), (59, .istore 5, 2), (61, .iinc 6 1, 3), (64, .goto (-52), 3), (67, .iload 5, 2), (69, .ireturn, 1)] = true := by decide +kernel
theorem kX0_leastMarked_0 : zOk (zdec xX0_leastMarked) [(0, .iconst 1, 1), (1, .istore_n 1, 1), (2, .iload_n 1, 1), (3, .bipush 40, 2), (5, .if_icmp .gt 20, 3), (8, .aload_n 0, 1), (9, .getfield 18, 3), (12, .iload_n 1, 1), (13, .baload, 1), (14, .ifCond .eq 5, 3), (17, .iload_n 1, 1), (18, .ireturn, 1), (19, .iinc 1 1, 3), (22, .goto (-20), 3), (25, .iconst (-1), 1), (26, .ireturn, 1)] = true := by decide +kernel
theorem kX0_greatestMarked_0 : zOk (zdec xX0_greatestMarked) [(0, .bipush 40, 2), (2, .istore_n 1, 1), (3, .iload_n 1, 1), (4, .iconst 1, 1), (5, .if_icmp .lt 20, 3), (8, .aload_n 0, 1), (9, .getfield 18, 3), (12, .iload_n 1, 1), (13, .baload, 1), (14, .ifCond .eq 5, 3), (17, .iload_n 1, 1), (18, .ireturn, 1), (19, .iinc 1 (-1), 3), (22, .goto (-19), 3), (25, .iconst (-1), 1), (26, .ireturn, 1)] = true := by decide +kernel
theorem kX0_bestParting_0 : zOk (zdec xX0_bestParting) [(0, .bipush 41, 2), (2, .istore_n 2, 1), (3, .iconst (-1), 1), (4, .istore_n 3, 1), (5, .iconst 0, 1), (6, .istore 4, 2), (8, .iload 4, 2), (10, .aload_n 0, 1), (11, .getfield 12, 3), (14, .getfield 34, 3), (17, .if_icmp .ge 30, 3), (20, .aload_n 0, 1), (21, .iload_n 1, 1), (22, .iload 4, 2), (24, .invokevirtual 83, 3), (27, .istore 5, 2)] = true := by decide +kernel
theorem kX0_bestParting_1 : zOk (zdec xX0_bestParting) [(29, .iload 5, 2), (31, .iload_n 2, 1), (32, .if_icmp .ge 9, 3), (35, .iload 5, 2), (37, .istore_n 2, 1), (38, .iload 4, 2), (40, .istore_n 3, 1), (41, .iinc 4 1, 3), (44, .goto (-36), 3), (47, .iload_n 3, 1), (48, .ireturn, 1)] = true := by decide +kernel
theorem kX0_mostLeft_0 : zOk (zdec xX0_mostLeft) [(0, .iconst 0, 1), (1, .istore_n 3, 1), (2, .iload_n 3, 1), (3, .bipush 40, 2), (5, .if_icmp .gt 16, 3), (8, .aload_n 0, 1), (9, .getfield 22, 3), (12, .iload_n 3, 1), (13, .iconst 0, 1), (14, .iastore, 1), (15, .iinc 3 1, 3), (18, .goto (-16), 3), (21, .iconst 0, 1), (22, .istore_n 3, 1), (23, .iconst 1, 1), (24, .istore 4, 2)] = true := by decide +kernel
theorem kX0_mostLeft_1 : zOk (zdec xX0_mostLeft) [(26, .iload 4, 2), (28, .bipush 40, 2), (30, .if_icmp .gt 64, 3), (33, .aload_n 0, 1), (34, .getfield 18, 3), (37, .iload 4, 2), (39, .baload, 1), (40, .ifCond .eq 48, 3), (43, .aload_n 0, 1), (44, .getfield 12, 3), (47, .getfield 59, 3), (50, .iload_n 1, 1), (51, .iload 4, 2), (53, .iastore, 1), (54, .aload_n 0, 1), (55, .getfield 12, 3)] = true := by decide +kernel
theorem kX0_mostLeft_2 : zOk (zdec xX0_mostLeft) [(58, .iload_n 1, 1), (59, .iload_n 2, 1), (60, .invokevirtual 65, 3), (63, .istore 5, 2), (65, .aload_n 0, 1), (66, .getfield 22, 3), (69, .iload 5, 2), (71, .dup2, 1), (72, .iaload, 1), (73, .iconst 1, 1), (74, .iadd, 1), (75, .iastore, 1), (76, .iload_n 3, 1), (77, .aload_n 0, 1), (78, .getfield 22, 3), (81, .iload 5, 2)] = true := by decide +kernel
theorem kX0_mostLeft_3 : zOk (zdec xX0_mostLeft) [(83, .iaload, 1), (84, .invokestatic 86, 3), (87, .istore_n 3, 1), (88, .iinc 4 1, 3), (91, .goto (-65), 3), (94, .iload_n 3, 1), (95, .ireturn, 1)] = true := by decide +kernel
theorem kX0_fittingKinds_0 : zOk (zdec xX0_fittingKinds) [(0, .aload_n 0, 1), (1, .aload_n 1, 1), (2, .invokevirtual 30, 3), (5, .pop, 1), (6, .iconst 0, 1), (7, .istore 5, 2), (9, .iconst 0, 1), (10, .istore 6, 2), (12, .iload 6, 2), (14, .iconst 5, 1), (15, .if_icmp .gt 41, 3), (18, .aload_n 0, 1), (19, .getfield 12, 3), (22, .getfield 56, 3), (25, .iload 4, 2), (27, .iload 6, 2)] = true := by decide +kernel
theorem kX0_fittingKinds_1 : zOk (zdec xX0_fittingKinds) [(29, .iastore, 1), (30, .aload_n 0, 1), (31, .aload_n 2, 1), (32, .iload_n 3, 1), (33, .iload 4, 2), (35, .invokevirtual 75, 3), (38, .ifCond .eq 12, 3), (41, .iload 5, 2), (43, .iconst 1, 1), (44, .iload 6, 2), (46, .ishl, 1), (47, .ior, 1), (48, .istore 5, 2), (50, .iinc 6 1, 3), (53, .goto (-41), 3), (56, .iload 5, 2)] = true := by decide +kernel
theorem kX0_fittingKinds_2 : zOk (zdec xX0_fittingKinds) [(58, .ireturn, 1)] = true := by decide +kernel
theorem kX0_fittingTos_0 : zOk (zdec xX0_fittingTos) [(0, .aload_n 0, 1), (1, .aload_n 1, 1), (2, .invokevirtual 30, 3), (5, .pop, 1), (6, .iconst 0, 1), (7, .istore 5, 2), (9, .iconst 0, 1), (10, .istore 6, 2), (12, .iload 6, 2), (14, .aload_n 0, 1), (15, .getfield 12, 3), (18, .getfield 34, 3), (21, .if_icmp .ge 41, 3), (24, .aload_n 0, 1), (25, .getfield 12, 3), (28, .getfield 38, 3)] = true := by decide +kernel
theorem kX0_fittingTos_1 : zOk (zdec xX0_fittingTos) [(31, .iload 4, 2), (33, .iload 6, 2), (35, .iastore, 1), (36, .aload_n 0, 1), (37, .aload_n 2, 1), (38, .iload_n 3, 1), (39, .iload 4, 2), (41, .invokevirtual 75, 3), (44, .ifCond .eq 12, 3), (47, .iload 5, 2), (49, .iconst 1, 1), (50, .iload 6, 2), (52, .ishl, 1), (53, .ior, 1), (54, .istore 5, 2), (56, .iinc 6 1, 3)] = true := by decide +kernel
theorem kX0_fittingTos_2 : zOk (zdec xX0_fittingTos) [(59, .goto (-47), 3), (62, .iload 5, 2), (64, .ireturn, 1)] = true := by decide +kernel
theorem kX0_fittingWinds_0 : zOk (zdec xX0_fittingWinds) [(0, .aload_n 0, 1), (1, .aload_n 1, 1), (2, .invokevirtual 30, 3), (5, .pop, 1), (6, .iconst 0, 1), (7, .istore 5, 2), (9, .iconst 0, 1), (10, .istore 6, 2), (12, .iload 6, 2), (14, .bipush 9, 2), (16, .if_icmp .gt 41, 3), (19, .aload_n 0, 1), (20, .getfield 12, 3), (23, .getfield 91, 3), (26, .iload 4, 2), (28, .iload 6, 2)] = true := by decide +kernel
theorem kX0_fittingWinds_1 : zOk (zdec xX0_fittingWinds) [(30, .iastore, 1), (31, .aload_n 0, 1), (32, .aload_n 2, 1), (33, .iload_n 3, 1), (34, .iload 4, 2), (36, .invokevirtual 94, 3), (39, .ifCond .eq 12, 3), (42, .iload 5, 2), (44, .iconst 1, 1), (45, .iload 6, 2), (47, .ishl, 1), (48, .ior, 1), (49, .istore 5, 2), (51, .iinc 6 1, 3), (54, .goto (-42), 3), (57, .iload 5, 2)] = true := by decide +kernel
theorem kX0_fittingWinds_2 : zOk (zdec xX0_fittingWinds) [(59, .ireturn, 1)] = true := by decide +kernel
theorem kX0_fitsHouse_0 : zOk (zdec xX0_fitsHouse) [(0, .iconst 0, 1), (1, .istore 4, 2), (3, .iload 4, 2), (5, .iload_n 2, 1), (6, .if_icmp .ge 33, 3), (9, .aload_n 0, 1), (10, .getfield 12, 3), (13, .iload 4, 2), (15, .iload_n 3, 1), (16, .invokevirtual 65, 3), (19, .i2l, 1), (20, .aload_n 1, 1), (21, .getfield 69, 3), (24, .iload 4, 2), (26, .laload, 1), (27, .lcmp, 1)] = true := by decide +kernel
theorem kX0_fitsHouse_1 : zOk (zdec xX0_fitsHouse) [(28, .ifCond .eq 5, 3), (31, .iconst 0, 1), (32, .ireturn, 1), (33, .iinc 4 1, 3), (36, .goto (-33), 3), (39, .iconst 1, 1), (40, .ireturn, 1)] = true := by decide +kernel
theorem kX0_bestDrink_0 : zOk (zdec xX0_bestDrink) [(0, .iconst (-1), 1), (1, .istore 6, 2), (3, .iconst 0, 1), (4, .istore 7, 2), (6, .iconst 0, 1), (7, .istore 8, 2), (9, .iload 8, 2), (11, .bipush 9, 2), (13, .if_icmp .gt 39, 3), (16, .aload_n 0, 1), (17, .aload_n 1, 1), (18, .iload_n 2, 1), (19, .iload 8, 2), (21, .iload_n 3, 1), (22, .iload 4, 2), (24, .iload 5, 2)] = true := by decide +kernel
theorem kX0_bestDrink_1 : zOk (zdec xX0_bestDrink) [(26, .invokevirtual 97, 3), (29, .istore 9, 2), (31, .iload 9, 2), (33, .iload 6, 2), (35, .if_icmp .le 11, 3), (38, .iload 9, 2), (40, .istore 6, 2), (42, .iload 8, 2), (44, .istore 7, 2), (46, .iinc 8 1, 3), (49, .goto (-40), 3), (52, .iload 7, 2), (54, .ireturn, 1)] = true := by decide +kernel
theorem kX0_heardOfPoured_0 : zOk (zdec xX0_heardOfPoured) [(0, .aload_n 0, 1), (1, .aload_n 1, 1), (2, .iload_n 2, 1), (3, .iload_n 3, 1), (4, .iload 4, 2), (6, .iload 5, 2), (8, .iload 6, 2), (10, .invokevirtual 101, 3), (13, .istore 7, 2), (15, .aload_n 0, 1), (16, .getfield 12, 3), (19, .getfield 53, 3), (22, .iload 4, 2), (24, .iload 7, 2), (26, .iastore, 1), (27, .aload_n 0, 1)] = true := by decide +kernel
theorem kX0_heardOfPoured_1 : zOk (zdec xX0_heardOfPoured) [(28, .getfield 12, 3), (31, .iload 5, 2), (33, .iload 6, 2), (35, .invokevirtual 65, 3), (38, .ireturn, 1)] = true := by decide +kernel
theorem kX0_answerTo_0 : zOk (zdec xX0_answerTo) [(0, .aload_n 0, 1), (1, .aload_n 1, 1), (2, .invokevirtual 30, 3), (5, .pop, 1), (6, .aload_n 0, 1), (7, .getfield 12, 3), (10, .getfield 53, 3), (13, .iload_n 2, 1), (14, .iload_n 3, 1), (15, .iastore, 1), (16, .bipush 41, 2), (18, .istore 7, 2), (20, .iconst 0, 1), (21, .istore 8, 2), (23, .iconst 0, 1), (24, .istore 9, 2)] = true := by decide +kernel
theorem kX0_answerTo_1 : zOk (zdec xX0_answerTo) [(26, .iload 9, 2), (28, .bipush 9, 2), (30, .if_icmp .gt 49, 3), (33, .aload_n 0, 1), (34, .getfield 12, 3), (37, .getfield 53, 3), (40, .iload 4, 2), (42, .iload 9, 2), (44, .iastore, 1), (45, .aload_n 0, 1), (46, .getfield 12, 3), (49, .iload 5, 2), (51, .iload 6, 2), (53, .invokevirtual 65, 3), (56, .istore 10, 2), (58, .iload 10, 2)] = true := by decide +kernel
theorem kX0_answerTo_2 : zOk (zdec xX0_answerTo) [(60, .iload 7, 2), (62, .if_icmp .ge 11, 3), (65, .iload 10, 2), (67, .istore 7, 2), (69, .iload 9, 2), (71, .istore 8, 2), (73, .iinc 9 1, 3), (76, .goto (-50), 3), (79, .iload 8, 2), (81, .ireturn, 1)] = true := by decide +kernel
theorem kX0_windsOfKnowing_0 : zOk (zdec xX0_windsOfKnowing) [(0, .aload_n 0, 1), (1, .aload_n 1, 1), (2, .invokevirtual 30, 3), (5, .pop, 1), (6, .iconst 0, 1), (7, .istore 4, 2), (9, .iconst 0, 1), (10, .istore 5, 2), (12, .iload 5, 2), (14, .bipush 9, 2), (16, .if_icmp .gt 37, 3), (19, .aload_n 0, 1), (20, .getfield 12, 3), (23, .getfield 91, 3), (26, .iload_n 3, 1), (27, .iload 5, 2)] = true := by decide +kernel
theorem kX0_windsOfKnowing_1 : zOk (zdec xX0_windsOfKnowing) [(29, .iastore, 1), (30, .iload 4, 2), (32, .aload_n 0, 1), (33, .getfield 12, 3), (36, .iload_n 2, 1), (37, .iload_n 3, 1), (38, .invokevirtual 62, 3), (41, .invokestatic 79, 3), (44, .iadd, 1), (45, .istore 4, 2), (47, .iinc 5 1, 3), (50, .goto (-38), 3), (53, .iload 4, 2), (55, .ireturn, 1)] = true := by decide +kernel
theorem kX0_sureKnowers_0 : zOk (zdec xX0_sureKnowers) [(0, .iconst 0, 1), (1, .istore_n 3, 1), (2, .iconst 0, 1), (3, .istore 4, 2), (5, .iload 4, 2), (7, .aload_n 1, 1), (8, .getfield 34, 3), (11, .if_icmp .ge 44, 3), (14, .iload 4, 2), (16, .aload_n 1, 1), (17, .getfield 38, 3), (20, .iload_n 2, 1), (21, .iaload, 1), (22, .if_icmp .eq 27, 3), (25, .iload_n 3, 1), (26, .aload_n 0, 1)] = true := by decide +kernel
theorem kX0_sureKnowers_1 : zOk (zdec xX0_sureKnowers) [(27, .aload_n 1, 1), (28, .iload_n 2, 1), (29, .iload 4, 2), (31, .invokevirtual 104, 3), (34, .bipush 10, 2), (36, .if_icmp .ne 7, 3), (39, .iconst 1, 1), (40, .goto 4, 3), (43, .iconst 0, 1), (44, .invokestatic 79, 3), (47, .iadd, 1), (48, .istore_n 3, 1), (49, .iinc 4 1, 3), (52, .goto (-47), 3), (55, .iload_n 3, 1), (56, .ireturn, 1)] = true := by decide +kernel
theorem kX0_knowersTurned_0 : zOk (zdec xX0_knowersTurned) [(0, .aload_n 0, 1), (1, .aload_n 1, 1), (2, .invokevirtual 30, 3), (5, .pop, 1), (6, .aload_n 0, 1), (7, .getfield 12, 3), (10, .aload_n 0, 1), (11, .getfield 12, 3), (14, .getfield 108, 3), (17, .ifCond .ne 7, 3), (20, .iconst 1, 1), (21, .goto 4, 3), (24, .iconst 0, 1), (25, .putfield 108, 3), (28, .aload_n 0, 1), (29, .getfield 12, 3)] = true := by decide +kernel
theorem kX0_knowersTurned_1 : zOk (zdec xX0_knowersTurned) [(32, .iload_n 2, 1), (33, .invokevirtual 41, 3), (36, .invokestatic 112, 3), (39, .ireturn, 1)] = true := by decide +kernel
theorem kX0_leastCold_0 : zOk (zdec xX0_leastCold) [(0, .aload_n 0, 1), (1, .aload_n 1, 1), (2, .invokevirtual 30, 3), (5, .pop, 1), (6, .iconst 0, 1), (7, .istore 4, 2), (9, .iload 4, 2), (11, .bipush 9, 2), (13, .if_icmp .gt 33, 3), (16, .aload_n 0, 1), (17, .getfield 12, 3), (20, .iload 4, 2), (22, .putfield 117, 3), (25, .aload_n 0, 1), (26, .getfield 12, 3), (29, .iload_n 2, 1)] = true := by decide +kernel
theorem kX0_leastCold_1 : zOk (zdec xX0_leastCold) [(30, .iload_n 3, 1), (31, .invokevirtual 62, 3), (34, .ifCond .ne 6, 3), (37, .iload 4, 2), (39, .ireturn, 1), (40, .iinc 4 1, 3), (43, .goto (-34), 3), (46, .iconst (-1), 1), (47, .ireturn, 1)] = true := by decide +kernel
theorem kX0_widestTo_0 : zOk (zdec xX0_widestTo) [(0, .iconst (-1), 1), (1, .istore_n 3, 1), (2, .iconst 0, 1), (3, .istore 4, 2), (5, .iconst 0, 1), (6, .istore 5, 2), (8, .iload 5, 2), (10, .aload_n 1, 1), (11, .getfield 34, 3), (14, .if_icmp .ge 32, 3), (17, .aload_n 0, 1), (18, .aload_n 1, 1), (19, .iload_n 2, 1), (20, .iload 5, 2), (22, .invokevirtual 120, 3), (25, .istore 6, 2)] = true := by decide +kernel
theorem kX0_widestTo_1 : zOk (zdec xX0_widestTo) [(27, .iload 6, 2), (29, .iload_n 3, 1), (30, .if_icmp .le 10, 3), (33, .iload 6, 2), (35, .istore_n 3, 1), (36, .iload 5, 2), (38, .istore 4, 2), (40, .iinc 5 1, 3), (43, .goto (-35), 3), (46, .iload 4, 2), (48, .ireturn, 1)] = true := by decide +kernel
theorem kX0_knowersIfTo_0 : zOk (zdec xX0_knowersIfTo) [(0, .aload_n 0, 1), (1, .aload_n 1, 1), (2, .invokevirtual 30, 3), (5, .pop, 1), (6, .aload_n 0, 1), (7, .getfield 12, 3), (10, .getfield 38, 3), (13, .iload_n 2, 1), (14, .iload_n 3, 1), (15, .iastore, 1), (16, .aload_n 0, 1), (17, .getfield 12, 3), (20, .iload_n 2, 1), (21, .invokevirtual 41, 3), (24, .invokestatic 112, 3), (27, .ireturn, 1)] = true := by decide +kernel
theorem kX0_leastQuietWind_0 : zOk (zdec xX0_leastQuietWind) [(0, .aload_n 0, 1), (1, .aload_n 1, 1), (2, .invokevirtual 30, 3), (5, .pop, 1), (6, .iconst 0, 1), (7, .istore_n 3, 1), (8, .iload_n 3, 1), (9, .bipush 9, 2), (11, .if_icmp .gt 32, 3), (14, .aload_n 0, 1), (15, .getfield 12, 3), (18, .getfield 91, 3), (21, .iload_n 2, 1), (22, .iload_n 3, 1), (23, .iastore, 1), (24, .aload_n 0, 1)] = true := by decide +kernel
theorem kX0_leastQuietWind_1 : zOk (zdec xX0_leastQuietWind) [(25, .getfield 12, 3), (28, .iload_n 2, 1), (29, .invokevirtual 123, 3), (32, .ifCond .ne 5, 3), (35, .iload_n 3, 1), (36, .ireturn, 1), (37, .iinc 3 1, 3), (40, .goto (-32), 3), (43, .iconst (-1), 1), (44, .ireturn, 1)] = true := by decide +kernel
theorem kX0_knowersSober_0 : zOk (zdec xX0_knowersSober) [(0, .aload_n 0, 1), (1, .aload_n 1, 1), (2, .invokevirtual 30, 3), (5, .pop, 1), (6, .iconst 0, 1), (7, .istore_n 3, 1), (8, .iload_n 3, 1), (9, .aload_n 0, 1), (10, .getfield 12, 3), (13, .getfield 34, 3), (16, .if_icmp .ge 19, 3), (19, .aload_n 0, 1), (20, .getfield 12, 3), (23, .getfield 53, 3), (26, .iload_n 3, 1), (27, .iconst 0, 1)] = true := by decide +kernel
theorem kX0_knowersSober_1 : zOk (zdec xX0_knowersSober) [(28, .iastore, 1), (29, .iinc 3 1, 3), (32, .goto (-24), 3), (35, .aload_n 0, 1), (36, .getfield 12, 3), (39, .iload_n 2, 1), (40, .invokevirtual 41, 3), (43, .invokestatic 112, 3), (46, .ireturn, 1)] = true := by decide +kernel
theorem kX0_allKnowersIfDrink_0 : zOk (zdec xX0_allKnowersIfDrink) [(0, .aload_n 0, 1), (1, .aload_n 1, 1), (2, .invokevirtual 30, 3), (5, .pop, 1), (6, .aload_n 0, 1), (7, .getfield 12, 3), (10, .getfield 53, 3), (13, .iload_n 2, 1), (14, .iload_n 3, 1), (15, .iastore, 1), (16, .aload_n 0, 1), (17, .getfield 12, 3), (20, .invokevirtual 126, 3), (23, .ireturn, 1)] = true := by decide +kernel
theorem kX0_isKnownIfTaught_0 : zOk (zdec xX0_isKnownIfTaught) [(0, .aload_n 0, 1), (1, .aload_n 1, 1), (2, .invokevirtual 30, 3), (5, .pop, 1), (6, .aload_n 0, 1), (7, .getfield 12, 3), (10, .iload_n 3, 1), (11, .aload_n 0, 1), (12, .getfield 12, 3), (15, .getfield 130, 3), (18, .iload_n 2, 1), (19, .iaload, 1), (20, .invokevirtual 133, 3), (23, .aload_n 0, 1), (24, .getfield 12, 3), (27, .iload_n 2, 1)] = true := by decide +kernel
theorem kX0_isKnownIfTaught_1 : zOk (zdec xX0_isKnownIfTaught) [(28, .iload_n 3, 1), (29, .invokevirtual 62, 3), (32, .ireturn, 1)] = true := by decide +kernel
theorem kX0_merriestHouse_0 : zOk (zdec xX0_merriestHouse) [(0, .iconst (-1), 1), (1, .istore_n 3, 1), (2, .iconst 0, 1), (3, .istore 4, 2), (5, .iconst 0, 1), (6, .istore 5, 2), (8, .iload 5, 2), (10, .aload_n 1, 1), (11, .getfield 34, 3), (14, .if_icmp .ge 52, 3), (17, .aload_n 0, 1), (18, .aload_n 1, 1), (19, .invokevirtual 30, 3), (22, .pop, 1), (23, .aload_n 0, 1), (24, .getfield 12, 3)] = true := by decide +kernel
theorem kX0_merriestHouse_1 : zOk (zdec xX0_merriestHouse) [(27, .getfield 53, 3), (30, .iload 5, 2), (32, .iconst 0, 1), (33, .iastore, 1), (34, .aload_n 0, 1), (35, .getfield 12, 3), (38, .iload_n 2, 1), (39, .invokevirtual 41, 3), (42, .invokestatic 112, 3), (45, .istore 6, 2), (47, .iload 6, 2), (49, .iload_n 3, 1), (50, .if_icmp .le 10, 3), (53, .iload 6, 2), (55, .istore_n 3, 1), (56, .iload 5, 2)] = true := by decide +kernel
theorem kX0_merriestHouse_2 : zOk (zdec xX0_merriestHouse) [(58, .istore 4, 2), (60, .iinc 5 1, 3), (63, .goto (-55), 3), (66, .iload 4, 2), (68, .ireturn, 1)] = true := by decide +kernel
theorem kX1_init_0 : zOk (zdec xX1_init) [(0, .aload_n 0, 1), (1, .invokespecial 3, 3), (4, .aload_n 0, 1), (5, .bipush 8, 2), (7, .putfield 9, 3), (10, .aload_n 0, 1), (11, .bipush 12, 2), (13, .newarray .int, 2), (15, .putfield 15, 3), (18, .aload_n 0, 1), (19, .bipush 12, 2), (21, .newarray .int, 2), (23, .putfield 19, 3), (26, .aload_n 0, 1), (27, .bipush 12, 2), (29, .newarray .int, 2)] = true := by decide +kernel
theorem kX1_init_1 : zOk (zdec xX1_init) [(31, .putfield 22, 3), (34, .aload_n 0, 1), (35, .bipush 12, 2), (37, .newarray .int, 2), (39, .putfield 25, 3), (42, .aload_n 0, 1), (43, .iconst 0, 1), (44, .putfield 28, 3), (47, .aload_n 0, 1), (48, .iconst 0, 1), (49, .putfield 31, 3), (52, .aload_n 0, 1), (53, .iconst 0, 1), (54, .putfield 35, 3), (57, .aload_n 0, 1), (58, .iconst 1, 1)] = true := by decide +kernel
theorem kX1_init_2 : zOk (zdec xX1_init) [(59, .putfield 38, 3), (62, .aload_n 0, 1), (63, .iconst 0, 1), (64, .putfield 41, 3), (67, .aload_n 0, 1), (68, .bipush 8, 2), (70, .newarray .int, 2), (72, .putfield 44, 3), (75, .aload_n 0, 1), (76, .bipush 8, 2), (78, .newarray .int, 2), (80, .putfield 47, 3), (83, .aload_n 0, 1), (84, .bipush 8, 2), (86, .newarray .int, 2), (88, .putfield 50, 3)] = true := by decide +kernel
theorem kX1_init_3 : zOk (zdec xX1_init) [(91, .aload_n 0, 1), (92, .bipush 8, 2), (94, .newarray .int, 2), (96, .putfield 53, 3), (99, .return_, 1)] = true := by decide +kernel
theorem kX1_takeFrom_0 : zOk (zdec xX1_takeFrom) [(0, .aload_n 0, 1), (1, .aload_n 1, 1), (2, .getfield 9, 3), (5, .putfield 9, 3), (8, .aload_n 1, 1), (9, .getfield 15, 3), (12, .iconst 0, 1), (13, .aload_n 0, 1), (14, .getfield 15, 3), (17, .iconst 0, 1), (18, .bipush 12, 2), (20, .invokestatic 56, 3), (23, .aload_n 1, 1), (24, .getfield 19, 3), (27, .iconst 0, 1), (28, .aload_n 0, 1)] = true := by decide +kernel
theorem kX1_takeFrom_1 : zOk (zdec xX1_takeFrom) [(29, .getfield 19, 3), (32, .iconst 0, 1), (33, .bipush 12, 2), (35, .invokestatic 56, 3), (38, .aload_n 1, 1), (39, .getfield 22, 3), (42, .iconst 0, 1), (43, .aload_n 0, 1), (44, .getfield 22, 3), (47, .iconst 0, 1), (48, .bipush 12, 2), (50, .invokestatic 56, 3), (53, .aload_n 1, 1), (54, .getfield 25, 3), (57, .iconst 0, 1), (58, .aload_n 0, 1)] = true := by decide +kernel
theorem kX1_takeFrom_2 : zOk (zdec xX1_takeFrom) [(59, .getfield 25, 3), (62, .iconst 0, 1), (63, .bipush 12, 2), (65, .invokestatic 56, 3), (68, .aload_n 0, 1), (69, .aload_n 1, 1), (70, .getfield 28, 3), (73, .putfield 28, 3), (76, .aload_n 0, 1), (77, .aload_n 1, 1), (78, .getfield 31, 3), (81, .putfield 31, 3), (84, .aload_n 0, 1), (85, .aload_n 1, 1), (86, .getfield 35, 3), (89, .putfield 35, 3)] = true := by decide +kernel
theorem kX1_takeFrom_3 : zOk (zdec xX1_takeFrom) [(92, .aload_n 0, 1), (93, .aload_n 1, 1), (94, .getfield 38, 3), (97, .putfield 38, 3), (100, .aload_n 0, 1), (101, .aload_n 1, 1), (102, .getfield 41, 3), (105, .putfield 41, 3), (108, .aload_n 1, 1), (109, .getfield 44, 3), (112, .iconst 0, 1), (113, .aload_n 0, 1), (114, .getfield 44, 3), (117, .iconst 0, 1), (118, .bipush 8, 2), (120, .invokestatic 56, 3)] = true := by decide +kernel
theorem kX1_takeFrom_4 : zOk (zdec xX1_takeFrom) [(123, .aload_n 1, 1), (124, .getfield 47, 3), (127, .iconst 0, 1), (128, .aload_n 0, 1), (129, .getfield 47, 3), (132, .iconst 0, 1), (133, .bipush 8, 2), (135, .invokestatic 56, 3), (138, .aload_n 1, 1), (139, .getfield 50, 3), (142, .iconst 0, 1), (143, .aload_n 0, 1), (144, .getfield 50, 3), (147, .iconst 0, 1), (148, .bipush 8, 2), (150, .invokestatic 56, 3)] = true := by decide +kernel
theorem kX1_takeFrom_5 : zOk (zdec xX1_takeFrom) [(153, .aload_n 1, 1), (154, .getfield 53, 3), (157, .iconst 0, 1), (158, .aload_n 0, 1), (159, .getfield 53, 3), (162, .iconst 0, 1), (163, .bipush 8, 2), (165, .invokestatic 56, 3), (168, .return_, 1)] = true := by decide +kernel
theorem kX1_hasRoom_0 : zOk (zdec xX1_hasRoom) [(0, .aload_n 0, 1), (1, .getfield 41, 3), (4, .bipush 8, 2), (6, .if_icmp .ge 7, 3), (9, .iconst 1, 1), (10, .goto 4, 3), (13, .iconst 0, 1), (14, .ireturn, 1)] = true := by decide +kernel
theorem kX1_addLetter_0 : zOk (zdec xX1_addLetter) [(0, .aload_n 0, 1), (1, .invokevirtual 62, 3), (4, .ifCond .ne 5, 3), (7, .iconst (-1), 1), (8, .ireturn, 1), (9, .aload_n 0, 1), (10, .getfield 41, 3), (13, .istore 5, 2), (15, .aload_n 0, 1), (16, .getfield 44, 3), (19, .iload 5, 2), (21, .iload_n 1, 1), (22, .iastore, 1), (23, .aload_n 0, 1), (24, .getfield 47, 3), (27, .iload 5, 2)] = true := by decide +kernel
theorem kX1_addLetter_1 : zOk (zdec xX1_addLetter) [(29, .iload_n 2, 1), (30, .iastore, 1), (31, .aload_n 0, 1), (32, .getfield 50, 3), (35, .iload 5, 2), (37, .iload_n 3, 1), (38, .iastore, 1), (39, .aload_n 0, 1), (40, .getfield 53, 3), (43, .iload 5, 2), (45, .iload 4, 2), (47, .iastore, 1), (48, .aload_n 0, 1), (49, .iload 5, 2), (51, .iconst 1, 1), (52, .iadd, 1)] = true := by decide +kernel
theorem kX1_addLetter_2 : zOk (zdec xX1_addLetter) [(53, .putfield 41, 3), (56, .iload 5, 2), (58, .ireturn, 1)] = true := by decide +kernel
theorem kX1_learn_0 : zOk (zdec xX1_learn) [(0, .aload_n 0, 1), (1, .getfield 22, 3), (4, .iload_n 1, 1), (5, .dup2, 1), (6, .iaload, 1), (7, .iconst 1, 1), (8, .iload_n 2, 1), (9, .ishl, 1), (10, .ior, 1), (11, .iastore, 1), (12, .return_, 1)] = true := by decide +kernel
theorem kX1_houseAtStep_0 : zOk (zdec xX1_houseAtStep) [(0, .aload_n 0, 1), (1, .getfield 31, 3), (4, .ifCond .eq 14, 3), (7, .aload_n 0, 1), (8, .getfield 9, 3), (11, .iconst 1, 1), (12, .isub, 1), (13, .iload_n 1, 1), (14, .isub, 1), (15, .goto 4, 3), (18, .iload_n 1, 1), (19, .ireturn, 1)] = true := by decide +kernel
theorem kX1_readAt_0 : zOk (zdec xX1_readAt) [(0, .aload_n 0, 1), (1, .getfield 31, 3), (4, .ifCond .eq 21, 3), (7, .iload_n 2, 1), (8, .aload_n 0, 1), (9, .getfield 50, 3), (12, .iload_n 1, 1), (13, .iaload, 1), (14, .if_icmp .lt 7, 3), (17, .iconst 1, 1), (18, .goto 22, 3), (21, .iconst 0, 1), (22, .goto 18, 3), (25, .iload_n 2, 1), (26, .aload_n 0, 1), (27, .getfield 50, 3)] = true := by decide +kernel
theorem kX1_readAt_1 : zOk (zdec xX1_readAt) [(30, .iload_n 1, 1), (31, .iaload, 1), (32, .if_icmp .gt 7, 3), (35, .iconst 1, 1), (36, .goto 4, 3), (39, .iconst 0, 1), (40, .ireturn, 1)] = true := by decide +kernel
theorem kX1_tipsyAt_0 : zOk (zdec xX1_tipsyAt) [(0, .aload_n 0, 1), (1, .getfield 31, 3), (4, .ifCond .eq 9, 3), (7, .iload_n 1, 1), (8, .iconst 1, 1), (9, .iadd, 1), (10, .goto 4, 3), (13, .iconst 0, 1), (14, .istore_n 2, 1), (15, .aload_n 0, 1), (16, .getfield 31, 3), (19, .ifCond .eq 10, 3), (22, .aload_n 0, 1), (23, .getfield 9, 3), (26, .goto 4, 3), (29, .iload_n 1, 1)] = true := by decide +kernel
theorem kX1_tipsyAt_1 : zOk (zdec xX1_tipsyAt) [(30, .istore_n 3, 1), (31, .iconst 0, 1), (32, .istore 4, 2), (34, .iload_n 2, 1), (35, .istore 5, 2), (37, .iload 5, 2), (39, .iload_n 3, 1), (40, .if_icmp .ge 21, 3), (43, .iload 4, 2), (45, .aload_n 0, 1), (46, .getfield 19, 3), (49, .iload 5, 2), (51, .iaload, 1), (52, .iadd, 1), (53, .istore 4, 2), (55, .iinc 5 1, 3)] = true := by decide +kernel
theorem kX1_tipsyAt_2 : zOk (zdec xX1_tipsyAt) [(58, .goto (-21), 3), (61, .iload 4, 2), (63, .ireturn, 1)] = true := by decide +kernel
theorem kX1_leftOutAfter_0 : zOk (zdec xX1_leftOutAfter) [(0, .iload_n 1, 1), (1, .iconst 4, 1), (2, .idiv, 1), (3, .aload_n 0, 1), (4, .getfield 28, 3), (7, .iconst 3, 1), (8, .idiv, 1), (9, .iadd, 1), (10, .ireturn, 1)] = true := by decide +kernel
theorem kX1_heardAt_0 : zOk (zdec xX1_heardAt) [(0, .aload_n 0, 1), (1, .iload_n 1, 1), (2, .iload_n 2, 1), (3, .aload_n 0, 1), (4, .aload_n 0, 1), (5, .iload_n 2, 1), (6, .invokevirtual 66, 3), (9, .invokevirtual 70, 3), (12, .invokevirtual 73, 3), (15, .ireturn, 1)] = true := by decide +kernel
theorem kX1_heardWith_0 : zOk (zdec xX1_heardWith) [(0, .aload_n 0, 1), (1, .iload_n 1, 1), (2, .iload_n 2, 1), (3, .invokevirtual 77, 3), (6, .ifCond .ne 5, 3), (9, .iconst 0, 1), (10, .ireturn, 1), (11, .aload_n 0, 1), (12, .getfield 53, 3), (15, .iload_n 1, 1), (16, .iaload, 1), (17, .istore 4, 2), (19, .iload 4, 2), (21, .aload_n 0, 1), (22, .getfield 15, 3), (25, .iload_n 2, 1)] = true := by decide +kernel
theorem kX1_heardWith_1 : zOk (zdec xX1_heardWith) [(26, .iaload, 1), (27, .isub, 1), (28, .iload_n 3, 1), (29, .isub, 1), (30, .iload 4, 2), (32, .invokestatic 81, 3), (35, .istore 5, 2), (37, .iload 4, 2), (39, .aload_n 0, 1), (40, .getfield 15, 3), (43, .iload_n 2, 1), (44, .iaload, 1), (45, .iconst 2, 1), (46, .idiv, 1), (47, .isub, 1), (48, .iload_n 3, 1)] = true := by decide +kernel
theorem kX1_heardWith_2 : zOk (zdec xX1_heardWith) [(49, .isub, 1), (50, .iload 4, 2), (52, .invokestatic 81, 3), (55, .istore 6, 2), (57, .aload_n 0, 1), (58, .getfield 44, 3), (61, .iload_n 1, 1), (62, .iaload, 1), (63, .tableswitch 109 1 5 #[33, 51, 36, 67, 92], 33), (96, .iload 6, 2), (98, .ireturn, 1), (99, .iload 6, 2), (101, .aload_n 0, 1), (102, .getfield 47, 3), (105, .iload_n 1, 1), (106, .iaload, 1)] = true := by decide +kernel
theorem kX1_heardWith_3 : zOk (zdec xX1_heardWith) [(107, .iadd, 1), (108, .iload 4, 2), (110, .invokestatic 81, 3), (113, .ireturn, 1), (114, .aload_n 0, 1), (115, .iload_n 1, 1), (116, .iload_n 2, 1), (117, .invokevirtual 85, 3), (120, .ifCond .eq 8, 3), (123, .iload 5, 2), (125, .goto 4, 3), (128, .iconst 0, 1), (129, .ireturn, 1), (130, .aload_n 0, 1), (131, .iload_n 1, 1), (132, .iload_n 2, 1)] = true := by decide +kernel
theorem kX1_heardWith_4 : zOk (zdec xX1_heardWith) [(133, .invokevirtual 85, 3), (136, .ifCond .eq 17, 3), (139, .aload_n 0, 1), (140, .iload_n 1, 1), (141, .iload_n 2, 1), (142, .invokevirtual 88, 3), (145, .ifCond .eq 8, 3), (148, .iload 5, 2), (150, .goto 4, 3), (153, .iconst 0, 1), (154, .ireturn, 1), (155, .iload_n 2, 1), (156, .aload_n 0, 1), (157, .getfield 50, 3), (160, .iload_n 1, 1), (161, .iaload, 1)] = true := by decide +kernel
theorem kX1_heardWith_5 : zOk (zdec xX1_heardWith) [(162, .if_icmp .ne 8, 3), (165, .iload 4, 2), (167, .goto 4, 3), (170, .iconst 0, 1), (171, .ireturn, 1), (172, .iload 5, 2), (174, .ireturn, 1)] = true := by decide +kernel
theorem kX1_within_0 : zOk (zdec xX1_within) [(0, .iload_n 0, 1), (1, .ifCond .ge 5, 3), (4, .iconst 0, 1), (5, .ireturn, 1), (6, .iload_n 0, 1), (7, .iload_n 1, 1), (8, .if_icmp .le 7, 3), (11, .iload_n 1, 1), (12, .goto 4, 3), (15, .iload_n 0, 1), (16, .ireturn, 1)] = true := by decide +kernel
theorem kX1_understands_0 : zOk (zdec xX1_understands) [(0, .iload_n 2, 1), (1, .aload_n 0, 1), (2, .getfield 50, 3), (5, .iload_n 1, 1), (6, .iaload, 1), (7, .if_icmp .eq 22, 3), (10, .aload_n 0, 1), (11, .getfield 22, 3), (14, .iload_n 2, 1), (15, .iaload, 1), (16, .aload_n 0, 1), (17, .getfield 47, 3), (20, .iload_n 1, 1), (21, .iaload, 1), (22, .ishr, 1), (23, .iconst 1, 1)] = true := by decide +kernel
theorem kX1_understands_1 : zOk (zdec xX1_understands) [(24, .iand, 1), (25, .iconst 1, 1), (26, .if_icmp .ne 7, 3), (29, .iconst 1, 1), (30, .goto 4, 3), (33, .iconst 0, 1), (34, .ireturn, 1)] = true := by decide +kernel
theorem kX1_isNearTo_0 : zOk (zdec xX1_isNearTo) [(0, .aload_n 0, 1), (1, .getfield 50, 3), (4, .iload_n 1, 1), (5, .iaload, 1), (6, .iload_n 2, 1), (7, .isub, 1), (8, .invokestatic 91, 3), (11, .iconst 1, 1), (12, .if_icmp .gt 7, 3), (15, .iconst 1, 1), (16, .goto 4, 3), (19, .iconst 0, 1), (20, .ireturn, 1)] = true := by decide +kernel
theorem kX1_isKnown_0 : zOk (zdec xX1_isKnown) [(0, .iconst 2, 1), (1, .aload_n 0, 1), (2, .iload_n 1, 1), (3, .iload_n 2, 1), (4, .invokevirtual 96, 3), (7, .imul, 1), (8, .aload_n 0, 1), (9, .getfield 53, 3), (12, .iload_n 1, 1), (13, .iaload, 1), (14, .if_icmp .lt 7, 3), (17, .iconst 1, 1), (18, .goto 4, 3), (21, .iconst 0, 1), (22, .ireturn, 1)] = true := by decide +kernel
theorem kX1_knowers_0 : zOk (zdec xX1_knowers) [(0, .iconst 0, 1), (1, .istore_n 2, 1), (2, .iconst 0, 1), (3, .istore_n 3, 1), (4, .iconst 0, 1), (5, .istore 4, 2), (7, .iload 4, 2), (9, .aload_n 0, 1), (10, .getfield 9, 3), (13, .if_icmp .ge 57, 3), (16, .aload_n 0, 1), (17, .iload 4, 2), (19, .invokevirtual 99, 3), (22, .istore 5, 2), (24, .iconst 2, 1), (25, .aload_n 0, 1)] = true := by decide +kernel
theorem kX1_knowers_1 : zOk (zdec xX1_knowers) [(26, .iload_n 1, 1), (27, .iload 5, 2), (29, .aload_n 0, 1), (30, .iload_n 3, 1), (31, .invokevirtual 70, 3), (34, .invokevirtual 73, 3), (37, .imul, 1), (38, .aload_n 0, 1), (39, .getfield 53, 3), (42, .iload_n 1, 1), (43, .iaload, 1), (44, .if_icmp .lt 10, 3), (47, .iload_n 2, 1), (48, .iconst 1, 1), (49, .iload 5, 2), (51, .ishl, 1)] = true := by decide +kernel
theorem kX1_knowers_2 : zOk (zdec xX1_knowers) [(52, .ior, 1), (53, .istore_n 2, 1), (54, .iload_n 3, 1), (55, .aload_n 0, 1), (56, .getfield 19, 3), (59, .iload 5, 2), (61, .iaload, 1), (62, .iadd, 1), (63, .istore_n 3, 1), (64, .iinc 4 1, 3), (67, .goto (-60), 3), (70, .iload_n 2, 1), (71, .ireturn, 1)] = true := by decide +kernel
theorem kX1_allKnowers_0 : zOk (zdec xX1_allKnowers) [(0, .iconst 0, 1), (1, .istore_n 1, 1), (2, .iconst 0, 1), (3, .istore_n 2, 1), (4, .iload_n 2, 1), (5, .aload_n 0, 1), (6, .getfield 41, 3), (9, .if_icmp .ge 20, 3), (12, .iload_n 1, 1), (13, .aload_n 0, 1), (14, .iload_n 2, 1), (15, .invokevirtual 102, 3), (18, .invokestatic 105, 3), (21, .iadd, 1), (22, .istore_n 1, 1), (23, .iinc 2 1, 3)] = true := by decide +kernel
theorem kX1_allKnowers_1 : zOk (zdec xX1_allKnowers) [(26, .goto (-22), 3), (29, .iload_n 1, 1), (30, .ireturn, 1)] = true := by decide +kernel
theorem kX1_knownAt_0 : zOk (zdec xX1_knownAt) [(0, .aload_n 0, 1), (1, .aload_n 0, 1), (2, .iload_n 1, 1), (3, .invokevirtual 66, 3), (6, .invokevirtual 70, 3), (9, .istore_n 2, 1), (10, .iconst 0, 1), (11, .istore_n 3, 1), (12, .iconst 0, 1), (13, .istore 4, 2), (15, .iload 4, 2), (17, .aload_n 0, 1), (18, .getfield 41, 3), (21, .if_icmp .ge 36, 3), (24, .iconst 2, 1), (25, .aload_n 0, 1)] = true := by decide +kernel
theorem kX1_knownAt_1 : zOk (zdec xX1_knownAt) [(26, .iload 4, 2), (28, .iload_n 1, 1), (29, .iload_n 2, 1), (30, .invokevirtual 73, 3), (33, .imul, 1), (34, .aload_n 0, 1), (35, .getfield 53, 3), (38, .iload 4, 2), (40, .iaload, 1), (41, .if_icmp .lt 10, 3), (44, .iload_n 3, 1), (45, .iconst 1, 1), (46, .iload 4, 2), (48, .ishl, 1), (49, .ior, 1), (50, .istore_n 3, 1)] = true := by decide +kernel
theorem kX1_knownAt_2 : zOk (zdec xX1_knownAt) [(51, .iinc 4 1, 3), (54, .goto (-39), 3), (57, .iload_n 3, 1), (58, .ireturn, 1)] = true := by decide +kernel
theorem kX1_lettersReadAt_0 : zOk (zdec xX1_lettersReadAt) [(0, .iconst 0, 1), (1, .istore_n 2, 1), (2, .iconst 0, 1), (3, .istore_n 3, 1), (4, .iload_n 3, 1), (5, .aload_n 0, 1), (6, .getfield 41, 3), (9, .if_icmp .ge 24, 3), (12, .aload_n 0, 1), (13, .iload_n 3, 1), (14, .iload_n 1, 1), (15, .invokevirtual 77, 3), (18, .ifCond .eq 9, 3), (21, .iload_n 2, 1), (22, .iconst 1, 1), (23, .iload_n 3, 1)] = true := by decide +kernel
theorem kX1_lettersReadAt_1 : zOk (zdec xX1_lettersReadAt) [(24, .ishl, 1), (25, .ior, 1), (26, .istore_n 2, 1), (27, .iinc 3 1, 3), (30, .goto (-26), 3), (33, .iload_n 2, 1), (34, .ireturn, 1)] = true := by decide +kernel
theorem kX1_endKnower_0 : zOk (zdec xX1_endKnower) [(0, .aload_n 0, 1), (1, .iload_n 1, 1), (2, .invokevirtual 102, 3), (5, .istore_n 3, 1), (6, .iconst (-1), 1), (7, .istore 4, 2), (9, .iconst 0, 1), (10, .istore 5, 2), (12, .iload 5, 2), (14, .aload_n 0, 1), (15, .getfield 9, 3), (18, .if_icmp .ge 38, 3), (21, .aload_n 0, 1), (22, .iload 5, 2), (24, .invokevirtual 99, 3), (27, .istore 6, 2)] = true := by decide +kernel
theorem kX1_endKnower_1 : zOk (zdec xX1_endKnower) [(29, .iload_n 3, 1), (30, .iload 6, 2), (32, .ishr, 1), (33, .iconst 1, 1), (34, .iand, 1), (35, .iconst 1, 1), (36, .if_icmp .ne 14, 3), (39, .iload 6, 2), (41, .istore 4, 2), (43, .iload_n 2, 1), (44, .ifCond .eq 6, 3), (47, .goto 9, 3), (50, .iinc 5 1, 3), (53, .goto (-41), 3), (56, .iload 4, 2), (58, .ireturn, 1)] = true := by decide +kernel
theorem kX1_loudestAt_0 : zOk (zdec xX1_loudestAt) [(0, .iconst 0, 1), (1, .istore_n 2, 1), (2, .iconst (-1), 1), (3, .istore_n 3, 1), (4, .iconst 0, 1), (5, .istore 4, 2), (7, .iload 4, 2), (9, .aload_n 0, 1), (10, .getfield 41, 3), (13, .if_icmp .ge 30, 3), (16, .aload_n 0, 1), (17, .iload 4, 2), (19, .iload_n 1, 1), (20, .invokevirtual 96, 3), (23, .istore 5, 2), (25, .iload 5, 2)] = true := by decide +kernel
theorem kX1_loudestAt_1 : zOk (zdec xX1_loudestAt) [(27, .iload_n 2, 1), (28, .if_icmp .le 9, 3), (31, .iload 5, 2), (33, .istore_n 2, 1), (34, .iload 4, 2), (36, .istore_n 3, 1), (37, .iinc 4 1, 3), (40, .goto (-33), 3), (43, .iload_n 3, 1), (44, .ireturn, 1)] = true := by decide +kernel
theorem kX1_wordsAt_0 : zOk (zdec xX1_wordsAt) [(0, .aload_n 0, 1), (1, .aload_n 0, 1), (2, .iload_n 1, 1), (3, .invokevirtual 66, 3), (6, .invokevirtual 70, 3), (9, .istore_n 2, 1), (10, .iconst 0, 1), (11, .istore_n 3, 1), (12, .iconst 0, 1), (13, .istore 4, 2), (15, .iload 4, 2), (17, .aload_n 0, 1), (18, .getfield 41, 3), (21, .if_icmp .ge 20, 3), (24, .iload_n 3, 1), (25, .aload_n 0, 1)] = true := by decide +kernel
theorem kX1_wordsAt_1 : zOk (zdec xX1_wordsAt) [(26, .iload 4, 2), (28, .iload_n 1, 1), (29, .iload_n 2, 1), (30, .invokevirtual 73, 3), (33, .iadd, 1), (34, .istore_n 3, 1), (35, .iinc 4 1, 3), (38, .goto (-23), 3), (41, .iload_n 3, 1), (42, .ireturn, 1)] = true := by decide +kernel
theorem kX1_houseWithMost_0 : zOk (zdec xX1_houseWithMost) [(0, .iconst 0, 1), (1, .istore_n 1, 1), (2, .iconst 1, 1), (3, .istore_n 2, 1), (4, .iload_n 2, 1), (5, .aload_n 0, 1), (6, .getfield 9, 3), (9, .if_icmp .ge 24, 3), (12, .aload_n 0, 1), (13, .iload_n 2, 1), (14, .invokevirtual 110, 3), (17, .aload_n 0, 1), (18, .iload_n 1, 1), (19, .invokevirtual 110, 3), (22, .if_icmp .le 5, 3), (25, .iload_n 2, 1)] = true := by decide +kernel
theorem kX1_houseWithMost_1 : zOk (zdec xX1_houseWithMost) [(26, .istore_n 1, 1), (27, .iinc 2 1, 3), (30, .goto (-26), 3), (33, .iload_n 1, 1), (34, .ireturn, 1)] = true := by decide +kernel
theorem kX1_houseWithFewest_0 : zOk (zdec xX1_houseWithFewest) [(0, .iconst 0, 1), (1, .istore_n 1, 1), (2, .iconst 1, 1), (3, .istore_n 2, 1), (4, .iload_n 2, 1), (5, .aload_n 0, 1), (6, .getfield 9, 3), (9, .if_icmp .ge 24, 3), (12, .aload_n 0, 1), (13, .iload_n 2, 1), (14, .invokevirtual 110, 3), (17, .aload_n 0, 1), (18, .iload_n 1, 1), (19, .invokevirtual 110, 3), (22, .if_icmp .ge 5, 3), (25, .iload_n 2, 1)] = true := by decide +kernel
theorem kX1_houseWithFewest_1 : zOk (zdec xX1_houseWithFewest) [(26, .istore_n 1, 1), (27, .iinc 2 1, 3), (30, .goto (-26), 3), (33, .iload_n 1, 1), (34, .ireturn, 1)] = true := by decide +kernel
theorem kX1_allDrink_0 : zOk (zdec xX1_allDrink) [(0, .iconst 0, 1), (1, .istore_n 1, 1), (2, .iconst 0, 1), (3, .istore_n 2, 1), (4, .iload_n 2, 1), (5, .aload_n 0, 1), (6, .getfield 9, 3), (9, .if_icmp .ge 18, 3), (12, .iload_n 1, 1), (13, .aload_n 0, 1), (14, .getfield 19, 3), (17, .iload_n 2, 1), (18, .iaload, 1), (19, .iadd, 1), (20, .istore_n 1, 1), (21, .iinc 2 1, 3)] = true := by decide +kernel
theorem kX1_allDrink_1 : zOk (zdec xX1_allDrink) [(24, .goto (-20), 3), (27, .iload_n 1, 1), (28, .ireturn, 1)] = true := by decide +kernel
theorem kX1_allEars_0 : zOk (zdec xX1_allEars) [(0, .iconst 0, 1), (1, .istore_n 1, 1), (2, .iconst 0, 1), (3, .istore_n 2, 1), (4, .iload_n 2, 1), (5, .aload_n 0, 1), (6, .getfield 9, 3), (9, .if_icmp .ge 18, 3), (12, .iload_n 1, 1), (13, .aload_n 0, 1), (14, .getfield 25, 3), (17, .iload_n 2, 1), (18, .iaload, 1), (19, .iadd, 1), (20, .istore_n 1, 1), (21, .iinc 2 1, 3)] = true := by decide +kernel
theorem kX1_allEars_1 : zOk (zdec xX1_allEars) [(24, .goto (-20), 3), (27, .iload_n 1, 1), (28, .ireturn, 1)] = true := by decide +kernel
theorem kX1_goRound_0 : zOk (zdec xX1_goRound) [(0, .iconst 0, 1), (1, .istore_n 1, 1), (2, .iload_n 1, 1), (3, .aload_n 0, 1), (4, .getfield 9, 3), (7, .if_icmp .ge 23, 3), (10, .aload_n 0, 1), (11, .getfield 25, 3), (14, .iload_n 1, 1), (15, .dup2, 1), (16, .iaload, 1), (17, .aload_n 0, 1), (18, .iload_n 1, 1), (19, .invokevirtual 110, 3), (22, .iadd, 1), (23, .iastore, 1)] = true := by decide +kernel
theorem kX1_goRound_1 : zOk (zdec xX1_goRound) [(24, .iinc 1 1, 3), (27, .goto (-25), 3), (30, .aload_n 0, 1), (31, .dup, 1), (32, .getfield 35, 3), (35, .iconst 1, 1), (36, .iadd, 1), (37, .putfield 35, 3), (40, .return_, 1)] = true := by decide +kernel
theorem kX1_goDrawnDay_0 : zOk (zdec xX1_goDrawnDay) [(0, .aload_n 0, 1), (1, .aload_n 0, 1), (2, .getfield 9, 3), (5, .invokevirtual 113, 3), (8, .istore_n 1, 1), (9, .aload_n 0, 1), (10, .getfield 15, 3), (13, .iload_n 1, 1), (14, .aload_n 0, 1), (15, .bipush 10, 2), (17, .invokevirtual 113, 3), (20, .iastore, 1), (21, .aload_n 0, 1), (22, .aload_n 0, 1), (23, .getfield 9, 3), (26, .invokevirtual 113, 3)] = true := by decide +kernel
theorem kX1_goDrawnDay_1 : zOk (zdec xX1_goDrawnDay) [(29, .istore_n 2, 1), (30, .aload_n 0, 1), (31, .getfield 19, 3), (34, .iload_n 2, 1), (35, .aload_n 0, 1), (36, .bipush 10, 2), (38, .invokevirtual 113, 3), (41, .iastore, 1), (42, .aload_n 0, 1), (43, .invokevirtual 116, 3), (46, .return_, 1)] = true := by decide +kernel
theorem kX1_draw_0 : zOk (zdec xX1_draw) [(0, .aload_n 0, 1), (1, .aload_n 0, 1), (2, .getfield 38, 3), (5, .ldc 119, 2), (7, .imul, 1), (8, .sipush 12345, 3), (11, .iadd, 1), (12, .putfield 38, 3), (15, .iload_n 1, 1), (16, .ifCond .le 15, 3), (19, .aload_n 0, 1), (20, .getfield 38, 3), (23, .bipush 16, 2), (25, .iushr, 1), (26, .iload_n 1, 1), (27, .irem, 1)] = true := by decide +kernel
theorem kX1_draw_1 : zOk (zdec xX1_draw) [(28, .goto 4, 3), (31, .iconst 0, 1), (32, .ireturn, 1)] = true := by decide +kernel
theorem kX2_init_0 : zOk (zdec xX2_init) [(0, .aload_n 0, 1), (1, .invokespecial 3, 3), (4, .aload_n 0, 1), (5, .iconst (-1), 1), (6, .putfield 9, 3), (9, .aload_n 0, 1), (10, .iconst 0, 1), (11, .putfield 15, 3), (14, .aload_n 0, 1), (15, .bipush 40, 2), (17, .newarray .long, 2), (19, .putfield 18, 3), (22, .return_, 1)] = true := by decide +kernel
theorem kX2_clearOut_0 : zOk (zdec xX2_clearOut) [(0, .aload_n 0, 1), (1, .iconst (-1), 1), (2, .putfield 9, 3), (5, .aload_n 0, 1), (6, .iconst 0, 1), (7, .putfield 15, 3), (10, .return_, 1)] = true := by decide +kernel
theorem kX2_takeLetter_0 : zOk (zdec xX2_takeLetter) [(0, .aload_n 0, 1), (1, .bipush 10, 2), (3, .iload_n 1, 1), (4, .iadd, 1), (5, .putfield 9, 3), (8, .aload_n 0, 1), (9, .iconst 0, 1), (10, .putfield 15, 3), (13, .return_, 1)] = true := by decide +kernel
theorem kX2_takeRow_0 : zOk (zdec xX2_takeRow) [(0, .aload_n 0, 1), (1, .iload_n 1, 1), (2, .putfield 9, 3), (5, .aload_n 0, 1), (6, .iload_n 2, 1), (7, .putfield 15, 3), (10, .iconst 0, 1), (11, .istore_n 3, 1), (12, .iload_n 3, 1), (13, .bipush 40, 2), (15, .if_icmp .ge 16, 3), (18, .aload_n 0, 1), (19, .getfield 18, 3), (22, .iload_n 3, 1), (23, .lconst 0, 1), (24, .lastore, 1)] = true := by decide +kernel
theorem kX2_takeRow_1 : zOk (zdec xX2_takeRow) [(25, .iinc 3 1, 3), (28, .goto (-16), 3), (31, .return_, 1)] = true := by decide +kernel
theorem kX2_holdsNothing_0 : zOk (zdec xX2_holdsNothing) [(0, .aload_n 0, 1), (1, .getfield 9, 3), (4, .iconst (-1), 1), (5, .if_icmp .ne 7, 3), (8, .iconst 1, 1), (9, .goto 4, 3), (12, .iconst 0, 1), (13, .ireturn, 1)] = true := by decide +kernel
theorem kX2_holdsLetter_0 : zOk (zdec xX2_holdsLetter) [(0, .aload_n 0, 1), (1, .getfield 9, 3), (4, .bipush 10, 2), (6, .if_icmp .lt 7, 3), (9, .iconst 1, 1), (10, .goto 4, 3), (13, .iconst 0, 1), (14, .ireturn, 1)] = true := by decide +kernel
theorem kX2_shownLetter_0 : zOk (zdec xX2_shownLetter) [(0, .aload_n 0, 1), (1, .invokevirtual 22, 3), (4, .ifCond .eq 13, 3), (7, .aload_n 0, 1), (8, .getfield 9, 3), (11, .bipush 10, 2), (13, .isub, 1), (14, .goto 4, 3), (17, .iconst (-1), 1), (18, .ireturn, 1)] = true := by decide +kernel
theorem kX2_hasElement_0 : zOk (zdec xX2_hasElement) [(0, .iload_n 1, 1), (1, .ifCond .lt 15, 3), (4, .iload_n 1, 1), (5, .aload_n 0, 1), (6, .getfield 15, 3), (9, .if_icmp .ge 7, 3), (12, .iconst 1, 1), (13, .goto 4, 3), (16, .iconst 0, 1), (17, .ireturn, 1)] = true := by decide +kernel
theorem kX2_hasPart_0 : zOk (zdec xX2_hasPart) [(0, .iload_n 1, 1), (1, .ifCond .lt 21, 3), (4, .iload_n 2, 1), (5, .ifCond .lt 17, 3), (8, .iload_n 2, 1), (9, .aload_n 0, 1), (10, .getfield 15, 3), (13, .iload_n 1, 1), (14, .isub, 1), (15, .if_icmp .gt 7, 3), (18, .iconst 1, 1), (19, .goto 4, 3), (22, .iconst 0, 1), (23, .ireturn, 1)] = true := by decide +kernel
theorem kX2_rowFault_0 : zOk (zdec xX2_rowFault) [(0, .aload_n 0, 1), (1, .invokevirtual 22, 3), (4, .ifCond .eq 6, 3), (7, .bipush (-3), 2), (9, .ireturn, 1), (10, .aload_n 0, 1), (11, .invokevirtual 26, 3), (14, .ifCond .eq 6, 3), (17, .bipush (-4), 2), (19, .ireturn, 1), (20, .iload_n 1, 1), (21, .aload_n 0, 1), (22, .getfield 15, 3), (25, .if_icmp .le 8, 3), (28, .bipush (-2), 2), (30, .goto 4, 3)] = true := by decide +kernel
theorem kX2_rowFault_1 : zOk (zdec xX2_rowFault) [(33, .iconst 0, 1), (34, .ireturn, 1)] = true := by decide +kernel
theorem kX2_put_0 : zOk (zdec xX2_put) [(0, .aload_n 0, 1), (1, .getfield 18, 3), (4, .iload_n 1, 1), (5, .aload_n 0, 1), (6, .lload_n 2, 1), (7, .invokevirtual 29, 3), (10, .lastore, 1), (11, .return_, 1)] = true := by decide +kernel
theorem kX2_asKept_0 : zOk (zdec xX2_asKept) [(0, .aload_n 0, 1), (1, .getfield 9, 3), (4, .tableswitch 62 0 4 #[36, 41, 46, 62, 50], 36), (40, .lload_n 1, 1), (41, .l2i, 1), (42, .i2b, 1), (43, .i2l, 1), (44, .lreturn, 1), (45, .lload_n 1, 1), (46, .l2i, 1), (47, .i2s, 1), (48, .i2l, 1), (49, .lreturn, 1), (50, .lload_n 1, 1), (51, .l2i, 1), (52, .i2l, 1)] = true := by decide +kernel
theorem kX2_asKept_1 : zOk (zdec xX2_asKept) [(53, .lreturn, 1), (54, .lload_n 1, 1), (55, .lconst 0, 1), (56, .lcmp, 1), (57, .ifCond .eq 7, 3), (60, .lconst 1, 1), (61, .goto 4, 3), (64, .lconst 0, 1), (65, .lreturn, 1), (66, .lload_n 1, 1), (67, .lreturn, 1)] = true := by decide +kernel
theorem kX3_init_0 : zOk (zdec xX3_init) [(0, .aload_n 0, 1), (1, .invokespecial 3, 3), (4, .aload_n 0, 1), (5, .sipush 250, 3), (8, .newarray .int, 2), (10, .putfield 9, 3), (13, .aload_n 0, 1), (14, .iconst 0, 1), (15, .putfield 15, 3), (18, .aload_n 0, 1), (19, .iconst 0, 1), (20, .putfield 19, 3), (23, .aload_n 0, 1), (24, .iconst 0, 1), (25, .putfield 22, 3), (28, .aload_n 0, 1)] = true := by decide +kernel
theorem kX3_init_1 : zOk (zdec xX3_init) [(29, .iconst 0, 1), (30, .putfield 25, 3), (33, .aload_n 0, 1), (34, .iconst (-1), 1), (35, .putfield 28, 3), (38, .return_, 1)] = true := by decide +kernel
theorem kX3_hasRoom_0 : zOk (zdec xX3_hasRoom) [(0, .aload_n 0, 1), (1, .getfield 15, 3), (4, .sipush 250, 3), (7, .if_icmp .ge 7, 3), (10, .iconst 1, 1), (11, .goto 4, 3), (14, .iconst 0, 1), (15, .ireturn, 1)] = true := by decide +kernel
theorem kX3_append_0 : zOk (zdec xX3_append) [(0, .aload_n 0, 1), (1, .invokevirtual 31, 3), (4, .ifCond .eq 23, 3), (7, .aload_n 0, 1), (8, .getfield 9, 3), (11, .aload_n 0, 1), (12, .getfield 15, 3), (15, .iload_n 1, 1), (16, .iastore, 1), (17, .aload_n 0, 1), (18, .dup, 1), (19, .getfield 15, 3), (22, .iconst 1, 1), (23, .iadd, 1), (24, .putfield 15, 3), (27, .aload_n 0, 1)] = true := by decide +kernel
theorem kX3_append_1 : zOk (zdec xX3_append) [(28, .getfield 15, 3), (31, .ireturn, 1)] = true := by decide +kernel
theorem kX3_empty_0 : zOk (zdec xX3_empty) [(0, .aload_n 0, 1), (1, .getfield 15, 3), (4, .istore_n 1, 1), (5, .aload_n 0, 1), (6, .iconst 0, 1), (7, .putfield 15, 3), (10, .iload_n 1, 1), (11, .ireturn, 1)] = true := by decide +kernel
theorem kX3_size_0 : zOk (zdec xX3_size) [(0, .aload_n 0, 1), (1, .getfield 15, 3), (4, .ireturn, 1)] = true := by decide +kernel
theorem kX3_fault_0 : zOk (zdec xX3_fault) [(0, .aload_n 0, 1), (1, .getfield 28, 3), (4, .ireturn, 1)] = true := by decide +kernel
theorem kX3_readInto_0 : zOk (zdec xX3_readInto) [(0, .aload_n 0, 1), (1, .iconst (-1), 1), (2, .putfield 28, 3), (5, .aload_n 0, 1), (6, .iconst 0, 1), (7, .putfield 25, 3), (10, .iconst 0, 1), (11, .istore_n 2, 1), (12, .iconst 0, 1), (13, .istore_n 3, 1), (14, .iload_n 3, 1), (15, .sipush 250, 3), (18, .if_icmp .gt 62, 3), (21, .aload_n 0, 1), (22, .invokevirtual 35, 3), (25, .aload_n 0, 1)] = true := by decide +kernel
theorem kX3_readInto_1 : zOk (zdec xX3_readInto) [(26, .aload_n 1, 1), (27, .invokevirtual 38, 3), (30, .aload_n 0, 1), (31, .getfield 28, 3), (34, .iconst (-1), 1), (35, .if_icmp .eq 5, 3), (38, .iconst (-1), 1), (39, .ireturn, 1), (40, .iinc 2 1, 3), (43, .aload_n 0, 1), (44, .invokevirtual 35, 3), (47, .aload_n 0, 1), (48, .getfield 19, 3), (51, .ifCond .ne 5, 3), (54, .iload_n 2, 1), (55, .ireturn, 1)] = true := by decide +kernel
theorem kX3_readInto_2 : zOk (zdec xX3_readInto) [(56, .aload_n 0, 1), (57, .getfield 19, 3), (60, .iconst 3, 1), (61, .if_icmp .eq 13, 3), (64, .aload_n 0, 1), (65, .aload_n 0, 1), (66, .getfield 22, 3), (69, .invokevirtual 42, 3), (72, .iconst (-1), 1), (73, .ireturn, 1), (74, .iinc 3 1, 3), (77, .goto (-63), 3), (80, .iload_n 2, 1), (81, .ireturn, 1)] = true := by decide +kernel
theorem kX3_blame_0 : zOk (zdec xX3_blame) [(0, .aload_n 0, 1), (1, .getfield 28, 3), (4, .iconst (-1), 1), (5, .if_icmp .ne 8, 3), (8, .aload_n 0, 1), (9, .iload_n 1, 1), (10, .putfield 28, 3), (13, .return_, 1)] = true := by decide +kernel
theorem kX3_readStatement_0 : zOk (zdec xX3_readStatement) [(0, .aload_n 0, 1), (1, .getfield 19, 3), (4, .iconst 1, 1), (5, .if_icmp .eq 14, 3), (8, .aload_n 0, 1), (9, .aload_n 0, 1), (10, .getfield 22, 3), (13, .invokevirtual 42, 3), (16, .goto 155, 3), (19, .aload_n 0, 1), (20, .ldc 46, 2), (22, .invokevirtual 48, 3), (25, .ifCond .eq 11, 3), (28, .aload_n 0, 1), (29, .aload_n 1, 1), (30, .invokevirtual 52, 3)] = true := by decide +kernel
theorem kX3_readStatement_1 : zOk (zdec xX3_readStatement) [(33, .goto 138, 3), (36, .aload_n 0, 1), (37, .ldc 55, 2), (39, .invokevirtual 48, 3), (42, .ifCond .eq 11, 3), (45, .aload_n 0, 1), (46, .aload_n 1, 1), (47, .invokevirtual 57, 3), (50, .goto 121, 3), (53, .aload_n 0, 1), (54, .ldc 60, 2), (56, .invokevirtual 48, 3), (59, .ifCond .eq 15, 3), (62, .aload_n 0, 1), (63, .aload_n 1, 1), (64, .aload_n 1, 1)] = true := by decide +kernel
theorem kX3_readStatement_2 : zOk (zdec xX3_readStatement) [(65, .getfield 62, 3), (68, .invokevirtual 66, 3), (71, .goto 100, 3), (74, .aload_n 0, 1), (75, .ldc 70, 2), (77, .invokevirtual 48, 3), (80, .ifCond .eq 15, 3), (83, .aload_n 0, 1), (84, .aload_n 1, 1), (85, .aload_n 1, 1), (86, .getfield 72, 3), (89, .invokevirtual 66, 3), (92, .goto 79, 3), (95, .aload_n 0, 1), (96, .ldc 74, 2), (98, .invokevirtual 48, 3)] = true := by decide +kernel
theorem kX3_readStatement_3 : zOk (zdec xX3_readStatement) [(101, .ifCond .eq 11, 3), (104, .aload_n 0, 1), (105, .aload_n 1, 1), (106, .invokevirtual 76, 3), (109, .goto 62, 3), (112, .aload_n 0, 1), (113, .ldc 79, 2), (115, .invokevirtual 48, 3), (118, .ifCond .eq 11, 3), (121, .aload_n 0, 1), (122, .aload_n 1, 1), (123, .invokevirtual 81, 3), (126, .goto 45, 3), (129, .aload_n 0, 1), (130, .ldc 84, 2), (132, .invokevirtual 48, 3)] = true := by decide +kernel
theorem kX3_readStatement_4 : zOk (zdec xX3_readStatement) [(135, .ifCond .eq 11, 3), (138, .aload_n 1, 1), (139, .iconst 1, 1), (140, .putfield 86, 3), (143, .goto 28, 3), (146, .aload_n 0, 1), (147, .ldc 89, 2), (149, .invokevirtual 48, 3), (152, .ifCond .eq 11, 3), (155, .aload_n 1, 1), (156, .iconst 0, 1), (157, .putfield 86, 3), (160, .goto 11, 3), (163, .aload_n 0, 1), (164, .aload_n 0, 1), (165, .getfield 22, 3)] = true := by decide +kernel
theorem kX3_readStatement_5 : zOk (zdec xX3_readStatement) [(168, .invokevirtual 42, 3), (171, .return_, 1)] = true := by decide +kernel
theorem kX3_readHouses_0 : zOk (zdec xX3_readHouses) [(0, .aload_n 0, 1), (1, .aload_n 1, 1), (2, .getfield 91, 3), (5, .bipush 12, 2), (7, .invokevirtual 93, 3), (10, .istore_n 2, 1), (11, .aload_n 0, 1), (12, .getfield 28, 3), (15, .iconst (-1), 1), (16, .if_icmp .ne 8, 3), (19, .aload_n 1, 1), (20, .iload_n 2, 1), (21, .putfield 91, 3), (24, .return_, 1)] = true := by decide +kernel
theorem kX3_readLetter_0 : zOk (zdec xX3_readLetter) [(0, .aload_n 1, 1), (1, .invokevirtual 97, 3), (4, .ifCond .ne 11, 3), (7, .aload_n 0, 1), (8, .aload_n 0, 1), (9, .getfield 22, 3), (12, .invokevirtual 42, 3), (15, .aload_n 0, 1), (16, .iconst 0, 1), (17, .iconst 5, 1), (18, .invokevirtual 93, 3), (21, .istore_n 2, 1), (22, .aload_n 0, 1), (23, .iconst 0, 1), (24, .bipush 9, 2), (26, .invokevirtual 93, 3)] = true := by decide +kernel
theorem kX3_readLetter_1 : zOk (zdec xX3_readLetter) [(29, .istore_n 3, 1), (30, .aload_n 0, 1), (31, .iconst 0, 1), (32, .aload_n 1, 1), (33, .getfield 91, 3), (36, .iconst 1, 1), (37, .isub, 1), (38, .invokevirtual 93, 3), (41, .istore 4, 2), (43, .aload_n 0, 1), (44, .iconst 1, 1), (45, .bipush 40, 2), (47, .invokevirtual 93, 3), (50, .istore 5, 2), (52, .aload_n 0, 1), (53, .getfield 28, 3)] = true := by decide +kernel
theorem kX3_readLetter_2 : zOk (zdec xX3_readLetter) [(56, .iconst (-1), 1), (57, .if_icmp .ne 14, 3), (60, .aload_n 1, 1), (61, .iload_n 2, 1), (62, .iload_n 3, 1), (63, .iload 4, 2), (65, .iload 5, 2), (67, .invokevirtual 98, 3), (70, .pop, 1), (71, .return_, 1)] = true := by decide +kernel
theorem kX3_readIntoHouse_0 : zOk (zdec xX3_readIntoHouse) [(0, .aload_n 0, 1), (1, .iconst 0, 1), (2, .aload_n 1, 1), (3, .getfield 91, 3), (6, .iconst 1, 1), (7, .isub, 1), (8, .invokevirtual 93, 3), (11, .istore_n 3, 1), (12, .aload_n 0, 1), (13, .iconst 0, 1), (14, .bipush 9, 2), (16, .invokevirtual 93, 3), (19, .istore 4, 2), (21, .aload_n 0, 1), (22, .getfield 28, 3), (25, .iconst (-1), 1)] = true := by decide +kernel
theorem kX3_readIntoHouse_1 : zOk (zdec xX3_readIntoHouse) [(26, .if_icmp .ne 8, 3), (29, .aload_n 2, 1), (30, .iload_n 3, 1), (31, .iload 4, 2), (33, .iastore, 1), (34, .return_, 1)] = true := by decide +kernel
theorem kX3_readCode_0 : zOk (zdec xX3_readCode) [(0, .aload_n 0, 1), (1, .iconst 0, 1), (2, .aload_n 1, 1), (3, .getfield 91, 3), (6, .iconst 1, 1), (7, .isub, 1), (8, .invokevirtual 93, 3), (11, .istore_n 2, 1), (12, .aload_n 0, 1), (13, .iconst 0, 1), (14, .bipush 9, 2), (16, .invokevirtual 93, 3), (19, .istore_n 3, 1), (20, .aload_n 0, 1), (21, .getfield 28, 3), (24, .iconst (-1), 1)] = true := by decide +kernel
theorem kX3_readCode_1 : zOk (zdec xX3_readCode) [(25, .if_icmp .ne 9, 3), (28, .aload_n 1, 1), (29, .iload_n 2, 1), (30, .iload_n 3, 1), (31, .invokevirtual 102, 3), (34, .return_, 1)] = true := by decide +kernel
theorem kX3_readCold_0 : zOk (zdec xX3_readCold) [(0, .aload_n 0, 1), (1, .iconst 0, 1), (2, .bipush 9, 2), (4, .invokevirtual 93, 3), (7, .istore_n 2, 1), (8, .aload_n 0, 1), (9, .getfield 28, 3), (12, .iconst (-1), 1), (13, .if_icmp .ne 8, 3), (16, .aload_n 1, 1), (17, .iload_n 2, 1), (18, .putfield 106, 3), (21, .return_, 1)] = true := by decide +kernel
theorem kX3_readNumber_0 : zOk (zdec xX3_readNumber) [(0, .aload_n 0, 1), (1, .getfield 28, 3), (4, .iconst (-1), 1), (5, .if_icmp .eq 5, 3), (8, .iload_n 1, 1), (9, .ireturn, 1), (10, .aload_n 0, 1), (11, .invokevirtual 35, 3), (14, .aload_n 0, 1), (15, .getfield 19, 3), (18, .iconst 2, 1), (19, .if_icmp .ne 16, 3), (22, .aload_n 0, 1), (23, .getfield 25, 3), (26, .aload_n 0, 1), (27, .getfield 22, 3)] = true := by decide +kernel
theorem kX3_readNumber_1 : zOk (zdec xX3_readNumber) [(30, .isub, 1), (31, .iconst 2, 1), (32, .if_icmp .le 13, 3), (35, .aload_n 0, 1), (36, .aload_n 0, 1), (37, .getfield 22, 3), (40, .invokevirtual 42, 3), (43, .iload_n 1, 1), (44, .ireturn, 1), (45, .iconst 0, 1), (46, .istore_n 3, 1), (47, .aload_n 0, 1), (48, .getfield 22, 3), (51, .istore 4, 2), (53, .iload 4, 2), (55, .aload_n 0, 1)] = true := by decide +kernel
theorem kX3_readNumber_2 : zOk (zdec xX3_readNumber) [(56, .getfield 25, 3), (59, .if_icmp .ge 25, 3), (62, .bipush 10, 2), (64, .iload_n 3, 1), (65, .imul, 1), (66, .aload_n 0, 1), (67, .getfield 9, 3), (70, .iload 4, 2), (72, .iaload, 1), (73, .iadd, 1), (74, .bipush 48, 2), (76, .isub, 1), (77, .istore_n 3, 1), (78, .iinc 4 1, 3), (81, .goto (-28), 3), (84, .iload_n 3, 1)] = true := by decide +kernel
theorem kX3_readNumber_3 : zOk (zdec xX3_readNumber) [(85, .iload_n 1, 1), (86, .if_icmp .lt 8, 3), (89, .iload_n 3, 1), (90, .iload_n 2, 1), (91, .if_icmp .le 13, 3), (94, .aload_n 0, 1), (95, .aload_n 0, 1), (96, .getfield 22, 3), (99, .invokevirtual 42, 3), (102, .iload_n 1, 1), (103, .ireturn, 1), (104, .iload_n 3, 1), (105, .ireturn, 1)] = true := by decide +kernel
theorem kX3_step_0 : zOk (zdec xX3_step) [(0, .aload_n 0, 1), (1, .aload_n 0, 1), (2, .getfield 25, 3), (5, .putfield 22, 3), (8, .aload_n 0, 1), (9, .getfield 22, 3), (12, .aload_n 0, 1), (13, .getfield 15, 3), (16, .if_icmp .ge 30, 3), (19, .aload_n 0, 1), (20, .getfield 9, 3), (23, .aload_n 0, 1), (24, .getfield 22, 3), (27, .iaload, 1), (28, .bipush 32, 2), (30, .if_icmp .ne 16, 3)] = true := by decide +kernel
theorem kX3_step_1 : zOk (zdec xX3_step) [(33, .aload_n 0, 1), (34, .dup, 1), (35, .getfield 22, 3), (38, .iconst 1, 1), (39, .iadd, 1), (40, .putfield 22, 3), (43, .goto (-35), 3), (46, .aload_n 0, 1), (47, .aload_n 0, 1), (48, .getfield 22, 3), (51, .putfield 25, 3), (54, .aload_n 0, 1), (55, .aload_n 0, 1), (56, .aload_n 0, 1), (57, .getfield 22, 3), (60, .invokevirtual 108, 3)] = true := by decide +kernel
theorem kX3_step_2 : zOk (zdec xX3_step) [(63, .putfield 19, 3), (66, .aload_n 0, 1), (67, .getfield 19, 3), (70, .iconst 1, 1), (71, .if_icmp .eq 11, 3), (74, .aload_n 0, 1), (75, .getfield 19, 3), (78, .iconst 2, 1), (79, .if_icmp .ne 42, 3), (82, .aload_n 0, 1), (83, .getfield 25, 3), (86, .aload_n 0, 1), (87, .getfield 15, 3), (90, .if_icmp .ge 48, 3), (93, .aload_n 0, 1), (94, .aload_n 0, 1)] = true := by decide +kernel
theorem kX3_step_3 : zOk (zdec xX3_step) [(95, .getfield 25, 3), (98, .invokevirtual 108, 3), (101, .aload_n 0, 1), (102, .getfield 19, 3), (105, .if_icmp .ne 33, 3), (108, .aload_n 0, 1), (109, .dup, 1), (110, .getfield 25, 3), (113, .iconst 1, 1), (114, .iadd, 1), (115, .putfield 25, 3), (118, .goto (-36), 3), (121, .aload_n 0, 1), (122, .getfield 19, 3), (125, .ifCond .eq 13, 3), (128, .aload_n 0, 1)] = true := by decide +kernel
theorem kX3_step_4 : zOk (zdec xX3_step) [(129, .aload_n 0, 1), (130, .getfield 22, 3), (133, .iconst 1, 1), (134, .iadd, 1), (135, .putfield 25, 3), (138, .return_, 1)] = true := by decide +kernel
theorem kX3_sortAt_0 : zOk (zdec xX3_sortAt) [(0, .iload_n 1, 1), (1, .aload_n 0, 1), (2, .getfield 15, 3), (5, .if_icmp .lt 5, 3), (8, .iconst 0, 1), (9, .ireturn, 1), (10, .aload_n 0, 1), (11, .getfield 9, 3), (14, .iload_n 1, 1), (15, .iaload, 1), (16, .istore_n 2, 1), (17, .iload_n 2, 1), (18, .bipush 97, 2), (20, .if_icmp .lt 11, 3), (23, .iload_n 2, 1), (24, .bipush 122, 2)] = true := by decide +kernel
theorem kX3_sortAt_1 : zOk (zdec xX3_sortAt) [(26, .if_icmp .gt 5, 3), (29, .iconst 1, 1), (30, .ireturn, 1), (31, .iload_n 2, 1), (32, .bipush 48, 2), (34, .if_icmp .lt 11, 3), (37, .iload_n 2, 1), (38, .bipush 57, 2), (40, .if_icmp .gt 5, 3), (43, .iconst 2, 1), (44, .ireturn, 1), (45, .iload_n 2, 1), (46, .bipush 59, 2), (48, .if_icmp .ne 7, 3), (51, .iconst 3, 1), (52, .goto 4, 3)] = true := by decide +kernel
theorem kX3_sortAt_2 : zOk (zdec xX3_sortAt) [(55, .iconst 4, 1), (56, .ireturn, 1)] = true := by decide +kernel
theorem kX3_isWord_0 : zOk (zdec xX3_isWord) [(0, .aload_n 0, 1), (1, .getfield 25, 3), (4, .aload_n 0, 1), (5, .getfield 22, 3), (8, .isub, 1), (9, .aload_n 1, 1), (10, .invokevirtual 112, 3), (13, .if_icmp .eq 5, 3), (16, .iconst 0, 1), (17, .ireturn, 1), (18, .aload_n 0, 1), (19, .getfield 22, 3), (22, .istore_n 2, 1), (23, .iload_n 2, 1), (24, .aload_n 0, 1), (25, .getfield 25, 3)] = true := by decide +kernel
theorem kX3_isWord_1 : zOk (zdec xX3_isWord) [(28, .if_icmp .ge 30, 3), (31, .aload_n 0, 1), (32, .getfield 9, 3), (35, .iload_n 2, 1), (36, .iaload, 1), (37, .aload_n 1, 1), (38, .iload_n 2, 1), (39, .aload_n 0, 1), (40, .getfield 22, 3), (43, .isub, 1), (44, .invokevirtual 118, 3), (47, .if_icmp .eq 5, 3), (50, .iconst 0, 1), (51, .ireturn, 1), (52, .iinc 2 1, 3), (55, .goto (-32), 3)] = true := by decide +kernel
theorem kX3_isWord_2 : zOk (zdec xX3_isWord) [(58, .iconst 1, 1), (59, .ireturn, 1)] = true := by decide +kernel
theorem kX4_init_0 : zOk (zdec xX4_init) [(0, .aload_n 0, 1), (1, .invokespecial 1, 3), (4, .aload_n 0, 1), (5, .new 7, 3), (8, .dup, 1), (9, .invokespecial 9, 3), (12, .putfield 10, 3), (15, .aload_n 0, 1), (16, .new 7, 3), (19, .dup, 1), (20, .invokespecial 9, 3), (23, .putfield 16, 3), (26, .aload_n 0, 1), (27, .new 19, 3), (30, .dup, 1), (31, .invokespecial 21, 3)] = true := by decide +kernel
theorem kX4_init_1 : zOk (zdec xX4_init) [(34, .putfield 22, 3), (37, .aload_n 0, 1), (38, .bipush 8, 2), (40, .anewarray 26, 3), (43, .putfield 28, 3), (46, .iconst 0, 1), (47, .istore_n 1, 1), (48, .iload_n 1, 1), (49, .bipush 8, 2), (51, .if_icmp .ge 22, 3), (54, .aload_n 0, 1), (55, .getfield 28, 3), (58, .iload_n 1, 1), (59, .new 26, 3), (62, .dup, 1), (63, .invokespecial 32, 3)] = true := by decide +kernel
theorem kX4_init_2 : zOk (zdec xX4_init) [(66, .aastore, 1), (67, .iinc 1 1, 3), (70, .goto (-22), 3), (73, .aload_n 0, 1), (74, .new 33, 3), (77, .dup, 1), (78, .invokespecial 35, 3), (81, .putfield 36, 3), (84, .aload_n 0, 1), (85, .iconst 5, 1), (86, .newarray .int, 2), (88, .putfield 40, 3), (91, .aload_n 0, 1), (92, .iconst 0, 1), (93, .putfield 44, 3), (96, .return_, 1)] = true := by decide +kernel
theorem kX4_row_0 : zOk (zdec xX4_row) [(0, .aload_n 0, 1), (1, .iload_n 1, 1), (2, .invokevirtual 48, 3), (5, .ifCond .ne 22, 3), (8, .iload_n 2, 1), (9, .iconst 0, 1), (10, .iconst 4, 1), (11, .invokestatic 52, 3), (14, .ifCond .ne 13, 3), (17, .iload_n 3, 1), (18, .iconst 0, 1), (19, .bipush 40, 2), (21, .invokestatic 52, 3), (24, .ifCond .eq 10, 3), (27, .aload_n 0, 1), (28, .bipush (-2), 2)] = true := by decide +kernel
theorem kX4_row_1 : zOk (zdec xX4_row) [(30, .invokevirtual 56, 3), (33, .ireturn, 1), (34, .aload_n 0, 1), (35, .getfield 28, 3), (38, .iload_n 1, 1), (39, .aaload, 1), (40, .iload_n 2, 1), (41, .iload_n 3, 1), (42, .invokevirtual 60, 3), (45, .iconst 1, 1), (46, .ireturn, 1)] = true := by decide +kernel
theorem kX4_set_0 : zOk (zdec xX4_set) [(0, .aload_n 0, 1), (1, .iload_n 1, 1), (2, .invokevirtual 48, 3), (5, .ifCond .eq 10, 3), (8, .aload_n 0, 1), (9, .bipush (-2), 2), (11, .invokevirtual 56, 3), (14, .ireturn, 1), (15, .aload_n 0, 1), (16, .getfield 28, 3), (19, .iload_n 1, 1), (20, .aaload, 1), (21, .iconst 0, 1), (22, .invokevirtual 64, 3), (25, .istore 5, 2), (27, .iload 5, 2)] = true := by decide +kernel
theorem kX4_set_1 : zOk (zdec xX4_set) [(29, .ifCond .eq 10, 3), (32, .aload_n 0, 1), (33, .iload 5, 2), (35, .invokevirtual 56, 3), (38, .ireturn, 1), (39, .aload_n 0, 1), (40, .getfield 28, 3), (43, .iload_n 1, 1), (44, .aaload, 1), (45, .iload_n 2, 1), (46, .invokevirtual 67, 3), (49, .ifCond .ne 10, 3), (52, .aload_n 0, 1), (53, .bipush (-2), 2), (55, .invokevirtual 56, 3), (58, .ireturn, 1)] = true := by decide +kernel
theorem kX4_set_2 : zOk (zdec xX4_set) [(59, .aload_n 0, 1), (60, .getfield 28, 3), (63, .iload_n 1, 1), (64, .aaload, 1), (65, .iload_n 2, 1), (66, .lload_n 3, 1), (67, .invokevirtual 70, 3), (70, .iconst 1, 1), (71, .ireturn, 1)] = true := by decide +kernel
theorem kX4_copy_0 : zOk (zdec xX4_copy) [(0, .aload_n 0, 1), (1, .iload_n 1, 1), (2, .invokevirtual 48, 3), (5, .ifCond .ne 11, 3), (8, .aload_n 0, 1), (9, .iload_n 2, 1), (10, .invokevirtual 48, 3), (13, .ifCond .eq 10, 3), (16, .aload_n 0, 1), (17, .bipush (-2), 2), (19, .invokevirtual 56, 3), (22, .ireturn, 1), (23, .aload_n 0, 1), (24, .getfield 28, 3), (27, .iload_n 1, 1), (28, .aaload, 1)] = true := by decide +kernel
theorem kX4_copy_1 : zOk (zdec xX4_copy) [(29, .astore 6, 2), (31, .aload_n 0, 1), (32, .getfield 28, 3), (35, .iload_n 2, 1), (36, .aaload, 1), (37, .astore 7, 2), (39, .aload 6, 2), (41, .invokevirtual 74, 3), (44, .ifCond .ne 11, 3), (47, .aload 7, 2), (49, .invokevirtual 74, 3), (52, .ifCond .eq 10, 3), (55, .aload_n 0, 1), (56, .bipush (-3), 2), (58, .invokevirtual 56, 3), (61, .ireturn, 1)] = true := by decide +kernel
theorem kX4_copy_2 : zOk (zdec xX4_copy) [(62, .aload 6, 2), (64, .invokevirtual 78, 3), (67, .ifCond .ne 11, 3), (70, .aload 7, 2), (72, .invokevirtual 78, 3), (75, .ifCond .eq 7, 3), (78, .iconst 1, 1), (79, .goto 4, 3), (82, .iconst 0, 1), (83, .istore 8, 2), (85, .iload 8, 2), (87, .ifCond .ne 23, 3), (90, .aload 6, 2), (92, .getfield 81, 3), (95, .aload 7, 2), (97, .getfield 81, 3)] = true := by decide +kernel
theorem kX4_copy_3 : zOk (zdec xX4_copy) [(100, .if_icmp .eq 10, 3), (103, .aload_n 0, 1), (104, .bipush (-3), 2), (106, .invokevirtual 56, 3), (109, .ireturn, 1), (110, .iload 8, 2), (112, .ifCond .eq 10, 3), (115, .aload_n 0, 1), (116, .bipush (-4), 2), (118, .invokevirtual 56, 3), (121, .ireturn, 1), (122, .aload 6, 2), (124, .iload_n 3, 1), (125, .iload 5, 2), (127, .invokevirtual 85, 3), (130, .ifCond .eq 15, 3)] = true := by decide +kernel
theorem kX4_copy_4 : zOk (zdec xX4_copy) [(133, .aload 7, 2), (135, .iload 4, 2), (137, .iload 5, 2), (139, .invokevirtual 85, 3), (142, .ifCond .ne 10, 3), (145, .aload_n 0, 1), (146, .bipush (-2), 2), (148, .invokevirtual 56, 3), (151, .ireturn, 1), (152, .aload 6, 2), (154, .getfield 89, 3), (157, .iload_n 3, 1), (158, .aload 7, 2), (160, .getfield 89, 3), (163, .iload 4, 2), (165, .iload 5, 2)] = true := by decide +kernel
theorem kX4_copy_5 : zOk (zdec xX4_copy) [(167, .invokestatic 93, 3), (170, .iload 5, 2), (172, .ireturn, 1)] = true := by decide +kernel
theorem kX4_element_0 : zOk (zdec xX4_element) [(0, .aload_n 0, 1), (1, .iload_n 1, 1), (2, .invokevirtual 48, 3), (5, .ifCond .eq 5, 3), (8, .lconst 0, 1), (9, .lreturn, 1), (10, .aload_n 0, 1), (11, .getfield 28, 3), (14, .iload_n 1, 1), (15, .aaload, 1), (16, .iload_n 2, 1), (17, .invokevirtual 67, 3), (20, .ifCond .eq 17, 3), (23, .aload_n 0, 1), (24, .getfield 28, 3), (27, .iload_n 1, 1)] = true := by decide +kernel
theorem kX4_element_1 : zOk (zdec xX4_element) [(28, .aaload, 1), (29, .getfield 89, 3), (32, .iload_n 2, 1), (33, .laload, 1), (34, .goto 4, 3), (37, .lconst 0, 1), (38, .lreturn, 1)] = true := by decide +kernel
theorem kX4_holds_0 : zOk (zdec xX4_holds) [(0, .aload_n 0, 1), (1, .iload_n 1, 1), (2, .invokevirtual 48, 3), (5, .ifCond .eq 7, 3), (8, .iconst (-1), 1), (9, .goto 12, 3), (12, .aload_n 0, 1), (13, .getfield 28, 3), (16, .iload_n 1, 1), (17, .aaload, 1), (18, .getfield 81, 3), (21, .ireturn, 1)] = true := by decide +kernel
theorem kX4_show_0 : zOk (zdec xX4_show) [(0, .aload_n 0, 1), (1, .iload_n 1, 1), (2, .invokevirtual 48, 3), (5, .ifCond .ne 16, 3), (8, .iload_n 2, 1), (9, .iconst (-1), 1), (10, .if_icmp .eq 18, 3), (13, .aload_n 0, 1), (14, .iload_n 2, 1), (15, .invokevirtual 99, 3), (18, .ifCond .eq 10, 3), (21, .aload_n 0, 1), (22, .bipush (-2), 2), (24, .invokevirtual 56, 3), (27, .ireturn, 1), (28, .iload_n 2, 1)] = true := by decide +kernel
theorem kX4_show_1 : zOk (zdec xX4_show) [(29, .iconst (-1), 1), (30, .if_icmp .ne 15, 3), (33, .aload_n 0, 1), (34, .getfield 28, 3), (37, .iload_n 1, 1), (38, .aaload, 1), (39, .invokevirtual 102, 3), (42, .goto 13, 3), (45, .aload_n 0, 1), (46, .getfield 28, 3), (49, .iload_n 1, 1), (50, .aaload, 1), (51, .iload_n 2, 1), (52, .invokevirtual 105, 3), (55, .iconst 1, 1), (56, .ireturn, 1)] = true := by decide +kernel
theorem kX4_says_0 : zOk (zdec xX4_says) [(0, .aload_n 0, 1), (1, .iload_n 1, 1), (2, .invokevirtual 48, 3), (5, .ifCond .ne 10, 3), (8, .iload_n 2, 1), (9, .invokestatic 109, 3), (12, .ifCond .eq 10, 3), (15, .aload_n 0, 1), (16, .bipush (-2), 2), (18, .invokevirtual 56, 3), (21, .ireturn, 1), (22, .aload_n 0, 1), (23, .getfield 28, 3), (26, .iload_n 1, 1), (27, .aaload, 1), (28, .invokevirtual 78, 3)] = true := by decide +kernel
theorem kX4_says_1 : zOk (zdec xX4_says) [(31, .ifCond .eq 10, 3), (34, .aload_n 0, 1), (35, .bipush (-4), 2), (37, .invokevirtual 56, 3), (40, .ireturn, 1), (41, .aload_n 0, 1), (42, .getfield 28, 3), (45, .iload_n 1, 1), (46, .aaload, 1), (47, .invokevirtual 112, 3), (50, .istore_n 3, 1), (51, .aload_n 0, 1), (52, .iload_n 3, 1), (53, .invokevirtual 99, 3), (56, .ifCond .ne 19, 3), (59, .aload_n 0, 1)] = true := by decide +kernel
theorem kX4_says_2 : zOk (zdec xX4_says) [(60, .getfield 10, 3), (63, .getfield 116, 3), (66, .iload_n 3, 1), (67, .iaload, 1), (68, .iload_n 2, 1), (69, .invokestatic 119, 3), (72, .ifCond .ne 10, 3), (75, .aload_n 0, 1), (76, .bipush (-3), 2), (78, .invokevirtual 56, 3), (81, .ireturn, 1), (82, .iload_n 2, 1), (83, .ifCond .ne 15, 3), (86, .aload_n 0, 1), (87, .getfield 10, 3), (90, .getfield 122, 3)] = true := by decide +kernel
theorem kX4_says_3 : zOk (zdec xX4_says) [(93, .iload_n 3, 1), (94, .iaload, 1), (95, .goto 12, 3), (98, .aload_n 0, 1), (99, .getfield 10, 3), (102, .iload_n 3, 1), (103, .iconst 0, 1), (104, .invokevirtual 125, 3), (107, .ireturn, 1)] = true := by decide +kernel
theorem kX4_houses_0 : zOk (zdec xX4_houses) [(0, .iload_n 1, 1), (1, .aload_n 0, 1), (2, .getfield 10, 3), (5, .getfield 129, 3), (8, .bipush 12, 2), (10, .invokestatic 52, 3), (13, .ifCond .eq 10, 3), (16, .aload_n 0, 1), (17, .bipush (-2), 2), (19, .invokevirtual 56, 3), (22, .ireturn, 1), (23, .aload_n 0, 1), (24, .getfield 10, 3), (27, .getfield 129, 3), (30, .istore_n 2, 1), (31, .aload_n 0, 1)] = true := by decide +kernel
theorem kX4_houses_1 : zOk (zdec xX4_houses) [(32, .getfield 10, 3), (35, .iload_n 1, 1), (36, .putfield 129, 3), (39, .iload_n 2, 1), (40, .ireturn, 1)] = true := by decide +kernel
theorem kX4_letter_0 : zOk (zdec xX4_letter) [(0, .iload_n 1, 1), (1, .invokestatic 109, 3), (4, .ifCond .ne 32, 3), (7, .iload_n 2, 1), (8, .iconst 0, 1), (9, .bipush 9, 2), (11, .invokestatic 52, 3), (14, .ifCond .ne 22, 3), (17, .aload_n 0, 1), (18, .iload_n 3, 1), (19, .invokevirtual 132, 3), (22, .ifCond .ne 14, 3), (25, .iload 4, 2), (27, .iconst 1, 1), (28, .bipush 40, 2), (30, .invokestatic 52, 3)] = true := by decide +kernel
theorem kX4_letter_1 : zOk (zdec xX4_letter) [(33, .ifCond .eq 10, 3), (36, .aload_n 0, 1), (37, .bipush (-2), 2), (39, .invokevirtual 56, 3), (42, .ireturn, 1), (43, .aload_n 0, 1), (44, .getfield 10, 3), (47, .invokevirtual 135, 3), (50, .ifCond .ne 10, 3), (53, .aload_n 0, 1), (54, .bipush (-6), 2), (56, .invokevirtual 56, 3), (59, .ireturn, 1), (60, .aload_n 0, 1), (61, .getfield 10, 3), (64, .iload_n 1, 1)] = true := by decide +kernel
theorem kX4_letter_2 : zOk (zdec xX4_letter) [(65, .iload_n 2, 1), (66, .iload_n 3, 1), (67, .iload 4, 2), (69, .invokevirtual 138, 3), (72, .ireturn, 1)] = true := by decide +kernel
theorem kX4_mend_0 : zOk (zdec xX4_mend) [(0, .aload_n 0, 1), (1, .iload_n 1, 1), (2, .invokevirtual 99, 3), (5, .ifCond .ne 12, 3), (8, .iload_n 2, 1), (9, .iconst 0, 1), (10, .iconst 1, 1), (11, .invokestatic 52, 3), (14, .ifCond .eq 10, 3), (17, .aload_n 0, 1), (18, .bipush (-2), 2), (20, .invokevirtual 56, 3), (23, .ireturn, 1), (24, .iload_n 2, 1), (25, .ifCond .ne 14, 3), (28, .aload_n 0, 1)] = true := by decide +kernel
theorem kX4_mend_1 : zOk (zdec xX4_mend) [(29, .iload_n 3, 1), (30, .invokevirtual 132, 3), (33, .ifCond .eq 23, 3), (36, .goto 13, 3), (39, .iload_n 3, 1), (40, .iconst 1, 1), (41, .bipush 40, 2), (43, .invokestatic 52, 3), (46, .ifCond .eq 10, 3), (49, .aload_n 0, 1), (50, .bipush (-2), 2), (52, .invokevirtual 56, 3), (55, .ireturn, 1), (56, .iload_n 2, 1), (57, .ifCond .ne 13, 3), (60, .aload_n 0, 1)] = true := by decide +kernel
theorem kX4_mend_2 : zOk (zdec xX4_mend) [(61, .getfield 10, 3), (64, .getfield 142, 3), (67, .goto 10, 3), (70, .aload_n 0, 1), (71, .getfield 10, 3), (74, .getfield 145, 3), (77, .astore 4, 2), (79, .aload 4, 2), (81, .iload_n 1, 1), (82, .iaload, 1), (83, .istore 5, 2), (85, .aload 4, 2), (87, .iload_n 1, 1), (88, .iload_n 3, 1), (89, .iastore, 1), (90, .iload 5, 2)] = true := by decide +kernel
theorem kX4_mend_3 : zOk (zdec xX4_mend) [(92, .ireturn, 1)] = true := by decide +kernel
theorem kX4_tell_0 : zOk (zdec xX4_tell) [(0, .aload_n 0, 1), (1, .iload_n 1, 1), (2, .invokevirtual 132, 3), (5, .ifCond .ne 22, 3), (8, .iload_n 2, 1), (9, .iconst 0, 1), (10, .iconst 1, 1), (11, .invokestatic 52, 3), (14, .ifCond .ne 13, 3), (17, .iload_n 3, 1), (18, .iconst 0, 1), (19, .bipush 9, 2), (21, .invokestatic 52, 3), (24, .ifCond .eq 10, 3), (27, .aload_n 0, 1), (28, .bipush (-2), 2)] = true := by decide +kernel
theorem kX4_tell_1 : zOk (zdec xX4_tell) [(30, .invokevirtual 56, 3), (33, .ireturn, 1), (34, .iload_n 2, 1), (35, .ifCond .ne 13, 3), (38, .aload_n 0, 1), (39, .getfield 10, 3), (42, .getfield 148, 3), (45, .goto 10, 3), (48, .aload_n 0, 1), (49, .getfield 10, 3), (52, .getfield 151, 3), (55, .astore 4, 2), (57, .aload 4, 2), (59, .iload_n 1, 1), (60, .iaload, 1), (61, .istore 5, 2)] = true := by decide +kernel
theorem kX4_tell_2 : zOk (zdec xX4_tell) [(63, .aload 4, 2), (65, .iload_n 1, 1), (66, .iload_n 3, 1), (67, .iastore, 1), (68, .iload 5, 2), (70, .ireturn, 1)] = true := by decide +kernel
theorem kX4_code_0 : zOk (zdec xX4_code) [(0, .aload_n 0, 1), (1, .iload_n 1, 1), (2, .invokevirtual 132, 3), (5, .ifCond .ne 13, 3), (8, .iload_n 2, 1), (9, .iconst 0, 1), (10, .bipush 9, 2), (12, .invokestatic 52, 3), (15, .ifCond .eq 10, 3), (18, .aload_n 0, 1), (19, .bipush (-2), 2), (21, .invokevirtual 56, 3), (24, .ireturn, 1), (25, .aload_n 0, 1), (26, .getfield 10, 3), (29, .getfield 154, 3)] = true := by decide +kernel
theorem kX4_code_1 : zOk (zdec xX4_code) [(32, .iload_n 1, 1), (33, .iaload, 1), (34, .iload_n 2, 1), (35, .ishr, 1), (36, .iconst 1, 1), (37, .iand, 1), (38, .istore 4, 2), (40, .iload_n 3, 1), (41, .ifCond .eq 15, 3), (44, .aload_n 0, 1), (45, .getfield 10, 3), (48, .iload_n 1, 1), (49, .iload_n 2, 1), (50, .invokevirtual 157, 3), (53, .goto 20, 3), (56, .aload_n 0, 1)] = true := by decide +kernel
theorem kX4_code_2 : zOk (zdec xX4_code) [(57, .getfield 10, 3), (60, .getfield 154, 3), (63, .iload_n 1, 1), (64, .dup2, 1), (65, .iaload, 1), (66, .iconst 1, 1), (67, .iload_n 2, 1), (68, .ishl, 1), (69, .iconst (-1), 1), (70, .ixor, 1), (71, .iand, 1), (72, .iastore, 1), (73, .iload 4, 2), (75, .ireturn, 1)] = true := by decide +kernel
theorem kX4_cold_0 : zOk (zdec xX4_cold) [(0, .iload_n 1, 1), (1, .iconst 0, 1), (2, .bipush 9, 2), (4, .invokestatic 52, 3), (7, .ifCond .eq 10, 3), (10, .aload_n 0, 1), (11, .bipush (-2), 2), (13, .invokevirtual 56, 3), (16, .ireturn, 1), (17, .aload_n 0, 1), (18, .getfield 10, 3), (21, .getfield 160, 3), (24, .istore_n 2, 1), (25, .aload_n 0, 1), (26, .getfield 10, 3), (29, .iload_n 1, 1)] = true := by decide +kernel
theorem kX4_cold_1 : zOk (zdec xX4_cold) [(30, .putfield 160, 3), (33, .iload_n 2, 1), (34, .ireturn, 1)] = true := by decide +kernel
theorem kX4_way_0 : zOk (zdec xX4_way) [(0, .aload_n 0, 1), (1, .getfield 10, 3), (4, .getfield 163, 3), (7, .invokestatic 166, 3), (10, .istore_n 2, 1), (11, .aload_n 0, 1), (12, .getfield 10, 3), (15, .iload_n 1, 1), (16, .putfield 163, 3), (19, .iload_n 2, 1), (20, .ireturn, 1)] = true := by decide +kernel
theorem kX4_feed_0 : zOk (zdec xX4_feed) [(0, .iload_n 1, 1), (1, .iconst 0, 1), (2, .sipush 255, 3), (5, .invokestatic 52, 3), (8, .ifCond .eq 10, 3), (11, .aload_n 0, 1), (12, .bipush (-2), 2), (14, .invokevirtual 56, 3), (17, .ireturn, 1), (18, .aload_n 0, 1), (19, .getfield 36, 3), (22, .invokevirtual 170, 3), (25, .ifCond .ne 10, 3), (28, .aload_n 0, 1), (29, .bipush (-6), 2), (31, .invokevirtual 56, 3)] = true := by decide +kernel
theorem kX4_feed_1 : zOk (zdec xX4_feed) [(34, .ireturn, 1), (35, .aload_n 0, 1), (36, .getfield 36, 3), (39, .iload_n 1, 1), (40, .invokevirtual 171, 3), (43, .ireturn, 1)] = true := by decide +kernel
theorem kX4_wipe_0 : zOk (zdec xX4_wipe) [(0, .aload_n 0, 1), (1, .getfield 36, 3), (4, .invokevirtual 174, 3), (7, .ireturn, 1)] = true := by decide +kernel
theorem kX4_lane_0 : zOk (zdec xX4_lane) [(0, .aload_n 0, 1), (1, .getfield 36, 3), (4, .aload_n 0, 1), (5, .getfield 22, 3), (8, .aload_n 0, 1), (9, .getfield 10, 3), (12, .invokevirtual 177, 3), (15, .invokevirtual 181, 3), (18, .istore_n 1, 1), (19, .aload_n 0, 1), (20, .getfield 36, 3), (23, .invokevirtual 185, 3), (26, .istore_n 2, 1), (27, .aload_n 0, 1), (28, .getfield 36, 3), (31, .invokevirtual 174, 3)] = true := by decide +kernel
theorem kX4_lane_1 : zOk (zdec xX4_lane) [(34, .pop, 1), (35, .iload_n 2, 1), (36, .iconst (-1), 1), (37, .if_icmp .eq 15, 3), (40, .aload_n 0, 1), (41, .bipush (-2), 2), (43, .invokevirtual 56, 3), (46, .pop, 1), (47, .bipush (-20), 2), (49, .iload_n 2, 1), (50, .isub, 1), (51, .ireturn, 1), (52, .aload_n 0, 1), (53, .getfield 10, 3), (56, .aload_n 0, 1), (57, .getfield 22, 3)] = true := by decide +kernel
theorem kX4_lane_2 : zOk (zdec xX4_lane) [(60, .getfield 188, 3), (63, .invokevirtual 191, 3), (66, .iload_n 1, 1), (67, .ireturn, 1)] = true := by decide +kernel
theorem kX4_letterOf_0 : zOk (zdec xX4_letterOf) [(0, .aload_n 0, 1), (1, .iload_n 1, 1), (2, .invokevirtual 99, 3), (5, .ifCond .eq 10, 3), (8, .aload_n 0, 1), (9, .bipush (-2), 2), (11, .invokevirtual 56, 3), (14, .ireturn, 1), (15, .iload_n 2, 1), (16, .tableswitch 72 0 3 #[32, 42, 52, 62], 32), (48, .aload_n 0, 1), (49, .getfield 10, 3), (52, .getfield 116, 3), (55, .iload_n 1, 1), (56, .iaload, 1), (57, .ireturn, 1)] = true := by decide +kernel
theorem kX4_letterOf_1 : zOk (zdec xX4_letterOf) [(58, .aload_n 0, 1), (59, .getfield 10, 3), (62, .getfield 122, 3), (65, .iload_n 1, 1), (66, .iaload, 1), (67, .ireturn, 1), (68, .aload_n 0, 1), (69, .getfield 10, 3), (72, .getfield 142, 3), (75, .iload_n 1, 1), (76, .iaload, 1), (77, .ireturn, 1), (78, .aload_n 0, 1), (79, .getfield 10, 3), (82, .getfield 145, 3), (85, .iload_n 1, 1)] = true := by decide +kernel
theorem kX4_letterOf_2 : zOk (zdec xX4_letterOf) [(86, .iaload, 1), (87, .ireturn, 1), (88, .aload_n 0, 1), (89, .bipush (-2), 2), (91, .invokevirtual 56, 3), (94, .ireturn, 1)] = true := by decide +kernel
theorem kX4_houseOf_0 : zOk (zdec xX4_houseOf) [(0, .aload_n 0, 1), (1, .iload_n 1, 1), (2, .invokevirtual 132, 3), (5, .ifCond .eq 10, 3), (8, .aload_n 0, 1), (9, .bipush (-2), 2), (11, .invokevirtual 56, 3), (14, .ireturn, 1), (15, .iload_n 2, 1), (16, .tableswitch 105 0 5 #[40, 50, 60, 70, 80, 89], 40), (56, .aload_n 0, 1), (57, .getfield 10, 3), (60, .getfield 148, 3), (63, .iload_n 1, 1), (64, .iaload, 1), (65, .ireturn, 1)] = true := by decide +kernel
theorem kX4_houseOf_1 : zOk (zdec xX4_houseOf) [(66, .aload_n 0, 1), (67, .getfield 10, 3), (70, .getfield 151, 3), (73, .iload_n 1, 1), (74, .iaload, 1), (75, .ireturn, 1), (76, .aload_n 0, 1), (77, .getfield 10, 3), (80, .getfield 154, 3), (83, .iload_n 1, 1), (84, .iaload, 1), (85, .ireturn, 1), (86, .aload_n 0, 1), (87, .getfield 10, 3), (90, .getfield 195, 3), (93, .iload_n 1, 1)] = true := by decide +kernel
theorem kX4_houseOf_2 : zOk (zdec xX4_houseOf) [(94, .iaload, 1), (95, .ireturn, 1), (96, .aload_n 0, 1), (97, .getfield 10, 3), (100, .iload_n 1, 1), (101, .invokevirtual 198, 3), (104, .ireturn, 1), (105, .aload_n 0, 1), (106, .getfield 10, 3), (109, .aload_n 0, 1), (110, .getfield 10, 3), (113, .iload_n 1, 1), (114, .invokevirtual 198, 3), (117, .invokevirtual 201, 3), (120, .ireturn, 1), (121, .aload_n 0, 1)] = true := by decide +kernel
theorem kX4_houseOf_3 : zOk (zdec xX4_houseOf) [(122, .bipush (-2), 2), (124, .invokevirtual 56, 3), (127, .ireturn, 1)] = true := by decide +kernel
theorem kX4_heard_0 : zOk (zdec xX4_heard) [(0, .aload_n 0, 1), (1, .iload_n 1, 1), (2, .invokevirtual 99, 3), (5, .ifCond .ne 11, 3), (8, .aload_n 0, 1), (9, .iload_n 2, 1), (10, .invokevirtual 132, 3), (13, .ifCond .eq 10, 3), (16, .aload_n 0, 1), (17, .bipush (-2), 2), (19, .invokevirtual 56, 3), (22, .ireturn, 1), (23, .aload_n 0, 1), (24, .getfield 10, 3), (27, .iload_n 1, 1), (28, .iload_n 2, 1)] = true := by decide +kernel
theorem kX4_heard_1 : zOk (zdec xX4_heard) [(29, .invokevirtual 125, 3), (32, .ireturn, 1)] = true := by decide +kernel
theorem kX4_isRead_0 : zOk (zdec xX4_isRead) [(0, .aload_n 0, 1), (1, .iload_n 1, 1), (2, .invokevirtual 99, 3), (5, .ifCond .ne 11, 3), (8, .aload_n 0, 1), (9, .iload_n 2, 1), (10, .invokevirtual 132, 3), (13, .ifCond .eq 10, 3), (16, .aload_n 0, 1), (17, .bipush (-2), 2), (19, .invokevirtual 56, 3), (22, .ireturn, 1), (23, .aload_n 0, 1), (24, .getfield 10, 3), (27, .iload_n 1, 1), (28, .iload_n 2, 1)] = true := by decide +kernel
theorem kX4_isRead_1 : zOk (zdec xX4_isRead) [(29, .invokevirtual 204, 3), (32, .invokestatic 166, 3), (35, .ireturn, 1)] = true := by decide +kernel
theorem kX4_whoKnows_0 : zOk (zdec xX4_whoKnows) [(0, .aload_n 0, 1), (1, .iload_n 1, 1), (2, .invokevirtual 99, 3), (5, .ifCond .eq 12, 3), (8, .aload_n 0, 1), (9, .bipush (-2), 2), (11, .invokevirtual 56, 3), (14, .goto 11, 3), (17, .aload_n 0, 1), (18, .getfield 10, 3), (21, .iload_n 1, 1), (22, .invokevirtual 207, 3), (25, .ireturn, 1)] = true := by decide +kernel
theorem kX4_knows_0 : zOk (zdec xX4_knows) [(0, .aload_n 0, 1), (1, .iload_n 1, 1), (2, .invokevirtual 132, 3), (5, .ifCond .eq 12, 3), (8, .aload_n 0, 1), (9, .bipush (-2), 2), (11, .invokevirtual 56, 3), (14, .goto 11, 3), (17, .aload_n 0, 1), (18, .getfield 10, 3), (21, .iload_n 1, 1), (22, .invokevirtual 210, 3), (25, .ireturn, 1)] = true := by decide +kernel
theorem kX4_first_0 : zOk (zdec xX4_first) [(0, .aload_n 0, 1), (1, .iload_n 1, 1), (2, .invokevirtual 99, 3), (5, .ifCond .ne 12, 3), (8, .iload_n 2, 1), (9, .iconst 0, 1), (10, .iconst 1, 1), (11, .invokestatic 52, 3), (14, .ifCond .eq 10, 3), (17, .aload_n 0, 1), (18, .bipush (-2), 2), (20, .invokevirtual 56, 3), (23, .ireturn, 1), (24, .aload_n 0, 1), (25, .getfield 10, 3), (28, .iload_n 1, 1)] = true := by decide +kernel
theorem kX4_first_1 : zOk (zdec xX4_first) [(29, .iload_n 2, 1), (30, .ifCond .ne 7, 3), (33, .iconst 1, 1), (34, .goto 4, 3), (37, .iconst 0, 1), (38, .invokevirtual 213, 3), (41, .ireturn, 1)] = true := by decide +kernel
theorem kX4_loudest_0 : zOk (zdec xX4_loudest) [(0, .aload_n 0, 1), (1, .iload_n 1, 1), (2, .invokevirtual 132, 3), (5, .ifCond .eq 12, 3), (8, .aload_n 0, 1), (9, .bipush (-2), 2), (11, .invokevirtual 56, 3), (14, .goto 11, 3), (17, .aload_n 0, 1), (18, .getfield 10, 3), (21, .iload_n 1, 1), (22, .invokevirtual 217, 3), (25, .ireturn, 1)] = true := by decide +kernel
theorem kX4_words_0 : zOk (zdec xX4_words) [(0, .aload_n 0, 1), (1, .iload_n 1, 1), (2, .invokevirtual 132, 3), (5, .ifCond .eq 12, 3), (8, .aload_n 0, 1), (9, .bipush (-2), 2), (11, .invokevirtual 56, 3), (14, .goto 11, 3), (17, .aload_n 0, 1), (18, .getfield 10, 3), (21, .iload_n 1, 1), (22, .invokevirtual 220, 3), (25, .ireturn, 1)] = true := by decide +kernel
theorem kX4_best_0 : zOk (zdec xX4_best) [(0, .iload_n 1, 1), (1, .iconst 0, 1), (2, .iconst 2, 1), (3, .invokestatic 52, 3), (6, .ifCond .eq 10, 3), (9, .aload_n 0, 1), (10, .bipush (-2), 2), (12, .invokevirtual 56, 3), (15, .ireturn, 1), (16, .iload_n 1, 1), (17, .iconst 2, 1), (18, .if_icmp .ne 11, 3), (21, .aload_n 0, 1), (22, .getfield 10, 3), (25, .invokevirtual 223, 3), (28, .ireturn, 1)] = true := by decide +kernel
theorem kX4_best_1 : zOk (zdec xX4_best) [(29, .aload_n 0, 1), (30, .getfield 10, 3), (33, .invokevirtual 226, 3), (36, .istore_n 2, 1), (37, .iload_n 1, 1), (38, .ifCond .ne 7, 3), (41, .iload_n 2, 1), (42, .goto 11, 3), (45, .aload_n 0, 1), (46, .getfield 10, 3), (49, .iload_n 2, 1), (50, .invokevirtual 220, 3), (53, .ireturn, 1)] = true := by decide +kernel
theorem kX4_address_0 : zOk (zdec xX4_address) [(0, .aload_n 0, 1), (1, .iload_n 1, 1), (2, .invokevirtual 99, 3), (5, .ifCond .ne 11, 3), (8, .aload_n 0, 1), (9, .iload_n 2, 1), (10, .invokevirtual 229, 3), (13, .ifCond .eq 10, 3), (16, .aload_n 0, 1), (17, .bipush (-2), 2), (19, .invokevirtual 56, 3), (22, .ireturn, 1), (23, .aload_n 0, 1), (24, .getfield 22, 3), (27, .aload_n 0, 1), (28, .getfield 10, 3)] = true := by decide +kernel
theorem kX4_address_1 : zOk (zdec xX4_address) [(31, .iload_n 1, 1), (32, .iload_n 2, 1), (33, .invokevirtual 232, 3), (36, .ireturn, 1)] = true := by decide +kernel
theorem kX4_hush_0 : zOk (zdec xX4_hush) [(0, .aload_n 0, 1), (1, .iload_n 1, 1), (2, .invokevirtual 99, 3), (5, .ifCond .ne 20, 3), (8, .aload_n 0, 1), (9, .iload_n 2, 1), (10, .invokevirtual 229, 3), (13, .ifCond .ne 12, 3), (16, .iload_n 3, 1), (17, .iconst 0, 1), (18, .iconst 1, 1), (19, .invokestatic 52, 3), (22, .ifCond .eq 10, 3), (25, .aload_n 0, 1), (26, .bipush (-2), 2), (28, .invokevirtual 56, 3)] = true := by decide +kernel
theorem kX4_hush_1 : zOk (zdec xX4_hush) [(31, .ireturn, 1), (32, .aload_n 0, 1), (33, .getfield 22, 3), (36, .aload_n 0, 1), (37, .getfield 10, 3), (40, .iload_n 1, 1), (41, .iload_n 2, 1), (42, .invokevirtual 236, 3), (45, .istore 4, 2), (47, .iload_n 3, 1), (48, .ifCond .eq 9, 3), (51, .iload 4, 2), (53, .iconst (-1), 1), (54, .if_icmp .ne 6, 3), (57, .iload 4, 2), (59, .ireturn, 1)] = true := by decide +kernel
theorem kX4_hush_2 : zOk (zdec xX4_hush) [(60, .aload_n 0, 1), (61, .getfield 22, 3), (64, .aload_n 0, 1), (65, .getfield 10, 3), (68, .iload_n 1, 1), (69, .iload_n 2, 1), (70, .iload 4, 2), (72, .invokevirtual 239, 3), (75, .ireturn, 1)] = true := by decide +kernel
theorem kX4_seal_0 : zOk (zdec xX4_seal) [(0, .aload_n 0, 1), (1, .iload_n 1, 1), (2, .invokevirtual 99, 3), (5, .ifCond .ne 11, 3), (8, .aload_n 0, 1), (9, .iload_n 2, 1), (10, .invokevirtual 229, 3), (13, .ifCond .eq 10, 3), (16, .aload_n 0, 1), (17, .bipush (-2), 2), (19, .invokevirtual 56, 3), (22, .ireturn, 1), (23, .aload_n 0, 1), (24, .getfield 22, 3), (27, .aload_n 0, 1), (28, .getfield 10, 3)] = true := by decide +kernel
theorem kX4_seal_1 : zOk (zdec xX4_seal) [(31, .iload_n 1, 1), (32, .iload_n 2, 1), (33, .invokevirtual 243, 3), (36, .ireturn, 1)] = true := by decide +kernel
theorem kX4_shout_0 : zOk (zdec xX4_shout) [(0, .aload_n 0, 1), (1, .iload_n 1, 1), (2, .invokevirtual 99, 3), (5, .ifCond .ne 11, 3), (8, .aload_n 0, 1), (9, .iload_n 2, 1), (10, .invokevirtual 132, 3), (13, .ifCond .eq 10, 3), (16, .aload_n 0, 1), (17, .bipush (-2), 2), (19, .invokevirtual 56, 3), (22, .ireturn, 1), (23, .aload_n 0, 1), (24, .getfield 22, 3), (27, .aload_n 0, 1), (28, .getfield 10, 3)] = true := by decide +kernel
theorem kX4_shout_1 : zOk (zdec xX4_shout) [(31, .iload_n 1, 1), (32, .iload_n 2, 1), (33, .invokevirtual 246, 3), (36, .ireturn, 1)] = true := by decide +kernel
theorem kX4_lengths_0 : zOk (zdec xX4_lengths) [(0, .aload_n 0, 1), (1, .iload_n 1, 1), (2, .iload_n 2, 1), (3, .iload_n 3, 1), (4, .iload 4, 2), (6, .iconst 0, 1), (7, .iconst 2, 1), (8, .invokestatic 52, 3), (11, .invokevirtual 249, 3), (14, .istore 5, 2), (16, .iload 5, 2), (18, .ifCond .eq 10, 3), (21, .aload_n 0, 1), (22, .iload 5, 2), (24, .invokevirtual 56, 3), (27, .ireturn, 1)] = true := by decide +kernel
theorem kX4_lengths_1 : zOk (zdec xX4_lengths) [(28, .aload_n 0, 1), (29, .getfield 22, 3), (32, .aload_n 0, 1), (33, .getfield 10, 3), (36, .aload_n 0, 1), (37, .getfield 28, 3), (40, .iload_n 1, 1), (41, .aaload, 1), (42, .iload_n 2, 1), (43, .iload_n 3, 1), (44, .invokevirtual 253, 3), (47, .istore 6, 2), (49, .iload 4, 2), (51, .ifCond .ne 6, 3), (54, .iload 6, 2), (56, .ireturn, 1)] = true := by decide +kernel
theorem kX4_lengths_2 : zOk (zdec xX4_lengths) [(57, .iload 4, 2), (59, .iconst 1, 1), (60, .if_icmp .ne 13, 3), (63, .aload_n 0, 1), (64, .getfield 22, 3), (67, .invokevirtual 257, 3), (70, .goto 10, 3), (73, .aload_n 0, 1), (74, .getfield 22, 3), (77, .invokevirtual 260, 3), (80, .ireturn, 1)] = true := by decide +kernel
theorem kX4_fits_0 : zOk (zdec xX4_fits) [(0, .aload_n 0, 1), (1, .iload_n 1, 1), (2, .iload_n 2, 1), (3, .iload_n 3, 1), (4, .iload 4, 2), (6, .iconst 0, 1), (7, .iconst 1, 1), (8, .invokestatic 52, 3), (11, .invokevirtual 249, 3), (14, .istore 5, 2), (16, .iload 5, 2), (18, .ifCond .eq 10, 3), (21, .aload_n 0, 1), (22, .iload 5, 2), (24, .invokevirtual 56, 3), (27, .ireturn, 1)] = true := by decide +kernel
theorem kX4_fits_1 : zOk (zdec xX4_fits) [(28, .iload 4, 2), (30, .ifCond .ne 25, 3), (33, .aload_n 0, 1), (34, .getfield 22, 3), (37, .aload_n 0, 1), (38, .getfield 10, 3), (41, .aload_n 0, 1), (42, .getfield 28, 3), (45, .iload_n 1, 1), (46, .aaload, 1), (47, .iload_n 2, 1), (48, .iload_n 3, 1), (49, .invokevirtual 263, 3), (52, .goto 22, 3), (55, .aload_n 0, 1), (56, .getfield 22, 3)] = true := by decide +kernel
theorem kX4_fits_2 : zOk (zdec xX4_fits) [(59, .aload_n 0, 1), (60, .getfield 10, 3), (63, .aload_n 0, 1), (64, .getfield 28, 3), (67, .iload_n 1, 1), (68, .aaload, 1), (69, .iload_n 2, 1), (70, .iload_n 3, 1), (71, .invokevirtual 266, 3), (74, .ireturn, 1)] = true := by decide +kernel
theorem kX4_ask_0 : zOk (zdec xX4_ask) [(0, .aload_n 0, 1), (1, .iload_n 1, 1), (2, .iload_n 2, 1), (3, .iload_n 3, 1), (4, .iconst 0, 1), (5, .invokevirtual 249, 3), (8, .istore 4, 2), (10, .iload 4, 2), (12, .ifCond .eq 10, 3), (15, .aload_n 0, 1), (16, .iload 4, 2), (18, .invokevirtual 56, 3), (21, .ireturn, 1), (22, .aload_n 0, 1), (23, .getfield 22, 3), (26, .aload_n 0, 1)] = true := by decide +kernel
theorem kX4_ask_1 : zOk (zdec xX4_ask) [(27, .getfield 10, 3), (30, .aload_n 0, 1), (31, .getfield 28, 3), (34, .iload_n 1, 1), (35, .aaload, 1), (36, .iload_n 2, 1), (37, .iload_n 3, 1), (38, .invokevirtual 253, 3), (41, .istore 5, 2), (43, .iload 5, 2), (45, .iconst 2, 1), (46, .if_icmp .ge 7, 3), (49, .iconst (-1), 1), (50, .goto 11, 3), (53, .aload_n 0, 1), (54, .getfield 22, 3)] = true := by decide +kernel
theorem kX4_ask_2 : zOk (zdec xX4_ask) [(57, .iload_n 3, 1), (58, .invokevirtual 269, 3), (61, .ireturn, 1)] = true := by decide +kernel
theorem kX4_winds_0 : zOk (zdec xX4_winds) [(0, .aload_n 0, 1), (1, .iload_n 1, 1), (2, .invokevirtual 48, 3), (5, .ifCond .ne 26, 3), (8, .iload_n 2, 1), (9, .iconst 0, 1), (10, .aload_n 0, 1), (11, .getfield 10, 3), (14, .getfield 272, 3), (17, .invokestatic 52, 3), (20, .ifCond .ne 11, 3), (23, .aload_n 0, 1), (24, .iload_n 3, 1), (25, .invokevirtual 132, 3), (28, .ifCond .eq 10, 3), (31, .aload_n 0, 1)] = true := by decide +kernel
theorem kX4_winds_1 : zOk (zdec xX4_winds) [(32, .bipush (-2), 2), (34, .invokevirtual 56, 3), (37, .ireturn, 1), (38, .aload_n 0, 1), (39, .getfield 28, 3), (42, .iload_n 1, 1), (43, .aaload, 1), (44, .iload_n 2, 1), (45, .invokevirtual 64, 3), (48, .istore 4, 2), (50, .iload 4, 2), (52, .ifCond .eq 10, 3), (55, .aload_n 0, 1), (56, .iload 4, 2), (58, .invokevirtual 56, 3), (61, .ireturn, 1)] = true := by decide +kernel
theorem kX4_winds_2 : zOk (zdec xX4_winds) [(62, .aload_n 0, 1), (63, .getfield 22, 3), (66, .aload_n 0, 1), (67, .getfield 10, 3), (70, .aload_n 0, 1), (71, .getfield 28, 3), (74, .iload_n 1, 1), (75, .aaload, 1), (76, .iload_n 2, 1), (77, .iload_n 3, 1), (78, .invokevirtual 275, 3), (81, .ireturn, 1)] = true := by decide +kernel
theorem kX4_pour_0 : zOk (zdec xX4_pour) [(0, .aload_n 0, 1), (1, .iload_n 1, 1), (2, .iload_n 2, 1), (3, .iload_n 3, 1), (4, .iload 4, 2), (6, .invokevirtual 278, 3), (9, .ifCond .ne 13, 3), (12, .iload 5, 2), (14, .iconst 0, 1), (15, .iconst 1, 1), (16, .invokestatic 52, 3), (19, .ifCond .eq 10, 3), (22, .aload_n 0, 1), (23, .bipush (-2), 2), (25, .invokevirtual 56, 3), (28, .ireturn, 1)] = true := by decide +kernel
theorem kX4_pour_1 : zOk (zdec xX4_pour) [(29, .aload_n 0, 1), (30, .getfield 22, 3), (33, .aload_n 0, 1), (34, .getfield 10, 3), (37, .iload_n 1, 1), (38, .iload_n 2, 1), (39, .iload_n 3, 1), (40, .iload 4, 2), (42, .invokevirtual 282, 3), (45, .istore 6, 2), (47, .iload 5, 2), (49, .iconst 1, 1), (50, .if_icmp .ne 6, 3), (53, .iload 6, 2), (55, .ireturn, 1), (56, .aload_n 0, 1)] = true := by decide +kernel
theorem kX4_pour_2 : zOk (zdec xX4_pour) [(57, .getfield 22, 3), (60, .aload_n 0, 1), (61, .getfield 10, 3), (64, .iload_n 1, 1), (65, .iload 6, 2), (67, .iload_n 2, 1), (68, .iload_n 3, 1), (69, .iload 4, 2), (71, .invokevirtual 286, 3), (74, .ireturn, 1)] = true := by decide +kernel
theorem kX4_answer_0 : zOk (zdec xX4_answer) [(0, .aload_n 0, 1), (1, .iload_n 1, 1), (2, .iload_n 2, 1), (3, .iload_n 3, 1), (4, .iload 4, 2), (6, .invokevirtual 278, 3), (9, .ifCond .ne 14, 3), (12, .iload 5, 2), (14, .iconst 0, 1), (15, .bipush 9, 2), (17, .invokestatic 52, 3), (20, .ifCond .eq 10, 3), (23, .aload_n 0, 1), (24, .bipush (-2), 2), (26, .invokevirtual 56, 3), (29, .ireturn, 1)] = true := by decide +kernel
theorem kX4_answer_1 : zOk (zdec xX4_answer) [(30, .aload_n 0, 1), (31, .getfield 22, 3), (34, .aload_n 0, 1), (35, .getfield 10, 3), (38, .iload_n 1, 1), (39, .iload 5, 2), (41, .iload_n 2, 1), (42, .iload_n 3, 1), (43, .iload 4, 2), (45, .invokevirtual 290, 3), (48, .ireturn, 1)] = true := by decide +kernel
theorem kX4_chance_0 : zOk (zdec xX4_chance) [(0, .aload_n 0, 1), (1, .iload_n 1, 1), (2, .invokevirtual 99, 3), (5, .ifCond .ne 11, 3), (8, .aload_n 0, 1), (9, .iload_n 2, 1), (10, .invokevirtual 132, 3), (13, .ifCond .eq 10, 3), (16, .aload_n 0, 1), (17, .bipush (-2), 2), (19, .invokevirtual 56, 3), (22, .ireturn, 1), (23, .aload_n 0, 1), (24, .getfield 22, 3), (27, .aload_n 0, 1), (28, .getfield 10, 3)] = true := by decide +kernel
theorem kX4_chance_1 : zOk (zdec xX4_chance) [(31, .iload_n 1, 1), (32, .iload_n 2, 1), (33, .invokevirtual 293, 3), (36, .ldc_w 296, 3), (39, .imul, 1), (40, .ireturn, 1)] = true := by decide +kernel
theorem kX4_sure_0 : zOk (zdec xX4_sure) [(0, .aload_n 0, 1), (1, .iload_n 1, 1), (2, .invokevirtual 99, 3), (5, .ifCond .eq 12, 3), (8, .aload_n 0, 1), (9, .bipush (-2), 2), (11, .invokevirtual 56, 3), (14, .goto 15, 3), (17, .aload_n 0, 1), (18, .getfield 22, 3), (21, .aload_n 0, 1), (22, .getfield 10, 3), (25, .iload_n 1, 1), (26, .invokevirtual 297, 3), (29, .ireturn, 1)] = true := by decide +kernel
theorem kX4_turned_0 : zOk (zdec xX4_turned) [(0, .aload_n 0, 1), (1, .iload_n 1, 1), (2, .invokevirtual 99, 3), (5, .ifCond .eq 12, 3), (8, .aload_n 0, 1), (9, .bipush (-2), 2), (11, .invokevirtual 56, 3), (14, .goto 15, 3), (17, .aload_n 0, 1), (18, .getfield 22, 3), (21, .aload_n 0, 1), (22, .getfield 10, 3), (25, .iload_n 1, 1), (26, .invokevirtual 301, 3), (29, .ireturn, 1)] = true := by decide +kernel
theorem kX4_gossips_0 : zOk (zdec xX4_gossips) [(0, .iconst 0, 1), (1, .istore_n 1, 1), (2, .iconst (-1), 1), (3, .istore_n 2, 1), (4, .iconst 0, 1), (5, .istore_n 3, 1), (6, .iload_n 3, 1), (7, .aload_n 0, 1), (8, .getfield 10, 3), (11, .getfield 129, 3), (14, .if_icmp .ge 76, 3), (17, .aload_n 0, 1), (18, .getfield 10, 3), (21, .iload_n 3, 1), (22, .invokevirtual 210, 3), (25, .istore 4, 2)] = true := by decide +kernel
theorem kX4_gossips_1 : zOk (zdec xX4_gossips) [(27, .iload_n 3, 1), (28, .iconst 1, 1), (29, .iadd, 1), (30, .istore 5, 2), (32, .iload 5, 2), (34, .aload_n 0, 1), (35, .getfield 10, 3), (38, .getfield 129, 3), (41, .if_icmp .ge 43, 3), (44, .iload 4, 2), (46, .aload_n 0, 1), (47, .getfield 10, 3), (50, .iload 5, 2), (52, .invokevirtual 210, 3), (55, .iand, 1), (56, .invokestatic 304, 3)] = true := by decide +kernel
theorem kX4_gossips_2 : zOk (zdec xX4_gossips) [(59, .istore 6, 2), (61, .iload 6, 2), (63, .iload_n 1, 1), (64, .if_icmp .le 14, 3), (67, .iload 6, 2), (69, .istore_n 1, 1), (70, .bipush 100, 2), (72, .iload_n 3, 1), (73, .imul, 1), (74, .iload 5, 2), (76, .iadd, 1), (77, .istore_n 2, 1), (78, .iinc 5 1, 3), (81, .goto (-49), 3), (84, .iinc 3 1, 3), (87, .goto (-81), 3)] = true := by decide +kernel
theorem kX4_gossips_3 : zOk (zdec xX4_gossips) [(90, .iload_n 2, 1), (91, .ireturn, 1)] = true := by decide +kernel
theorem kX4_colds_0 : zOk (zdec xX4_colds) [(0, .aload_n 0, 1), (1, .iload_n 1, 1), (2, .invokevirtual 99, 3), (5, .ifCond .ne 11, 3), (8, .aload_n 0, 1), (9, .iload_n 2, 1), (10, .invokevirtual 132, 3), (13, .ifCond .eq 10, 3), (16, .aload_n 0, 1), (17, .bipush (-2), 2), (19, .invokevirtual 56, 3), (22, .ireturn, 1), (23, .aload_n 0, 1), (24, .getfield 22, 3), (27, .aload_n 0, 1), (28, .getfield 10, 3)] = true := by decide +kernel
theorem kX4_colds_1 : zOk (zdec xX4_colds) [(31, .iload_n 1, 1), (32, .iload_n 2, 1), (33, .invokevirtual 309, 3), (36, .ireturn, 1)] = true := by decide +kernel
theorem kX4_widest_0 : zOk (zdec xX4_widest) [(0, .aload_n 0, 1), (1, .iload_n 1, 1), (2, .invokevirtual 99, 3), (5, .ifCond .ne 12, 3), (8, .iload_n 2, 1), (9, .iconst 0, 1), (10, .iconst 1, 1), (11, .invokestatic 52, 3), (14, .ifCond .eq 10, 3), (17, .aload_n 0, 1), (18, .bipush (-2), 2), (20, .invokevirtual 56, 3), (23, .ireturn, 1), (24, .aload_n 0, 1), (25, .getfield 22, 3), (28, .aload_n 0, 1)] = true := by decide +kernel
theorem kX4_widest_1 : zOk (zdec xX4_widest) [(29, .getfield 10, 3), (32, .iload_n 1, 1), (33, .invokevirtual 312, 3), (36, .istore_n 3, 1), (37, .iload_n 2, 1), (38, .ifCond .ne 7, 3), (41, .iload_n 3, 1), (42, .goto 16, 3), (45, .aload_n 0, 1), (46, .getfield 22, 3), (49, .aload_n 0, 1), (50, .getfield 10, 3), (53, .iload_n 1, 1), (54, .iload_n 3, 1), (55, .invokevirtual 315, 3), (58, .ireturn, 1)] = true := by decide +kernel
theorem kX4_wise_0 : zOk (zdec xX4_wise) [(0, .iconst 0, 1), (1, .istore_n 1, 1), (2, .iconst 0, 1), (3, .istore_n 2, 1), (4, .iload_n 2, 1), (5, .aload_n 0, 1), (6, .getfield 10, 3), (9, .getfield 129, 3), (12, .if_icmp .ge 40, 3), (15, .aload_n 0, 1), (16, .getfield 10, 3), (19, .iload_n 2, 1), (20, .invokevirtual 318, 3), (23, .istore_n 3, 1), (24, .iload_n 3, 1), (25, .ifCond .eq 21, 3)] = true := by decide +kernel
theorem kX4_wise_1 : zOk (zdec xX4_wise) [(28, .aload_n 0, 1), (29, .getfield 10, 3), (32, .iload_n 2, 1), (33, .invokevirtual 210, 3), (36, .iload_n 3, 1), (37, .if_icmp .ne 9, 3), (40, .iload_n 1, 1), (41, .iconst 1, 1), (42, .iload_n 2, 1), (43, .ishl, 1), (44, .ior, 1), (45, .istore_n 1, 1), (46, .iinc 2 1, 3), (49, .goto (-45), 3), (52, .iload_n 1, 1), (53, .ireturn, 1)] = true := by decide +kernel
theorem kX4_secret_0 : zOk (zdec xX4_secret) [(0, .iconst 0, 1), (1, .istore_n 1, 1), (2, .iconst 0, 1), (3, .istore_n 2, 1), (4, .iload_n 2, 1), (5, .aload_n 0, 1), (6, .getfield 10, 3), (9, .getfield 272, 3), (12, .if_icmp .ge 37, 3), (15, .aload_n 0, 1), (16, .getfield 10, 3), (19, .iload_n 2, 1), (20, .invokevirtual 207, 3), (23, .iconst 1, 1), (24, .aload_n 0, 1), (25, .getfield 10, 3)] = true := by decide +kernel
theorem kX4_secret_1 : zOk (zdec xX4_secret) [(28, .getfield 142, 3), (31, .iload_n 2, 1), (32, .iaload, 1), (33, .ishl, 1), (34, .if_icmp .ne 9, 3), (37, .iload_n 1, 1), (38, .iconst 1, 1), (39, .iload_n 2, 1), (40, .ishl, 1), (41, .ior, 1), (42, .istore_n 1, 1), (43, .iinc 2 1, 3), (46, .goto (-42), 3), (49, .iload_n 1, 1), (50, .ireturn, 1)] = true := by decide +kernel
theorem kX4_lost_0 : zOk (zdec xX4_lost) [(0, .iconst 0, 1), (1, .istore_n 1, 1), (2, .iconst 0, 1), (3, .istore_n 2, 1), (4, .iload_n 2, 1), (5, .aload_n 0, 1), (6, .getfield 10, 3), (9, .getfield 272, 3), (12, .if_icmp .ge 35, 3), (15, .aload_n 0, 1), (16, .getfield 10, 3), (19, .iload_n 2, 1), (20, .aload_n 0, 1), (21, .getfield 10, 3), (24, .getfield 142, 3), (27, .iload_n 2, 1)] = true := by decide +kernel
theorem kX4_lost_1 : zOk (zdec xX4_lost) [(28, .iaload, 1), (29, .invokevirtual 321, 3), (32, .ifCond .ne 9, 3), (35, .iload_n 1, 1), (36, .iconst 1, 1), (37, .iload_n 2, 1), (38, .ishl, 1), (39, .ior, 1), (40, .istore_n 1, 1), (41, .iinc 2 1, 3), (44, .goto (-40), 3), (47, .iload_n 1, 1), (48, .ireturn, 1)] = true := by decide +kernel
theorem kX4_reach_0 : zOk (zdec xX4_reach) [(0, .aload_n 0, 1), (1, .iload_n 1, 1), (2, .invokevirtual 99, 3), (5, .ifCond .ne 12, 3), (8, .iload_n 2, 1), (9, .iconst 0, 1), (10, .iconst 1, 1), (11, .invokestatic 52, 3), (14, .ifCond .eq 10, 3), (17, .aload_n 0, 1), (18, .bipush (-2), 2), (20, .invokevirtual 56, 3), (23, .ireturn, 1), (24, .iconst 0, 1), (25, .istore_n 3, 1), (26, .iconst 0, 1)] = true := by decide +kernel
theorem kX4_reach_1 : zOk (zdec xX4_reach) [(27, .istore 4, 2), (29, .iconst 0, 1), (30, .istore 5, 2), (32, .iload 5, 2), (34, .aload_n 0, 1), (35, .getfield 10, 3), (38, .getfield 129, 3), (41, .if_icmp .ge 44, 3), (44, .aload_n 0, 1), (45, .getfield 10, 3), (48, .iload_n 1, 1), (49, .iload 5, 2), (51, .invokevirtual 125, 3), (54, .istore 6, 2), (56, .iload 4, 2), (58, .iload 6, 2)] = true := by decide +kernel
theorem kX4_reach_2 : zOk (zdec xX4_reach) [(60, .iadd, 1), (61, .istore 4, 2), (63, .iload_n 3, 1), (64, .iload 6, 2), (66, .ifCond .le 7, 3), (69, .iconst 1, 1), (70, .goto 4, 3), (73, .iconst 0, 1), (74, .invokestatic 166, 3), (77, .iadd, 1), (78, .istore_n 3, 1), (79, .iinc 5 1, 3), (82, .goto (-50), 3), (85, .iload_n 2, 1), (86, .ifCond .ne 7, 3), (89, .iload_n 3, 1)] = true := by decide +kernel
theorem kX4_reach_3 : zOk (zdec xX4_reach) [(90, .goto 5, 3), (93, .iload 4, 2), (95, .ireturn, 1)] = true := by decide +kernel
theorem kX4_lacks_0 : zOk (zdec xX4_lacks) [(0, .aload_n 0, 1), (1, .iload_n 1, 1), (2, .invokevirtual 99, 3), (5, .ifCond .ne 11, 3), (8, .aload_n 0, 1), (9, .iload_n 2, 1), (10, .invokevirtual 132, 3), (13, .ifCond .eq 10, 3), (16, .aload_n 0, 1), (17, .bipush (-2), 2), (19, .invokevirtual 56, 3), (22, .ireturn, 1), (23, .aload_n 0, 1), (24, .getfield 10, 3), (27, .getfield 145, 3), (30, .iload_n 1, 1)] = true := by decide +kernel
theorem kX4_lacks_1 : zOk (zdec xX4_lacks) [(31, .iaload, 1), (32, .iconst 1, 1), (33, .iadd, 1), (34, .iconst 2, 1), (35, .idiv, 1), (36, .istore_n 3, 1), (37, .iconst 0, 1), (38, .iload_n 3, 1), (39, .aload_n 0, 1), (40, .getfield 10, 3), (43, .iload_n 1, 1), (44, .iload_n 2, 1), (45, .invokevirtual 125, 3), (48, .isub, 1), (49, .invokestatic 324, 3), (52, .ireturn, 1)] = true := by decide +kernel
theorem kX4_alike_0 : zOk (zdec xX4_alike) [(0, .aload_n 0, 1), (1, .iload_n 1, 1), (2, .invokevirtual 132, 3), (5, .ifCond .ne 11, 3), (8, .aload_n 0, 1), (9, .iload_n 2, 1), (10, .invokevirtual 132, 3), (13, .ifCond .eq 10, 3), (16, .aload_n 0, 1), (17, .bipush (-2), 2), (19, .invokevirtual 56, 3), (22, .ireturn, 1), (23, .aload_n 0, 1), (24, .getfield 10, 3), (27, .iload_n 1, 1), (28, .invokevirtual 210, 3)] = true := by decide +kernel
theorem kX4_alike_1 : zOk (zdec xX4_alike) [(31, .aload_n 0, 1), (32, .getfield 10, 3), (35, .iload_n 2, 1), (36, .invokevirtual 210, 3), (39, .if_icmp .ne 7, 3), (42, .iconst 1, 1), (43, .goto 4, 3), (46, .iconst 0, 1), (47, .invokestatic 166, 3), (50, .ireturn, 1)] = true := by decide +kernel
theorem kX4_quiet_0 : zOk (zdec xX4_quiet) [(0, .aload_n 0, 1), (1, .iload_n 1, 1), (2, .invokevirtual 132, 3), (5, .ifCond .eq 12, 3), (8, .aload_n 0, 1), (9, .bipush (-2), 2), (11, .invokevirtual 56, 3), (14, .goto 15, 3), (17, .aload_n 0, 1), (18, .getfield 22, 3), (21, .aload_n 0, 1), (22, .getfield 10, 3), (25, .iload_n 1, 1), (26, .invokevirtual 329, 3), (29, .ireturn, 1)] = true := by decide +kernel
theorem kX4_sober_0 : zOk (zdec xX4_sober) [(0, .aload_n 0, 1), (1, .iload_n 1, 1), (2, .invokevirtual 99, 3), (5, .ifCond .eq 12, 3), (8, .aload_n 0, 1), (9, .bipush (-2), 2), (11, .invokevirtual 56, 3), (14, .goto 15, 3), (17, .aload_n 0, 1), (18, .getfield 22, 3), (21, .aload_n 0, 1), (22, .getfield 10, 3), (25, .iload_n 1, 1), (26, .invokevirtual 332, 3), (29, .ireturn, 1)] = true := by decide +kernel
theorem kX4_thirst_0 : zOk (zdec xX4_thirst) [(0, .aload_n 0, 1), (1, .iload_n 1, 1), (2, .invokevirtual 132, 3), (5, .ifCond .eq 10, 3), (8, .aload_n 0, 1), (9, .bipush (-2), 2), (11, .invokevirtual 56, 3), (14, .ireturn, 1), (15, .aload_n 0, 1), (16, .getfield 10, 3), (19, .invokevirtual 335, 3), (22, .aload_n 0, 1), (23, .getfield 22, 3), (26, .aload_n 0, 1), (27, .getfield 10, 3), (30, .iload_n 1, 1)] = true := by decide +kernel
theorem kX4_thirst_1 : zOk (zdec xX4_thirst) [(31, .bipush 9, 2), (33, .invokevirtual 338, 3), (36, .isub, 1), (37, .ireturn, 1)] = true := by decide +kernel
theorem kX4_taught_0 : zOk (zdec xX4_taught) [(0, .aload_n 0, 1), (1, .iload_n 1, 1), (2, .invokevirtual 99, 3), (5, .ifCond .ne 11, 3), (8, .aload_n 0, 1), (9, .iload_n 2, 1), (10, .invokevirtual 132, 3), (13, .ifCond .eq 10, 3), (16, .aload_n 0, 1), (17, .bipush (-2), 2), (19, .invokevirtual 56, 3), (22, .ireturn, 1), (23, .aload_n 0, 1), (24, .getfield 22, 3), (27, .aload_n 0, 1), (28, .getfield 10, 3)] = true := by decide +kernel
theorem kX4_taught_1 : zOk (zdec xX4_taught) [(31, .iload_n 1, 1), (32, .iload_n 2, 1), (33, .invokevirtual 341, 3), (36, .invokestatic 166, 3), (39, .ireturn, 1)] = true := by decide +kernel
theorem kX4_merry_0 : zOk (zdec xX4_merry) [(0, .aload_n 0, 1), (1, .iload_n 1, 1), (2, .invokevirtual 99, 3), (5, .ifCond .eq 12, 3), (8, .aload_n 0, 1), (9, .bipush (-2), 2), (11, .invokevirtual 56, 3), (14, .goto 15, 3), (17, .aload_n 0, 1), (18, .getfield 22, 3), (21, .aload_n 0, 1), (22, .getfield 10, 3), (25, .iload_n 1, 1), (26, .invokevirtual 345, 3), (29, .ireturn, 1)] = true := by decide +kernel
theorem kX4_common_0 : zOk (zdec xX4_common) [(0, .aload_n 0, 1), (1, .iload_n 1, 1), (2, .invokevirtual 99, 3), (5, .ifCond .ne 11, 3), (8, .aload_n 0, 1), (9, .iload_n 2, 1), (10, .invokevirtual 99, 3), (13, .ifCond .eq 10, 3), (16, .aload_n 0, 1), (17, .bipush (-2), 2), (19, .invokevirtual 56, 3), (22, .ireturn, 1), (23, .aload_n 0, 1), (24, .getfield 10, 3), (27, .iload_n 1, 1), (28, .invokevirtual 207, 3)] = true := by decide +kernel
theorem kX4_common_1 : zOk (zdec xX4_common) [(31, .aload_n 0, 1), (32, .getfield 10, 3), (35, .iload_n 2, 1), (36, .invokevirtual 207, 3), (39, .iand, 1), (40, .ireturn, 1)] = true := by decide +kernel
theorem kX4_doubt_0 : zOk (zdec xX4_doubt) [(0, .aload_n 0, 1), (1, .iload_n 1, 1), (2, .invokevirtual 99, 3), (5, .ifCond .eq 10, 3), (8, .aload_n 0, 1), (9, .bipush (-2), 2), (11, .invokevirtual 56, 3), (14, .ireturn, 1), (15, .iconst 0, 1), (16, .istore_n 2, 1), (17, .iconst 0, 1), (18, .istore_n 3, 1), (19, .iload_n 3, 1), (20, .aload_n 0, 1), (21, .getfield 10, 3), (24, .getfield 129, 3)] = true := by decide +kernel
theorem kX4_doubt_1 : zOk (zdec xX4_doubt) [(27, .if_icmp .ge 27, 3), (30, .aload_n 0, 1), (31, .getfield 10, 3), (34, .iload_n 1, 1), (35, .iload_n 3, 1), (36, .invokevirtual 204, 3), (39, .ifCond .eq 9, 3), (42, .iload_n 2, 1), (43, .iconst 1, 1), (44, .iload_n 3, 1), (45, .ishl, 1), (46, .ior, 1), (47, .istore_n 2, 1), (48, .iinc 3 1, 3), (51, .goto (-32), 3), (54, .iload_n 2, 1)] = true := by decide +kernel
theorem kX4_doubt_2 : zOk (zdec xX4_doubt) [(55, .aload_n 0, 1), (56, .getfield 10, 3), (59, .iload_n 1, 1), (60, .invokevirtual 207, 3), (63, .iconst (-1), 1), (64, .ixor, 1), (65, .iand, 1), (66, .ireturn, 1)] = true := by decide +kernel
theorem kX4_ofKind_0 : zOk (zdec xX4_ofKind) [(0, .iload_n 1, 1), (1, .invokestatic 109, 3), (4, .ifCond .eq 10, 3), (7, .aload_n 0, 1), (8, .bipush (-2), 2), (10, .invokevirtual 56, 3), (13, .ireturn, 1), (14, .iconst 0, 1), (15, .istore_n 2, 1), (16, .iconst 0, 1), (17, .istore_n 3, 1), (18, .iload_n 3, 1), (19, .aload_n 0, 1), (20, .getfield 10, 3), (23, .getfield 272, 3), (26, .if_icmp .ge 33, 3)] = true := by decide +kernel
theorem kX4_ofKind_1 : zOk (zdec xX4_ofKind) [(29, .iload_n 2, 1), (30, .aload_n 0, 1), (31, .getfield 10, 3), (34, .getfield 116, 3), (37, .iload_n 3, 1), (38, .iaload, 1), (39, .iload_n 1, 1), (40, .if_icmp .ne 7, 3), (43, .iconst 1, 1), (44, .goto 4, 3), (47, .iconst 0, 1), (48, .invokestatic 166, 3), (51, .iadd, 1), (52, .istore_n 2, 1), (53, .iinc 3 1, 3), (56, .goto (-38), 3)] = true := by decide +kernel
theorem kX4_ofKind_2 : zOk (zdec xX4_ofKind) [(59, .iload_n 2, 1), (60, .ireturn, 1)] = true := by decide +kernel
theorem kX4_judge_0 : zOk (zdec xX4_judge) [(0, .aload_n 0, 1), (1, .iload_n 1, 1), (2, .invokevirtual 48, 3), (5, .ifCond .ne 13, 3), (8, .iload_n 2, 1), (9, .iconst 0, 1), (10, .bipush 40, 2), (12, .invokestatic 52, 3), (15, .ifCond .eq 10, 3), (18, .aload_n 0, 1), (19, .bipush (-2), 2), (21, .invokevirtual 56, 3), (24, .ireturn, 1), (25, .aload_n 0, 1), (26, .getfield 28, 3), (29, .iload_n 1, 1)] = true := by decide +kernel
theorem kX4_judge_1 : zOk (zdec xX4_judge) [(30, .aaload, 1), (31, .iload_n 2, 1), (32, .invokevirtual 64, 3), (35, .istore_n 3, 1), (36, .iload_n 3, 1), (37, .ifCond .eq 9, 3), (40, .aload_n 0, 1), (41, .iload_n 3, 1), (42, .invokevirtual 56, 3), (45, .ireturn, 1), (46, .iconst 0, 1), (47, .istore 4, 2), (49, .iload 4, 2), (51, .iload_n 2, 1), (52, .if_icmp .ge 50, 3), (55, .iload 4, 2)] = true := by decide +kernel
theorem kX4_judge_2 : zOk (zdec xX4_judge) [(57, .aload_n 0, 1), (58, .getfield 10, 3), (61, .getfield 129, 3), (64, .if_icmp .ge 29, 3), (67, .aload_n 0, 1), (68, .getfield 28, 3), (71, .iload_n 1, 1), (72, .aaload, 1), (73, .getfield 89, 3), (76, .iload 4, 2), (78, .laload, 1), (79, .aload_n 0, 1), (80, .getfield 10, 3), (83, .iload 4, 2), (85, .invokevirtual 210, 3), (88, .i2l, 1)] = true := by decide +kernel
theorem kX4_judge_3 : zOk (zdec xX4_judge) [(89, .lcmp, 1), (90, .ifCond .eq 6, 3), (93, .iload 4, 2), (95, .ireturn, 1), (96, .iinc 4 1, 3), (99, .goto (-50), 3), (102, .iconst (-1), 1), (103, .ireturn, 1)] = true := by decide +kernel
theorem kX4_round_0 : zOk (zdec xX4_round) [(0, .aload_n 0, 1), (1, .getfield 10, 3), (4, .invokevirtual 348, 3), (7, .iload_n 1, 1), (8, .ifCond .eq 15, 3), (11, .aload_n 0, 1), (12, .getfield 10, 3), (15, .iconst 0, 1), (16, .putfield 272, 3), (19, .aload_n 0, 1), (20, .invokevirtual 351, 3), (23, .aload_n 0, 1), (24, .getfield 10, 3), (27, .invokevirtual 354, 3), (30, .ireturn, 1)] = true := by decide +kernel
theorem kX4_days_0 : zOk (zdec xX4_days) [(0, .iload_n 1, 1), (1, .iconst 1, 1), (2, .bipush 60, 2), (4, .invokestatic 52, 3), (7, .ifCond .eq 10, 3), (10, .aload_n 0, 1), (11, .bipush (-2), 2), (13, .invokevirtual 56, 3), (16, .ireturn, 1), (17, .iconst 0, 1), (18, .istore_n 2, 1), (19, .iload_n 2, 1), (20, .iload_n 1, 1), (21, .if_icmp .ge 16, 3), (24, .aload_n 0, 1), (25, .getfield 10, 3)] = true := by decide +kernel
theorem kX4_days_1 : zOk (zdec xX4_days) [(28, .invokevirtual 357, 3), (31, .iinc 2 1, 3), (34, .goto (-15), 3), (37, .aload_n 0, 1), (38, .getfield 10, 3), (41, .invokevirtual 354, 3), (44, .ireturn, 1)] = true := by decide +kernel
theorem kX4_seed_0 : zOk (zdec xX4_seed) [(0, .aload_n 0, 1), (1, .getfield 10, 3), (4, .getfield 360, 3), (7, .istore_n 2, 1), (8, .aload_n 0, 1), (9, .getfield 10, 3), (12, .iload_n 1, 1), (13, .putfield 360, 3), (16, .iload_n 2, 1), (17, .ireturn, 1)] = true := by decide +kernel
theorem kX4_image_0 : zOk (zdec xX4_image) [(0, .aload_n 0, 1), (1, .getfield 16, 3), (4, .aload_n 0, 1), (5, .getfield 10, 3), (8, .invokevirtual 191, 3), (11, .aload_n 0, 1), (12, .iconst 1, 1), (13, .putfield 44, 3), (16, .iconst 1, 1), (17, .ireturn, 1)] = true := by decide +kernel
theorem kX4_back_0 : zOk (zdec xX4_back) [(0, .aload_n 0, 1), (1, .getfield 44, 3), (4, .ifCond .ne 10, 3), (7, .aload_n 0, 1), (8, .bipush (-5), 2), (10, .invokevirtual 56, 3), (13, .ireturn, 1), (14, .aload_n 0, 1), (15, .getfield 10, 3), (18, .aload_n 0, 1), (19, .getfield 16, 3), (22, .invokevirtual 191, 3), (25, .aload_n 0, 1), (26, .invokevirtual 351, 3), (29, .iconst 1, 1), (30, .ireturn, 1)] = true := by decide +kernel
theorem kX4_status_0 : zOk (zdec xX4_status) [(0, .iload_n 1, 1), (1, .tableswitch 135 0 9 #[55, 63, 71, 79, 90, 98, 106, 114, 122, 130], 55), (56, .aload_n 0, 1), (57, .getfield 10, 3), (60, .getfield 272, 3), (63, .ireturn, 1), (64, .aload_n 0, 1), (65, .getfield 10, 3), (68, .getfield 129, 3), (71, .ireturn, 1), (72, .aload_n 0, 1), (73, .getfield 10, 3), (76, .getfield 160, 3), (79, .ireturn, 1), (80, .aload_n 0, 1), (81, .getfield 10, 3)] = true := by decide +kernel
theorem kX4_status_1 : zOk (zdec xX4_status) [(84, .getfield 163, 3), (87, .invokestatic 166, 3), (90, .ireturn, 1), (91, .aload_n 0, 1), (92, .getfield 10, 3), (95, .invokevirtual 363, 3), (98, .ireturn, 1), (99, .aload_n 0, 1), (100, .getfield 10, 3), (103, .invokevirtual 354, 3), (106, .ireturn, 1), (107, .aload_n 0, 1), (108, .getfield 10, 3), (111, .getfield 366, 3), (114, .ireturn, 1), (115, .aload_n 0, 1)] = true := by decide +kernel
theorem kX4_status_2 : zOk (zdec xX4_status) [(116, .getfield 36, 3), (119, .invokevirtual 369, 3), (122, .ireturn, 1), (123, .aload_n 0, 1), (124, .getfield 10, 3), (127, .getfield 360, 3), (130, .ireturn, 1), (131, .aload_n 0, 1), (132, .invokevirtual 372, 3), (135, .ireturn, 1), (136, .iload_n 1, 1), (137, .bipush 12, 2), (139, .bipush 16, 2), (141, .invokestatic 52, 3), (144, .ifCond .eq 7, 3), (147, .iconst (-1), 1)] = true := by decide +kernel
theorem kX4_status_3 : zOk (zdec xX4_status) [(148, .goto 12, 3), (151, .aload_n 0, 1), (152, .getfield 40, 3), (155, .iload_n 1, 1), (156, .bipush 12, 2), (158, .isub, 1), (159, .iaload, 1), (160, .ireturn, 1)] = true := by decide +kernel
theorem kX4_refuse_0 : zOk (zdec xX4_refuse) [(0, .iload_n 1, 1), (1, .bipush (-6), 2), (3, .bipush (-2), 2), (5, .invokestatic 52, 3), (8, .ifCond .ne 16, 3), (11, .aload_n 0, 1), (12, .getfield 40, 3), (15, .bipush (-2), 2), (17, .iload_n 1, 1), (18, .isub, 1), (19, .dup2, 1), (20, .iaload, 1), (21, .iconst 1, 1), (22, .iadd, 1), (23, .iastore, 1), (24, .iload_n 1, 1)] = true := by decide +kernel
theorem kX4_refuse_1 : zOk (zdec xX4_refuse) [(25, .ireturn, 1)] = true := by decide +kernel
theorem kX4_outside_0 : zOk (zdec xX4_outside) [(0, .iload_n 0, 1), (1, .iload_n 1, 1), (2, .if_icmp .lt 8, 3), (5, .iload_n 0, 1), (6, .iload_n 2, 1), (7, .if_icmp .le 7, 3), (10, .iconst 1, 1), (11, .goto 4, 3), (14, .iconst 0, 1), (15, .ireturn, 1)] = true := by decide +kernel
theorem kX4_noShelf_0 : zOk (zdec xX4_noShelf) [(0, .iload_n 1, 1), (1, .iconst 0, 1), (2, .bipush 7, 2), (4, .invokestatic 52, 3), (7, .ireturn, 1)] = true := by decide +kernel
theorem kX4_noHouse_0 : zOk (zdec xX4_noHouse) [(0, .iload_n 1, 1), (1, .iconst 0, 1), (2, .aload_n 0, 1), (3, .getfield 10, 3), (6, .getfield 129, 3), (9, .iconst 1, 1), (10, .isub, 1), (11, .invokestatic 52, 3), (14, .ireturn, 1)] = true := by decide +kernel
theorem kX4_noLetter_0 : zOk (zdec xX4_noLetter) [(0, .iload_n 1, 1), (1, .iconst 0, 1), (2, .aload_n 0, 1), (3, .getfield 10, 3), (6, .getfield 272, 3), (9, .iconst 1, 1), (10, .isub, 1), (11, .invokestatic 52, 3), (14, .ireturn, 1)] = true := by decide +kernel
theorem kX4_noKind_0 : zOk (zdec xX4_noKind) [(0, .iload_n 0, 1), (1, .iconst 0, 1), (2, .iconst 5, 1), (3, .invokestatic 52, 3), (6, .ireturn, 1)] = true := by decide +kernel
theorem kX4_noSet_0 : zOk (zdec xX4_noSet) [(0, .iload_n 1, 1), (1, .iconst 0, 1), (2, .iconst 1, 1), (3, .aload_n 0, 1), (4, .getfield 10, 3), (7, .getfield 129, 3), (10, .ishl, 1), (11, .iconst 1, 1), (12, .isub, 1), (13, .invokestatic 52, 3), (16, .ireturn, 1)] = true := by decide +kernel
theorem kX4_noPouring_0 : zOk (zdec xX4_noPouring) [(0, .aload_n 0, 1), (1, .iload_n 1, 1), (2, .invokevirtual 132, 3), (5, .ifCond .ne 33, 3), (8, .aload_n 0, 1), (9, .iload_n 2, 1), (10, .invokevirtual 132, 3), (13, .ifCond .ne 25, 3), (16, .iload_n 1, 1), (17, .iload_n 2, 1), (18, .if_icmp .eq 20, 3), (21, .aload_n 0, 1), (22, .iload_n 3, 1), (23, .invokevirtual 99, 3), (26, .ifCond .ne 12, 3), (29, .aload_n 0, 1)] = true := by decide +kernel
theorem kX4_noPouring_1 : zOk (zdec xX4_noPouring) [(30, .iload 4, 2), (32, .invokevirtual 132, 3), (35, .ifCond .eq 7, 3), (38, .iconst 1, 1), (39, .goto 4, 3), (42, .iconst 0, 1), (43, .ireturn, 1)] = true := by decide +kernel
theorem kX4_toldFault_0 : zOk (zdec xX4_toldFault) [(0, .aload_n 0, 1), (1, .iload_n 1, 1), (2, .invokevirtual 48, 3), (5, .ifCond .ne 31, 3), (8, .iload_n 2, 1), (9, .iconst 0, 1), (10, .aload_n 0, 1), (11, .getfield 10, 3), (14, .getfield 129, 3), (17, .invokestatic 52, 3), (20, .ifCond .ne 16, 3), (23, .aload_n 0, 1), (24, .iload_n 3, 1), (25, .invokevirtual 99, 3), (28, .ifCond .ne 8, 3), (31, .iload 4, 2)] = true := by decide +kernel
theorem kX4_toldFault_1 : zOk (zdec xX4_toldFault) [(33, .ifCond .eq 6, 3), (36, .bipush (-2), 2), (38, .ireturn, 1), (39, .aload_n 0, 1), (40, .getfield 28, 3), (43, .iload_n 1, 1), (44, .aaload, 1), (45, .iload_n 2, 1), (46, .invokevirtual 64, 3), (49, .ireturn, 1)] = true := by decide +kernel
theorem kX4_isOrStandsUnder_0 : zOk (zdec xX4_isOrStandsUnder) [(0, .iload_n 0, 1), (1, .istore_n 2, 1), (2, .iconst 0, 1), (3, .istore_n 3, 1), (4, .iload_n 3, 1), (5, .getstatic 375, 3), (8, .arraylength, 1), (9, .if_icmp .ge 29, 3), (12, .iload_n 2, 1), (13, .invokestatic 109, 3), (16, .ifCond .ne 22, 3), (19, .iload_n 2, 1), (20, .iload_n 1, 1), (21, .if_icmp .ne 5, 3), (24, .iconst 1, 1), (25, .ireturn, 1)] = true := by decide +kernel
theorem kX4_isOrStandsUnder_1 : zOk (zdec xX4_isOrStandsUnder) [(26, .getstatic 375, 3), (29, .iload_n 2, 1), (30, .iaload, 1), (31, .istore_n 2, 1), (32, .iinc 3 1, 3), (35, .goto (-31), 3), (38, .iconst 0, 1), (39, .ireturn, 1)] = true := by decide +kernel
theorem kX4_asNumber_0 : zOk (zdec xX4_asNumber) [(0, .iload_n 0, 1), (1, .ifCond .eq 7, 3), (4, .iconst 1, 1), (5, .goto 4, 3), (8, .iconst 0, 1), (9, .ireturn, 1)] = true := by decide +kernel
theorem kX4_dropMissingLetters_0 : zOk (zdec xX4_dropMissingLetters) [(0, .iconst 0, 1), (1, .istore_n 1, 1), (2, .iload_n 1, 1), (3, .bipush 8, 2), (5, .if_icmp .ge 46, 3), (8, .aload_n 0, 1), (9, .getfield 28, 3), (12, .iload_n 1, 1), (13, .aaload, 1), (14, .invokevirtual 74, 3), (17, .ifCond .eq 28, 3), (20, .aload_n 0, 1), (21, .aload_n 0, 1), (22, .getfield 28, 3), (25, .iload_n 1, 1), (26, .aaload, 1)] = true := by decide +kernel
theorem kX4_dropMissingLetters_1 : zOk (zdec xX4_dropMissingLetters) [(27, .invokevirtual 112, 3), (30, .invokevirtual 99, 3), (33, .ifCond .eq 12, 3), (36, .aload_n 0, 1), (37, .getfield 28, 3), (40, .iload_n 1, 1), (41, .aaload, 1), (42, .invokevirtual 102, 3), (45, .iinc 1 1, 3), (48, .goto (-46), 3), (51, .return_, 1)] = true := by decide +kernel
theorem kX4_shelvesInUse_0 : zOk (zdec xX4_shelvesInUse) [(0, .iconst 0, 1), (1, .istore_n 1, 1), (2, .iconst 0, 1), (3, .istore_n 2, 1), (4, .iload_n 2, 1), (5, .bipush 8, 2), (7, .if_icmp .ge 32, 3), (10, .iload_n 1, 1), (11, .aload_n 0, 1), (12, .getfield 28, 3), (15, .iload_n 2, 1), (16, .aaload, 1), (17, .invokevirtual 78, 3), (20, .ifCond .ne 7, 3), (23, .iconst 1, 1), (24, .goto 4, 3)] = true := by decide +kernel
theorem kX4_shelvesInUse_1 : zOk (zdec xX4_shelvesInUse) [(27, .iconst 0, 1), (28, .invokestatic 166, 3), (31, .iadd, 1), (32, .istore_n 1, 1), (33, .iinc 2 1, 3), (36, .goto (-32), 3), (39, .iload_n 1, 1), (40, .ireturn, 1)] = true := by decide +kernel
theorem kX5_init_0 : zOk (zdec xX5_init) [(0, .aload_n 0, 1), (1, .invokespecial 1, 3), (4, .aload_n 0, 1), (5, .bipush 8, 2), (7, .newarray .int, 2), (9, .putfield 7, 3), (12, .aload_n 0, 1), (13, .bipush 8, 2), (15, .newarray .int, 2), (17, .putfield 13, 3), (20, .aload_n 0, 1), (21, .bipush 8, 2), (23, .newarray .int, 2), (25, .putfield 16, 3), (28, .aload_n 0, 1), (29, .bipush 8, 2)] = true := by decide +kernel
theorem kX5_init_1 : zOk (zdec xX5_init) [(31, .bipush 40, 2), (33, .multianewarray 19 2, 4), (37, .putfield 21, 3), (40, .aload_n 0, 1), (41, .bipush 40, 2), (43, .newarray .long, 2), (45, .putfield 24, 3), (48, .aload_n 0, 1), (49, .bipush 8, 2), (51, .newarray .int, 2), (53, .putfield 28, 3), (56, .aload_n 0, 1), (57, .sipush 250, 3), (60, .newarray .int, 2), (62, .putfield 31, 3), (65, .aload_n 0, 1)] = true := by decide +kernel
theorem kX5_init_2 : zOk (zdec xX5_init) [(66, .bipush 8, 2), (68, .newarray .int, 2), (70, .putfield 34, 3), (73, .aload_n 0, 1), (74, .bipush 8, 2), (76, .putfield 37, 3), (79, .aload_n 0, 1), (80, .bipush 12, 2), (82, .newarray .int, 2), (84, .putfield 41, 3), (87, .aload_n 0, 1), (88, .bipush 12, 2), (90, .newarray .int, 2), (92, .putfield 44, 3), (95, .aload_n 0, 1), (96, .bipush 12, 2)] = true := by decide +kernel
theorem kX5_init_3 : zOk (zdec xX5_init) [(98, .newarray .int, 2), (100, .putfield 47, 3), (103, .aload_n 0, 1), (104, .bipush 12, 2), (106, .newarray .int, 2), (108, .putfield 50, 3), (111, .aload_n 0, 1), (112, .bipush 8, 2), (114, .newarray .int, 2), (116, .putfield 53, 3), (119, .aload_n 0, 1), (120, .bipush 8, 2), (122, .newarray .int, 2), (124, .putfield 56, 3), (127, .aload_n 0, 1), (128, .bipush 8, 2)] = true := by decide +kernel
theorem kX5_init_4 : zOk (zdec xX5_init) [(130, .newarray .int, 2), (132, .putfield 59, 3), (135, .aload_n 0, 1), (136, .bipush 8, 2), (138, .newarray .int, 2), (140, .putfield 62, 3), (143, .aload_n 0, 1), (144, .iconst 1, 1), (145, .putfield 65, 3), (148, .aload_n 0, 1), (149, .iconst 4, 1), (150, .newarray .int, 2), (152, .putfield 68, 3), (155, .aload_n 0, 1), (156, .bipush 12, 2), (158, .newarray .int, 2)] = true := by decide +kernel
theorem kX5_init_5 : zOk (zdec xX5_init) [(160, .putfield 71, 3), (163, .aload_n 0, 1), (164, .bipush 41, 2), (166, .newarray .boolean, 2), (168, .putfield 74, 3), (171, .aload_n 0, 1), (172, .bipush 41, 2), (174, .newarray .int, 2), (176, .putfield 78, 3), (179, .return_, 1)] = true := by decide +kernel
theorem kX5_refuse_0 : zOk (zdec xX5_refuse) [(0, .aload_n 0, 1), (1, .getfield 34, 3), (4, .iload_n 1, 1), (5, .ineg, 1), (6, .dup2, 1), (7, .iaload, 1), (8, .iconst 1, 1), (9, .iadd, 1), (10, .iastore, 1), (11, .iload_n 1, 1), (12, .ireturn, 1)] = true := by decide +kernel
theorem kX5_in_0 : zOk (zdec xX5_in) [(0, .lload_n 0, 1), (1, .lload_n 2, 1), (2, .lcmp, 1), (3, .ifCond .lt 14, 3), (6, .lload_n 0, 1), (7, .lload 4, 2), (9, .lcmp, 1), (10, .ifCond .gt 7, 3), (13, .iconst 1, 1), (14, .goto 4, 3), (17, .iconst 0, 1), (18, .ireturn, 1)] = true := by decide +kernel
theorem kX5_isHouse_0 : zOk (zdec xX5_isHouse) [(0, .iload_n 1, 1), (1, .i2l, 1), (2, .lconst 0, 1), (3, .aload_n 0, 1), (4, .getfield 37, 3), (7, .iconst 1, 1), (8, .isub, 1), (9, .i2l, 1), (10, .invokestatic 81, 3), (13, .ireturn, 1)] = true := by decide +kernel
theorem kX5_isLetter_0 : zOk (zdec xX5_isLetter) [(0, .lload_n 1, 1), (1, .lconst 0, 1), (2, .aload_n 0, 1), (3, .getfield 85, 3), (6, .iconst 1, 1), (7, .isub, 1), (8, .i2l, 1), (9, .invokestatic 81, 3), (12, .ireturn, 1)] = true := by decide +kernel
theorem kX5_bits_0 : zOk (zdec xX5_bits) [(0, .iconst 0, 1), (1, .istore_n 1, 1), (2, .iload_n 0, 1), (3, .istore_n 2, 1), (4, .iload_n 2, 1), (5, .ifCond .eq 15, 3), (8, .iinc 1 1, 3), (11, .iload_n 2, 1), (12, .iload_n 2, 1), (13, .iconst 1, 1), (14, .isub, 1), (15, .iand, 1), (16, .istore_n 2, 1), (17, .goto (-13), 3), (20, .iload_n 1, 1), (21, .ireturn, 1)] = true := by decide +kernel
theorem kX5_row_0 : zOk (zdec xX5_row) [(0, .iload_n 1, 1), (1, .i2l, 1), (2, .lconst 0, 1), (3, .ldc2_w 88, 3), (6, .invokestatic 81, 3), (9, .ifCond .eq 27, 3), (12, .iload_n 2, 1), (13, .i2l, 1), (14, .lconst 0, 1), (15, .ldc2_w 90, 3), (18, .invokestatic 81, 3), (21, .ifCond .eq 15, 3), (24, .iload_n 3, 1), (25, .i2l, 1), (26, .lconst 0, 1), (27, .ldc2_w 92, 3)] = true := by decide +kernel
theorem kX5_row_1 : zOk (zdec xX5_row) [(30, .invokestatic 81, 3), (33, .ifCond .ne 10, 3), (36, .aload_n 0, 1), (37, .bipush (-2), 2), (39, .invokevirtual 94, 3), (42, .ireturn, 1), (43, .aload_n 0, 1), (44, .getfield 7, 3), (47, .iload_n 1, 1), (48, .iconst 1, 1), (49, .iastore, 1), (50, .aload_n 0, 1), (51, .getfield 13, 3), (54, .iload_n 1, 1), (55, .iload_n 2, 1), (56, .iastore, 1)] = true := by decide +kernel
theorem kX5_row_2 : zOk (zdec xX5_row) [(57, .aload_n 0, 1), (58, .getfield 16, 3), (61, .iload_n 1, 1), (62, .iload_n 3, 1), (63, .iastore, 1), (64, .iconst 0, 1), (65, .istore 4, 2), (67, .iload 4, 2), (69, .bipush 40, 2), (71, .if_icmp .ge 19, 3), (74, .aload_n 0, 1), (75, .getfield 21, 3), (78, .iload_n 1, 1), (79, .aaload, 1), (80, .iload 4, 2), (82, .lconst 0, 1)] = true := by decide +kernel
theorem kX5_row_3 : zOk (zdec xX5_row) [(83, .lastore, 1), (84, .iinc 4 1, 3), (87, .goto (-20), 3), (90, .iconst 1, 1), (91, .ireturn, 1)] = true := by decide +kernel
theorem kX5_fit_0 : zOk (zdec xX5_fit) [(0, .iload_n 0, 1), (1, .tableswitch 47 0 3 #[31, 36, 41, 45], 31), (32, .lload_n 1, 1), (33, .l2i, 1), (34, .i2b, 1), (35, .i2l, 1), (36, .lreturn, 1), (37, .lload_n 1, 1), (38, .l2i, 1), (39, .i2s, 1), (40, .i2l, 1), (41, .lreturn, 1), (42, .lload_n 1, 1), (43, .l2i, 1), (44, .i2l, 1), (45, .lreturn, 1)] = true := by decide +kernel
theorem kX5_fit_1 : zOk (zdec xX5_fit) [(46, .lload_n 1, 1), (47, .lreturn, 1), (48, .lload_n 1, 1), (49, .lconst 0, 1), (50, .lcmp, 1), (51, .ifCond .eq 7, 3), (54, .lconst 1, 1), (55, .goto 4, 3), (58, .lconst 0, 1), (59, .lreturn, 1)] = true := by decide +kernel
theorem kX5_noRow_0 : zOk (zdec xX5_noRow) [(0, .iload_n 1, 1), (1, .i2l, 1), (2, .lconst 0, 1), (3, .ldc2_w 88, 3), (6, .invokestatic 81, 3), (9, .ifCond .ne 10, 3), (12, .aload_n 0, 1), (13, .bipush (-2), 2), (15, .invokevirtual 94, 3), (18, .ireturn, 1), (19, .aload_n 0, 1), (20, .getfield 7, 3), (23, .iload_n 1, 1), (24, .iaload, 1), (25, .iconst 2, 1), (26, .if_icmp .ne 10, 3)] = true := by decide +kernel
theorem kX5_noRow_1 : zOk (zdec xX5_noRow) [(29, .aload_n 0, 1), (30, .bipush (-3), 2), (32, .invokevirtual 94, 3), (35, .ireturn, 1), (36, .aload_n 0, 1), (37, .getfield 7, 3), (40, .iload_n 1, 1), (41, .iaload, 1), (42, .ifCond .ne 12, 3), (45, .aload_n 0, 1), (46, .bipush (-4), 2), (48, .invokevirtual 94, 3), (51, .goto 4, 3), (54, .iconst 0, 1), (55, .ireturn, 1)] = true := by decide +kernel
theorem kX5_set_0 : zOk (zdec xX5_set) [(0, .aload_n 0, 1), (1, .iload_n 1, 1), (2, .invokevirtual 98, 3), (5, .istore 5, 2), (7, .iload 5, 2), (9, .ifCond .eq 6, 3), (12, .iload 5, 2), (14, .ireturn, 1), (15, .iload_n 2, 1), (16, .i2l, 1), (17, .lconst 0, 1), (18, .aload_n 0, 1), (19, .getfield 16, 3), (22, .iload_n 1, 1), (23, .iaload, 1), (24, .iconst 1, 1)] = true := by decide +kernel
theorem kX5_set_1 : zOk (zdec xX5_set) [(25, .isub, 1), (26, .i2l, 1), (27, .invokestatic 81, 3), (30, .ifCond .ne 10, 3), (33, .aload_n 0, 1), (34, .bipush (-2), 2), (36, .invokevirtual 94, 3), (39, .ireturn, 1), (40, .aload_n 0, 1), (41, .getfield 21, 3), (44, .iload_n 1, 1), (45, .aaload, 1), (46, .iload_n 2, 1), (47, .aload_n 0, 1), (48, .getfield 13, 3), (51, .iload_n 1, 1)] = true := by decide +kernel
theorem kX5_set_2 : zOk (zdec xX5_set) [(52, .iaload, 1), (53, .lload_n 3, 1), (54, .invokestatic 101, 3), (57, .lastore, 1), (58, .iconst 1, 1), (59, .ireturn, 1)] = true := by decide +kernel
theorem kX5_copy_0 : zOk (zdec xX5_copy) [(0, .iload_n 1, 1), (1, .i2l, 1), (2, .lconst 0, 1), (3, .ldc2_w 88, 3), (6, .invokestatic 81, 3), (9, .ifCond .eq 15, 3), (12, .iload_n 2, 1), (13, .i2l, 1), (14, .lconst 0, 1), (15, .ldc2_w 88, 3), (18, .invokestatic 81, 3), (21, .ifCond .ne 10, 3), (24, .aload_n 0, 1), (25, .bipush (-2), 2), (27, .invokevirtual 94, 3), (30, .ireturn, 1)] = true := by decide +kernel
theorem kX5_copy_1 : zOk (zdec xX5_copy) [(31, .aload_n 0, 1), (32, .getfield 7, 3), (35, .iload_n 1, 1), (36, .iaload, 1), (37, .iconst 2, 1), (38, .if_icmp .eq 48, 3), (41, .aload_n 0, 1), (42, .getfield 7, 3), (45, .iload_n 2, 1), (46, .iaload, 1), (47, .iconst 2, 1), (48, .if_icmp .eq 38, 3), (51, .aload_n 0, 1), (52, .getfield 7, 3), (55, .iload_n 1, 1), (56, .iaload, 1)] = true := by decide +kernel
theorem kX5_copy_2 : zOk (zdec xX5_copy) [(57, .iconst 1, 1), (58, .if_icmp .ne 35, 3), (61, .aload_n 0, 1), (62, .getfield 7, 3), (65, .iload_n 2, 1), (66, .iaload, 1), (67, .iconst 1, 1), (68, .if_icmp .ne 25, 3), (71, .aload_n 0, 1), (72, .getfield 13, 3), (75, .iload_n 1, 1), (76, .iaload, 1), (77, .aload_n 0, 1), (78, .getfield 13, 3), (81, .iload_n 2, 1), (82, .iaload, 1)] = true := by decide +kernel
theorem kX5_copy_3 : zOk (zdec xX5_copy) [(83, .if_icmp .eq 10, 3), (86, .aload_n 0, 1), (87, .bipush (-3), 2), (89, .invokevirtual 94, 3), (92, .ireturn, 1), (93, .aload_n 0, 1), (94, .getfield 7, 3), (97, .iload_n 1, 1), (98, .iaload, 1), (99, .ifCond .eq 12, 3), (102, .aload_n 0, 1), (103, .getfield 7, 3), (106, .iload_n 2, 1), (107, .iaload, 1), (108, .ifCond .ne 10, 3), (111, .aload_n 0, 1)] = true := by decide +kernel
theorem kX5_copy_4 : zOk (zdec xX5_copy) [(112, .bipush (-4), 2), (114, .invokevirtual 94, 3), (117, .ireturn, 1), (118, .iload 5, 2), (120, .ifCond .lt 61, 3), (123, .iload_n 3, 1), (124, .ifCond .lt 57, 3), (127, .iload 4, 2), (129, .ifCond .lt 52, 3), (132, .iload 5, 2), (134, .aload_n 0, 1), (135, .getfield 16, 3), (138, .iload_n 1, 1), (139, .iaload, 1), (140, .if_icmp .gt 41, 3), (143, .iload 5, 2)] = true := by decide +kernel
theorem kX5_copy_5 : zOk (zdec xX5_copy) [(145, .aload_n 0, 1), (146, .getfield 16, 3), (149, .iload_n 2, 1), (150, .iaload, 1), (151, .if_icmp .gt 30, 3), (154, .iload_n 3, 1), (155, .aload_n 0, 1), (156, .getfield 16, 3), (159, .iload_n 1, 1), (160, .iaload, 1), (161, .iload 5, 2), (163, .isub, 1), (164, .if_icmp .gt 17, 3), (167, .iload 4, 2), (169, .aload_n 0, 1), (170, .getfield 16, 3)] = true := by decide +kernel
theorem kX5_copy_6 : zOk (zdec xX5_copy) [(173, .iload_n 2, 1), (174, .iaload, 1), (175, .iload 5, 2), (177, .isub, 1), (178, .if_icmp .le 10, 3), (181, .aload_n 0, 1), (182, .bipush (-2), 2), (184, .invokevirtual 94, 3), (187, .ireturn, 1), (188, .iconst 0, 1), (189, .istore 6, 2), (191, .iload 6, 2), (193, .iload 5, 2), (195, .if_icmp .ge 27, 3), (198, .aload_n 0, 1), (199, .getfield 24, 3)] = true := by decide +kernel
theorem kX5_copy_7 : zOk (zdec xX5_copy) [(202, .iload 6, 2), (204, .aload_n 0, 1), (205, .getfield 21, 3), (208, .iload_n 1, 1), (209, .aaload, 1), (210, .iload_n 3, 1), (211, .iload 6, 2), (213, .iadd, 1), (214, .laload, 1), (215, .lastore, 1), (216, .iinc 6 1, 3), (219, .goto (-28), 3), (222, .iconst 0, 1), (223, .istore 6, 2), (225, .iload 6, 2), (227, .iload 5, 2)] = true := by decide +kernel
theorem kX5_copy_8 : zOk (zdec xX5_copy) [(229, .if_icmp .ge 28, 3), (232, .aload_n 0, 1), (233, .getfield 21, 3), (236, .iload_n 2, 1), (237, .aaload, 1), (238, .iload 4, 2), (240, .iload 6, 2), (242, .iadd, 1), (243, .aload_n 0, 1), (244, .getfield 24, 3), (247, .iload 6, 2), (249, .laload, 1), (250, .lastore, 1), (251, .iinc 6 1, 3), (254, .goto (-29), 3), (257, .iload 5, 2)] = true := by decide +kernel
theorem kX5_copy_9 : zOk (zdec xX5_copy) [(259, .ireturn, 1)] = true := by decide +kernel
theorem kX5_element_0 : zOk (zdec xX5_element) [(0, .iload_n 1, 1), (1, .i2l, 1), (2, .lconst 0, 1), (3, .ldc2_w 88, 3), (6, .invokestatic 81, 3), (9, .ifCond .eq 42, 3), (12, .aload_n 0, 1), (13, .getfield 7, 3), (16, .iload_n 1, 1), (17, .iaload, 1), (18, .iconst 1, 1), (19, .if_icmp .ne 32, 3), (22, .iload_n 2, 1), (23, .i2l, 1), (24, .lconst 0, 1), (25, .aload_n 0, 1)] = true := by decide +kernel
theorem kX5_element_1 : zOk (zdec xX5_element) [(26, .getfield 16, 3), (29, .iload_n 1, 1), (30, .iaload, 1), (31, .iconst 1, 1), (32, .isub, 1), (33, .i2l, 1), (34, .invokestatic 81, 3), (37, .ifCond .eq 14, 3), (40, .aload_n 0, 1), (41, .getfield 21, 3), (44, .iload_n 1, 1), (45, .aaload, 1), (46, .iload_n 2, 1), (47, .laload, 1), (48, .goto 4, 3), (51, .lconst 0, 1)] = true := by decide +kernel
theorem kX5_element_2 : zOk (zdec xX5_element) [(52, .lreturn, 1)] = true := by decide +kernel
theorem kX5_holds_0 : zOk (zdec xX5_holds) [(0, .iload_n 1, 1), (1, .i2l, 1), (2, .lconst 0, 1), (3, .ldc2_w 88, 3), (6, .invokestatic 81, 3), (9, .ifCond .eq 12, 3), (12, .aload_n 0, 1), (13, .getfield 7, 3), (16, .iload_n 1, 1), (17, .iaload, 1), (18, .ifCond .ne 5, 3), (21, .iconst (-1), 1), (22, .ireturn, 1), (23, .aload_n 0, 1), (24, .getfield 7, 3), (27, .iload_n 1, 1)] = true := by decide +kernel
theorem kX5_holds_1 : zOk (zdec xX5_holds) [(28, .iaload, 1), (29, .iconst 1, 1), (30, .if_icmp .ne 12, 3), (33, .aload_n 0, 1), (34, .getfield 13, 3), (37, .iload_n 1, 1), (38, .iaload, 1), (39, .goto 12, 3), (42, .bipush 10, 2), (44, .aload_n 0, 1), (45, .getfield 28, 3), (48, .iload_n 1, 1), (49, .iaload, 1), (50, .iadd, 1), (51, .ireturn, 1)] = true := by decide +kernel
theorem kX5_show_0 : zOk (zdec xX5_show) [(0, .iload_n 1, 1), (1, .i2l, 1), (2, .lconst 0, 1), (3, .ldc2_w 88, 3), (6, .invokestatic 81, 3), (9, .ifCond .eq 17, 3), (12, .iload_n 2, 1), (13, .iconst (-1), 1), (14, .if_icmp .eq 19, 3), (17, .aload_n 0, 1), (18, .iload_n 2, 1), (19, .i2l, 1), (20, .invokevirtual 105, 3), (23, .ifCond .ne 10, 3), (26, .aload_n 0, 1), (27, .bipush (-2), 2)] = true := by decide +kernel
theorem kX5_show_1 : zOk (zdec xX5_show) [(29, .invokevirtual 94, 3), (32, .ireturn, 1), (33, .aload_n 0, 1), (34, .getfield 7, 3), (37, .iload_n 1, 1), (38, .iload_n 2, 1), (39, .iconst (-1), 1), (40, .if_icmp .ne 7, 3), (43, .iconst 0, 1), (44, .goto 4, 3), (47, .iconst 2, 1), (48, .iastore, 1), (49, .aload_n 0, 1), (50, .getfield 28, 3), (53, .iload_n 1, 1), (54, .iload_n 2, 1)] = true := by decide +kernel
theorem kX5_show_2 : zOk (zdec xX5_show) [(55, .iastore, 1), (56, .iconst 1, 1), (57, .ireturn, 1)] = true := by decide +kernel
theorem kX5_isUnder_0 : zOk (zdec xX5_isUnder) [(0, .iload_n 1, 1), (1, .ifCond .eq 28, 3), (4, .iload_n 0, 1), (5, .iload_n 1, 1), (6, .if_icmp .eq 23, 3), (9, .iload_n 1, 1), (10, .iconst 1, 1), (11, .if_icmp .ne 8, 3), (14, .iload_n 0, 1), (15, .iconst 3, 1), (16, .if_icmp .eq 13, 3), (19, .iload_n 1, 1), (20, .iconst 2, 1), (21, .if_icmp .ne 12, 3), (24, .iload_n 0, 1), (25, .iconst 4, 1)] = true := by decide +kernel
theorem kX5_isUnder_1 : zOk (zdec xX5_isUnder) [(26, .if_icmp .ne 7, 3), (29, .iconst 1, 1), (30, .goto 4, 3), (33, .iconst 0, 1), (34, .ireturn, 1)] = true := by decide +kernel
theorem kX5_says_0 : zOk (zdec xX5_says) [(0, .iload_n 1, 1), (1, .i2l, 1), (2, .lconst 0, 1), (3, .ldc2_w 88, 3), (6, .invokestatic 81, 3), (9, .ifCond .eq 15, 3), (12, .iload_n 2, 1), (13, .i2l, 1), (14, .lconst 0, 1), (15, .ldc2_w 109, 3), (18, .invokestatic 81, 3), (21, .ifCond .ne 10, 3), (24, .aload_n 0, 1), (25, .bipush (-2), 2), (27, .invokevirtual 94, 3), (30, .ireturn, 1)] = true := by decide +kernel
theorem kX5_says_1 : zOk (zdec xX5_says) [(31, .aload_n 0, 1), (32, .getfield 7, 3), (35, .iload_n 1, 1), (36, .iaload, 1), (37, .iconst 1, 1), (38, .if_icmp .eq 31, 3), (41, .aload_n 0, 1), (42, .getfield 7, 3), (45, .iload_n 1, 1), (46, .iaload, 1), (47, .iconst 2, 1), (48, .if_icmp .ne 28, 3), (51, .aload_n 0, 1), (52, .getfield 53, 3), (55, .aload_n 0, 1), (56, .getfield 28, 3)] = true := by decide +kernel
theorem kX5_says_2 : zOk (zdec xX5_says) [(59, .iload_n 1, 1), (60, .iaload, 1), (61, .iaload, 1), (62, .iload_n 2, 1), (63, .invokestatic 111, 3), (66, .ifCond .ne 10, 3), (69, .aload_n 0, 1), (70, .bipush (-3), 2), (72, .invokevirtual 94, 3), (75, .ireturn, 1), (76, .aload_n 0, 1), (77, .getfield 7, 3), (80, .iload_n 1, 1), (81, .iaload, 1), (82, .ifCond .ne 10, 3), (85, .aload_n 0, 1)] = true := by decide +kernel
theorem kX5_says_3 : zOk (zdec xX5_says) [(86, .bipush (-4), 2), (88, .invokevirtual 94, 3), (91, .ireturn, 1), (92, .iload_n 2, 1), (93, .ifCond .ne 17, 3), (96, .aload_n 0, 1), (97, .getfield 56, 3), (100, .aload_n 0, 1), (101, .getfield 28, 3), (104, .iload_n 1, 1), (105, .iaload, 1), (106, .iaload, 1), (107, .goto 14, 3), (110, .aload_n 0, 1), (111, .aload_n 0, 1), (112, .getfield 28, 3)] = true := by decide +kernel
theorem kX5_says_4 : zOk (zdec xX5_says) [(115, .iload_n 1, 1), (116, .iaload, 1), (117, .iconst 0, 1), (118, .invokevirtual 115, 3), (121, .ireturn, 1)] = true := by decide +kernel
theorem kX5_addLetter_0 : zOk (zdec xX5_addLetter) [(0, .aload_n 0, 1), (1, .getfield 53, 3), (4, .aload_n 0, 1), (5, .getfield 85, 3), (8, .iload_n 1, 1), (9, .iastore, 1), (10, .aload_n 0, 1), (11, .getfield 56, 3), (14, .aload_n 0, 1), (15, .getfield 85, 3), (18, .iload_n 2, 1), (19, .iastore, 1), (20, .aload_n 0, 1), (21, .getfield 59, 3), (24, .aload_n 0, 1), (25, .getfield 85, 3)] = true := by decide +kernel
theorem kX5_addLetter_1 : zOk (zdec xX5_addLetter) [(28, .iload_n 3, 1), (29, .iastore, 1), (30, .aload_n 0, 1), (31, .getfield 62, 3), (34, .aload_n 0, 1), (35, .getfield 85, 3), (38, .iload 4, 2), (40, .iastore, 1), (41, .aload_n 0, 1), (42, .dup, 1), (43, .getfield 85, 3), (46, .iconst 1, 1), (47, .iadd, 1), (48, .putfield 85, 3), (51, .return_, 1)] = true := by decide +kernel
theorem kX5_houses_0 : zOk (zdec xX5_houses) [(0, .iload_n 1, 1), (1, .i2l, 1), (2, .aload_n 0, 1), (3, .getfield 37, 3), (6, .i2l, 1), (7, .ldc2_w 119, 3), (10, .invokestatic 81, 3), (13, .ifCond .ne 10, 3), (16, .aload_n 0, 1), (17, .bipush (-2), 2), (19, .invokevirtual 94, 3), (22, .ireturn, 1), (23, .aload_n 0, 1), (24, .getfield 37, 3), (27, .istore_n 2, 1), (28, .aload_n 0, 1)] = true := by decide +kernel
theorem kX5_houses_1 : zOk (zdec xX5_houses) [(29, .iload_n 1, 1), (30, .putfield 37, 3), (33, .iload_n 2, 1), (34, .ireturn, 1)] = true := by decide +kernel
theorem kX5_letter_0 : zOk (zdec xX5_letter) [(0, .iload_n 1, 1), (1, .i2l, 1), (2, .lconst 0, 1), (3, .ldc2_w 109, 3), (6, .invokestatic 81, 3), (9, .ifCond .eq 36, 3), (12, .iload_n 2, 1), (13, .i2l, 1), (14, .lconst 0, 1), (15, .ldc2_w 121, 3), (18, .invokestatic 81, 3), (21, .ifCond .eq 24, 3), (24, .aload_n 0, 1), (25, .iload_n 3, 1), (26, .invokevirtual 123, 3), (29, .ifCond .eq 16, 3)] = true := by decide +kernel
theorem kX5_letter_1 : zOk (zdec xX5_letter) [(32, .iload 4, 2), (34, .i2l, 1), (35, .lconst 1, 1), (36, .ldc2_w 92, 3), (39, .invokestatic 81, 3), (42, .ifCond .ne 10, 3), (45, .aload_n 0, 1), (46, .bipush (-2), 2), (48, .invokevirtual 94, 3), (51, .ireturn, 1), (52, .aload_n 0, 1), (53, .getfield 85, 3), (56, .bipush 8, 2), (58, .if_icmp .ne 10, 3), (61, .aload_n 0, 1), (62, .bipush (-6), 2)] = true := by decide +kernel
theorem kX5_letter_2 : zOk (zdec xX5_letter) [(64, .invokevirtual 94, 3), (67, .ireturn, 1), (68, .aload_n 0, 1), (69, .iload_n 1, 1), (70, .iload_n 2, 1), (71, .iload_n 3, 1), (72, .iload 4, 2), (74, .invokevirtual 127, 3), (77, .aload_n 0, 1), (78, .getfield 85, 3), (81, .iconst 1, 1), (82, .isub, 1), (83, .ireturn, 1)] = true := by decide +kernel
theorem kX5_mend_0 : zOk (zdec xX5_mend) [(0, .aload_n 0, 1), (1, .iload_n 1, 1), (2, .i2l, 1), (3, .invokevirtual 105, 3), (6, .ifCond .eq 40, 3), (9, .iload_n 2, 1), (10, .i2l, 1), (11, .lconst 0, 1), (12, .lconst 1, 1), (13, .invokestatic 81, 3), (16, .ifCond .eq 30, 3), (19, .iload_n 2, 1), (20, .ifCond .ne 14, 3), (23, .aload_n 0, 1), (24, .iload_n 3, 1), (25, .invokevirtual 123, 3)] = true := by decide +kernel
theorem kX5_mend_1 : zOk (zdec xX5_mend) [(28, .ifCond .ne 25, 3), (31, .goto 15, 3), (34, .iload_n 3, 1), (35, .i2l, 1), (36, .lconst 1, 1), (37, .ldc2_w 92, 3), (40, .invokestatic 81, 3), (43, .ifCond .ne 10, 3), (46, .aload_n 0, 1), (47, .bipush (-2), 2), (49, .invokevirtual 94, 3), (52, .ireturn, 1), (53, .iload_n 2, 1), (54, .ifCond .ne 12, 3), (57, .aload_n 0, 1), (58, .getfield 59, 3)] = true := by decide +kernel
theorem kX5_mend_2 : zOk (zdec xX5_mend) [(61, .iload_n 1, 1), (62, .iaload, 1), (63, .goto 9, 3), (66, .aload_n 0, 1), (67, .getfield 62, 3), (70, .iload_n 1, 1), (71, .iaload, 1), (72, .istore 4, 2), (74, .aload_n 0, 1), (75, .getfield 59, 3), (78, .iload_n 1, 1), (79, .iload_n 2, 1), (80, .ifCond .ne 7, 3), (83, .iload_n 3, 1), (84, .goto 9, 3), (87, .aload_n 0, 1)] = true := by decide +kernel
theorem kX5_mend_3 : zOk (zdec xX5_mend) [(88, .getfield 59, 3), (91, .iload_n 1, 1), (92, .iaload, 1), (93, .iastore, 1), (94, .aload_n 0, 1), (95, .getfield 62, 3), (98, .iload_n 1, 1), (99, .iload_n 2, 1), (100, .iconst 1, 1), (101, .if_icmp .ne 7, 3), (104, .iload_n 3, 1), (105, .goto 9, 3), (108, .aload_n 0, 1), (109, .getfield 62, 3), (112, .iload_n 1, 1), (113, .iaload, 1)] = true := by decide +kernel
theorem kX5_mend_4 : zOk (zdec xX5_mend) [(114, .iastore, 1), (115, .iload 4, 2), (117, .ireturn, 1)] = true := by decide +kernel
theorem kX5_tell_0 : zOk (zdec xX5_tell) [(0, .aload_n 0, 1), (1, .iload_n 1, 1), (2, .invokevirtual 123, 3), (5, .ifCond .eq 25, 3), (8, .iload_n 2, 1), (9, .i2l, 1), (10, .lconst 0, 1), (11, .lconst 1, 1), (12, .invokestatic 81, 3), (15, .ifCond .eq 15, 3), (18, .iload_n 3, 1), (19, .i2l, 1), (20, .lconst 0, 1), (21, .ldc2_w 121, 3), (24, .invokestatic 81, 3), (27, .ifCond .ne 10, 3)] = true := by decide +kernel
theorem kX5_tell_1 : zOk (zdec xX5_tell) [(30, .aload_n 0, 1), (31, .bipush (-2), 2), (33, .invokevirtual 94, 3), (36, .ireturn, 1), (37, .iload_n 2, 1), (38, .ifCond .ne 12, 3), (41, .aload_n 0, 1), (42, .getfield 41, 3), (45, .iload_n 1, 1), (46, .iaload, 1), (47, .goto 9, 3), (50, .aload_n 0, 1), (51, .getfield 44, 3), (54, .iload_n 1, 1), (55, .iaload, 1), (56, .istore 4, 2)] = true := by decide +kernel
theorem kX5_tell_2 : zOk (zdec xX5_tell) [(58, .aload_n 0, 1), (59, .getfield 41, 3), (62, .iload_n 1, 1), (63, .iload_n 2, 1), (64, .ifCond .ne 7, 3), (67, .iload_n 3, 1), (68, .goto 9, 3), (71, .aload_n 0, 1), (72, .getfield 41, 3), (75, .iload_n 1, 1), (76, .iaload, 1), (77, .iastore, 1), (78, .aload_n 0, 1), (79, .getfield 44, 3), (82, .iload_n 1, 1), (83, .iload_n 2, 1)] = true := by decide +kernel
theorem kX5_tell_3 : zOk (zdec xX5_tell) [(84, .iconst 1, 1), (85, .if_icmp .ne 7, 3), (88, .iload_n 3, 1), (89, .goto 9, 3), (92, .aload_n 0, 1), (93, .getfield 44, 3), (96, .iload_n 1, 1), (97, .iaload, 1), (98, .iastore, 1), (99, .iload 4, 2), (101, .ireturn, 1)] = true := by decide +kernel
theorem kX5_setCode_0 : zOk (zdec xX5_setCode) [(0, .aload_n 0, 1), (1, .getfield 47, 3), (4, .iload_n 1, 1), (5, .iload_n 3, 1), (6, .ifCond .eq 16, 3), (9, .aload_n 0, 1), (10, .getfield 47, 3), (13, .iload_n 1, 1), (14, .iaload, 1), (15, .iconst 1, 1), (16, .iload_n 2, 1), (17, .ishl, 1), (18, .ior, 1), (19, .goto 15, 3), (22, .aload_n 0, 1), (23, .getfield 47, 3)] = true := by decide +kernel
theorem kX5_setCode_1 : zOk (zdec xX5_setCode) [(26, .iload_n 1, 1), (27, .iaload, 1), (28, .iconst 1, 1), (29, .iload_n 2, 1), (30, .ishl, 1), (31, .iconst (-1), 1), (32, .ixor, 1), (33, .iand, 1), (34, .iastore, 1), (35, .return_, 1)] = true := by decide +kernel
theorem kX5_code_0 : zOk (zdec xX5_code) [(0, .aload_n 0, 1), (1, .iload_n 1, 1), (2, .invokevirtual 123, 3), (5, .ifCond .eq 15, 3), (8, .iload_n 2, 1), (9, .i2l, 1), (10, .lconst 0, 1), (11, .ldc2_w 121, 3), (14, .invokestatic 81, 3), (17, .ifCond .ne 10, 3), (20, .aload_n 0, 1), (21, .bipush (-2), 2), (23, .invokevirtual 94, 3), (26, .ireturn, 1), (27, .aload_n 0, 1), (28, .getfield 47, 3)] = true := by decide +kernel
theorem kX5_code_1 : zOk (zdec xX5_code) [(31, .iload_n 1, 1), (32, .iaload, 1), (33, .iload_n 2, 1), (34, .ishr, 1), (35, .iconst 1, 1), (36, .iand, 1), (37, .istore 4, 2), (39, .aload_n 0, 1), (40, .iload_n 1, 1), (41, .iload_n 2, 1), (42, .iload_n 3, 1), (43, .invokevirtual 131, 3), (46, .iload 4, 2), (48, .ireturn, 1)] = true := by decide +kernel
theorem kX5_cold_0 : zOk (zdec xX5_cold) [(0, .iload_n 1, 1), (1, .i2l, 1), (2, .lconst 0, 1), (3, .ldc2_w 121, 3), (6, .invokestatic 81, 3), (9, .ifCond .ne 10, 3), (12, .aload_n 0, 1), (13, .bipush (-2), 2), (15, .invokevirtual 94, 3), (18, .ireturn, 1), (19, .aload_n 0, 1), (20, .getfield 135, 3), (23, .istore_n 2, 1), (24, .aload_n 0, 1), (25, .iload_n 1, 1), (26, .putfield 135, 3)] = true := by decide +kernel
theorem kX5_cold_1 : zOk (zdec xX5_cold) [(29, .iload_n 2, 1), (30, .ireturn, 1)] = true := by decide +kernel
theorem kX5_way_0 : zOk (zdec xX5_way) [(0, .aload_n 0, 1), (1, .getfield 138, 3), (4, .ifCond .eq 7, 3), (7, .iconst 1, 1), (8, .goto 4, 3), (11, .iconst 0, 1), (12, .istore_n 2, 1), (13, .aload_n 0, 1), (14, .iload_n 1, 1), (15, .putfield 138, 3), (18, .iload_n 2, 1), (19, .ireturn, 1)] = true := by decide +kernel
theorem kX5_feed_0 : zOk (zdec xX5_feed) [(0, .iload_n 1, 1), (1, .i2l, 1), (2, .lconst 0, 1), (3, .ldc2_w 142, 3), (6, .invokestatic 81, 3), (9, .ifCond .ne 10, 3), (12, .aload_n 0, 1), (13, .bipush (-2), 2), (15, .invokevirtual 94, 3), (18, .ireturn, 1), (19, .aload_n 0, 1), (20, .getfield 144, 3), (23, .sipush 250, 3), (26, .if_icmp .ne 10, 3), (29, .aload_n 0, 1), (30, .bipush (-6), 2)] = true := by decide +kernel
theorem kX5_feed_1 : zOk (zdec xX5_feed) [(32, .invokevirtual 94, 3), (35, .ireturn, 1), (36, .aload_n 0, 1), (37, .getfield 31, 3), (40, .aload_n 0, 1), (41, .dup, 1), (42, .getfield 144, 3), (45, .dup_x1, 1), (46, .iconst 1, 1), (47, .iadd, 1), (48, .putfield 144, 3), (51, .iload_n 1, 1), (52, .iastore, 1), (53, .aload_n 0, 1), (54, .getfield 144, 3), (57, .ireturn, 1)] = true := by decide +kernel
theorem kX5_wipe_0 : zOk (zdec xX5_wipe) [(0, .aload_n 0, 1), (1, .getfield 144, 3), (4, .istore_n 1, 1), (5, .aload_n 0, 1), (6, .iconst 0, 1), (7, .putfield 144, 3), (10, .iload_n 1, 1), (11, .ireturn, 1)] = true := by decide +kernel
theorem kX5_isLower_0 : zOk (zdec xX5_isLower) [(0, .iload_n 0, 1), (1, .bipush 97, 2), (3, .if_icmp .lt 13, 3), (6, .iload_n 0, 1), (7, .bipush 122, 2), (9, .if_icmp .gt 7, 3), (12, .iconst 1, 1), (13, .goto 4, 3), (16, .iconst 0, 1), (17, .ireturn, 1)] = true := by decide +kernel
theorem kX5_isDigit_0 : zOk (zdec xX5_isDigit) [(0, .iload_n 0, 1), (1, .bipush 48, 2), (3, .if_icmp .lt 13, 3), (6, .iload_n 0, 1), (7, .bipush 57, 2), (9, .if_icmp .gt 7, 3), (12, .iconst 1, 1), (13, .goto 4, 3), (16, .iconst 0, 1), (17, .ireturn, 1)] = true := by decide +kernel
theorem kX5_look_0 : zOk (zdec xX5_look) [(0, .aload_n 0, 1), (1, .getfield 147, 3), (4, .aload_n 0, 1), (5, .getfield 144, 3), (8, .if_icmp .ge 30, 3), (11, .aload_n 0, 1), (12, .getfield 31, 3), (15, .aload_n 0, 1), (16, .getfield 147, 3), (19, .iaload, 1), (20, .bipush 32, 2), (22, .if_icmp .ne 16, 3), (25, .aload_n 0, 1), (26, .dup, 1), (27, .getfield 147, 3), (30, .iconst 1, 1)] = true := by decide +kernel
theorem kX5_look_1 : zOk (zdec xX5_look) [(31, .iadd, 1), (32, .putfield 147, 3), (35, .goto (-35), 3), (38, .aload_n 0, 1), (39, .aload_n 0, 1), (40, .getfield 147, 3), (43, .putfield 150, 3), (46, .aload_n 0, 1), (47, .iconst 0, 1), (48, .putfield 153, 3), (51, .aload_n 0, 1), (52, .getfield 147, 3), (55, .aload_n 0, 1), (56, .getfield 144, 3), (59, .if_icmp .ne 11, 3), (62, .aload_n 0, 1)] = true := by decide +kernel
theorem kX5_look_2 : zOk (zdec xX5_look) [(63, .iconst 0, 1), (64, .putfield 156, 3), (67, .goto 197, 3), (70, .aload_n 0, 1), (71, .getfield 31, 3), (74, .aload_n 0, 1), (75, .getfield 147, 3), (78, .iaload, 1), (79, .invokestatic 159, 3), (82, .ifCond .eq 47, 3), (85, .aload_n 0, 1), (86, .iconst 1, 1), (87, .putfield 156, 3), (90, .aload_n 0, 1), (91, .getfield 147, 3), (94, .aload_n 0, 1)] = true := by decide +kernel
theorem kX5_look_3 : zOk (zdec xX5_look) [(95, .getfield 144, 3), (98, .if_icmp .ge 166, 3), (101, .aload_n 0, 1), (102, .getfield 31, 3), (105, .aload_n 0, 1), (106, .getfield 147, 3), (109, .iaload, 1), (110, .invokestatic 159, 3), (113, .ifCond .eq 151, 3), (116, .aload_n 0, 1), (117, .dup, 1), (118, .getfield 147, 3), (121, .iconst 1, 1), (122, .iadd, 1), (123, .putfield 147, 3), (126, .goto (-36), 3)] = true := by decide +kernel
theorem kX5_look_4 : zOk (zdec xX5_look) [(129, .aload_n 0, 1), (130, .getfield 31, 3), (133, .aload_n 0, 1), (134, .getfield 147, 3), (137, .iaload, 1), (138, .invokestatic 162, 3), (141, .ifCond .eq 90, 3), (144, .aload_n 0, 1), (145, .iconst 2, 1), (146, .putfield 156, 3), (149, .aload_n 0, 1), (150, .getfield 147, 3), (153, .aload_n 0, 1), (154, .getfield 144, 3), (157, .if_icmp .ge 107, 3), (160, .aload_n 0, 1)] = true := by decide +kernel
theorem kX5_look_5 : zOk (zdec xX5_look) [(161, .getfield 31, 3), (164, .aload_n 0, 1), (165, .getfield 147, 3), (168, .iaload, 1), (169, .invokestatic 162, 3), (172, .ifCond .eq 92, 3), (175, .aload_n 0, 1), (176, .aload_n 0, 1), (177, .getfield 147, 3), (180, .aload_n 0, 1), (181, .getfield 150, 3), (184, .isub, 1), (185, .iconst 2, 1), (186, .if_icmp .ge 26, 3), (189, .aload_n 0, 1), (190, .getfield 153, 3)] = true := by decide +kernel
theorem kX5_look_6 : zOk (zdec xX5_look) [(193, .bipush 10, 2), (195, .imul, 1), (196, .aload_n 0, 1), (197, .getfield 31, 3), (200, .aload_n 0, 1), (201, .getfield 147, 3), (204, .iaload, 1), (205, .iadd, 1), (206, .bipush 48, 2), (208, .isub, 1), (209, .goto 6, 3), (212, .sipush 1000, 3), (215, .putfield 153, 3), (218, .aload_n 0, 1), (219, .dup, 1), (220, .getfield 147, 3)] = true := by decide +kernel
theorem kX5_look_7 : zOk (zdec xX5_look) [(223, .iconst 1, 1), (224, .iadd, 1), (225, .putfield 147, 3), (228, .goto (-79), 3), (231, .aload_n 0, 1), (232, .aload_n 0, 1), (233, .getfield 31, 3), (236, .aload_n 0, 1), (237, .getfield 147, 3), (240, .iaload, 1), (241, .bipush 59, 2), (243, .if_icmp .ne 7, 3), (246, .iconst 3, 1), (247, .goto 4, 3), (250, .iconst 4, 1), (251, .putfield 156, 3)] = true := by decide +kernel
theorem kX5_look_8 : zOk (zdec xX5_look) [(254, .aload_n 0, 1), (255, .dup, 1), (256, .getfield 147, 3), (259, .iconst 1, 1), (260, .iadd, 1), (261, .putfield 147, 3), (264, .return_, 1)] = true := by decide +kernel
theorem kX5_wrong_0 : zOk (zdec xX5_wrong) [(0, .aload_n 0, 1), (1, .aload_n 0, 1), (2, .getfield 150, 3), (5, .putfield 165, 3), (8, .iconst 0, 1), (9, .ireturn, 1)] = true := by decide +kernel
theorem kX5_isWord_0 : zOk (zdec xX5_isWord) [(0, .aload_n 0, 1), (1, .getfield 156, 3), (4, .iconst 1, 1), (5, .if_icmp .ne 19, 3), (8, .aload_n 0, 1), (9, .getfield 147, 3), (12, .aload_n 0, 1), (13, .getfield 150, 3), (16, .isub, 1), (17, .aload_n 1, 1), (18, .invokevirtual 168, 3), (21, .if_icmp .eq 5, 3), (24, .iconst 0, 1), (25, .ireturn, 1), (26, .iconst 0, 1), (27, .istore_n 2, 1)] = true := by decide +kernel
theorem kX5_isWord_1 : zOk (zdec xX5_isWord) [(28, .iload_n 2, 1), (29, .aload_n 1, 1), (30, .invokevirtual 168, 3), (33, .if_icmp .ge 30, 3), (36, .aload_n 0, 1), (37, .getfield 31, 3), (40, .aload_n 0, 1), (41, .getfield 150, 3), (44, .iload_n 2, 1), (45, .iadd, 1), (46, .iaload, 1), (47, .aload_n 1, 1), (48, .iload_n 2, 1), (49, .invokevirtual 173, 3), (52, .if_icmp .eq 5, 3), (55, .iconst 0, 1)] = true := by decide +kernel
theorem kX5_isWord_2 : zOk (zdec xX5_isWord) [(56, .ireturn, 1), (57, .iinc 2 1, 3), (60, .goto (-32), 3), (63, .iconst 1, 1), (64, .ireturn, 1)] = true := by decide +kernel
theorem kX5_number_0 : zOk (zdec xX5_number) [(0, .aload_n 0, 1), (1, .getfield 156, 3), (4, .iconst 2, 1), (5, .if_icmp .ne 18, 3), (8, .aload_n 0, 1), (9, .getfield 153, 3), (12, .i2l, 1), (13, .iload_n 2, 1), (14, .i2l, 1), (15, .iload_n 3, 1), (16, .i2l, 1), (17, .invokestatic 81, 3), (20, .ifCond .ne 8, 3), (23, .aload_n 0, 1), (24, .invokevirtual 177, 3), (27, .ireturn, 1)] = true := by decide +kernel
theorem kX5_number_1 : zOk (zdec xX5_number) [(28, .aload_n 0, 1), (29, .getfield 68, 3), (32, .iload_n 1, 1), (33, .aload_n 0, 1), (34, .getfield 153, 3), (37, .iastore, 1), (38, .aload_n 0, 1), (39, .invokevirtual 181, 3), (42, .iconst 1, 1), (43, .ireturn, 1)] = true := by decide +kernel
theorem kX5_tells_0 : zOk (zdec xX5_tells) [(0, .aload_n 0, 1), (1, .invokevirtual 181, 3), (4, .aload_n 0, 1), (5, .iconst 0, 1), (6, .iload_n 1, 1), (7, .iload_n 2, 1), (8, .invokevirtual 184, 3), (11, .ireturn, 1)] = true := by decide +kernel
theorem kX5_tellsLetter_0 : zOk (zdec xX5_tellsLetter) [(0, .aload_n 0, 1), (1, .iconst 0, 1), (2, .iconst 5, 1), (3, .invokevirtual 188, 3), (6, .ifCond .eq 44, 3), (9, .aload_n 0, 1), (10, .iconst 1, 1), (11, .iconst 0, 1), (12, .bipush 9, 2), (14, .invokevirtual 184, 3), (17, .ifCond .eq 33, 3), (20, .aload_n 0, 1), (21, .iconst 2, 1), (22, .iconst 0, 1), (23, .aload_n 0, 1), (24, .getfield 37, 3)] = true := by decide +kernel
theorem kX5_tellsLetter_1 : zOk (zdec xX5_tellsLetter) [(27, .iconst 1, 1), (28, .isub, 1), (29, .invokevirtual 184, 3), (32, .ifCond .eq 18, 3), (35, .aload_n 0, 1), (36, .iconst 3, 1), (37, .iconst 1, 1), (38, .bipush 40, 2), (40, .invokevirtual 184, 3), (43, .ifCond .eq 7, 3), (46, .iconst 1, 1), (47, .goto 4, 3), (50, .iconst 0, 1), (51, .istore_n 1, 1), (52, .iload_n 1, 1), (53, .ifCond .eq 31, 3)] = true := by decide +kernel
theorem kX5_tellsLetter_2 : zOk (zdec xX5_tellsLetter) [(56, .aload_n 0, 1), (57, .aload_n 0, 1), (58, .getfield 68, 3), (61, .iconst 0, 1), (62, .iaload, 1), (63, .aload_n 0, 1), (64, .getfield 68, 3), (67, .iconst 1, 1), (68, .iaload, 1), (69, .aload_n 0, 1), (70, .getfield 68, 3), (73, .iconst 2, 1), (74, .iaload, 1), (75, .aload_n 0, 1), (76, .getfield 68, 3), (79, .iconst 3, 1)] = true := by decide +kernel
theorem kX5_tellsLetter_3 : zOk (zdec xX5_tellsLetter) [(80, .iaload, 1), (81, .invokevirtual 127, 3), (84, .iload_n 1, 1), (85, .ireturn, 1)] = true := by decide +kernel
theorem kX5_tellsHouse_0 : zOk (zdec xX5_tellsHouse) [(0, .aload_n 0, 1), (1, .ldc 191, 2), (3, .invokevirtual 192, 3), (6, .istore_n 1, 1), (7, .aload_n 0, 1), (8, .ldc 196, 2), (10, .invokevirtual 192, 3), (13, .istore_n 2, 1), (14, .aload_n 0, 1), (15, .iconst 0, 1), (16, .aload_n 0, 1), (17, .getfield 37, 3), (20, .iconst 1, 1), (21, .isub, 1), (22, .invokevirtual 188, 3), (25, .ifCond .eq 18, 3)] = true := by decide +kernel
theorem kX5_tellsHouse_1 : zOk (zdec xX5_tellsHouse) [(28, .aload_n 0, 1), (29, .iconst 1, 1), (30, .iconst 0, 1), (31, .bipush 9, 2), (33, .invokevirtual 184, 3), (36, .ifCond .eq 7, 3), (39, .iconst 1, 1), (40, .goto 4, 3), (43, .iconst 0, 1), (44, .istore_n 3, 1), (45, .iload_n 3, 1), (46, .ifCond .eq 27, 3), (49, .iload_n 2, 1), (50, .ifCond .eq 23, 3), (53, .aload_n 0, 1), (54, .aload_n 0, 1)] = true := by decide +kernel
theorem kX5_tellsHouse_2 : zOk (zdec xX5_tellsHouse) [(55, .getfield 68, 3), (58, .iconst 0, 1), (59, .iaload, 1), (60, .aload_n 0, 1), (61, .getfield 68, 3), (64, .iconst 1, 1), (65, .iaload, 1), (66, .iconst 1, 1), (67, .invokevirtual 131, 3), (70, .goto 52, 3), (73, .iload_n 3, 1), (74, .ifCond .eq 27, 3), (77, .iload_n 1, 1), (78, .ifCond .eq 23, 3), (81, .aload_n 0, 1), (82, .getfield 41, 3)] = true := by decide +kernel
theorem kX5_tellsHouse_3 : zOk (zdec xX5_tellsHouse) [(85, .aload_n 0, 1), (86, .getfield 68, 3), (89, .iconst 0, 1), (90, .iaload, 1), (91, .aload_n 0, 1), (92, .getfield 68, 3), (95, .iconst 1, 1), (96, .iaload, 1), (97, .iastore, 1), (98, .goto 24, 3), (101, .iload_n 3, 1), (102, .ifCond .eq 20, 3), (105, .aload_n 0, 1), (106, .getfield 44, 3), (109, .aload_n 0, 1), (110, .getfield 68, 3)] = true := by decide +kernel
theorem kX5_tellsHouse_4 : zOk (zdec xX5_tellsHouse) [(113, .iconst 0, 1), (114, .iaload, 1), (115, .aload_n 0, 1), (116, .getfield 68, 3), (119, .iconst 1, 1), (120, .iaload, 1), (121, .iastore, 1), (122, .iload_n 3, 1), (123, .ireturn, 1)] = true := by decide +kernel
theorem kX5_statement_0 : zOk (zdec xX5_statement) [(0, .aload_n 0, 1), (1, .ldc 198, 2), (3, .invokevirtual 192, 3), (6, .ifCond .eq 37, 3), (9, .aload_n 0, 1), (10, .aload_n 0, 1), (11, .getfield 37, 3), (14, .bipush 12, 2), (16, .invokevirtual 188, 3), (19, .istore_n 1, 1), (20, .aload_n 0, 1), (21, .iload_n 1, 1), (22, .ifCond .eq 12, 3), (25, .aload_n 0, 1), (26, .getfield 68, 3), (29, .iconst 0, 1)] = true := by decide +kernel
theorem kX5_statement_1 : zOk (zdec xX5_statement) [(30, .iaload, 1), (31, .goto 7, 3), (34, .aload_n 0, 1), (35, .getfield 37, 3), (38, .putfield 37, 3), (41, .iload_n 1, 1), (42, .ireturn, 1), (43, .aload_n 0, 1), (44, .ldc 199, 2), (46, .invokevirtual 192, 3), (49, .ifCond .eq 17, 3), (52, .aload_n 0, 1), (53, .getfield 85, 3), (56, .bipush 8, 2), (58, .if_icmp .ge 8, 3), (61, .aload_n 0, 1)] = true := by decide +kernel
theorem kX5_statement_2 : zOk (zdec xX5_statement) [(62, .invokevirtual 201, 3), (65, .ireturn, 1), (66, .aload_n 0, 1), (67, .ldc 191, 2), (69, .invokevirtual 192, 3), (72, .ifCond .ne 21, 3), (75, .aload_n 0, 1), (76, .ldc 204, 2), (78, .invokevirtual 192, 3), (81, .ifCond .ne 12, 3), (84, .aload_n 0, 1), (85, .ldc 196, 2), (87, .invokevirtual 192, 3), (90, .ifCond .eq 8, 3), (93, .aload_n 0, 1), (94, .invokevirtual 205, 3)] = true := by decide +kernel
theorem kX5_statement_3 : zOk (zdec xX5_statement) [(97, .ireturn, 1), (98, .aload_n 0, 1), (99, .ldc 208, 2), (101, .invokevirtual 192, 3), (104, .ifCond .eq 34, 3), (107, .aload_n 0, 1), (108, .iconst 0, 1), (109, .bipush 9, 2), (111, .invokevirtual 188, 3), (114, .istore_n 1, 1), (115, .aload_n 0, 1), (116, .iload_n 1, 1), (117, .ifCond .eq 12, 3), (120, .aload_n 0, 1), (121, .getfield 68, 3), (124, .iconst 0, 1)] = true := by decide +kernel
theorem kX5_statement_4 : zOk (zdec xX5_statement) [(125, .iaload, 1), (126, .goto 7, 3), (129, .aload_n 0, 1), (130, .getfield 135, 3), (133, .putfield 135, 3), (136, .iload_n 1, 1), (137, .ireturn, 1), (138, .aload_n 0, 1), (139, .ldc 209, 2), (141, .invokevirtual 192, 3), (144, .istore_n 2, 1), (145, .iload_n 2, 1), (146, .ifCond .ne 12, 3), (149, .aload_n 0, 1), (150, .ldc 211, 2), (152, .invokevirtual 192, 3)] = true := by decide +kernel
theorem kX5_statement_5 : zOk (zdec xX5_statement) [(155, .ifCond .eq 14, 3), (158, .aload_n 0, 1), (159, .iload_n 2, 1), (160, .putfield 138, 3), (163, .aload_n 0, 1), (164, .invokevirtual 181, 3), (167, .iconst 1, 1), (168, .ireturn, 1), (169, .aload_n 0, 1), (170, .invokevirtual 177, 3), (173, .ireturn, 1)] = true := by decide +kernel
theorem kX5_readAll_0 : zOk (zdec xX5_readAll) [(0, .aload_n 0, 1), (1, .iconst 1, 1), (2, .putfield 213, 3), (5, .aload_n 0, 1), (6, .iconst 0, 1), (7, .putfield 147, 3), (10, .aload_n 0, 1), (11, .invokevirtual 181, 3), (14, .aload_n 0, 1), (15, .invokevirtual 216, 3), (18, .ifCond .ne 5, 3), (21, .iconst 0, 1), (22, .ireturn, 1), (23, .aload_n 0, 1), (24, .getfield 156, 3), (27, .ifCond .eq 42, 3)] = true := by decide +kernel
theorem kX5_readAll_1 : zOk (zdec xX5_readAll) [(30, .aload_n 0, 1), (31, .getfield 156, 3), (34, .iconst 3, 1), (35, .if_icmp .eq 8, 3), (38, .aload_n 0, 1), (39, .invokevirtual 177, 3), (42, .ireturn, 1), (43, .aload_n 0, 1), (44, .invokevirtual 181, 3), (47, .aload_n 0, 1), (48, .invokevirtual 216, 3), (51, .ifCond .ne 5, 3), (54, .iconst 0, 1), (55, .ireturn, 1), (56, .aload_n 0, 1), (57, .dup, 1)] = true := by decide +kernel
theorem kX5_readAll_2 : zOk (zdec xX5_readAll) [(58, .getfield 213, 3), (61, .iconst 1, 1), (62, .iadd, 1), (63, .putfield 213, 3), (66, .goto (-43), 3), (69, .iconst 1, 1), (70, .ireturn, 1)] = true := by decide +kernel
theorem kX5_lane_0 : zOk (zdec xX5_lane) [(0, .aload_n 0, 1), (1, .getfield 219, 3), (4, .ifnonnull 14, 3), (7, .aload_n 0, 1), (8, .new 8, 3), (11, .dup, 1), (12, .invokespecial 223, 3), (15, .putfield 219, 3), (18, .aload_n 0, 1), (19, .getfield 219, 3), (22, .aload_n 0, 1), (23, .invokevirtual 224, 3), (26, .aload_n 0, 1), (27, .invokevirtual 228, 3), (30, .istore_n 1, 1), (31, .aload_n 0, 1)] = true := by decide +kernel
theorem kX5_lane_1 : zOk (zdec xX5_lane) [(32, .iconst 0, 1), (33, .putfield 144, 3), (36, .iload_n 1, 1), (37, .ifCond .ne 26, 3), (40, .aload_n 0, 1), (41, .aload_n 0, 1), (42, .getfield 219, 3), (45, .invokevirtual 224, 3), (48, .aload_n 0, 1), (49, .bipush (-2), 2), (51, .invokevirtual 94, 3), (54, .pop, 1), (55, .bipush (-20), 2), (57, .aload_n 0, 1), (58, .getfield 165, 3), (61, .isub, 1)] = true := by decide +kernel
theorem kX5_lane_2 : zOk (zdec xX5_lane) [(62, .ireturn, 1), (63, .aload_n 0, 1), (64, .getfield 213, 3), (67, .ireturn, 1)] = true := by decide +kernel
theorem kX5_letterOf_0 : zOk (zdec xX5_letterOf) [(0, .aload_n 0, 1), (1, .iload_n 1, 1), (2, .i2l, 1), (3, .invokevirtual 105, 3), (6, .ifCond .eq 15, 3), (9, .iload_n 2, 1), (10, .i2l, 1), (11, .lconst 0, 1), (12, .ldc2_w 231, 3), (15, .invokestatic 81, 3), (18, .ifCond .ne 10, 3), (21, .aload_n 0, 1), (22, .bipush (-2), 2), (24, .invokevirtual 94, 3), (27, .ireturn, 1), (28, .iload_n 2, 1)] = true := by decide +kernel
theorem kX5_letterOf_1 : zOk (zdec xX5_letterOf) [(29, .ifCond .ne 12, 3), (32, .aload_n 0, 1), (33, .getfield 53, 3), (36, .iload_n 1, 1), (37, .iaload, 1), (38, .goto 37, 3), (41, .iload_n 2, 1), (42, .iconst 1, 1), (43, .if_icmp .ne 12, 3), (46, .aload_n 0, 1), (47, .getfield 56, 3), (50, .iload_n 1, 1), (51, .iaload, 1), (52, .goto 23, 3), (55, .iload_n 2, 1), (56, .iconst 2, 1)] = true := by decide +kernel
theorem kX5_letterOf_2 : zOk (zdec xX5_letterOf) [(57, .if_icmp .ne 12, 3), (60, .aload_n 0, 1), (61, .getfield 59, 3), (64, .iload_n 1, 1), (65, .iaload, 1), (66, .goto 9, 3), (69, .aload_n 0, 1), (70, .getfield 62, 3), (73, .iload_n 1, 1), (74, .iaload, 1), (75, .ireturn, 1)] = true := by decide +kernel
theorem kX5_tipsy_0 : zOk (zdec xX5_tipsy) [(0, .iconst 0, 1), (1, .istore_n 2, 1), (2, .iconst 0, 1), (3, .istore_n 3, 1), (4, .iload_n 3, 1), (5, .aload_n 0, 1), (6, .getfield 37, 3), (9, .if_icmp .ge 42, 3), (12, .iload_n 2, 1), (13, .aload_n 0, 1), (14, .getfield 138, 3), (17, .ifCond .eq 11, 3), (20, .iload_n 3, 1), (21, .iload_n 1, 1), (22, .if_icmp .le 20, 3), (25, .goto 8, 3)] = true := by decide +kernel
theorem kX5_tipsy_1 : zOk (zdec xX5_tipsy) [(28, .iload_n 3, 1), (29, .iload_n 1, 1), (30, .if_icmp .ge 12, 3), (33, .aload_n 0, 1), (34, .getfield 44, 3), (37, .iload_n 3, 1), (38, .iaload, 1), (39, .goto 4, 3), (42, .iconst 0, 1), (43, .iadd, 1), (44, .istore_n 2, 1), (45, .iinc 3 1, 3), (48, .goto (-44), 3), (51, .iload_n 2, 1), (52, .ireturn, 1)] = true := by decide +kernel
theorem kX5_leftOut_0 : zOk (zdec xX5_leftOut) [(0, .aload_n 0, 1), (1, .iload_n 1, 1), (2, .invokevirtual 233, 3), (5, .iconst 4, 1), (6, .idiv, 1), (7, .aload_n 0, 1), (8, .getfield 135, 3), (11, .iconst 3, 1), (12, .idiv, 1), (13, .iadd, 1), (14, .ireturn, 1)] = true := by decide +kernel
theorem kX5_readAt_0 : zOk (zdec xX5_readAt) [(0, .aload_n 0, 1), (1, .getfield 138, 3), (4, .ifCond .eq 21, 3), (7, .iload_n 2, 1), (8, .aload_n 0, 1), (9, .getfield 59, 3), (12, .iload_n 1, 1), (13, .iaload, 1), (14, .if_icmp .lt 7, 3), (17, .iconst 1, 1), (18, .goto 22, 3), (21, .iconst 0, 1), (22, .goto 18, 3), (25, .iload_n 2, 1), (26, .aload_n 0, 1), (27, .getfield 59, 3)] = true := by decide +kernel
theorem kX5_readAt_1 : zOk (zdec xX5_readAt) [(30, .iload_n 1, 1), (31, .iaload, 1), (32, .if_icmp .gt 7, 3), (35, .iconst 1, 1), (36, .goto 4, 3), (39, .iconst 0, 1), (40, .ireturn, 1)] = true := by decide +kernel
theorem kX5_held_0 : zOk (zdec xX5_held) [(0, .iload_n 2, 1), (1, .ifCond .ge 7, 3), (4, .iconst 0, 1), (5, .goto 23, 3), (8, .iload_n 2, 1), (9, .aload_n 0, 1), (10, .getfield 62, 3), (13, .iload_n 1, 1), (14, .iaload, 1), (15, .if_icmp .le 12, 3), (18, .aload_n 0, 1), (19, .getfield 62, 3), (22, .iload_n 1, 1), (23, .iaload, 1), (24, .goto 4, 3), (27, .iload_n 2, 1)] = true := by decide +kernel
theorem kX5_held_1 : zOk (zdec xX5_held) [(28, .ireturn, 1)] = true := by decide +kernel
theorem kX5_heardAt_0 : zOk (zdec xX5_heardAt) [(0, .aload_n 0, 1), (1, .iload_n 1, 1), (2, .iload_n 2, 1), (3, .invokevirtual 236, 3), (6, .ifCond .ne 5, 3), (9, .iconst 0, 1), (10, .ireturn, 1), (11, .aload_n 0, 1), (12, .getfield 62, 3), (15, .iload_n 1, 1), (16, .iaload, 1), (17, .aload_n 0, 1), (18, .getfield 41, 3), (21, .iload_n 2, 1), (22, .iaload, 1), (23, .isub, 1)] = true := by decide +kernel
theorem kX5_heardAt_1 : zOk (zdec xX5_heardAt) [(24, .aload_n 0, 1), (25, .iload_n 2, 1), (26, .invokevirtual 239, 3), (29, .isub, 1), (30, .istore_n 3, 1), (31, .aload_n 0, 1), (32, .getfield 62, 3), (35, .iload_n 1, 1), (36, .iaload, 1), (37, .aload_n 0, 1), (38, .getfield 41, 3), (41, .iload_n 2, 1), (42, .iaload, 1), (43, .iconst 2, 1), (44, .idiv, 1), (45, .isub, 1)] = true := by decide +kernel
theorem kX5_heardAt_2 : zOk (zdec xX5_heardAt) [(46, .aload_n 0, 1), (47, .iload_n 2, 1), (48, .invokevirtual 239, 3), (51, .isub, 1), (52, .istore 4, 2), (54, .iload_n 2, 1), (55, .aload_n 0, 1), (56, .getfield 59, 3), (59, .iload_n 1, 1), (60, .iaload, 1), (61, .if_icmp .eq 22, 3), (64, .aload_n 0, 1), (65, .getfield 47, 3), (68, .iload_n 2, 1), (69, .iaload, 1), (70, .aload_n 0, 1)] = true := by decide +kernel
theorem kX5_heardAt_3 : zOk (zdec xX5_heardAt) [(71, .getfield 56, 3), (74, .iload_n 1, 1), (75, .iaload, 1), (76, .ishr, 1), (77, .iconst 1, 1), (78, .iand, 1), (79, .iconst 1, 1), (80, .if_icmp .ne 7, 3), (83, .iconst 1, 1), (84, .goto 4, 3), (87, .iconst 0, 1), (88, .istore 5, 2), (90, .iload_n 2, 1), (91, .i2l, 1), (92, .aload_n 0, 1), (93, .getfield 59, 3)] = true := by decide +kernel
theorem kX5_heardAt_4 : zOk (zdec xX5_heardAt) [(96, .iload_n 1, 1), (97, .iaload, 1), (98, .iconst 1, 1), (99, .isub, 1), (100, .i2l, 1), (101, .aload_n 0, 1), (102, .getfield 59, 3), (105, .iload_n 1, 1), (106, .iaload, 1), (107, .iconst 1, 1), (108, .iadd, 1), (109, .i2l, 1), (110, .invokestatic 81, 3), (113, .istore 6, 2), (115, .aload_n 0, 1), (116, .getfield 53, 3)] = true := by decide +kernel
theorem kX5_heardAt_5 : zOk (zdec xX5_heardAt) [(119, .iload_n 1, 1), (120, .iaload, 1), (121, .tableswitch 121 1 5 #[35, 63, 43, 79, 100], 35), (156, .aload_n 0, 1), (157, .iload_n 1, 1), (158, .iload 4, 2), (160, .invokevirtual 242, 3), (163, .ireturn, 1), (164, .aload_n 0, 1), (165, .iload_n 1, 1), (166, .aload_n 0, 1), (167, .iload_n 1, 1), (168, .iload 4, 2), (170, .invokevirtual 242, 3), (173, .aload_n 0, 1), (174, .getfield 56, 3)] = true := by decide +kernel
theorem kX5_heardAt_6 : zOk (zdec xX5_heardAt) [(177, .iload_n 1, 1), (178, .iaload, 1), (179, .iadd, 1), (180, .invokevirtual 242, 3), (183, .ireturn, 1), (184, .iload 5, 2), (186, .ifCond .eq 12, 3), (189, .aload_n 0, 1), (190, .iload_n 1, 1), (191, .iload_n 3, 1), (192, .invokevirtual 242, 3), (195, .goto 4, 3), (198, .iconst 0, 1), (199, .ireturn, 1), (200, .iload 5, 2), (202, .ifCond .eq 17, 3)] = true := by decide +kernel
theorem kX5_heardAt_7 : zOk (zdec xX5_heardAt) [(205, .iload 6, 2), (207, .ifCond .eq 12, 3), (210, .aload_n 0, 1), (211, .iload_n 1, 1), (212, .iload_n 3, 1), (213, .invokevirtual 242, 3), (216, .goto 4, 3), (219, .iconst 0, 1), (220, .ireturn, 1), (221, .iload_n 2, 1), (222, .aload_n 0, 1), (223, .getfield 59, 3), (226, .iload_n 1, 1), (227, .iaload, 1), (228, .if_icmp .ne 12, 3), (231, .aload_n 0, 1)] = true := by decide +kernel
theorem kX5_heardAt_8 : zOk (zdec xX5_heardAt) [(232, .getfield 62, 3), (235, .iload_n 1, 1), (236, .iaload, 1), (237, .goto 4, 3), (240, .iconst 0, 1), (241, .ireturn, 1), (242, .aload_n 0, 1), (243, .iload_n 1, 1), (244, .iload_n 3, 1), (245, .invokevirtual 242, 3), (248, .ireturn, 1)] = true := by decide +kernel
theorem kX5_knowsOf_0 : zOk (zdec xX5_knowsOf) [(0, .iconst 2, 1), (1, .aload_n 0, 1), (2, .iload_n 1, 1), (3, .iload_n 2, 1), (4, .invokevirtual 115, 3), (7, .imul, 1), (8, .aload_n 0, 1), (9, .getfield 62, 3), (12, .iload_n 1, 1), (13, .iaload, 1), (14, .if_icmp .lt 7, 3), (17, .iconst 1, 1), (18, .goto 4, 3), (21, .iconst 0, 1), (22, .ireturn, 1)] = true := by decide +kernel
theorem kX5_knowers_0 : zOk (zdec xX5_knowers) [(0, .iconst 0, 1), (1, .istore_n 2, 1), (2, .iconst 0, 1), (3, .istore_n 3, 1), (4, .iload_n 3, 1), (5, .aload_n 0, 1), (6, .getfield 37, 3), (9, .if_icmp .ge 28, 3), (12, .iload_n 2, 1), (13, .aload_n 0, 1), (14, .iload_n 1, 1), (15, .iload_n 3, 1), (16, .invokevirtual 245, 3), (19, .ifCond .eq 9, 3), (22, .iconst 1, 1), (23, .iload_n 3, 1)] = true := by decide +kernel
theorem kX5_knowers_1 : zOk (zdec xX5_knowers) [(24, .ishl, 1), (25, .goto 4, 3), (28, .iconst 0, 1), (29, .ior, 1), (30, .istore_n 2, 1), (31, .iinc 3 1, 3), (34, .goto (-30), 3), (37, .iload_n 2, 1), (38, .ireturn, 1)] = true := by decide +kernel
theorem kX5_knownAt_0 : zOk (zdec xX5_knownAt) [(0, .iconst 0, 1), (1, .istore_n 2, 1), (2, .iconst 0, 1), (3, .istore_n 3, 1), (4, .iload_n 3, 1), (5, .aload_n 0, 1), (6, .getfield 85, 3), (9, .if_icmp .ge 28, 3), (12, .iload_n 2, 1), (13, .aload_n 0, 1), (14, .iload_n 3, 1), (15, .iload_n 1, 1), (16, .invokevirtual 245, 3), (19, .ifCond .eq 9, 3), (22, .iconst 1, 1), (23, .iload_n 3, 1)] = true := by decide +kernel
theorem kX5_knownAt_1 : zOk (zdec xX5_knownAt) [(24, .ishl, 1), (25, .goto 4, 3), (28, .iconst 0, 1), (29, .ior, 1), (30, .istore_n 2, 1), (31, .iinc 3 1, 3), (34, .goto (-30), 3), (37, .iload_n 2, 1), (38, .ireturn, 1)] = true := by decide +kernel
theorem kX5_wordsAt_0 : zOk (zdec xX5_wordsAt) [(0, .iconst 0, 1), (1, .istore_n 2, 1), (2, .iconst 0, 1), (3, .istore_n 3, 1), (4, .iload_n 3, 1), (5, .aload_n 0, 1), (6, .getfield 85, 3), (9, .if_icmp .ge 18, 3), (12, .iload_n 2, 1), (13, .aload_n 0, 1), (14, .iload_n 3, 1), (15, .iload_n 1, 1), (16, .invokevirtual 115, 3), (19, .iadd, 1), (20, .istore_n 2, 1), (21, .iinc 3 1, 3)] = true := by decide +kernel
theorem kX5_wordsAt_1 : zOk (zdec xX5_wordsAt) [(24, .goto (-20), 3), (27, .iload_n 2, 1), (28, .ireturn, 1)] = true := by decide +kernel
theorem kX5_houseOf_0 : zOk (zdec xX5_houseOf) [(0, .aload_n 0, 1), (1, .iload_n 1, 1), (2, .invokevirtual 123, 3), (5, .ifCond .eq 15, 3), (8, .iload_n 2, 1), (9, .i2l, 1), (10, .lconst 0, 1), (11, .ldc2_w 109, 3), (14, .invokestatic 81, 3), (17, .ifCond .ne 10, 3), (20, .aload_n 0, 1), (21, .bipush (-2), 2), (23, .invokevirtual 94, 3), (26, .ireturn, 1), (27, .iload_n 2, 1), (28, .tableswitch 70 0 4 #[36, 43, 50, 57, 64], 36)] = true := by decide +kernel
theorem kX5_houseOf_1 : zOk (zdec xX5_houseOf) [(64, .aload_n 0, 1), (65, .getfield 41, 3), (68, .iload_n 1, 1), (69, .iaload, 1), (70, .ireturn, 1), (71, .aload_n 0, 1), (72, .getfield 44, 3), (75, .iload_n 1, 1), (76, .iaload, 1), (77, .ireturn, 1), (78, .aload_n 0, 1), (79, .getfield 47, 3), (82, .iload_n 1, 1), (83, .iaload, 1), (84, .ireturn, 1), (85, .aload_n 0, 1)] = true := by decide +kernel
theorem kX5_houseOf_2 : zOk (zdec xX5_houseOf) [(86, .getfield 50, 3), (89, .iload_n 1, 1), (90, .iaload, 1), (91, .ireturn, 1), (92, .aload_n 0, 1), (93, .iload_n 1, 1), (94, .invokevirtual 233, 3), (97, .ireturn, 1), (98, .aload_n 0, 1), (99, .iload_n 1, 1), (100, .invokevirtual 239, 3), (103, .ireturn, 1)] = true := by decide +kernel
theorem kX5_areBoth_0 : zOk (zdec xX5_areBoth) [(0, .aload_n 0, 1), (1, .iload_n 1, 1), (2, .i2l, 1), (3, .invokevirtual 105, 3), (6, .ifCond .eq 15, 3), (9, .aload_n 0, 1), (10, .iload_n 2, 1), (11, .invokevirtual 123, 3), (14, .ifCond .eq 7, 3), (17, .iconst 1, 1), (18, .goto 4, 3), (21, .iconst 0, 1), (22, .ireturn, 1)] = true := by decide +kernel
theorem kX5_heard_0 : zOk (zdec xX5_heard) [(0, .aload_n 0, 1), (1, .iload_n 1, 1), (2, .iload_n 2, 1), (3, .invokevirtual 248, 3), (6, .ifCond .eq 12, 3), (9, .aload_n 0, 1), (10, .iload_n 1, 1), (11, .iload_n 2, 1), (12, .invokevirtual 115, 3), (15, .goto 9, 3), (18, .aload_n 0, 1), (19, .bipush (-2), 2), (21, .invokevirtual 94, 3), (24, .ireturn, 1)] = true := by decide +kernel
theorem kX5_isRead_0 : zOk (zdec xX5_isRead) [(0, .aload_n 0, 1), (1, .iload_n 1, 1), (2, .iload_n 2, 1), (3, .invokevirtual 248, 3), (6, .ifCond .eq 20, 3), (9, .aload_n 0, 1), (10, .iload_n 1, 1), (11, .iload_n 2, 1), (12, .invokevirtual 236, 3), (15, .ifCond .eq 7, 3), (18, .iconst 1, 1), (19, .goto 13, 3), (22, .iconst 0, 1), (23, .goto 9, 3), (26, .aload_n 0, 1), (27, .bipush (-2), 2)] = true := by decide +kernel
theorem kX5_isRead_1 : zOk (zdec xX5_isRead) [(29, .invokevirtual 94, 3), (32, .ireturn, 1)] = true := by decide +kernel
theorem kX5_whoKnows_0 : zOk (zdec xX5_whoKnows) [(0, .aload_n 0, 1), (1, .iload_n 1, 1), (2, .i2l, 1), (3, .invokevirtual 105, 3), (6, .ifCond .eq 11, 3), (9, .aload_n 0, 1), (10, .iload_n 1, 1), (11, .invokevirtual 251, 3), (14, .goto 9, 3), (17, .aload_n 0, 1), (18, .bipush (-2), 2), (20, .invokevirtual 94, 3), (23, .ireturn, 1)] = true := by decide +kernel
theorem kX5_knows_0 : zOk (zdec xX5_knows) [(0, .aload_n 0, 1), (1, .iload_n 1, 1), (2, .invokevirtual 123, 3), (5, .ifCond .eq 11, 3), (8, .aload_n 0, 1), (9, .iload_n 1, 1), (10, .invokevirtual 254, 3), (13, .goto 9, 3), (16, .aload_n 0, 1), (17, .bipush (-2), 2), (19, .invokevirtual 94, 3), (22, .ireturn, 1)] = true := by decide +kernel
theorem kX5_words_0 : zOk (zdec xX5_words) [(0, .aload_n 0, 1), (1, .iload_n 1, 1), (2, .invokevirtual 123, 3), (5, .ifCond .eq 11, 3), (8, .aload_n 0, 1), (9, .iload_n 1, 1), (10, .invokevirtual 257, 3), (13, .goto 9, 3), (16, .aload_n 0, 1), (17, .bipush (-2), 2), (19, .invokevirtual 94, 3), (22, .ireturn, 1)] = true := by decide +kernel
theorem kX5_common_0 : zOk (zdec xX5_common) [(0, .aload_n 0, 1), (1, .iload_n 1, 1), (2, .i2l, 1), (3, .invokevirtual 105, 3), (6, .ifCond .eq 26, 3), (9, .aload_n 0, 1), (10, .iload_n 2, 1), (11, .i2l, 1), (12, .invokevirtual 105, 3), (15, .ifCond .eq 17, 3), (18, .aload_n 0, 1), (19, .iload_n 1, 1), (20, .invokevirtual 251, 3), (23, .aload_n 0, 1), (24, .iload_n 2, 1), (25, .invokevirtual 251, 3)] = true := by decide +kernel
theorem kX5_common_1 : zOk (zdec xX5_common) [(28, .iand, 1), (29, .goto 9, 3), (32, .aload_n 0, 1), (33, .bipush (-2), 2), (35, .invokevirtual 94, 3), (38, .ireturn, 1)] = true := by decide +kernel
theorem kX5_alike_0 : zOk (zdec xX5_alike) [(0, .aload_n 0, 1), (1, .iload_n 1, 1), (2, .invokevirtual 123, 3), (5, .ifCond .eq 32, 3), (8, .aload_n 0, 1), (9, .iload_n 2, 1), (10, .invokevirtual 123, 3), (13, .ifCond .eq 24, 3), (16, .aload_n 0, 1), (17, .iload_n 1, 1), (18, .invokevirtual 254, 3), (21, .aload_n 0, 1), (22, .iload_n 2, 1), (23, .invokevirtual 254, 3), (26, .if_icmp .ne 7, 3), (29, .iconst 1, 1)] = true := by decide +kernel
theorem kX5_alike_1 : zOk (zdec xX5_alike) [(30, .goto 13, 3), (33, .iconst 0, 1), (34, .goto 9, 3), (37, .aload_n 0, 1), (38, .bipush (-2), 2), (40, .invokevirtual 94, 3), (43, .ireturn, 1)] = true := by decide +kernel
theorem kX5_ofKind_0 : zOk (zdec xX5_ofKind) [(0, .iload_n 1, 1), (1, .i2l, 1), (2, .lconst 0, 1), (3, .ldc2_w 109, 3), (6, .invokestatic 81, 3), (9, .ifCond .ne 10, 3), (12, .aload_n 0, 1), (13, .bipush (-2), 2), (15, .invokevirtual 94, 3), (18, .ireturn, 1), (19, .iconst 0, 1), (20, .istore_n 2, 1), (21, .iconst 0, 1), (22, .istore_n 3, 1), (23, .iload_n 3, 1), (24, .aload_n 0, 1)] = true := by decide +kernel
theorem kX5_ofKind_1 : zOk (zdec xX5_ofKind) [(25, .getfield 85, 3), (28, .if_icmp .ge 27, 3), (31, .iload_n 2, 1), (32, .aload_n 0, 1), (33, .getfield 53, 3), (36, .iload_n 3, 1), (37, .iaload, 1), (38, .iload_n 1, 1), (39, .if_icmp .ne 7, 3), (42, .iconst 1, 1), (43, .goto 4, 3), (46, .iconst 0, 1), (47, .iadd, 1), (48, .istore_n 2, 1), (49, .iinc 3 1, 3), (52, .goto (-29), 3)] = true := by decide +kernel
theorem kX5_ofKind_2 : zOk (zdec xX5_ofKind) [(55, .iload_n 2, 1), (56, .ireturn, 1)] = true := by decide +kernel
theorem kX5_lacks_0 : zOk (zdec xX5_lacks) [(0, .aload_n 0, 1), (1, .iload_n 1, 1), (2, .iload_n 2, 1), (3, .invokevirtual 248, 3), (6, .ifCond .ne 10, 3), (9, .aload_n 0, 1), (10, .bipush (-2), 2), (12, .invokevirtual 94, 3), (15, .ireturn, 1), (16, .aload_n 0, 1), (17, .getfield 62, 3), (20, .iload_n 1, 1), (21, .iaload, 1), (22, .iconst 2, 1), (23, .aload_n 0, 1), (24, .iload_n 1, 1)] = true := by decide +kernel
theorem kX5_lacks_1 : zOk (zdec xX5_lacks) [(25, .iload_n 2, 1), (26, .invokevirtual 115, 3), (29, .imul, 1), (30, .isub, 1), (31, .istore_n 3, 1), (32, .iload_n 3, 1), (33, .ifCond .gt 7, 3), (36, .iconst 0, 1), (37, .goto 8, 3), (40, .iload_n 3, 1), (41, .iconst 1, 1), (42, .iadd, 1), (43, .iconst 2, 1), (44, .idiv, 1), (45, .ireturn, 1)] = true := by decide +kernel
theorem kX5_doubt_0 : zOk (zdec xX5_doubt) [(0, .aload_n 0, 1), (1, .iload_n 1, 1), (2, .i2l, 1), (3, .invokevirtual 105, 3), (6, .ifCond .ne 10, 3), (9, .aload_n 0, 1), (10, .bipush (-2), 2), (12, .invokevirtual 94, 3), (15, .ireturn, 1), (16, .iconst 0, 1), (17, .istore_n 2, 1), (18, .iconst 0, 1), (19, .istore_n 3, 1), (20, .iload_n 3, 1), (21, .aload_n 0, 1), (22, .getfield 37, 3)] = true := by decide +kernel
theorem kX5_doubt_1 : zOk (zdec xX5_doubt) [(25, .if_icmp .ge 37, 3), (28, .iload_n 2, 1), (29, .aload_n 0, 1), (30, .iload_n 1, 1), (31, .iload_n 3, 1), (32, .invokevirtual 236, 3), (35, .ifCond .eq 18, 3), (38, .aload_n 0, 1), (39, .iload_n 1, 1), (40, .iload_n 3, 1), (41, .invokevirtual 245, 3), (44, .ifCond .ne 9, 3), (47, .iconst 1, 1), (48, .iload_n 3, 1), (49, .ishl, 1), (50, .goto 4, 3)] = true := by decide +kernel
theorem kX5_doubt_2 : zOk (zdec xX5_doubt) [(53, .iconst 0, 1), (54, .ior, 1), (55, .istore_n 2, 1), (56, .iinc 3 1, 3), (59, .goto (-39), 3), (62, .iload_n 2, 1), (63, .ireturn, 1)] = true := by decide +kernel
theorem kX5_reach_0 : zOk (zdec xX5_reach) [(0, .aload_n 0, 1), (1, .iload_n 1, 1), (2, .i2l, 1), (3, .invokevirtual 105, 3), (6, .ifCond .eq 13, 3), (9, .iload_n 2, 1), (10, .i2l, 1), (11, .lconst 0, 1), (12, .lconst 1, 1), (13, .invokestatic 81, 3), (16, .ifCond .ne 10, 3), (19, .aload_n 0, 1), (20, .bipush (-2), 2), (22, .invokevirtual 94, 3), (25, .ireturn, 1), (26, .iconst 0, 1)] = true := by decide +kernel
theorem kX5_reach_1 : zOk (zdec xX5_reach) [(27, .istore_n 3, 1), (28, .iconst 0, 1), (29, .istore 4, 2), (31, .iconst 0, 1), (32, .istore 5, 2), (34, .iload 5, 2), (36, .aload_n 0, 1), (37, .getfield 37, 3), (40, .if_icmp .ge 39, 3), (43, .iload_n 3, 1), (44, .aload_n 0, 1), (45, .iload_n 1, 1), (46, .iload 5, 2), (48, .invokevirtual 115, 3), (51, .ifCond .le 7, 3), (54, .iconst 1, 1)] = true := by decide +kernel
theorem kX5_reach_2 : zOk (zdec xX5_reach) [(55, .goto 4, 3), (58, .iconst 0, 1), (59, .iadd, 1), (60, .istore_n 3, 1), (61, .iload 4, 2), (63, .aload_n 0, 1), (64, .iload_n 1, 1), (65, .iload 5, 2), (67, .invokevirtual 115, 3), (70, .iadd, 1), (71, .istore 4, 2), (73, .iinc 5 1, 3), (76, .goto (-42), 3), (79, .iload_n 2, 1), (80, .ifCond .ne 7, 3), (83, .iload_n 3, 1)] = true := by decide +kernel
theorem kX5_reach_3 : zOk (zdec xX5_reach) [(84, .goto 5, 3), (87, .iload 4, 2), (89, .ireturn, 1)] = true := by decide +kernel
theorem kX5_first_0 : zOk (zdec xX5_first) [(0, .aload_n 0, 1), (1, .iload_n 1, 1), (2, .i2l, 1), (3, .invokevirtual 105, 3), (6, .ifCond .eq 13, 3), (9, .iload_n 2, 1), (10, .i2l, 1), (11, .lconst 0, 1), (12, .lconst 1, 1), (13, .invokestatic 81, 3), (16, .ifCond .ne 10, 3), (19, .aload_n 0, 1), (20, .bipush (-2), 2), (22, .invokevirtual 94, 3), (25, .ireturn, 1), (26, .iconst (-1), 1)] = true := by decide +kernel
theorem kX5_first_1 : zOk (zdec xX5_first) [(27, .istore_n 3, 1), (28, .iconst (-1), 1), (29, .istore 4, 2), (31, .iconst 0, 1), (32, .istore 5, 2), (34, .iload 5, 2), (36, .aload_n 0, 1), (37, .getfield 37, 3), (40, .if_icmp .ge 72, 3), (43, .aload_n 0, 1), (44, .getfield 138, 3), (47, .ifCond .eq 15, 3), (50, .aload_n 0, 1), (51, .getfield 37, 3), (54, .iconst 1, 1), (55, .isub, 1)] = true := by decide +kernel
theorem kX5_first_2 : zOk (zdec xX5_first) [(56, .iload 5, 2), (58, .isub, 1), (59, .goto 5, 3), (62, .iload 5, 2), (64, .istore 6, 2), (66, .aload_n 0, 1), (67, .iload_n 1, 1), (68, .iload 6, 2), (70, .invokevirtual 245, 3), (73, .istore 7, 2), (75, .iload 7, 2), (77, .ifCond .eq 13, 3), (80, .iload_n 3, 1), (81, .iconst (-1), 1), (82, .if_icmp .ne 8, 3), (85, .iload 6, 2)] = true := by decide +kernel
theorem kX5_first_3 : zOk (zdec xX5_first) [(87, .goto 4, 3), (90, .iload_n 3, 1), (91, .istore_n 3, 1), (92, .iload 7, 2), (94, .ifCond .eq 8, 3), (97, .iload 6, 2), (99, .goto 5, 3), (102, .iload 4, 2), (104, .istore 4, 2), (106, .iinc 5 1, 3), (109, .goto (-75), 3), (112, .iload_n 2, 1), (113, .ifCond .ne 7, 3), (116, .iload_n 3, 1), (117, .goto 5, 3), (120, .iload 4, 2)] = true := by decide +kernel
theorem kX5_first_4 : zOk (zdec xX5_first) [(122, .ireturn, 1)] = true := by decide +kernel
theorem kX5_loudest_0 : zOk (zdec xX5_loudest) [(0, .aload_n 0, 1), (1, .iload_n 1, 1), (2, .invokevirtual 123, 3), (5, .ifCond .ne 10, 3), (8, .aload_n 0, 1), (9, .bipush (-2), 2), (11, .invokevirtual 94, 3), (14, .ireturn, 1), (15, .iconst (-1), 1), (16, .istore_n 2, 1), (17, .iconst 0, 1), (18, .istore_n 3, 1), (19, .iconst 0, 1), (20, .istore 4, 2), (22, .iload 4, 2), (24, .aload_n 0, 1)] = true := by decide +kernel
theorem kX5_loudest_1 : zOk (zdec xX5_loudest) [(25, .getfield 85, 3), (28, .if_icmp .ge 50, 3), (31, .aload_n 0, 1), (32, .iload 4, 2), (34, .iload_n 1, 1), (35, .invokevirtual 115, 3), (38, .iload_n 3, 1), (39, .if_icmp .le 8, 3), (42, .iload 4, 2), (44, .goto 4, 3), (47, .iload_n 2, 1), (48, .istore_n 2, 1), (49, .aload_n 0, 1), (50, .iload 4, 2), (52, .iload_n 1, 1), (53, .invokevirtual 115, 3)] = true := by decide +kernel
theorem kX5_loudest_2 : zOk (zdec xX5_loudest) [(56, .iload_n 3, 1), (57, .if_icmp .le 13, 3), (60, .aload_n 0, 1), (61, .iload 4, 2), (63, .iload_n 1, 1), (64, .invokevirtual 115, 3), (67, .goto 4, 3), (70, .iload_n 3, 1), (71, .istore_n 3, 1), (72, .iinc 4 1, 3), (75, .goto (-53), 3), (78, .iload_n 2, 1), (79, .ireturn, 1)] = true := by decide +kernel
theorem kX5_best_0 : zOk (zdec xX5_best) [(0, .iload_n 1, 1), (1, .i2l, 1), (2, .lconst 0, 1), (3, .ldc2_w 260, 3), (6, .invokestatic 81, 3), (9, .ifCond .ne 10, 3), (12, .aload_n 0, 1), (13, .bipush (-2), 2), (15, .invokevirtual 94, 3), (18, .ireturn, 1), (19, .iconst 0, 1), (20, .istore_n 2, 1), (21, .iconst 0, 1), (22, .istore_n 3, 1), (23, .iconst 1, 1), (24, .istore 4, 2)] = true := by decide +kernel
theorem kX5_best_1 : zOk (zdec xX5_best) [(26, .iload 4, 2), (28, .aload_n 0, 1), (29, .getfield 37, 3), (32, .if_icmp .ge 51, 3), (35, .aload_n 0, 1), (36, .iload 4, 2), (38, .invokevirtual 257, 3), (41, .aload_n 0, 1), (42, .iload_n 2, 1), (43, .invokevirtual 257, 3), (46, .if_icmp .le 8, 3), (49, .iload 4, 2), (51, .goto 4, 3), (54, .iload_n 2, 1), (55, .istore_n 2, 1), (56, .aload_n 0, 1)] = true := by decide +kernel
theorem kX5_best_2 : zOk (zdec xX5_best) [(57, .iload 4, 2), (59, .invokevirtual 257, 3), (62, .aload_n 0, 1), (63, .iload_n 3, 1), (64, .invokevirtual 257, 3), (67, .if_icmp .ge 8, 3), (70, .iload 4, 2), (72, .goto 4, 3), (75, .iload_n 3, 1), (76, .istore_n 3, 1), (77, .iinc 4 1, 3), (80, .goto (-54), 3), (83, .iload_n 1, 1), (84, .ifCond .ne 7, 3), (87, .iload_n 2, 1), (88, .goto 17, 3)] = true := by decide +kernel
theorem kX5_best_3 : zOk (zdec xX5_best) [(91, .iload_n 1, 1), (92, .iconst 1, 1), (93, .if_icmp .ne 11, 3), (96, .aload_n 0, 1), (97, .iload_n 2, 1), (98, .invokevirtual 257, 3), (101, .goto 4, 3), (104, .iload_n 3, 1), (105, .ireturn, 1)] = true := by decide +kernel
theorem kX5_wise_0 : zOk (zdec xX5_wise) [(0, .iconst 0, 1), (1, .istore_n 1, 1), (2, .iconst 0, 1), (3, .istore_n 2, 1), (4, .iload_n 2, 1), (5, .aload_n 0, 1), (6, .getfield 37, 3), (9, .if_icmp .ge 76, 3), (12, .iconst 0, 1), (13, .istore_n 3, 1), (14, .iconst 0, 1), (15, .istore 4, 2), (17, .iload 4, 2), (19, .aload_n 0, 1), (20, .getfield 85, 3), (23, .if_icmp .ge 30, 3)] = true := by decide +kernel
theorem kX5_wise_1 : zOk (zdec xX5_wise) [(26, .iload_n 3, 1), (27, .aload_n 0, 1), (28, .iload 4, 2), (30, .iload_n 2, 1), (31, .invokevirtual 236, 3), (34, .ifCond .eq 10, 3), (37, .iconst 1, 1), (38, .iload 4, 2), (40, .ishl, 1), (41, .goto 4, 3), (44, .iconst 0, 1), (45, .ior, 1), (46, .istore_n 3, 1), (47, .iinc 4 1, 3), (50, .goto (-33), 3), (53, .iload_n 1, 1)] = true := by decide +kernel
theorem kX5_wise_2 : zOk (zdec xX5_wise) [(54, .iload_n 3, 1), (55, .ifCond .eq 21, 3), (58, .iload_n 3, 1), (59, .aload_n 0, 1), (60, .iload_n 2, 1), (61, .invokevirtual 254, 3), (64, .iconst (-1), 1), (65, .ixor, 1), (66, .iand, 1), (67, .ifCond .ne 9, 3), (70, .iconst 1, 1), (71, .iload_n 2, 1), (72, .ishl, 1), (73, .goto 4, 3), (76, .iconst 0, 1), (77, .ior, 1)] = true := by decide +kernel
theorem kX5_wise_3 : zOk (zdec xX5_wise) [(78, .istore_n 1, 1), (79, .iinc 2 1, 3), (82, .goto (-78), 3), (85, .iload_n 1, 1), (86, .ireturn, 1)] = true := by decide +kernel
theorem kX5_secret_0 : zOk (zdec xX5_secret) [(0, .iconst 0, 1), (1, .istore_n 1, 1), (2, .iconst 0, 1), (3, .istore_n 2, 1), (4, .iload_n 2, 1), (5, .aload_n 0, 1), (6, .getfield 85, 3), (9, .if_icmp .ge 35, 3), (12, .iload_n 1, 1), (13, .aload_n 0, 1), (14, .iload_n 2, 1), (15, .invokevirtual 251, 3), (18, .iconst 1, 1), (19, .aload_n 0, 1), (20, .getfield 59, 3), (23, .iload_n 2, 1)] = true := by decide +kernel
theorem kX5_secret_1 : zOk (zdec xX5_secret) [(24, .iaload, 1), (25, .ishl, 1), (26, .if_icmp .ne 9, 3), (29, .iconst 1, 1), (30, .iload_n 2, 1), (31, .ishl, 1), (32, .goto 4, 3), (35, .iconst 0, 1), (36, .ior, 1), (37, .istore_n 1, 1), (38, .iinc 2 1, 3), (41, .goto (-37), 3), (44, .iload_n 1, 1), (45, .ireturn, 1)] = true := by decide +kernel
theorem kX5_lost_0 : zOk (zdec xX5_lost) [(0, .iconst 0, 1), (1, .istore_n 1, 1), (2, .iconst 0, 1), (3, .istore_n 2, 1), (4, .iload_n 2, 1), (5, .aload_n 0, 1), (6, .getfield 85, 3), (9, .if_icmp .ge 33, 3), (12, .iload_n 1, 1), (13, .aload_n 0, 1), (14, .iload_n 2, 1), (15, .aload_n 0, 1), (16, .getfield 59, 3), (19, .iload_n 2, 1), (20, .iaload, 1), (21, .invokevirtual 245, 3)] = true := by decide +kernel
theorem kX5_lost_1 : zOk (zdec xX5_lost) [(24, .ifCond .eq 7, 3), (27, .iconst 0, 1), (28, .goto 6, 3), (31, .iconst 1, 1), (32, .iload_n 2, 1), (33, .ishl, 1), (34, .ior, 1), (35, .istore_n 1, 1), (36, .iinc 2 1, 3), (39, .goto (-35), 3), (42, .iload_n 1, 1), (43, .ireturn, 1)] = true := by decide +kernel
theorem kX5_gossips_0 : zOk (zdec xX5_gossips) [(0, .iconst (-1), 1), (1, .istore_n 1, 1), (2, .iconst 0, 1), (3, .istore_n 2, 1), (4, .iconst 0, 1), (5, .istore_n 3, 1), (6, .iload_n 3, 1), (7, .aload_n 0, 1), (8, .getfield 37, 3), (11, .if_icmp .ge 77, 3), (14, .iload_n 3, 1), (15, .iconst 1, 1), (16, .iadd, 1), (17, .istore 4, 2), (19, .iload 4, 2), (21, .aload_n 0, 1)] = true := by decide +kernel
theorem kX5_gossips_1 : zOk (zdec xX5_gossips) [(22, .getfield 37, 3), (25, .if_icmp .ge 57, 3), (28, .aload_n 0, 1), (29, .iload_n 3, 1), (30, .invokevirtual 254, 3), (33, .aload_n 0, 1), (34, .iload 4, 2), (36, .invokevirtual 254, 3), (39, .iand, 1), (40, .invokestatic 262, 3), (43, .istore 5, 2), (45, .iload 5, 2), (47, .iload_n 2, 1), (48, .if_icmp .le 13, 3), (51, .bipush 100, 2), (53, .iload_n 3, 1)] = true := by decide +kernel
theorem kX5_gossips_2 : zOk (zdec xX5_gossips) [(54, .imul, 1), (55, .iload 4, 2), (57, .iadd, 1), (58, .goto 4, 3), (61, .iload_n 1, 1), (62, .istore_n 1, 1), (63, .iload 5, 2), (65, .iload_n 2, 1), (66, .if_icmp .le 8, 3), (69, .iload 5, 2), (71, .goto 4, 3), (74, .iload_n 2, 1), (75, .istore_n 2, 1), (76, .iinc 4 1, 3), (79, .goto (-60), 3), (82, .iinc 3 1, 3)] = true := by decide +kernel
theorem kX5_gossips_3 : zOk (zdec xX5_gossips) [(85, .goto (-79), 3), (88, .iload_n 1, 1), (89, .ireturn, 1)] = true := by decide +kernel
theorem kX5_isSet_0 : zOk (zdec xX5_isSet) [(0, .iload_n 1, 1), (1, .i2l, 1), (2, .lconst 0, 1), (3, .iconst 1, 1), (4, .aload_n 0, 1), (5, .getfield 37, 3), (8, .ishl, 1), (9, .iconst 1, 1), (10, .isub, 1), (11, .i2l, 1), (12, .invokestatic 81, 3), (15, .ireturn, 1)] = true := by decide +kernel
theorem kX5_address_0 : zOk (zdec xX5_address) [(0, .aload_n 0, 1), (1, .iload_n 1, 1), (2, .i2l, 1), (3, .invokevirtual 105, 3), (6, .ifCond .eq 11, 3), (9, .aload_n 0, 1), (10, .iload_n 2, 1), (11, .invokevirtual 265, 3), (14, .ifCond .ne 10, 3), (17, .aload_n 0, 1), (18, .bipush (-2), 2), (20, .invokevirtual 94, 3), (23, .ireturn, 1), (24, .aload_n 0, 1), (25, .getfield 59, 3), (28, .iload_n 1, 1)] = true := by decide +kernel
theorem kX5_address_1 : zOk (zdec xX5_address) [(29, .iaload, 1), (30, .istore_n 3, 1), (31, .iconst (-1), 1), (32, .istore 4, 2), (34, .aload_n 0, 1), (35, .getfield 37, 3), (38, .iconst 1, 1), (39, .isub, 1), (40, .istore 5, 2), (42, .iload 5, 2), (44, .ifCond .lt 35, 3), (47, .aload_n 0, 1), (48, .getfield 59, 3), (51, .iload_n 1, 1), (52, .iload 5, 2), (54, .iastore, 1)] = true := by decide +kernel
theorem kX5_address_2 : zOk (zdec xX5_address) [(55, .aload_n 0, 1), (56, .iload_n 1, 1), (57, .invokevirtual 251, 3), (60, .iload_n 2, 1), (61, .if_icmp .ne 8, 3), (64, .iload 5, 2), (66, .goto 5, 3), (69, .iload 4, 2), (71, .istore 4, 2), (73, .iinc 5 (-1), 3), (76, .goto (-34), 3), (79, .aload_n 0, 1), (80, .getfield 59, 3), (83, .iload_n 1, 1), (84, .iload_n 3, 1), (85, .iastore, 1)] = true := by decide +kernel
theorem kX5_address_3 : zOk (zdec xX5_address) [(86, .iload 4, 2), (88, .ireturn, 1)] = true := by decide +kernel
theorem kX5_widest_0 : zOk (zdec xX5_widest) [(0, .aload_n 0, 1), (1, .iload_n 1, 1), (2, .i2l, 1), (3, .invokevirtual 105, 3), (6, .ifCond .eq 13, 3), (9, .iload_n 2, 1), (10, .i2l, 1), (11, .lconst 0, 1), (12, .lconst 1, 1), (13, .invokestatic 81, 3), (16, .ifCond .ne 10, 3), (19, .aload_n 0, 1), (20, .bipush (-2), 2), (22, .invokevirtual 94, 3), (25, .ireturn, 1), (26, .aload_n 0, 1)] = true := by decide +kernel
theorem kX5_widest_1 : zOk (zdec xX5_widest) [(27, .getfield 59, 3), (30, .iload_n 1, 1), (31, .iaload, 1), (32, .istore_n 3, 1), (33, .iconst 0, 1), (34, .istore 4, 2), (36, .iconst (-1), 1), (37, .istore 5, 2), (39, .iconst 0, 1), (40, .istore 6, 2), (42, .iload 6, 2), (44, .aload_n 0, 1), (45, .getfield 37, 3), (48, .if_icmp .ge 59, 3), (51, .aload_n 0, 1), (52, .getfield 59, 3)] = true := by decide +kernel
theorem kX5_widest_2 : zOk (zdec xX5_widest) [(55, .iload_n 1, 1), (56, .iload 6, 2), (58, .iastore, 1), (59, .aload_n 0, 1), (60, .iload_n 1, 1), (61, .invokevirtual 251, 3), (64, .invokestatic 262, 3), (67, .istore 7, 2), (69, .iload 7, 2), (71, .iload 5, 2), (73, .if_icmp .le 8, 3), (76, .iload 6, 2), (78, .goto 5, 3), (81, .iload 4, 2), (83, .istore 4, 2), (85, .iload 7, 2)] = true := by decide +kernel
theorem kX5_widest_3 : zOk (zdec xX5_widest) [(87, .iload 5, 2), (89, .if_icmp .le 8, 3), (92, .iload 7, 2), (94, .goto 5, 3), (97, .iload 5, 2), (99, .istore 5, 2), (101, .iinc 6 1, 3), (104, .goto (-62), 3), (107, .aload_n 0, 1), (108, .getfield 59, 3), (111, .iload_n 1, 1), (112, .iload_n 3, 1), (113, .iastore, 1), (114, .iload_n 2, 1), (115, .ifCond .ne 8, 3), (118, .iload 4, 2)] = true := by decide +kernel
theorem kX5_widest_4 : zOk (zdec xX5_widest) [(120, .goto 5, 3), (123, .iload 5, 2), (125, .ireturn, 1)] = true := by decide +kernel
theorem kX5_seal_0 : zOk (zdec xX5_seal) [(0, .aload_n 0, 1), (1, .iload_n 1, 1), (2, .i2l, 1), (3, .invokevirtual 105, 3), (6, .ifCond .eq 11, 3), (9, .aload_n 0, 1), (10, .iload_n 2, 1), (11, .invokevirtual 265, 3), (14, .ifCond .ne 10, 3), (17, .aload_n 0, 1), (18, .bipush (-2), 2), (20, .invokevirtual 94, 3), (23, .ireturn, 1), (24, .aload_n 0, 1), (25, .getfield 53, 3), (28, .iload_n 1, 1)] = true := by decide +kernel
theorem kX5_seal_1 : zOk (zdec xX5_seal) [(29, .iaload, 1), (30, .istore_n 3, 1), (31, .iconst (-1), 1), (32, .istore 4, 2), (34, .iconst 5, 1), (35, .istore 5, 2), (37, .iload 5, 2), (39, .ifCond .lt 35, 3), (42, .aload_n 0, 1), (43, .getfield 53, 3), (46, .iload_n 1, 1), (47, .iload 5, 2), (49, .iastore, 1), (50, .aload_n 0, 1), (51, .iload_n 1, 1), (52, .invokevirtual 251, 3)] = true := by decide +kernel
theorem kX5_seal_2 : zOk (zdec xX5_seal) [(55, .iload_n 2, 1), (56, .if_icmp .ne 8, 3), (59, .iload 5, 2), (61, .goto 5, 3), (64, .iload 4, 2), (66, .istore 4, 2), (68, .iinc 5 (-1), 3), (71, .goto (-34), 3), (74, .aload_n 0, 1), (75, .getfield 53, 3), (78, .iload_n 1, 1), (79, .iload_n 3, 1), (80, .iastore, 1), (81, .iload 4, 2), (83, .ireturn, 1)] = true := by decide +kernel
theorem kX5_shout_0 : zOk (zdec xX5_shout) [(0, .aload_n 0, 1), (1, .iload_n 1, 1), (2, .iload_n 2, 1), (3, .invokevirtual 248, 3), (6, .ifCond .ne 10, 3), (9, .aload_n 0, 1), (10, .bipush (-2), 2), (12, .invokevirtual 94, 3), (15, .ireturn, 1), (16, .aload_n 0, 1), (17, .getfield 62, 3), (20, .iload_n 1, 1), (21, .iaload, 1), (22, .istore_n 3, 1), (23, .iconst (-1), 1), (24, .istore 4, 2)] = true := by decide +kernel
theorem kX5_shout_1 : zOk (zdec xX5_shout) [(26, .bipush 40, 2), (28, .istore 5, 2), (30, .iload 5, 2), (32, .iconst 1, 1), (33, .if_icmp .lt 35, 3), (36, .aload_n 0, 1), (37, .getfield 62, 3), (40, .iload_n 1, 1), (41, .iload 5, 2), (43, .iastore, 1), (44, .aload_n 0, 1), (45, .iload_n 1, 1), (46, .iload_n 2, 1), (47, .invokevirtual 245, 3), (50, .ifCond .eq 8, 3), (53, .iload 5, 2)] = true := by decide +kernel
theorem kX5_shout_2 : zOk (zdec xX5_shout) [(55, .goto 5, 3), (58, .iload 4, 2), (60, .istore 4, 2), (62, .iinc 5 (-1), 3), (65, .goto (-35), 3), (68, .aload_n 0, 1), (69, .getfield 62, 3), (72, .iload_n 1, 1), (73, .iload_n 3, 1), (74, .iastore, 1), (75, .iload 4, 2), (77, .ireturn, 1)] = true := by decide +kernel
theorem kX5_isHushed_0 : zOk (zdec xX5_isHushed) [(0, .aload_n 0, 1), (1, .iload_n 1, 1), (2, .invokevirtual 251, 3), (5, .istore_n 3, 1), (6, .iload_n 2, 1), (7, .aload_n 0, 1), (8, .getfield 59, 3), (11, .iload_n 1, 1), (12, .iaload, 1), (13, .ishr, 1), (14, .iconst 1, 1), (15, .iand, 1), (16, .iconst 1, 1), (17, .if_icmp .ne 7, 3), (20, .iconst 1, 1), (21, .goto 4, 3)] = true := by decide +kernel
theorem kX5_isHushed_1 : zOk (zdec xX5_isHushed) [(24, .iconst 0, 1), (25, .istore 4, 2), (27, .iload_n 3, 1), (28, .iload_n 2, 1), (29, .iand, 1), (30, .ifCond .ne 26, 3), (33, .iload 4, 2), (35, .ifCond .ne 17, 3), (38, .iload_n 3, 1), (39, .aload_n 0, 1), (40, .getfield 59, 3), (43, .iload_n 1, 1), (44, .iaload, 1), (45, .ishr, 1), (46, .iconst 1, 1), (47, .iand, 1)] = true := by decide +kernel
theorem kX5_isHushed_2 : zOk (zdec xX5_isHushed) [(48, .iconst 1, 1), (49, .if_icmp .ne 7, 3), (52, .iconst 1, 1), (53, .goto 4, 3), (56, .iconst 0, 1), (57, .ireturn, 1)] = true := by decide +kernel
theorem kX5_findHush_0 : zOk (zdec xX5_findHush) [(0, .aload_n 0, 1), (1, .aload_n 0, 1), (2, .iload_n 1, 1), (3, .iload_n 2, 1), (4, .invokevirtual 268, 3), (7, .ifCond .eq 7, 3), (10, .iconst 0, 1), (11, .goto 4, 3), (14, .iconst (-1), 1), (15, .putfield 271, 3), (18, .aload_n 0, 1), (19, .iconst (-1), 1), (20, .putfield 274, 3), (23, .iconst 1, 1), (24, .istore_n 3, 1), (25, .iload_n 3, 1)] = true := by decide +kernel
theorem kX5_findHush_1 : zOk (zdec xX5_findHush) [(26, .bipush 40, 2), (28, .if_icmp .gt 85, 3), (31, .aload_n 0, 1), (32, .getfield 271, 3), (35, .iconst (-1), 1), (36, .if_icmp .ne 77, 3), (39, .iconst 0, 1), (40, .istore 4, 2), (42, .iload 4, 2), (44, .aload_n 0, 1), (45, .getfield 37, 3), (48, .if_icmp .ge 59, 3), (51, .aload_n 0, 1), (52, .getfield 271, 3), (55, .iconst (-1), 1), (56, .if_icmp .ne 51, 3)] = true := by decide +kernel
theorem kX5_findHush_2 : zOk (zdec xX5_findHush) [(59, .aload_n 0, 1), (60, .getfield 44, 3), (63, .iload 4, 2), (65, .dup2, 1), (66, .iaload, 1), (67, .iload_n 3, 1), (68, .iadd, 1), (69, .iastore, 1), (70, .aload_n 0, 1), (71, .iload_n 1, 1), (72, .iload_n 2, 1), (73, .invokevirtual 268, 3), (76, .ifCond .eq 14, 3), (79, .aload_n 0, 1), (80, .iload_n 3, 1), (81, .putfield 271, 3)] = true := by decide +kernel
theorem kX5_findHush_3 : zOk (zdec xX5_findHush) [(84, .aload_n 0, 1), (85, .iload 4, 2), (87, .putfield 274, 3), (90, .aload_n 0, 1), (91, .getfield 44, 3), (94, .iload 4, 2), (96, .dup2, 1), (97, .iaload, 1), (98, .iload_n 3, 1), (99, .isub, 1), (100, .iastore, 1), (101, .iinc 4 1, 3), (104, .goto (-62), 3), (107, .iinc 3 1, 3), (110, .goto (-85), 3), (113, .return_, 1)] = true := by decide +kernel
theorem kX5_hush_0 : zOk (zdec xX5_hush) [(0, .aload_n 0, 1), (1, .iload_n 1, 1), (2, .i2l, 1), (3, .invokevirtual 105, 3), (6, .ifCond .eq 21, 3), (9, .aload_n 0, 1), (10, .iload_n 2, 1), (11, .invokevirtual 265, 3), (14, .ifCond .eq 13, 3), (17, .iload_n 3, 1), (18, .i2l, 1), (19, .lconst 0, 1), (20, .lconst 1, 1), (21, .invokestatic 81, 3), (24, .ifCond .ne 10, 3), (27, .aload_n 0, 1)] = true := by decide +kernel
theorem kX5_hush_1 : zOk (zdec xX5_hush) [(28, .bipush (-2), 2), (30, .invokevirtual 94, 3), (33, .ireturn, 1), (34, .aload_n 0, 1), (35, .iload_n 1, 1), (36, .iload_n 2, 1), (37, .invokevirtual 277, 3), (40, .iload_n 3, 1), (41, .ifCond .ne 10, 3), (44, .aload_n 0, 1), (45, .getfield 271, 3), (48, .goto 7, 3), (51, .aload_n 0, 1), (52, .getfield 274, 3), (55, .ireturn, 1)] = true := by decide +kernel
theorem kX5_turned_0 : zOk (zdec xX5_turned) [(0, .aload_n 0, 1), (1, .iload_n 1, 1), (2, .i2l, 1), (3, .invokevirtual 105, 3), (6, .ifCond .ne 10, 3), (9, .aload_n 0, 1), (10, .bipush (-2), 2), (12, .invokevirtual 94, 3), (15, .ireturn, 1), (16, .aload_n 0, 1), (17, .aload_n 0, 1), (18, .getfield 138, 3), (21, .ifCond .ne 7, 3), (24, .iconst 1, 1), (25, .goto 4, 3), (28, .iconst 0, 1)] = true := by decide +kernel
theorem kX5_turned_1 : zOk (zdec xX5_turned) [(29, .putfield 138, 3), (32, .aload_n 0, 1), (33, .iload_n 1, 1), (34, .invokevirtual 251, 3), (37, .invokestatic 262, 3), (40, .istore_n 2, 1), (41, .aload_n 0, 1), (42, .aload_n 0, 1), (43, .getfield 138, 3), (46, .ifCond .ne 7, 3), (49, .iconst 1, 1), (50, .goto 4, 3), (53, .iconst 0, 1), (54, .putfield 138, 3), (57, .iload_n 2, 1), (58, .ireturn, 1)] = true := by decide +kernel
theorem kX5_colds_0 : zOk (zdec xX5_colds) [(0, .aload_n 0, 1), (1, .iload_n 1, 1), (2, .iload_n 2, 1), (3, .invokevirtual 248, 3), (6, .ifCond .ne 10, 3), (9, .aload_n 0, 1), (10, .bipush (-2), 2), (12, .invokevirtual 94, 3), (15, .ireturn, 1), (16, .aload_n 0, 1), (17, .getfield 135, 3), (20, .istore_n 3, 1), (21, .iconst (-1), 1), (22, .istore 4, 2), (24, .bipush 9, 2), (26, .istore 5, 2)] = true := by decide +kernel
theorem kX5_colds_1 : zOk (zdec xX5_colds) [(28, .iload 5, 2), (30, .ifCond .lt 33, 3), (33, .aload_n 0, 1), (34, .iload 5, 2), (36, .putfield 135, 3), (39, .aload_n 0, 1), (40, .iload_n 1, 1), (41, .iload_n 2, 1), (42, .invokevirtual 245, 3), (45, .ifCond .eq 8, 3), (48, .iload 4, 2), (50, .goto 5, 3), (53, .iload 5, 2), (55, .istore 4, 2), (57, .iinc 5 (-1), 3), (60, .goto (-32), 3)] = true := by decide +kernel
theorem kX5_colds_2 : zOk (zdec xX5_colds) [(63, .aload_n 0, 1), (64, .iload_n 3, 1), (65, .putfield 135, 3), (68, .iload 4, 2), (70, .ireturn, 1)] = true := by decide +kernel
theorem kX5_quiet_0 : zOk (zdec xX5_quiet) [(0, .aload_n 0, 1), (1, .iload_n 1, 1), (2, .invokevirtual 123, 3), (5, .ifCond .ne 10, 3), (8, .aload_n 0, 1), (9, .bipush (-2), 2), (11, .invokevirtual 94, 3), (14, .ireturn, 1), (15, .aload_n 0, 1), (16, .getfield 41, 3), (19, .iload_n 1, 1), (20, .iaload, 1), (21, .istore_n 2, 1), (22, .iconst (-1), 1), (23, .istore_n 3, 1), (24, .bipush 9, 2)] = true := by decide +kernel
theorem kX5_quiet_1 : zOk (zdec xX5_quiet) [(26, .istore 4, 2), (28, .iload 4, 2), (30, .ifCond .lt 32, 3), (33, .aload_n 0, 1), (34, .getfield 41, 3), (37, .iload_n 1, 1), (38, .iload 4, 2), (40, .iastore, 1), (41, .aload_n 0, 1), (42, .iload_n 1, 1), (43, .invokevirtual 254, 3), (46, .ifCond .ne 8, 3), (49, .iload 4, 2), (51, .goto 4, 3), (54, .iload_n 3, 1), (55, .istore_n 3, 1)] = true := by decide +kernel
theorem kX5_quiet_2 : zOk (zdec xX5_quiet) [(56, .iinc 4 (-1), 3), (59, .goto (-31), 3), (62, .aload_n 0, 1), (63, .getfield 41, 3), (66, .iload_n 1, 1), (67, .iload_n 2, 1), (68, .iastore, 1), (69, .iload_n 3, 1), (70, .ireturn, 1)] = true := by decide +kernel
theorem kX5_sober_0 : zOk (zdec xX5_sober) [(0, .aload_n 0, 1), (1, .iload_n 1, 1), (2, .i2l, 1), (3, .invokevirtual 105, 3), (6, .ifCond .ne 10, 3), (9, .aload_n 0, 1), (10, .bipush (-2), 2), (12, .invokevirtual 94, 3), (15, .ireturn, 1), (16, .iconst 0, 1), (17, .istore_n 2, 1), (18, .iload_n 2, 1), (19, .aload_n 0, 1), (20, .getfield 37, 3), (23, .if_icmp .ge 28, 3), (26, .aload_n 0, 1)] = true := by decide +kernel
theorem kX5_sober_1 : zOk (zdec xX5_sober) [(27, .getfield 71, 3), (30, .iload_n 2, 1), (31, .aload_n 0, 1), (32, .getfield 44, 3), (35, .iload_n 2, 1), (36, .iaload, 1), (37, .iastore, 1), (38, .aload_n 0, 1), (39, .getfield 44, 3), (42, .iload_n 2, 1), (43, .iconst 0, 1), (44, .iastore, 1), (45, .iinc 2 1, 3), (48, .goto (-30), 3), (51, .aload_n 0, 1), (52, .iload_n 1, 1)] = true := by decide +kernel
theorem kX5_sober_2 : zOk (zdec xX5_sober) [(53, .invokevirtual 251, 3), (56, .invokestatic 262, 3), (59, .istore_n 2, 1), (60, .iconst 0, 1), (61, .istore_n 3, 1), (62, .iload_n 3, 1), (63, .aload_n 0, 1), (64, .getfield 37, 3), (67, .if_icmp .ge 21, 3), (70, .aload_n 0, 1), (71, .getfield 44, 3), (74, .iload_n 3, 1), (75, .aload_n 0, 1), (76, .getfield 71, 3), (79, .iload_n 3, 1), (80, .iaload, 1)] = true := by decide +kernel
theorem kX5_sober_3 : zOk (zdec xX5_sober) [(81, .iastore, 1), (82, .iinc 3 1, 3), (85, .goto (-23), 3), (88, .iload_n 2, 1), (89, .ireturn, 1)] = true := by decide +kernel
theorem kX5_knowersTogether_0 : zOk (zdec xX5_knowersTogether) [(0, .iconst 0, 1), (1, .istore_n 1, 1), (2, .iconst 0, 1), (3, .istore_n 2, 1), (4, .iload_n 2, 1), (5, .aload_n 0, 1), (6, .getfield 85, 3), (9, .if_icmp .ge 20, 3), (12, .iload_n 1, 1), (13, .aload_n 0, 1), (14, .iload_n 2, 1), (15, .invokevirtual 251, 3), (18, .invokestatic 262, 3), (21, .iadd, 1), (22, .istore_n 1, 1), (23, .iinc 2 1, 3)] = true := by decide +kernel
theorem kX5_knowersTogether_1 : zOk (zdec xX5_knowersTogether) [(26, .goto (-22), 3), (29, .iload_n 1, 1), (30, .ireturn, 1)] = true := by decide +kernel
theorem kX5_thirst_0 : zOk (zdec xX5_thirst) [(0, .aload_n 0, 1), (1, .iload_n 1, 1), (2, .invokevirtual 123, 3), (5, .ifCond .ne 10, 3), (8, .aload_n 0, 1), (9, .bipush (-2), 2), (11, .invokevirtual 94, 3), (14, .ireturn, 1), (15, .aload_n 0, 1), (16, .getfield 44, 3), (19, .iload_n 1, 1), (20, .iaload, 1), (21, .istore_n 2, 1), (22, .aload_n 0, 1), (23, .invokevirtual 281, 3), (26, .istore_n 3, 1)] = true := by decide +kernel
theorem kX5_thirst_1 : zOk (zdec xX5_thirst) [(27, .aload_n 0, 1), (28, .getfield 44, 3), (31, .iload_n 1, 1), (32, .bipush 9, 2), (34, .iastore, 1), (35, .aload_n 0, 1), (36, .invokevirtual 281, 3), (39, .istore 4, 2), (41, .aload_n 0, 1), (42, .getfield 44, 3), (45, .iload_n 1, 1), (46, .iload_n 2, 1), (47, .iastore, 1), (48, .iload_n 3, 1), (49, .iload 4, 2), (51, .isub, 1)] = true := by decide +kernel
theorem kX5_thirst_2 : zOk (zdec xX5_thirst) [(52, .ireturn, 1)] = true := by decide +kernel
theorem kX5_taught_0 : zOk (zdec xX5_taught) [(0, .aload_n 0, 1), (1, .iload_n 1, 1), (2, .iload_n 2, 1), (3, .invokevirtual 248, 3), (6, .ifCond .ne 10, 3), (9, .aload_n 0, 1), (10, .bipush (-2), 2), (12, .invokevirtual 94, 3), (15, .ireturn, 1), (16, .aload_n 0, 1), (17, .getfield 47, 3), (20, .iload_n 2, 1), (21, .iaload, 1), (22, .istore_n 3, 1), (23, .aload_n 0, 1), (24, .iload_n 2, 1)] = true := by decide +kernel
theorem kX5_taught_1 : zOk (zdec xX5_taught) [(25, .aload_n 0, 1), (26, .getfield 56, 3), (29, .iload_n 1, 1), (30, .iaload, 1), (31, .iconst 1, 1), (32, .invokevirtual 131, 3), (35, .aload_n 0, 1), (36, .iload_n 1, 1), (37, .iload_n 2, 1), (38, .invokevirtual 245, 3), (41, .ifCond .eq 7, 3), (44, .iconst 1, 1), (45, .goto 4, 3), (48, .iconst 0, 1), (49, .istore 4, 2), (51, .aload_n 0, 1)] = true := by decide +kernel
theorem kX5_taught_2 : zOk (zdec xX5_taught) [(52, .getfield 47, 3), (55, .iload_n 2, 1), (56, .iload_n 3, 1), (57, .iastore, 1), (58, .iload 4, 2), (60, .ireturn, 1)] = true := by decide +kernel
theorem kX5_merry_0 : zOk (zdec xX5_merry) [(0, .aload_n 0, 1), (1, .iload_n 1, 1), (2, .i2l, 1), (3, .invokevirtual 105, 3), (6, .ifCond .ne 10, 3), (9, .aload_n 0, 1), (10, .bipush (-2), 2), (12, .invokevirtual 94, 3), (15, .ireturn, 1), (16, .iconst 0, 1), (17, .istore_n 2, 1), (18, .iconst (-1), 1), (19, .istore_n 3, 1), (20, .iconst 0, 1), (21, .istore 4, 2), (23, .iload 4, 2)] = true := by decide +kernel
theorem kX5_merry_1 : zOk (zdec xX5_merry) [(25, .aload_n 0, 1), (26, .getfield 37, 3), (29, .if_icmp .ge 71, 3), (32, .aload_n 0, 1), (33, .getfield 44, 3), (36, .iload 4, 2), (38, .iaload, 1), (39, .istore 5, 2), (41, .aload_n 0, 1), (42, .getfield 44, 3), (45, .iload 4, 2), (47, .iconst 0, 1), (48, .iastore, 1), (49, .aload_n 0, 1), (50, .iload_n 1, 1), (51, .invokevirtual 251, 3)] = true := by decide +kernel
theorem kX5_merry_2 : zOk (zdec xX5_merry) [(54, .invokestatic 262, 3), (57, .istore 6, 2), (59, .aload_n 0, 1), (60, .getfield 44, 3), (63, .iload 4, 2), (65, .iload 5, 2), (67, .iastore, 1), (68, .iload 6, 2), (70, .iload_n 3, 1), (71, .if_icmp .le 8, 3), (74, .iload 4, 2), (76, .goto 4, 3), (79, .iload_n 2, 1), (80, .istore_n 2, 1), (81, .iload 6, 2), (83, .iload_n 3, 1)] = true := by decide +kernel
theorem kX5_merry_3 : zOk (zdec xX5_merry) [(84, .if_icmp .le 8, 3), (87, .iload 6, 2), (89, .goto 4, 3), (92, .iload_n 3, 1), (93, .istore_n 3, 1), (94, .iinc 4 1, 3), (97, .goto (-74), 3), (100, .iload_n 2, 1), (101, .ireturn, 1)] = true := by decide +kernel
theorem kX5_noSounds_0 : zOk (zdec xX5_noSounds) [(0, .iload_n 1, 1), (1, .i2l, 1), (2, .lconst 0, 1), (3, .ldc2_w 88, 3), (6, .invokestatic 81, 3), (9, .ifCond .eq 19, 3), (12, .iload_n 2, 1), (13, .i2l, 1), (14, .lconst 0, 1), (15, .iload_n 3, 1), (16, .i2l, 1), (17, .invokestatic 81, 3), (20, .ifCond .eq 8, 3), (23, .iload 4, 2), (25, .ifCond .ne 10, 3), (28, .aload_n 0, 1)] = true := by decide +kernel
theorem kX5_noSounds_1 : zOk (zdec xX5_noSounds) [(29, .bipush (-2), 2), (31, .invokevirtual 94, 3), (34, .ireturn, 1), (35, .aload_n 0, 1), (36, .iload_n 1, 1), (37, .invokevirtual 98, 3), (40, .istore 5, 2), (42, .iload 5, 2), (44, .ifCond .eq 6, 3), (47, .iload 5, 2), (49, .ireturn, 1), (50, .aload_n 0, 1), (51, .getfield 16, 3), (54, .iload_n 1, 1), (55, .iaload, 1), (56, .iload_n 2, 1)] = true := by decide +kernel
theorem kX5_noSounds_2 : zOk (zdec xX5_noSounds) [(57, .if_icmp .ge 12, 3), (60, .aload_n 0, 1), (61, .bipush (-2), 2), (63, .invokevirtual 94, 3), (66, .goto 4, 3), (69, .iconst 0, 1), (70, .ireturn, 1)] = true := by decide +kernel
theorem kX5_sounds_0 : zOk (zdec xX5_sounds) [(0, .iconst 0, 1), (1, .istore 4, 2), (3, .iload 4, 2), (5, .iload_n 2, 1), (6, .if_icmp .ge 32, 3), (9, .aload_n 0, 1), (10, .iload_n 3, 1), (11, .iload 4, 2), (13, .invokevirtual 115, 3), (16, .i2l, 1), (17, .aload_n 0, 1), (18, .getfield 21, 3), (21, .iload_n 1, 1), (22, .aaload, 1), (23, .iload 4, 2), (25, .laload, 1)] = true := by decide +kernel
theorem kX5_sounds_1 : zOk (zdec xX5_sounds) [(26, .lcmp, 1), (27, .ifCond .eq 5, 3), (30, .iconst 0, 1), (31, .ireturn, 1), (32, .iinc 4 1, 3), (35, .goto (-32), 3), (38, .iconst 1, 1), (39, .ireturn, 1)] = true := by decide +kernel
theorem kX5_findLengths_0 : zOk (zdec xX5_findLengths) [(0, .aload_n 0, 1), (1, .getfield 62, 3), (4, .iload_n 3, 1), (5, .iaload, 1), (6, .istore 4, 2), (8, .aload_n 0, 1), (9, .iconst 0, 1), (10, .putfield 284, 3), (13, .aload_n 0, 1), (14, .iconst (-1), 1), (15, .putfield 287, 3), (18, .aload_n 0, 1), (19, .iconst (-1), 1), (20, .putfield 290, 3), (23, .iconst 1, 1), (24, .istore 5, 2)] = true := by decide +kernel
theorem kX5_findLengths_1 : zOk (zdec xX5_findLengths) [(26, .iload 5, 2), (28, .bipush 40, 2), (30, .if_icmp .gt 109, 3), (33, .aload_n 0, 1), (34, .getfield 62, 3), (37, .iload_n 3, 1), (38, .iload 5, 2), (40, .iastore, 1), (41, .aload_n 0, 1), (42, .getfield 74, 3), (45, .iload 5, 2), (47, .aload_n 0, 1), (48, .iload_n 1, 1), (49, .iload_n 2, 1), (50, .iload_n 3, 1), (51, .invokevirtual 293, 3)] = true := by decide +kernel
theorem kX5_findLengths_2 : zOk (zdec xX5_findLengths) [(54, .bastore, 1), (55, .aload_n 0, 1), (56, .dup, 1), (57, .getfield 284, 3), (60, .aload_n 0, 1), (61, .getfield 74, 3), (64, .iload 5, 2), (66, .baload, 1), (67, .ifCond .eq 7, 3), (70, .iconst 1, 1), (71, .goto 4, 3), (74, .iconst 0, 1), (75, .iadd, 1), (76, .putfield 284, 3), (79, .aload_n 0, 1), (80, .aload_n 0, 1)] = true := by decide +kernel
theorem kX5_findLengths_3 : zOk (zdec xX5_findLengths) [(81, .getfield 74, 3), (84, .iload 5, 2), (86, .baload, 1), (87, .ifCond .eq 16, 3), (90, .aload_n 0, 1), (91, .getfield 287, 3), (94, .iconst (-1), 1), (95, .if_icmp .ne 8, 3), (98, .iload 5, 2), (100, .goto 7, 3), (103, .aload_n 0, 1), (104, .getfield 287, 3), (107, .putfield 287, 3), (110, .aload_n 0, 1), (111, .aload_n 0, 1), (112, .getfield 74, 3)] = true := by decide +kernel
theorem kX5_findLengths_4 : zOk (zdec xX5_findLengths) [(115, .iload 5, 2), (117, .baload, 1), (118, .ifCond .eq 8, 3), (121, .iload 5, 2), (123, .goto 7, 3), (126, .aload_n 0, 1), (127, .getfield 290, 3), (130, .putfield 290, 3), (133, .iinc 5 1, 3), (136, .goto (-110), 3), (139, .aload_n 0, 1), (140, .getfield 62, 3), (143, .iload_n 3, 1), (144, .iload 4, 2), (146, .iastore, 1), (147, .return_, 1)] = true := by decide +kernel
theorem kX5_lengths_0 : zOk (zdec xX5_lengths) [(0, .aload_n 0, 1), (1, .iload_n 1, 1), (2, .iload_n 2, 1), (3, .aload_n 0, 1), (4, .getfield 37, 3), (7, .aload_n 0, 1), (8, .iload_n 3, 1), (9, .i2l, 1), (10, .invokevirtual 105, 3), (13, .ifCond .eq 20, 3), (16, .iload 4, 2), (18, .i2l, 1), (19, .lconst 0, 1), (20, .ldc2_w 260, 3), (23, .invokestatic 81, 3), (26, .ifCond .eq 7, 3)] = true := by decide +kernel
theorem kX5_lengths_1 : zOk (zdec xX5_lengths) [(29, .iconst 1, 1), (30, .goto 4, 3), (33, .iconst 0, 1), (34, .invokevirtual 296, 3), (37, .istore 5, 2), (39, .iload 5, 2), (41, .ifCond .eq 6, 3), (44, .iload 5, 2), (46, .ireturn, 1), (47, .aload_n 0, 1), (48, .iload_n 1, 1), (49, .iload_n 2, 1), (50, .iload_n 3, 1), (51, .invokevirtual 300, 3), (54, .iload 4, 2), (56, .ifCond .ne 10, 3)] = true := by decide +kernel
theorem kX5_lengths_2 : zOk (zdec xX5_lengths) [(59, .aload_n 0, 1), (60, .getfield 284, 3), (63, .goto 20, 3), (66, .iload 4, 2), (68, .iconst 1, 1), (69, .if_icmp .ne 10, 3), (72, .aload_n 0, 1), (73, .getfield 287, 3), (76, .goto 7, 3), (79, .aload_n 0, 1), (80, .getfield 290, 3), (83, .ireturn, 1)] = true := by decide +kernel
theorem kX5_fits_0 : zOk (zdec xX5_fits) [(0, .aload_n 0, 1), (1, .iload_n 1, 1), (2, .iload_n 2, 1), (3, .aload_n 0, 1), (4, .getfield 37, 3), (7, .aload_n 0, 1), (8, .iload_n 3, 1), (9, .i2l, 1), (10, .invokevirtual 105, 3), (13, .ifCond .eq 18, 3), (16, .iload 4, 2), (18, .i2l, 1), (19, .lconst 0, 1), (20, .lconst 1, 1), (21, .invokestatic 81, 3), (24, .ifCond .eq 7, 3)] = true := by decide +kernel
theorem kX5_fits_1 : zOk (zdec xX5_fits) [(27, .iconst 1, 1), (28, .goto 4, 3), (31, .iconst 0, 1), (32, .invokevirtual 296, 3), (35, .istore 5, 2), (37, .iload 5, 2), (39, .ifCond .eq 6, 3), (42, .iload 5, 2), (44, .ireturn, 1), (45, .aload_n 0, 1), (46, .getfield 53, 3), (49, .iload_n 3, 1), (50, .iaload, 1), (51, .istore 6, 2), (53, .aload_n 0, 1), (54, .getfield 59, 3)] = true := by decide +kernel
theorem kX5_fits_2 : zOk (zdec xX5_fits) [(57, .iload_n 3, 1), (58, .iaload, 1), (59, .istore 7, 2), (61, .iconst 0, 1), (62, .istore 8, 2), (64, .iconst 0, 1), (65, .istore 9, 2), (67, .iload 9, 2), (69, .iload 4, 2), (71, .ifCond .ne 8, 3), (74, .bipush 6, 2), (76, .goto 7, 3), (79, .aload_n 0, 1), (80, .getfield 37, 3), (83, .if_icmp .ge 69, 3), (86, .aload_n 0, 1)] = true := by decide +kernel
theorem kX5_fits_3 : zOk (zdec xX5_fits) [(87, .getfield 53, 3), (90, .iload_n 3, 1), (91, .iload 4, 2), (93, .ifCond .ne 8, 3), (96, .iload 9, 2), (98, .goto 5, 3), (101, .iload 6, 2), (103, .iastore, 1), (104, .aload_n 0, 1), (105, .getfield 59, 3), (108, .iload_n 3, 1), (109, .iload 4, 2), (111, .iconst 1, 1), (112, .if_icmp .ne 8, 3), (115, .iload 9, 2), (117, .goto 5, 3)] = true := by decide +kernel
theorem kX5_fits_4 : zOk (zdec xX5_fits) [(120, .iload 7, 2), (122, .iastore, 1), (123, .iload 8, 2), (125, .aload_n 0, 1), (126, .iload_n 1, 1), (127, .iload_n 2, 1), (128, .iload_n 3, 1), (129, .invokevirtual 293, 3), (132, .ifCond .eq 10, 3), (135, .iconst 1, 1), (136, .iload 9, 2), (138, .ishl, 1), (139, .goto 4, 3), (142, .iconst 0, 1), (143, .ior, 1), (144, .istore 8, 2)] = true := by decide +kernel
theorem kX5_fits_5 : zOk (zdec xX5_fits) [(146, .iinc 9 1, 3), (149, .goto (-82), 3), (152, .aload_n 0, 1), (153, .getfield 53, 3), (156, .iload_n 3, 1), (157, .iload 6, 2), (159, .iastore, 1), (160, .aload_n 0, 1), (161, .getfield 59, 3), (164, .iload_n 3, 1), (165, .iload 7, 2), (167, .iastore, 1), (168, .iload 8, 2), (170, .ireturn, 1)] = true := by decide +kernel
theorem kX5_worstAt_0 : zOk (zdec xX5_worstAt) [(0, .iconst 1, 1), (1, .istore_n 3, 1), (2, .iload_n 3, 1), (3, .bipush 40, 2), (5, .if_icmp .gt 28, 3), (8, .aload_n 0, 1), (9, .getfield 62, 3), (12, .iload_n 1, 1), (13, .iload_n 3, 1), (14, .iastore, 1), (15, .aload_n 0, 1), (16, .getfield 78, 3), (19, .iload_n 3, 1), (20, .aload_n 0, 1), (21, .iload_n 1, 1), (22, .iload_n 2, 1)] = true := by decide +kernel
theorem kX5_worstAt_1 : zOk (zdec xX5_worstAt) [(23, .invokevirtual 115, 3), (26, .iastore, 1), (27, .iinc 3 1, 3), (30, .goto (-28), 3), (33, .iconst 0, 1), (34, .istore_n 3, 1), (35, .iconst 1, 1), (36, .istore 4, 2), (38, .iload 4, 2), (40, .bipush 40, 2), (42, .if_icmp .gt 88, 3), (45, .iconst 0, 1), (46, .istore 5, 2), (48, .iconst 1, 1), (49, .istore 6, 2), (51, .iload 6, 2)] = true := by decide +kernel
theorem kX5_worstAt_2 : zOk (zdec xX5_worstAt) [(53, .bipush 40, 2), (55, .if_icmp .gt 56, 3), (58, .aload_n 0, 1), (59, .getfield 74, 3), (62, .iload 4, 2), (64, .baload, 1), (65, .ifCond .eq 46, 3), (68, .iload 5, 2), (70, .aload_n 0, 1), (71, .getfield 74, 3), (74, .iload 6, 2), (76, .baload, 1), (77, .ifCond .eq 24, 3), (80, .aload_n 0, 1), (81, .getfield 78, 3), (84, .iload 6, 2)] = true := by decide +kernel
theorem kX5_worstAt_3 : zOk (zdec xX5_worstAt) [(86, .iaload, 1), (87, .aload_n 0, 1), (88, .getfield 78, 3), (91, .iload 4, 2), (93, .iaload, 1), (94, .if_icmp .ne 7, 3), (97, .iconst 1, 1), (98, .goto 4, 3), (101, .iconst 0, 1), (102, .iadd, 1), (103, .istore 5, 2), (105, .iinc 6 1, 3), (108, .goto (-57), 3), (111, .iload 5, 2), (113, .iload_n 3, 1), (114, .if_icmp .le 8, 3)] = true := by decide +kernel
theorem kX5_worstAt_4 : zOk (zdec xX5_worstAt) [(117, .iload 5, 2), (119, .goto 4, 3), (122, .iload_n 3, 1), (123, .istore_n 3, 1), (124, .iinc 4 1, 3), (127, .goto (-89), 3), (130, .iload_n 3, 1), (131, .ireturn, 1)] = true := by decide +kernel
theorem kX5_ask_0 : zOk (zdec xX5_ask) [(0, .aload_n 0, 1), (1, .iload_n 1, 1), (2, .iload_n 2, 1), (3, .aload_n 0, 1), (4, .getfield 37, 3), (7, .aload_n 0, 1), (8, .iload_n 3, 1), (9, .i2l, 1), (10, .invokevirtual 105, 3), (13, .invokevirtual 296, 3), (16, .istore 4, 2), (18, .iload 4, 2), (20, .ifCond .eq 6, 3), (23, .iload 4, 2), (25, .ireturn, 1), (26, .aload_n 0, 1)] = true := by decide +kernel
theorem kX5_ask_1 : zOk (zdec xX5_ask) [(27, .iload_n 1, 1), (28, .iload_n 2, 1), (29, .iload_n 3, 1), (30, .invokevirtual 300, 3), (33, .aload_n 0, 1), (34, .getfield 62, 3), (37, .iload_n 3, 1), (38, .iaload, 1), (39, .istore 5, 2), (41, .iconst (-1), 1), (42, .istore 6, 2), (44, .bipush 41, 2), (46, .istore 7, 2), (48, .iconst 0, 1), (49, .istore 8, 2), (51, .iload 8, 2)] = true := by decide +kernel
theorem kX5_ask_2 : zOk (zdec xX5_ask) [(53, .aload_n 0, 1), (54, .getfield 37, 3), (57, .if_icmp .ge 58, 3), (60, .aload_n 0, 1), (61, .getfield 284, 3), (64, .iconst 1, 1), (65, .if_icmp .le 50, 3), (68, .aload_n 0, 1), (69, .iload_n 3, 1), (70, .iload 8, 2), (72, .invokevirtual 304, 3), (75, .istore 9, 2), (77, .iload 9, 2), (79, .iload 7, 2), (81, .if_icmp .ge 8, 3), (84, .iload 8, 2)] = true := by decide +kernel
theorem kX5_ask_3 : zOk (zdec xX5_ask) [(86, .goto 5, 3), (89, .iload 6, 2), (91, .istore 6, 2), (93, .iload 9, 2), (95, .iload 7, 2), (97, .if_icmp .ge 8, 3), (100, .iload 9, 2), (102, .goto 5, 3), (105, .iload 7, 2), (107, .istore 7, 2), (109, .iinc 8 1, 3), (112, .goto (-61), 3), (115, .aload_n 0, 1), (116, .getfield 62, 3), (119, .iload_n 3, 1), (120, .iload 5, 2)] = true := by decide +kernel
theorem kX5_ask_4 : zOk (zdec xX5_ask) [(122, .iastore, 1), (123, .iload 6, 2), (125, .ireturn, 1)] = true := by decide +kernel
theorem kX5_winds_0 : zOk (zdec xX5_winds) [(0, .aload_n 0, 1), (1, .iload_n 1, 1), (2, .iload_n 2, 1), (3, .aload_n 0, 1), (4, .getfield 85, 3), (7, .aload_n 0, 1), (8, .iload_n 3, 1), (9, .invokevirtual 123, 3), (12, .invokevirtual 296, 3), (15, .istore 4, 2), (17, .iload 4, 2), (19, .ifCond .eq 6, 3), (22, .iload 4, 2), (24, .ireturn, 1), (25, .aload_n 0, 1), (26, .getfield 41, 3)] = true := by decide +kernel
theorem kX5_winds_1 : zOk (zdec xX5_winds) [(29, .iload_n 3, 1), (30, .iaload, 1), (31, .istore 5, 2), (33, .iconst 0, 1), (34, .istore 6, 2), (36, .iconst 0, 1), (37, .istore 7, 2), (39, .iload 7, 2), (41, .bipush 9, 2), (43, .if_icmp .gt 86, 3), (46, .aload_n 0, 1), (47, .getfield 41, 3), (50, .iload_n 3, 1), (51, .iload 7, 2), (53, .iastore, 1), (54, .iconst 1, 1)] = true := by decide +kernel
theorem kX5_winds_2 : zOk (zdec xX5_winds) [(55, .istore 8, 2), (57, .iconst 0, 1), (58, .istore 9, 2), (60, .iload 9, 2), (62, .iload_n 2, 1), (63, .if_icmp .ge 42, 3), (66, .iload 8, 2), (68, .ifCond .eq 37, 3), (71, .aload_n 0, 1), (72, .iload 9, 2), (74, .iload_n 3, 1), (75, .invokevirtual 115, 3), (78, .i2l, 1), (79, .aload_n 0, 1), (80, .getfield 21, 3), (83, .iload_n 1, 1)] = true := by decide +kernel
theorem kX5_winds_3 : zOk (zdec xX5_winds) [(84, .aaload, 1), (85, .iload 9, 2), (87, .laload, 1), (88, .lcmp, 1), (89, .ifCond .ne 7, 3), (92, .iconst 1, 1), (93, .goto 4, 3), (96, .iconst 0, 1), (97, .istore 8, 2), (99, .iinc 9 1, 3), (102, .goto (-42), 3), (105, .iload 6, 2), (107, .iload 8, 2), (109, .ifCond .eq 10, 3), (112, .iconst 1, 1), (113, .iload 7, 2)] = true := by decide +kernel
theorem kX5_winds_4 : zOk (zdec xX5_winds) [(115, .ishl, 1), (116, .goto 4, 3), (119, .iconst 0, 1), (120, .ior, 1), (121, .istore 6, 2), (123, .iinc 7 1, 3), (126, .goto (-87), 3), (129, .aload_n 0, 1), (130, .getfield 41, 3), (133, .iload_n 3, 1), (134, .iload 5, 2), (136, .iastore, 1), (137, .iload 6, 2), (139, .ireturn, 1)] = true := by decide +kernel
theorem kX5_leastHeard_0 : zOk (zdec xX5_leastHeard) [(0, .aload_n 0, 1), (1, .getfield 44, 3), (4, .iload_n 1, 1), (5, .iaload, 1), (6, .istore 4, 2), (8, .iconst (-1), 1), (9, .istore 5, 2), (11, .iconst 0, 1), (12, .istore 6, 2), (14, .iload 6, 2), (16, .bipush 9, 2), (18, .if_icmp .gt 73, 3), (21, .aload_n 0, 1), (22, .getfield 44, 3), (25, .iload_n 1, 1), (26, .iload 6, 2)] = true := by decide +kernel
theorem kX5_leastHeard_1 : zOk (zdec xX5_leastHeard) [(28, .iastore, 1), (29, .aload_n 0, 1), (30, .iload_n 2, 1), (31, .iload_n 3, 1), (32, .invokevirtual 115, 3), (35, .istore 7, 2), (37, .aload_n 0, 1), (38, .iload 5, 2), (40, .iconst (-1), 1), (41, .if_icmp .eq 10, 3), (44, .iload 7, 2), (46, .iload 5, 2), (48, .if_icmp .ge 8, 3), (51, .iload 6, 2), (53, .goto 7, 3), (56, .aload_n 0, 1)] = true := by decide +kernel
theorem kX5_leastHeard_2 : zOk (zdec xX5_leastHeard) [(57, .getfield 307, 3), (60, .putfield 307, 3), (63, .iload 5, 2), (65, .iconst (-1), 1), (66, .if_icmp .eq 10, 3), (69, .iload 7, 2), (71, .iload 5, 2), (73, .if_icmp .ge 8, 3), (76, .iload 7, 2), (78, .goto 5, 3), (81, .iload 5, 2), (83, .istore 5, 2), (85, .iinc 6 1, 3), (88, .goto (-74), 3), (91, .aload_n 0, 1), (92, .getfield 44, 3)] = true := by decide +kernel
theorem kX5_leastHeard_3 : zOk (zdec xX5_leastHeard) [(95, .iload_n 1, 1), (96, .iload 4, 2), (98, .iastore, 1), (99, .iload 5, 2), (101, .ireturn, 1)] = true := by decide +kernel
theorem kX5_mayPour_0 : zOk (zdec xX5_mayPour) [(0, .aload_n 0, 1), (1, .iload_n 1, 1), (2, .invokevirtual 123, 3), (5, .ifCond .eq 30, 3), (8, .aload_n 0, 1), (9, .iload_n 2, 1), (10, .invokevirtual 123, 3), (13, .ifCond .eq 22, 3), (16, .iload_n 1, 1), (17, .iload_n 2, 1), (18, .if_icmp .eq 17, 3), (21, .aload_n 0, 1), (22, .iload_n 3, 1), (23, .iload 4, 2), (25, .invokevirtual 248, 3), (28, .ifCond .eq 7, 3)] = true := by decide +kernel
theorem kX5_mayPour_1 : zOk (zdec xX5_mayPour) [(31, .iconst 1, 1), (32, .goto 4, 3), (35, .iconst 0, 1), (36, .ireturn, 1)] = true := by decide +kernel
theorem kX5_pour_0 : zOk (zdec xX5_pour) [(0, .aload_n 0, 1), (1, .iload_n 1, 1), (2, .iload_n 2, 1), (3, .iload_n 3, 1), (4, .iload 4, 2), (6, .invokevirtual 310, 3), (9, .ifCond .eq 14, 3), (12, .iload 5, 2), (14, .i2l, 1), (15, .lconst 0, 1), (16, .lconst 1, 1), (17, .invokestatic 81, 3), (20, .ifCond .ne 10, 3), (23, .aload_n 0, 1), (24, .bipush (-2), 2), (26, .invokevirtual 94, 3)] = true := by decide +kernel
theorem kX5_pour_1 : zOk (zdec xX5_pour) [(29, .ireturn, 1), (30, .aload_n 0, 1), (31, .getfield 44, 3), (34, .iload_n 1, 1), (35, .iaload, 1), (36, .istore 6, 2), (38, .iconst 0, 1), (39, .istore 7, 2), (41, .iconst (-1), 1), (42, .istore 8, 2), (44, .iconst 0, 1), (45, .istore 9, 2), (47, .iload 9, 2), (49, .bipush 9, 2), (51, .if_icmp .gt 59, 3), (54, .aload_n 0, 1)] = true := by decide +kernel
theorem kX5_pour_2 : zOk (zdec xX5_pour) [(55, .getfield 44, 3), (58, .iload_n 1, 1), (59, .iload 9, 2), (61, .iastore, 1), (62, .aload_n 0, 1), (63, .iload_n 2, 1), (64, .iload_n 3, 1), (65, .iload 4, 2), (67, .invokevirtual 314, 3), (70, .istore 10, 2), (72, .iload 10, 2), (74, .iload 8, 2), (76, .if_icmp .le 8, 3), (79, .iload 9, 2), (81, .goto 5, 3), (84, .iload 7, 2)] = true := by decide +kernel
theorem kX5_pour_3 : zOk (zdec xX5_pour) [(86, .istore 7, 2), (88, .iload 10, 2), (90, .iload 8, 2), (92, .if_icmp .le 8, 3), (95, .iload 10, 2), (97, .goto 5, 3), (100, .iload 8, 2), (102, .istore 8, 2), (104, .iinc 9 1, 3), (107, .goto (-60), 3), (110, .aload_n 0, 1), (111, .getfield 44, 3), (114, .iload_n 1, 1), (115, .iload 6, 2), (117, .iastore, 1), (118, .iload 5, 2)] = true := by decide +kernel
theorem kX5_pour_4 : zOk (zdec xX5_pour) [(120, .ifCond .ne 8, 3), (123, .iload 8, 2), (125, .goto 5, 3), (128, .iload 7, 2), (130, .ireturn, 1)] = true := by decide +kernel
theorem kX5_answer_0 : zOk (zdec xX5_answer) [(0, .aload_n 0, 1), (1, .iload_n 1, 1), (2, .iload_n 2, 1), (3, .iload_n 3, 1), (4, .iload 4, 2), (6, .invokevirtual 310, 3), (9, .ifCond .eq 16, 3), (12, .iload 5, 2), (14, .i2l, 1), (15, .lconst 0, 1), (16, .ldc2_w 121, 3), (19, .invokestatic 81, 3), (22, .ifCond .ne 10, 3), (25, .aload_n 0, 1), (26, .bipush (-2), 2), (28, .invokevirtual 94, 3)] = true := by decide +kernel
theorem kX5_answer_1 : zOk (zdec xX5_answer) [(31, .ireturn, 1), (32, .aload_n 0, 1), (33, .getfield 44, 3), (36, .iload_n 1, 1), (37, .iaload, 1), (38, .istore 6, 2), (40, .aload_n 0, 1), (41, .getfield 44, 3), (44, .iload_n 1, 1), (45, .iload 5, 2), (47, .iastore, 1), (48, .aload_n 0, 1), (49, .iload_n 2, 1), (50, .iload_n 3, 1), (51, .iload 4, 2), (53, .invokevirtual 314, 3)] = true := by decide +kernel
theorem kX5_answer_2 : zOk (zdec xX5_answer) [(56, .pop, 1), (57, .aload_n 0, 1), (58, .getfield 44, 3), (61, .iload_n 1, 1), (62, .iload 6, 2), (64, .iastore, 1), (65, .aload_n 0, 1), (66, .getfield 307, 3), (69, .ireturn, 1)] = true := by decide +kernel
theorem kX5_knowsBy_0 : zOk (zdec xX5_knowsBy) [(0, .aload_n 0, 1), (1, .getfield 41, 3), (4, .iload_n 2, 1), (5, .iaload, 1), (6, .istore_n 3, 1), (7, .iconst 0, 1), (8, .istore 4, 2), (10, .iconst 0, 1), (11, .istore 5, 2), (13, .iload 5, 2), (15, .bipush 9, 2), (17, .if_icmp .gt 36, 3), (20, .aload_n 0, 1), (21, .getfield 41, 3), (24, .iload_n 2, 1), (25, .iload 5, 2)] = true := by decide +kernel
theorem kX5_knowsBy_1 : zOk (zdec xX5_knowsBy) [(27, .iastore, 1), (28, .iload 4, 2), (30, .aload_n 0, 1), (31, .iload_n 1, 1), (32, .iload_n 2, 1), (33, .invokevirtual 245, 3), (36, .ifCond .eq 7, 3), (39, .iconst 1, 1), (40, .goto 4, 3), (43, .iconst 0, 1), (44, .iadd, 1), (45, .istore 4, 2), (47, .iinc 5 1, 3), (50, .goto (-37), 3), (53, .aload_n 0, 1), (54, .getfield 41, 3)] = true := by decide +kernel
theorem kX5_knowsBy_2 : zOk (zdec xX5_knowsBy) [(57, .iload_n 2, 1), (58, .iload_n 3, 1), (59, .iastore, 1), (60, .iload 4, 2), (62, .ireturn, 1)] = true := by decide +kernel
theorem kX5_chance_0 : zOk (zdec xX5_chance) [(0, .aload_n 0, 1), (1, .iload_n 1, 1), (2, .iload_n 2, 1), (3, .invokevirtual 248, 3), (6, .ifCond .eq 16, 3), (9, .ldc_w 318, 3), (12, .aload_n 0, 1), (13, .iload_n 1, 1), (14, .iload_n 2, 1), (15, .invokevirtual 319, 3), (18, .imul, 1), (19, .goto 9, 3), (22, .aload_n 0, 1), (23, .bipush (-2), 2), (25, .invokevirtual 94, 3), (28, .ireturn, 1)] = true := by decide +kernel
theorem kX5_sure_0 : zOk (zdec xX5_sure) [(0, .aload_n 0, 1), (1, .iload_n 1, 1), (2, .i2l, 1), (3, .invokevirtual 105, 3), (6, .ifCond .ne 10, 3), (9, .aload_n 0, 1), (10, .bipush (-2), 2), (12, .invokevirtual 94, 3), (15, .ireturn, 1), (16, .iconst 0, 1), (17, .istore_n 2, 1), (18, .iconst 0, 1), (19, .istore_n 3, 1), (20, .iload_n 3, 1), (21, .aload_n 0, 1), (22, .getfield 37, 3)] = true := by decide +kernel
theorem kX5_sure_1 : zOk (zdec xX5_sure) [(25, .if_icmp .ge 47, 3), (28, .iload_n 2, 1), (29, .iload_n 3, 1), (30, .aload_n 0, 1), (31, .getfield 59, 3), (34, .iload_n 1, 1), (35, .iaload, 1), (36, .if_icmp .eq 27, 3), (39, .aload_n 0, 1), (40, .iload_n 1, 1), (41, .iload_n 3, 1), (42, .invokevirtual 236, 3), (45, .ifCond .eq 18, 3), (48, .aload_n 0, 1), (49, .iload_n 1, 1), (50, .iload_n 3, 1)] = true := by decide +kernel
theorem kX5_sure_2 : zOk (zdec xX5_sure) [(51, .invokevirtual 319, 3), (54, .bipush 10, 2), (56, .if_icmp .ne 7, 3), (59, .iconst 1, 1), (60, .goto 4, 3), (63, .iconst 0, 1), (64, .iadd, 1), (65, .istore_n 2, 1), (66, .iinc 3 1, 3), (69, .goto (-49), 3), (72, .iload_n 2, 1), (73, .ireturn, 1)] = true := by decide +kernel
theorem kX5_judge_0 : zOk (zdec xX5_judge) [(0, .aload_n 0, 1), (1, .iload_n 1, 1), (2, .iload_n 2, 1), (3, .bipush 40, 2), (5, .iconst 1, 1), (6, .invokevirtual 296, 3), (9, .istore_n 3, 1), (10, .iload_n 3, 1), (11, .ifCond .eq 5, 3), (14, .iload_n 3, 1), (15, .ireturn, 1), (16, .iconst 0, 1), (17, .istore 4, 2), (19, .iload 4, 2), (21, .iload_n 2, 1), (22, .if_icmp .ge 41, 3)] = true := by decide +kernel
theorem kX5_judge_1 : zOk (zdec xX5_judge) [(25, .iload 4, 2), (27, .aload_n 0, 1), (28, .getfield 37, 3), (31, .if_icmp .eq 23, 3), (34, .aload_n 0, 1), (35, .iload 4, 2), (37, .invokevirtual 254, 3), (40, .i2l, 1), (41, .aload_n 0, 1), (42, .getfield 21, 3), (45, .iload_n 1, 1), (46, .aaload, 1), (47, .iload 4, 2), (49, .laload, 1), (50, .lcmp, 1), (51, .ifCond .eq 6, 3)] = true := by decide +kernel
theorem kX5_judge_2 : zOk (zdec xX5_judge) [(54, .iload 4, 2), (56, .ireturn, 1), (57, .iinc 4 1, 3), (60, .goto (-41), 3), (63, .iconst (-1), 1), (64, .ireturn, 1)] = true := by decide +kernel
theorem kX5_goesRound_0 : zOk (zdec xX5_goesRound) [(0, .iconst 0, 1), (1, .istore_n 1, 1), (2, .iload_n 1, 1), (3, .aload_n 0, 1), (4, .getfield 37, 3), (7, .if_icmp .ge 23, 3), (10, .aload_n 0, 1), (11, .getfield 50, 3), (14, .iload_n 1, 1), (15, .dup2, 1), (16, .iaload, 1), (17, .aload_n 0, 1), (18, .iload_n 1, 1), (19, .invokevirtual 257, 3), (22, .iadd, 1), (23, .iastore, 1)] = true := by decide +kernel
theorem kX5_goesRound_1 : zOk (zdec xX5_goesRound) [(24, .iinc 1 1, 3), (27, .goto (-25), 3), (30, .aload_n 0, 1), (31, .dup, 1), (32, .getfield 322, 3), (35, .iconst 1, 1), (36, .iadd, 1), (37, .putfield 322, 3), (40, .return_, 1)] = true := by decide +kernel
theorem kX5_earsTogether_0 : zOk (zdec xX5_earsTogether) [(0, .iconst 0, 1), (1, .istore_n 1, 1), (2, .iconst 0, 1), (3, .istore_n 2, 1), (4, .iload_n 2, 1), (5, .aload_n 0, 1), (6, .getfield 37, 3), (9, .if_icmp .ge 18, 3), (12, .iload_n 1, 1), (13, .aload_n 0, 1), (14, .getfield 50, 3), (17, .iload_n 2, 1), (18, .iaload, 1), (19, .iadd, 1), (20, .istore_n 1, 1), (21, .iinc 2 1, 3)] = true := by decide +kernel
theorem kX5_earsTogether_1 : zOk (zdec xX5_earsTogether) [(24, .goto (-20), 3), (27, .iload_n 1, 1), (28, .ireturn, 1)] = true := by decide +kernel
theorem kX5_shelvesFollow_0 : zOk (zdec xX5_shelvesFollow) [(0, .iconst 0, 1), (1, .istore_n 1, 1), (2, .iload_n 1, 1), (3, .bipush 8, 2), (5, .if_icmp .ge 39, 3), (8, .aload_n 0, 1), (9, .getfield 7, 3), (12, .iload_n 1, 1), (13, .iaload, 1), (14, .iconst 2, 1), (15, .if_icmp .ne 23, 3), (18, .aload_n 0, 1), (19, .getfield 28, 3), (22, .iload_n 1, 1), (23, .iaload, 1), (24, .aload_n 0, 1)] = true := by decide +kernel
theorem kX5_shelvesFollow_1 : zOk (zdec xX5_shelvesFollow) [(25, .getfield 85, 3), (28, .if_icmp .lt 10, 3), (31, .aload_n 0, 1), (32, .getfield 7, 3), (35, .iload_n 1, 1), (36, .iconst 0, 1), (37, .iastore, 1), (38, .iinc 1 1, 3), (41, .goto (-39), 3), (44, .return_, 1)] = true := by decide +kernel
theorem kX5_round_0 : zOk (zdec xX5_round) [(0, .aload_n 0, 1), (1, .invokevirtual 325, 3), (4, .aload_n 0, 1), (5, .iload_n 1, 1), (6, .ifCond .eq 7, 3), (9, .iconst 0, 1), (10, .goto 7, 3), (13, .aload_n 0, 1), (14, .getfield 85, 3), (17, .putfield 85, 3), (20, .aload_n 0, 1), (21, .invokevirtual 328, 3), (24, .aload_n 0, 1), (25, .invokevirtual 331, 3), (28, .ireturn, 1)] = true := by decide +kernel
theorem kX5_below_0 : zOk (zdec xX5_below) [(0, .aload_n 0, 1), (1, .aload_n 0, 1), (2, .getfield 65, 3), (5, .ldc_w 334, 3), (8, .imul, 1), (9, .sipush 12345, 3), (12, .iadd, 1), (13, .putfield 65, 3), (16, .aload_n 0, 1), (17, .getfield 65, 3), (20, .bipush 16, 2), (22, .iushr, 1), (23, .iload_n 1, 1), (24, .irem, 1), (25, .ireturn, 1)] = true := by decide +kernel
theorem kX5_days_0 : zOk (zdec xX5_days) [(0, .iload_n 1, 1), (1, .i2l, 1), (2, .lconst 1, 1), (3, .ldc2_w 335, 3), (6, .invokestatic 81, 3), (9, .ifCond .ne 10, 3), (12, .aload_n 0, 1), (13, .bipush (-2), 2), (15, .invokevirtual 94, 3), (18, .ireturn, 1), (19, .iconst 0, 1), (20, .istore_n 2, 1), (21, .iload_n 2, 1), (22, .iload_n 1, 1), (23, .if_icmp .ge 57, 3), (26, .aload_n 0, 1)] = true := by decide +kernel
theorem kX5_days_1 : zOk (zdec xX5_days) [(27, .aload_n 0, 1), (28, .getfield 37, 3), (31, .invokevirtual 337, 3), (34, .istore_n 3, 1), (35, .aload_n 0, 1), (36, .getfield 41, 3), (39, .iload_n 3, 1), (40, .aload_n 0, 1), (41, .bipush 10, 2), (43, .invokevirtual 337, 3), (46, .iastore, 1), (47, .aload_n 0, 1), (48, .aload_n 0, 1), (49, .getfield 37, 3), (52, .invokevirtual 337, 3), (55, .istore 4, 2)] = true := by decide +kernel
theorem kX5_days_2 : zOk (zdec xX5_days) [(57, .aload_n 0, 1), (58, .getfield 44, 3), (61, .iload 4, 2), (63, .aload_n 0, 1), (64, .bipush 10, 2), (66, .invokevirtual 337, 3), (69, .iastore, 1), (70, .aload_n 0, 1), (71, .invokevirtual 325, 3), (74, .iinc 2 1, 3), (77, .goto (-56), 3), (80, .aload_n 0, 1), (81, .invokevirtual 331, 3), (84, .ireturn, 1)] = true := by decide +kernel
theorem kX5_seed_0 : zOk (zdec xX5_seed) [(0, .aload_n 0, 1), (1, .getfield 65, 3), (4, .istore_n 2, 1), (5, .aload_n 0, 1), (6, .iload_n 1, 1), (7, .putfield 65, 3), (10, .iload_n 2, 1), (11, .ireturn, 1)] = true := by decide +kernel
theorem kX5_copied_0 : zOk (zdec xX5_copied) [(0, .iconst 0, 1), (1, .istore_n 2, 1), (2, .iload_n 2, 1), (3, .aload_n 0, 1), (4, .arraylength, 1), (5, .if_icmp .ge 15, 3), (8, .aload_n 1, 1), (9, .iload_n 2, 1), (10, .aload_n 0, 1), (11, .iload_n 2, 1), (12, .iaload, 1), (13, .iastore, 1), (14, .iinc 2 1, 3), (17, .goto (-15), 3), (20, .return_, 1)] = true := by decide +kernel
theorem kX5_takeFrom_0 : zOk (zdec xX5_takeFrom) [(0, .aload_n 0, 1), (1, .aload_n 1, 1), (2, .getfield 37, 3), (5, .putfield 37, 3), (8, .aload_n 1, 1), (9, .getfield 41, 3), (12, .aload_n 0, 1), (13, .getfield 41, 3), (16, .invokestatic 340, 3), (19, .aload_n 1, 1), (20, .getfield 44, 3), (23, .aload_n 0, 1), (24, .getfield 44, 3), (27, .invokestatic 340, 3), (30, .aload_n 1, 1), (31, .getfield 47, 3)] = true := by decide +kernel
theorem kX5_takeFrom_1 : zOk (zdec xX5_takeFrom) [(34, .aload_n 0, 1), (35, .getfield 47, 3), (38, .invokestatic 340, 3), (41, .aload_n 1, 1), (42, .getfield 50, 3), (45, .aload_n 0, 1), (46, .getfield 50, 3), (49, .invokestatic 340, 3), (52, .aload_n 0, 1), (53, .aload_n 1, 1), (54, .getfield 135, 3), (57, .putfield 135, 3), (60, .aload_n 0, 1), (61, .aload_n 1, 1), (62, .getfield 138, 3), (65, .putfield 138, 3)] = true := by decide +kernel
theorem kX5_takeFrom_2 : zOk (zdec xX5_takeFrom) [(68, .aload_n 0, 1), (69, .aload_n 1, 1), (70, .getfield 322, 3), (73, .putfield 322, 3), (76, .aload_n 0, 1), (77, .aload_n 1, 1), (78, .getfield 85, 3), (81, .putfield 85, 3), (84, .aload_n 1, 1), (85, .getfield 53, 3), (88, .aload_n 0, 1), (89, .getfield 53, 3), (92, .invokestatic 340, 3), (95, .aload_n 1, 1), (96, .getfield 56, 3), (99, .aload_n 0, 1)] = true := by decide +kernel
theorem kX5_takeFrom_3 : zOk (zdec xX5_takeFrom) [(100, .getfield 56, 3), (103, .invokestatic 340, 3), (106, .aload_n 1, 1), (107, .getfield 59, 3), (110, .aload_n 0, 1), (111, .getfield 59, 3), (114, .invokestatic 340, 3), (117, .aload_n 1, 1), (118, .getfield 62, 3), (121, .aload_n 0, 1), (122, .getfield 62, 3), (125, .invokestatic 340, 3), (128, .aload_n 0, 1), (129, .aload_n 1, 1), (130, .getfield 65, 3), (133, .putfield 65, 3)] = true := by decide +kernel
theorem kX5_takeFrom_4 : zOk (zdec xX5_takeFrom) [(136, .return_, 1)] = true := by decide +kernel
theorem kX5_image_0 : zOk (zdec xX5_image) [(0, .aload_n 0, 1), (1, .getfield 344, 3), (4, .ifnonnull 14, 3), (7, .aload_n 0, 1), (8, .new 8, 3), (11, .dup, 1), (12, .invokespecial 223, 3), (15, .putfield 344, 3), (18, .aload_n 0, 1), (19, .getfield 344, 3), (22, .aload_n 0, 1), (23, .invokevirtual 224, 3), (26, .iconst 1, 1), (27, .ireturn, 1)] = true := by decide +kernel
theorem kX5_back_0 : zOk (zdec xX5_back) [(0, .aload_n 0, 1), (1, .getfield 344, 3), (4, .ifnonnull 10, 3), (7, .aload_n 0, 1), (8, .bipush (-5), 2), (10, .invokevirtual 94, 3), (13, .ireturn, 1), (14, .aload_n 0, 1), (15, .aload_n 0, 1), (16, .getfield 344, 3), (19, .invokevirtual 224, 3), (22, .aload_n 0, 1), (23, .invokevirtual 328, 3), (26, .iconst 1, 1), (27, .ireturn, 1)] = true := by decide +kernel
theorem kX5_status_0 : zOk (zdec xX5_status) [(0, .iconst 0, 1), (1, .istore_n 2, 1), (2, .iload_n 1, 1), (3, .tableswitch 161 0 9 #[53, 58, 63, 68, 81, 108, 113, 118, 123, 128], 53), (56, .aload_n 0, 1), (57, .getfield 85, 3), (60, .ireturn, 1), (61, .aload_n 0, 1), (62, .getfield 37, 3), (65, .ireturn, 1), (66, .aload_n 0, 1), (67, .getfield 135, 3), (70, .ireturn, 1), (71, .aload_n 0, 1), (72, .getfield 138, 3), (75, .ifCond .eq 7, 3)] = true := by decide +kernel
theorem kX5_status_1 : zOk (zdec xX5_status) [(78, .iconst 1, 1), (79, .goto 4, 3), (82, .iconst 0, 1), (83, .ireturn, 1), (84, .iconst 0, 1), (85, .istore_n 3, 1), (86, .iload_n 3, 1), (87, .aload_n 0, 1), (88, .getfield 37, 3), (91, .if_icmp .ge 18, 3), (94, .iload_n 2, 1), (95, .aload_n 0, 1), (96, .getfield 44, 3), (99, .iload_n 3, 1), (100, .iaload, 1), (101, .iadd, 1)] = true := by decide +kernel
theorem kX5_status_2 : zOk (zdec xX5_status) [(102, .istore_n 2, 1), (103, .iinc 3 1, 3), (106, .goto (-20), 3), (109, .iload_n 2, 1), (110, .ireturn, 1), (111, .aload_n 0, 1), (112, .invokevirtual 331, 3), (115, .ireturn, 1), (116, .aload_n 0, 1), (117, .getfield 322, 3), (120, .ireturn, 1), (121, .aload_n 0, 1), (122, .getfield 144, 3), (125, .ireturn, 1), (126, .aload_n 0, 1), (127, .getfield 65, 3)] = true := by decide +kernel
theorem kX5_status_3 : zOk (zdec xX5_status) [(130, .ireturn, 1), (131, .iconst 0, 1), (132, .istore_n 3, 1), (133, .iload_n 3, 1), (134, .bipush 8, 2), (136, .if_icmp .ge 26, 3), (139, .iload_n 2, 1), (140, .aload_n 0, 1), (141, .getfield 7, 3), (144, .iload_n 3, 1), (145, .iaload, 1), (146, .ifCond .eq 7, 3), (149, .iconst 1, 1), (150, .goto 4, 3), (153, .iconst 0, 1), (154, .iadd, 1)] = true := by decide +kernel
theorem kX5_status_4 : zOk (zdec xX5_status) [(155, .istore_n 2, 1), (156, .iinc 3 1, 3), (159, .goto (-26), 3), (162, .iload_n 2, 1), (163, .ireturn, 1), (164, .iload_n 1, 1), (165, .i2l, 1), (166, .ldc2_w 119, 3), (169, .ldc2_w 347, 3), (172, .invokestatic 81, 3), (175, .ifCond .eq 15, 3), (178, .aload_n 0, 1), (179, .getfield 34, 3), (182, .iload_n 1, 1), (183, .bipush 10, 2), (185, .isub, 1)] = true := by decide +kernel
theorem kX5_status_5 : zOk (zdec xX5_status) [(186, .iaload, 1), (187, .goto 4, 3), (190, .iconst (-1), 1), (191, .ireturn, 1)] = true := by decide +kernel
theorem kJ6_bitCount_0f7a4_0 : zOk (zdec xJ6_bitCount_0f7a4) [(0, .iload_n 0, 1), (1, .iload_n 0, 1), (2, .iconst 1, 1), (3, .iushr, 1), (4, .ldc_w 265, 3), (7, .iand, 1), (8, .isub, 1), (9, .istore_n 0, 1), (10, .iload_n 0, 1), (11, .ldc_w 266, 3), (14, .iand, 1), (15, .iload_n 0, 1), (16, .iconst 2, 1), (17, .iushr, 1), (18, .ldc_w 266, 3), (21, .iand, 1)] = true := by decide +kernel
theorem kJ6_bitCount_0f7a4_1 : zOk (zdec xJ6_bitCount_0f7a4) [(22, .iadd, 1), (23, .istore_n 0, 1), (24, .iload_n 0, 1), (25, .iload_n 0, 1), (26, .iconst 4, 1), (27, .iushr, 1), (28, .iadd, 1), (29, .ldc_w 267, 3), (32, .iand, 1), (33, .istore_n 0, 1), (34, .iload_n 0, 1), (35, .iload_n 0, 1), (36, .bipush 8, 2), (38, .iushr, 1), (39, .iadd, 1), (40, .istore_n 0, 1)] = true := by decide +kernel
theorem kJ6_bitCount_0f7a4_2 : zOk (zdec xJ6_bitCount_0f7a4) [(41, .iload_n 0, 1), (42, .iload_n 0, 1), (43, .bipush 16, 2), (45, .iushr, 1), (46, .iadd, 1), (47, .istore_n 0, 1), (48, .iload_n 0, 1), (49, .bipush 63, 2), (51, .iand, 1), (52, .ireturn, 1)] = true := by decide +kernel
theorem kJ9_abs_0f7a4_0 : zOk (zdec xJ9_abs_0f7a4) [(0, .iload_n 0, 1), (1, .ifCond .ge 8, 3), (4, .iload_n 0, 1), (5, .ineg, 1), (6, .goto 4, 3), (9, .iload_n 0, 1), (10, .ireturn, 1)] = true := by decide +kernel
theorem kJ9_max_7cf53_0 : zOk (zdec xJ9_max_7cf53) [(0, .iload_n 0, 1), (1, .iload_n 1, 1), (2, .if_icmp .lt 7, 3), (5, .iload_n 0, 1), (6, .goto 4, 3), (9, .iload_n 1, 1), (10, .ireturn, 1)] = true := by decide +kernel
theorem kJ0_length_8abf5_0 : zOk (zdec xJ0_length_8abf5) [(0, .aload_n 0, 1), (1, .getfield 9, 3), (4, .arraylength, 1), (5, .aload_n 0, 1), (6, .invokevirtual 335, 3), (9, .ishr, 1), (10, .ireturn, 1)] = true := by decide +kernel
theorem kJ0_charAt_5068e_0 : zOk (zdec xJ0_charAt_5068e) [(0, .aload_n 0, 1), (1, .invokevirtual 492, 3), (4, .ifCond .eq 12, 3), (7, .aload_n 0, 1), (8, .getfield 9, 3), (11, .iload_n 1, 1), (12, .invokestatic 495, 3), (15, .ireturn, 1), (16, .aload_n 0, 1), (17, .getfield 9, 3), (20, .iload_n 1, 1), (21, .invokestatic 498, 3), (24, .ireturn, 1)] = true := by decide +kernel
theorem kJ0_coder_7d493_0 : zOk (zdec xJ0_coder_7d493) [(0, .getstatic 38, 3), (3, .ifCond .eq 10, 3), (6, .aload_n 0, 1), (7, .getfield 15, 3), (10, .goto 4, 3), (13, .iconst 1, 1), (14, .ireturn, 1)] = true := by decide +kernel
theorem kJ0_isLatin1_aae02_0 : zOk (zdec xJ0_isLatin1_aae02) [(0, .getstatic 38, 3), (3, .ifCond .eq 14, 3), (6, .aload_n 0, 1), (7, .getfield 15, 3), (10, .ifCond .ne 7, 3), (13, .iconst 1, 1), (14, .goto 4, 3), (17, .iconst 0, 1), (18, .ireturn, 1)] = true := by decide +kernel
theorem kJ1_charAt_3b067_0 : zOk (zdec xJ1_charAt_3b067) [(0, .iload_n 1, 1), (1, .aload_n 0, 1), (2, .arraylength, 1), (3, .invokestatic 9, 3), (6, .aload_n 0, 1), (7, .iload_n 1, 1), (8, .baload, 1), (9, .sipush 255, 3), (12, .iand, 1), (13, .i2c, 1), (14, .ireturn, 1)] = true := by decide +kernel
theorem kL_law_0 : zOk (zdec xL_law) [(0, .new 7, 3), (3, .dup, 1), (4, .invokespecial 9, 3), (7, .astore_n 1, 1), (8, .new 10, 3), (11, .dup, 1), (12, .invokespecial 12, 3), (15, .astore_n 2, 1), (16, .iconst 0, 1), (17, .istore_n 3, 1), (18, .iload_n 3, 1), (19, .aload_n 0, 1), (20, .arraylength, 1), (21, .bipush 6, 2), (23, .isub, 1), (24, .if_icmp .gt 2327, 3)] = true := by decide +kernel
theorem kL_law_1 : zOk (zdec xL_law) [(27, .aload_n 0, 1), (28, .iload_n 3, 1), (29, .iaload, 1), (30, .bipush 63, 2), (32, .iand, 1), (33, .tableswitch 2312 0 63 #[271, 314, 387, 450, 484, 507, 540, 573, 596, 649, 692, 735, 794, 817, 856, 879, 892, 905, 938, 971, 1004, 1037, 1060, 1083, 1116, 1139, 1162, 1185, 1218, 1261, 1294, 1327, 1380, 1433, 1476, 1519, 1582, 1645, 1678, 1701, 1724, 1737, 1770, 1803, 1816, 1829, 1842, 1875, 1908, 1941, 1964, 1987, 2010, 2043, 2066, 2099, 2122, 2145, 2178, 2217, 2240, 2263, 2276, 2289], 271), (304, .aload_n 1, 1), (305, .aload_n 0, 1), (306, .iload_n 3, 1), (307, .iconst 1, 1), (308, .iadd, 1), (309, .iaload, 1), (310, .aload_n 0, 1), (311, .iload_n 3, 1), (312, .iconst 2, 1), (313, .iadd, 1)] = true := by decide +kernel
theorem kL_law_2 : zOk (zdec xL_law) [(314, .iaload, 1), (315, .aload_n 0, 1), (316, .iload_n 3, 1), (317, .iconst 3, 1), (318, .iadd, 1), (319, .iaload, 1), (320, .invokevirtual 13, 3), (323, .aload_n 2, 1), (324, .aload_n 0, 1), (325, .iload_n 3, 1), (326, .iconst 1, 1), (327, .iadd, 1), (328, .iaload, 1), (329, .aload_n 0, 1), (330, .iload_n 3, 1), (331, .iconst 2, 1)] = true := by decide +kernel
theorem kL_law_3 : zOk (zdec xL_law) [(332, .iadd, 1), (333, .iaload, 1), (334, .aload_n 0, 1), (335, .iload_n 3, 1), (336, .iconst 3, 1), (337, .iadd, 1), (338, .iaload, 1), (339, .invokevirtual 17, 3), (342, .if_icmp .eq 2003, 3), (345, .iconst 0, 1), (346, .ireturn, 1), (347, .aload_n 1, 1), (348, .aload_n 0, 1), (349, .iload_n 3, 1), (350, .iconst 1, 1), (351, .iadd, 1)] = true := by decide +kernel
theorem kL_law_4 : zOk (zdec xL_law) [(352, .iaload, 1), (353, .aload_n 0, 1), (354, .iload_n 3, 1), (355, .iconst 2, 1), (356, .iadd, 1), (357, .iaload, 1), (358, .aload_n 0, 1), (359, .iload_n 3, 1), (360, .iconst 3, 1), (361, .iadd, 1), (362, .iaload, 1), (363, .i2l, 1), (364, .bipush 32, 2), (366, .lshl, 1), (367, .aload_n 0, 1), (368, .iload_n 3, 1)] = true := by decide +kernel
theorem kL_law_5 : zOk (zdec xL_law) [(369, .iconst 4, 1), (370, .iadd, 1), (371, .iaload, 1), (372, .i2l, 1), (373, .ldc2_w 18, 3), (376, .land, 1), (377, .lor, 1), (378, .invokevirtual 20, 3), (381, .aload_n 2, 1), (382, .aload_n 0, 1), (383, .iload_n 3, 1), (384, .iconst 1, 1), (385, .iadd, 1), (386, .iaload, 1), (387, .aload_n 0, 1), (388, .iload_n 3, 1)] = true := by decide +kernel
theorem kL_law_6 : zOk (zdec xL_law) [(389, .iconst 2, 1), (390, .iadd, 1), (391, .iaload, 1), (392, .aload_n 0, 1), (393, .iload_n 3, 1), (394, .iconst 3, 1), (395, .iadd, 1), (396, .iaload, 1), (397, .i2l, 1), (398, .bipush 32, 2), (400, .lshl, 1), (401, .aload_n 0, 1), (402, .iload_n 3, 1), (403, .iconst 4, 1), (404, .iadd, 1), (405, .iaload, 1)] = true := by decide +kernel
theorem kL_law_7 : zOk (zdec xL_law) [(406, .i2l, 1), (407, .ldc2_w 18, 3), (410, .land, 1), (411, .lor, 1), (412, .invokevirtual 24, 3), (415, .if_icmp .eq 1930, 3), (418, .iconst 0, 1), (419, .ireturn, 1), (420, .aload_n 1, 1), (421, .aload_n 0, 1), (422, .iload_n 3, 1), (423, .iconst 1, 1), (424, .iadd, 1), (425, .iaload, 1), (426, .aload_n 0, 1), (427, .iload_n 3, 1)] = true := by decide +kernel
theorem kL_law_8 : zOk (zdec xL_law) [(428, .iconst 2, 1), (429, .iadd, 1), (430, .iaload, 1), (431, .aload_n 0, 1), (432, .iload_n 3, 1), (433, .iconst 3, 1), (434, .iadd, 1), (435, .iaload, 1), (436, .aload_n 0, 1), (437, .iload_n 3, 1), (438, .iconst 4, 1), (439, .iadd, 1), (440, .iaload, 1), (441, .aload_n 0, 1), (442, .iload_n 3, 1), (443, .iconst 5, 1)] = true := by decide +kernel
theorem kL_law_9 : zOk (zdec xL_law) [(444, .iadd, 1), (445, .iaload, 1), (446, .invokevirtual 25, 3), (449, .aload_n 2, 1), (450, .aload_n 0, 1), (451, .iload_n 3, 1), (452, .iconst 1, 1), (453, .iadd, 1), (454, .iaload, 1), (455, .aload_n 0, 1), (456, .iload_n 3, 1), (457, .iconst 2, 1), (458, .iadd, 1), (459, .iaload, 1), (460, .aload_n 0, 1), (461, .iload_n 3, 1)] = true := by decide +kernel
theorem kL_law_10 : zOk (zdec xL_law) [(462, .iconst 3, 1), (463, .iadd, 1), (464, .iaload, 1), (465, .aload_n 0, 1), (466, .iload_n 3, 1), (467, .iconst 4, 1), (468, .iadd, 1), (469, .iaload, 1), (470, .aload_n 0, 1), (471, .iload_n 3, 1), (472, .iconst 5, 1), (473, .iadd, 1), (474, .iaload, 1), (475, .invokevirtual 29, 3), (478, .if_icmp .eq 1867, 3), (481, .iconst 0, 1)] = true := by decide +kernel
theorem kL_law_11 : zOk (zdec xL_law) [(482, .ireturn, 1), (483, .aload_n 1, 1), (484, .aload_n 0, 1), (485, .iload_n 3, 1), (486, .iconst 1, 1), (487, .iadd, 1), (488, .iaload, 1), (489, .aload_n 0, 1), (490, .iload_n 3, 1), (491, .iconst 2, 1), (492, .iadd, 1), (493, .iaload, 1), (494, .invokevirtual 30, 3), (497, .aload_n 2, 1), (498, .aload_n 0, 1), (499, .iload_n 3, 1)] = true := by decide +kernel
theorem kL_law_12 : zOk (zdec xL_law) [(500, .iconst 1, 1), (501, .iadd, 1), (502, .iaload, 1), (503, .aload_n 0, 1), (504, .iload_n 3, 1), (505, .iconst 2, 1), (506, .iadd, 1), (507, .iaload, 1), (508, .invokevirtual 34, 3), (511, .lcmp, 1), (512, .ifCond .eq 1833, 3), (515, .iconst 0, 1), (516, .ireturn, 1), (517, .aload_n 1, 1), (518, .aload_n 0, 1), (519, .iload_n 3, 1)] = true := by decide +kernel
theorem kL_law_13 : zOk (zdec xL_law) [(520, .iconst 1, 1), (521, .iadd, 1), (522, .iaload, 1), (523, .invokevirtual 35, 3), (526, .aload_n 2, 1), (527, .aload_n 0, 1), (528, .iload_n 3, 1), (529, .iconst 1, 1), (530, .iadd, 1), (531, .iaload, 1), (532, .invokevirtual 39, 3), (535, .if_icmp .eq 1810, 3), (538, .iconst 0, 1), (539, .ireturn, 1), (540, .aload_n 1, 1), (541, .aload_n 0, 1)] = true := by decide +kernel
theorem kL_law_14 : zOk (zdec xL_law) [(542, .iload_n 3, 1), (543, .iconst 1, 1), (544, .iadd, 1), (545, .iaload, 1), (546, .aload_n 0, 1), (547, .iload_n 3, 1), (548, .iconst 2, 1), (549, .iadd, 1), (550, .iaload, 1), (551, .invokevirtual 40, 3), (554, .aload_n 2, 1), (555, .aload_n 0, 1), (556, .iload_n 3, 1), (557, .iconst 1, 1), (558, .iadd, 1), (559, .iaload, 1)] = true := by decide +kernel
theorem kL_law_15 : zOk (zdec xL_law) [(560, .aload_n 0, 1), (561, .iload_n 3, 1), (562, .iconst 2, 1), (563, .iadd, 1), (564, .iaload, 1), (565, .invokevirtual 44, 3), (568, .if_icmp .eq 1777, 3), (571, .iconst 0, 1), (572, .ireturn, 1), (573, .aload_n 1, 1), (574, .aload_n 0, 1), (575, .iload_n 3, 1), (576, .iconst 1, 1), (577, .iadd, 1), (578, .iaload, 1), (579, .aload_n 0, 1)] = true := by decide +kernel
theorem kL_law_16 : zOk (zdec xL_law) [(580, .iload_n 3, 1), (581, .iconst 2, 1), (582, .iadd, 1), (583, .iaload, 1), (584, .invokevirtual 45, 3), (587, .aload_n 2, 1), (588, .aload_n 0, 1), (589, .iload_n 3, 1), (590, .iconst 1, 1), (591, .iadd, 1), (592, .iaload, 1), (593, .aload_n 0, 1), (594, .iload_n 3, 1), (595, .iconst 2, 1), (596, .iadd, 1), (597, .iaload, 1)] = true := by decide +kernel
theorem kL_law_17 : zOk (zdec xL_law) [(598, .invokevirtual 48, 3), (601, .if_icmp .eq 1744, 3), (604, .iconst 0, 1), (605, .ireturn, 1), (606, .aload_n 1, 1), (607, .aload_n 0, 1), (608, .iload_n 3, 1), (609, .iconst 1, 1), (610, .iadd, 1), (611, .iaload, 1), (612, .invokevirtual 49, 3), (615, .aload_n 2, 1), (616, .aload_n 0, 1), (617, .iload_n 3, 1), (618, .iconst 1, 1), (619, .iadd, 1)] = true := by decide +kernel
theorem kL_law_18 : zOk (zdec xL_law) [(620, .iaload, 1), (621, .invokevirtual 52, 3), (624, .if_icmp .eq 1721, 3), (627, .iconst 0, 1), (628, .ireturn, 1), (629, .aload_n 1, 1), (630, .aload_n 0, 1), (631, .iload_n 3, 1), (632, .iconst 1, 1), (633, .iadd, 1), (634, .iaload, 1), (635, .aload_n 0, 1), (636, .iload_n 3, 1), (637, .iconst 2, 1), (638, .iadd, 1), (639, .iaload, 1)] = true := by decide +kernel
theorem kL_law_19 : zOk (zdec xL_law) [(640, .aload_n 0, 1), (641, .iload_n 3, 1), (642, .iconst 3, 1), (643, .iadd, 1), (644, .iaload, 1), (645, .aload_n 0, 1), (646, .iload_n 3, 1), (647, .iconst 4, 1), (648, .iadd, 1), (649, .iaload, 1), (650, .invokevirtual 53, 3), (653, .aload_n 2, 1), (654, .aload_n 0, 1), (655, .iload_n 3, 1), (656, .iconst 1, 1), (657, .iadd, 1)] = true := by decide +kernel
theorem kL_law_20 : zOk (zdec xL_law) [(658, .iaload, 1), (659, .aload_n 0, 1), (660, .iload_n 3, 1), (661, .iconst 2, 1), (662, .iadd, 1), (663, .iaload, 1), (664, .aload_n 0, 1), (665, .iload_n 3, 1), (666, .iconst 3, 1), (667, .iadd, 1), (668, .iaload, 1), (669, .aload_n 0, 1), (670, .iload_n 3, 1), (671, .iconst 4, 1), (672, .iadd, 1), (673, .iaload, 1)] = true := by decide +kernel
theorem kL_law_21 : zOk (zdec xL_law) [(674, .invokevirtual 57, 3), (677, .if_icmp .eq 1668, 3), (680, .iconst 0, 1), (681, .ireturn, 1), (682, .aload_n 1, 1), (683, .aload_n 0, 1), (684, .iload_n 3, 1), (685, .iconst 1, 1), (686, .iadd, 1), (687, .iaload, 1), (688, .aload_n 0, 1), (689, .iload_n 3, 1), (690, .iconst 2, 1), (691, .iadd, 1), (692, .iaload, 1), (693, .aload_n 0, 1)] = true := by decide +kernel
theorem kL_law_22 : zOk (zdec xL_law) [(694, .iload_n 3, 1), (695, .iconst 3, 1), (696, .iadd, 1), (697, .iaload, 1), (698, .invokevirtual 58, 3), (701, .aload_n 2, 1), (702, .aload_n 0, 1), (703, .iload_n 3, 1), (704, .iconst 1, 1), (705, .iadd, 1), (706, .iaload, 1), (707, .aload_n 0, 1), (708, .iload_n 3, 1), (709, .iconst 2, 1), (710, .iadd, 1), (711, .iaload, 1)] = true := by decide +kernel
theorem kL_law_23 : zOk (zdec xL_law) [(712, .aload_n 0, 1), (713, .iload_n 3, 1), (714, .iconst 3, 1), (715, .iadd, 1), (716, .iaload, 1), (717, .invokevirtual 61, 3), (720, .if_icmp .eq 1625, 3), (723, .iconst 0, 1), (724, .ireturn, 1), (725, .aload_n 1, 1), (726, .aload_n 0, 1), (727, .iload_n 3, 1), (728, .iconst 1, 1), (729, .iadd, 1), (730, .iaload, 1), (731, .aload_n 0, 1)] = true := by decide +kernel
theorem kL_law_24 : zOk (zdec xL_law) [(732, .iload_n 3, 1), (733, .iconst 2, 1), (734, .iadd, 1), (735, .iaload, 1), (736, .aload_n 0, 1), (737, .iload_n 3, 1), (738, .iconst 3, 1), (739, .iadd, 1), (740, .iaload, 1), (741, .invokevirtual 62, 3), (744, .aload_n 2, 1), (745, .aload_n 0, 1), (746, .iload_n 3, 1), (747, .iconst 1, 1), (748, .iadd, 1), (749, .iaload, 1)] = true := by decide +kernel
theorem kL_law_25 : zOk (zdec xL_law) [(750, .aload_n 0, 1), (751, .iload_n 3, 1), (752, .iconst 2, 1), (753, .iadd, 1), (754, .iaload, 1), (755, .aload_n 0, 1), (756, .iload_n 3, 1), (757, .iconst 3, 1), (758, .iadd, 1), (759, .iaload, 1), (760, .invokevirtual 65, 3), (763, .if_icmp .eq 1582, 3), (766, .iconst 0, 1), (767, .ireturn, 1), (768, .aload_n 1, 1), (769, .aload_n 0, 1)] = true := by decide +kernel
theorem kL_law_26 : zOk (zdec xL_law) [(770, .iload_n 3, 1), (771, .iconst 1, 1), (772, .iadd, 1), (773, .iaload, 1), (774, .aload_n 0, 1), (775, .iload_n 3, 1), (776, .iconst 2, 1), (777, .iadd, 1), (778, .iaload, 1), (779, .aload_n 0, 1), (780, .iload_n 3, 1), (781, .iconst 3, 1), (782, .iadd, 1), (783, .iaload, 1), (784, .ifCond .eq 7, 3), (787, .iconst 1, 1)] = true := by decide +kernel
theorem kL_law_27 : zOk (zdec xL_law) [(788, .goto 4, 3), (791, .iconst 0, 1), (792, .invokevirtual 66, 3), (795, .aload_n 2, 1), (796, .aload_n 0, 1), (797, .iload_n 3, 1), (798, .iconst 1, 1), (799, .iadd, 1), (800, .iaload, 1), (801, .aload_n 0, 1), (802, .iload_n 3, 1), (803, .iconst 2, 1), (804, .iadd, 1), (805, .iaload, 1), (806, .aload_n 0, 1), (807, .iload_n 3, 1)] = true := by decide +kernel
theorem kL_law_28 : zOk (zdec xL_law) [(808, .iconst 3, 1), (809, .iadd, 1), (810, .iaload, 1), (811, .ifCond .eq 7, 3), (814, .iconst 1, 1), (815, .goto 4, 3), (818, .iconst 0, 1), (819, .invokevirtual 70, 3), (822, .if_icmp .eq 1523, 3), (825, .iconst 0, 1), (826, .ireturn, 1), (827, .aload_n 1, 1), (828, .aload_n 0, 1), (829, .iload_n 3, 1), (830, .iconst 1, 1), (831, .iadd, 1)] = true := by decide +kernel
theorem kL_law_29 : zOk (zdec xL_law) [(832, .iaload, 1), (833, .invokevirtual 71, 3), (836, .aload_n 2, 1), (837, .aload_n 0, 1), (838, .iload_n 3, 1), (839, .iconst 1, 1), (840, .iadd, 1), (841, .iaload, 1), (842, .invokevirtual 74, 3), (845, .if_icmp .eq 1500, 3), (848, .iconst 0, 1), (849, .ireturn, 1), (850, .aload_n 1, 1), (851, .aload_n 0, 1), (852, .iload_n 3, 1), (853, .iconst 1, 1)] = true := by decide +kernel
theorem kL_law_30 : zOk (zdec xL_law) [(854, .iadd, 1), (855, .iaload, 1), (856, .ifCond .eq 7, 3), (859, .iconst 1, 1), (860, .goto 4, 3), (863, .iconst 0, 1), (864, .invokevirtual 75, 3), (867, .aload_n 2, 1), (868, .aload_n 0, 1), (869, .iload_n 3, 1), (870, .iconst 1, 1), (871, .iadd, 1), (872, .iaload, 1), (873, .ifCond .eq 7, 3), (876, .iconst 1, 1), (877, .goto 4, 3)] = true := by decide +kernel
theorem kL_law_31 : zOk (zdec xL_law) [(880, .iconst 0, 1), (881, .invokevirtual 79, 3), (884, .if_icmp .eq 1461, 3), (887, .iconst 0, 1), (888, .ireturn, 1), (889, .aload_n 1, 1), (890, .aload_n 0, 1), (891, .iload_n 3, 1), (892, .iconst 1, 1), (893, .iadd, 1), (894, .iaload, 1), (895, .invokevirtual 80, 3), (898, .aload_n 2, 1), (899, .aload_n 0, 1), (900, .iload_n 3, 1), (901, .iconst 1, 1)] = true := by decide +kernel
theorem kL_law_32 : zOk (zdec xL_law) [(902, .iadd, 1), (903, .iaload, 1), (904, .invokevirtual 83, 3), (907, .if_icmp .eq 1438, 3), (910, .iconst 0, 1), (911, .ireturn, 1), (912, .aload_n 1, 1), (913, .invokevirtual 84, 3), (916, .aload_n 2, 1), (917, .invokevirtual 88, 3), (920, .if_icmp .eq 1425, 3), (923, .iconst 0, 1), (924, .ireturn, 1), (925, .aload_n 1, 1), (926, .invokevirtual 89, 3), (929, .aload_n 2, 1)] = true := by decide +kernel
theorem kL_law_33 : zOk (zdec xL_law) [(930, .invokevirtual 92, 3), (933, .if_icmp .eq 1412, 3), (936, .iconst 0, 1), (937, .ireturn, 1), (938, .aload_n 1, 1), (939, .aload_n 0, 1), (940, .iload_n 3, 1), (941, .iconst 1, 1), (942, .iadd, 1), (943, .iaload, 1), (944, .aload_n 0, 1), (945, .iload_n 3, 1), (946, .iconst 2, 1), (947, .iadd, 1), (948, .iaload, 1), (949, .invokevirtual 93, 3)] = true := by decide +kernel
theorem kL_law_34 : zOk (zdec xL_law) [(952, .aload_n 2, 1), (953, .aload_n 0, 1), (954, .iload_n 3, 1), (955, .iconst 1, 1), (956, .iadd, 1), (957, .iaload, 1), (958, .aload_n 0, 1), (959, .iload_n 3, 1), (960, .iconst 2, 1), (961, .iadd, 1), (962, .iaload, 1), (963, .invokevirtual 96, 3), (966, .if_icmp .eq 1379, 3), (969, .iconst 0, 1), (970, .ireturn, 1), (971, .aload_n 1, 1)] = true := by decide +kernel
theorem kL_law_35 : zOk (zdec xL_law) [(972, .aload_n 0, 1), (973, .iload_n 3, 1), (974, .iconst 1, 1), (975, .iadd, 1), (976, .iaload, 1), (977, .aload_n 0, 1), (978, .iload_n 3, 1), (979, .iconst 2, 1), (980, .iadd, 1), (981, .iaload, 1), (982, .invokevirtual 97, 3), (985, .aload_n 2, 1), (986, .aload_n 0, 1), (987, .iload_n 3, 1), (988, .iconst 1, 1), (989, .iadd, 1)] = true := by decide +kernel
theorem kL_law_36 : zOk (zdec xL_law) [(990, .iaload, 1), (991, .aload_n 0, 1), (992, .iload_n 3, 1), (993, .iconst 2, 1), (994, .iadd, 1), (995, .iaload, 1), (996, .invokevirtual 100, 3), (999, .if_icmp .eq 1346, 3), (1002, .iconst 0, 1), (1003, .ireturn, 1), (1004, .aload_n 1, 1), (1005, .aload_n 0, 1), (1006, .iload_n 3, 1), (1007, .iconst 1, 1), (1008, .iadd, 1), (1009, .iaload, 1)] = true := by decide +kernel
theorem kL_law_37 : zOk (zdec xL_law) [(1010, .aload_n 0, 1), (1011, .iload_n 3, 1), (1012, .iconst 2, 1), (1013, .iadd, 1), (1014, .iaload, 1), (1015, .invokevirtual 101, 3), (1018, .aload_n 2, 1), (1019, .aload_n 0, 1), (1020, .iload_n 3, 1), (1021, .iconst 1, 1), (1022, .iadd, 1), (1023, .iaload, 1), (1024, .aload_n 0, 1), (1025, .iload_n 3, 1), (1026, .iconst 2, 1), (1027, .iadd, 1)] = true := by decide +kernel
theorem kL_law_38 : zOk (zdec xL_law) [(1028, .iaload, 1), (1029, .invokevirtual 104, 3), (1032, .if_icmp .eq 1313, 3), (1035, .iconst 0, 1), (1036, .ireturn, 1), (1037, .aload_n 1, 1), (1038, .aload_n 0, 1), (1039, .iload_n 3, 1), (1040, .iconst 1, 1), (1041, .iadd, 1), (1042, .iaload, 1), (1043, .aload_n 0, 1), (1044, .iload_n 3, 1), (1045, .iconst 2, 1), (1046, .iadd, 1), (1047, .iaload, 1)] = true := by decide +kernel
theorem kL_law_39 : zOk (zdec xL_law) [(1048, .invokevirtual 105, 3), (1051, .aload_n 2, 1), (1052, .aload_n 0, 1), (1053, .iload_n 3, 1), (1054, .iconst 1, 1), (1055, .iadd, 1), (1056, .iaload, 1), (1057, .aload_n 0, 1), (1058, .iload_n 3, 1), (1059, .iconst 2, 1), (1060, .iadd, 1), (1061, .iaload, 1), (1062, .invokevirtual 108, 3), (1065, .if_icmp .eq 1280, 3), (1068, .iconst 0, 1), (1069, .ireturn, 1)] = true := by decide +kernel
theorem kL_law_40 : zOk (zdec xL_law) [(1070, .aload_n 1, 1), (1071, .aload_n 0, 1), (1072, .iload_n 3, 1), (1073, .iconst 1, 1), (1074, .iadd, 1), (1075, .iaload, 1), (1076, .invokevirtual 109, 3), (1079, .aload_n 2, 1), (1080, .aload_n 0, 1), (1081, .iload_n 3, 1), (1082, .iconst 1, 1), (1083, .iadd, 1), (1084, .iaload, 1), (1085, .invokevirtual 112, 3), (1088, .if_icmp .eq 1257, 3), (1091, .iconst 0, 1)] = true := by decide +kernel
theorem kL_law_41 : zOk (zdec xL_law) [(1092, .ireturn, 1), (1093, .aload_n 1, 1), (1094, .aload_n 0, 1), (1095, .iload_n 3, 1), (1096, .iconst 1, 1), (1097, .iadd, 1), (1098, .iaload, 1), (1099, .invokevirtual 113, 3), (1102, .aload_n 2, 1), (1103, .aload_n 0, 1), (1104, .iload_n 3, 1), (1105, .iconst 1, 1), (1106, .iadd, 1), (1107, .iaload, 1), (1108, .invokevirtual 116, 3), (1111, .if_icmp .eq 1234, 3)] = true := by decide +kernel
theorem kL_law_42 : zOk (zdec xL_law) [(1114, .iconst 0, 1), (1115, .ireturn, 1), (1116, .aload_n 1, 1), (1117, .aload_n 0, 1), (1118, .iload_n 3, 1), (1119, .iconst 1, 1), (1120, .iadd, 1), (1121, .iaload, 1), (1122, .aload_n 0, 1), (1123, .iload_n 3, 1), (1124, .iconst 2, 1), (1125, .iadd, 1), (1126, .iaload, 1), (1127, .invokevirtual 117, 3), (1130, .aload_n 2, 1), (1131, .aload_n 0, 1)] = true := by decide +kernel
theorem kL_law_43 : zOk (zdec xL_law) [(1132, .iload_n 3, 1), (1133, .iconst 1, 1), (1134, .iadd, 1), (1135, .iaload, 1), (1136, .aload_n 0, 1), (1137, .iload_n 3, 1), (1138, .iconst 2, 1), (1139, .iadd, 1), (1140, .iaload, 1), (1141, .invokevirtual 120, 3), (1144, .if_icmp .eq 1201, 3), (1147, .iconst 0, 1), (1148, .ireturn, 1), (1149, .aload_n 1, 1), (1150, .aload_n 0, 1), (1151, .iload_n 3, 1)] = true := by decide +kernel
theorem kL_law_44 : zOk (zdec xL_law) [(1152, .iconst 1, 1), (1153, .iadd, 1), (1154, .iaload, 1), (1155, .invokevirtual 121, 3), (1158, .aload_n 2, 1), (1159, .aload_n 0, 1), (1160, .iload_n 3, 1), (1161, .iconst 1, 1), (1162, .iadd, 1), (1163, .iaload, 1), (1164, .invokevirtual 124, 3), (1167, .if_icmp .eq 1178, 3), (1170, .iconst 0, 1), (1171, .ireturn, 1), (1172, .aload_n 1, 1), (1173, .aload_n 0, 1)] = true := by decide +kernel
theorem kL_law_45 : zOk (zdec xL_law) [(1174, .iload_n 3, 1), (1175, .iconst 1, 1), (1176, .iadd, 1), (1177, .iaload, 1), (1178, .invokevirtual 125, 3), (1181, .aload_n 2, 1), (1182, .aload_n 0, 1), (1183, .iload_n 3, 1), (1184, .iconst 1, 1), (1185, .iadd, 1), (1186, .iaload, 1), (1187, .invokevirtual 128, 3), (1190, .if_icmp .eq 1155, 3), (1193, .iconst 0, 1), (1194, .ireturn, 1), (1195, .aload_n 1, 1)] = true := by decide +kernel
theorem kL_law_46 : zOk (zdec xL_law) [(1196, .aload_n 0, 1), (1197, .iload_n 3, 1), (1198, .iconst 1, 1), (1199, .iadd, 1), (1200, .iaload, 1), (1201, .invokevirtual 129, 3), (1204, .aload_n 2, 1), (1205, .aload_n 0, 1), (1206, .iload_n 3, 1), (1207, .iconst 1, 1), (1208, .iadd, 1), (1209, .iaload, 1), (1210, .invokevirtual 132, 3), (1213, .if_icmp .eq 1132, 3), (1216, .iconst 0, 1), (1217, .ireturn, 1)] = true := by decide +kernel
theorem kL_law_47 : zOk (zdec xL_law) [(1218, .aload_n 1, 1), (1219, .aload_n 0, 1), (1220, .iload_n 3, 1), (1221, .iconst 1, 1), (1222, .iadd, 1), (1223, .iaload, 1), (1224, .aload_n 0, 1), (1225, .iload_n 3, 1), (1226, .iconst 2, 1), (1227, .iadd, 1), (1228, .iaload, 1), (1229, .invokevirtual 133, 3), (1232, .aload_n 2, 1), (1233, .aload_n 0, 1), (1234, .iload_n 3, 1), (1235, .iconst 1, 1)] = true := by decide +kernel
theorem kL_law_48 : zOk (zdec xL_law) [(1236, .iadd, 1), (1237, .iaload, 1), (1238, .aload_n 0, 1), (1239, .iload_n 3, 1), (1240, .iconst 2, 1), (1241, .iadd, 1), (1242, .iaload, 1), (1243, .invokevirtual 136, 3), (1246, .if_icmp .eq 1099, 3), (1249, .iconst 0, 1), (1250, .ireturn, 1), (1251, .aload_n 1, 1), (1252, .aload_n 0, 1), (1253, .iload_n 3, 1), (1254, .iconst 1, 1), (1255, .iadd, 1)] = true := by decide +kernel
theorem kL_law_49 : zOk (zdec xL_law) [(1256, .iaload, 1), (1257, .aload_n 0, 1), (1258, .iload_n 3, 1), (1259, .iconst 2, 1), (1260, .iadd, 1), (1261, .iaload, 1), (1262, .aload_n 0, 1), (1263, .iload_n 3, 1), (1264, .iconst 3, 1), (1265, .iadd, 1), (1266, .iaload, 1), (1267, .invokevirtual 137, 3), (1270, .aload_n 2, 1), (1271, .aload_n 0, 1), (1272, .iload_n 3, 1), (1273, .iconst 1, 1)] = true := by decide +kernel
theorem kL_law_50 : zOk (zdec xL_law) [(1274, .iadd, 1), (1275, .iaload, 1), (1276, .aload_n 0, 1), (1277, .iload_n 3, 1), (1278, .iconst 2, 1), (1279, .iadd, 1), (1280, .iaload, 1), (1281, .aload_n 0, 1), (1282, .iload_n 3, 1), (1283, .iconst 3, 1), (1284, .iadd, 1), (1285, .iaload, 1), (1286, .invokevirtual 140, 3), (1289, .if_icmp .eq 1056, 3), (1292, .iconst 0, 1), (1293, .ireturn, 1)] = true := by decide +kernel
theorem kL_law_51 : zOk (zdec xL_law) [(1294, .aload_n 1, 1), (1295, .aload_n 0, 1), (1296, .iload_n 3, 1), (1297, .iconst 1, 1), (1298, .iadd, 1), (1299, .iaload, 1), (1300, .aload_n 0, 1), (1301, .iload_n 3, 1), (1302, .iconst 2, 1), (1303, .iadd, 1), (1304, .iaload, 1), (1305, .invokevirtual 141, 3), (1308, .aload_n 2, 1), (1309, .aload_n 0, 1), (1310, .iload_n 3, 1), (1311, .iconst 1, 1)] = true := by decide +kernel
theorem kL_law_52 : zOk (zdec xL_law) [(1312, .iadd, 1), (1313, .iaload, 1), (1314, .aload_n 0, 1), (1315, .iload_n 3, 1), (1316, .iconst 2, 1), (1317, .iadd, 1), (1318, .iaload, 1), (1319, .invokevirtual 144, 3), (1322, .if_icmp .eq 1023, 3), (1325, .iconst 0, 1), (1326, .ireturn, 1), (1327, .aload_n 1, 1), (1328, .aload_n 0, 1), (1329, .iload_n 3, 1), (1330, .iconst 1, 1), (1331, .iadd, 1)] = true := by decide +kernel
theorem kL_law_53 : zOk (zdec xL_law) [(1332, .iaload, 1), (1333, .aload_n 0, 1), (1334, .iload_n 3, 1), (1335, .iconst 2, 1), (1336, .iadd, 1), (1337, .iaload, 1), (1338, .invokevirtual 145, 3), (1341, .aload_n 2, 1), (1342, .aload_n 0, 1), (1343, .iload_n 3, 1), (1344, .iconst 1, 1), (1345, .iadd, 1), (1346, .iaload, 1), (1347, .aload_n 0, 1), (1348, .iload_n 3, 1), (1349, .iconst 2, 1)] = true := by decide +kernel
theorem kL_law_54 : zOk (zdec xL_law) [(1350, .iadd, 1), (1351, .iaload, 1), (1352, .invokevirtual 148, 3), (1355, .if_icmp .eq 990, 3), (1358, .iconst 0, 1), (1359, .ireturn, 1), (1360, .aload_n 1, 1), (1361, .aload_n 0, 1), (1362, .iload_n 3, 1), (1363, .iconst 1, 1), (1364, .iadd, 1), (1365, .iaload, 1), (1366, .aload_n 0, 1), (1367, .iload_n 3, 1), (1368, .iconst 2, 1), (1369, .iadd, 1)] = true := by decide +kernel
theorem kL_law_55 : zOk (zdec xL_law) [(1370, .iaload, 1), (1371, .aload_n 0, 1), (1372, .iload_n 3, 1), (1373, .iconst 3, 1), (1374, .iadd, 1), (1375, .iaload, 1), (1376, .aload_n 0, 1), (1377, .iload_n 3, 1), (1378, .iconst 4, 1), (1379, .iadd, 1), (1380, .iaload, 1), (1381, .invokevirtual 149, 3), (1384, .aload_n 2, 1), (1385, .aload_n 0, 1), (1386, .iload_n 3, 1), (1387, .iconst 1, 1)] = true := by decide +kernel
theorem kL_law_56 : zOk (zdec xL_law) [(1388, .iadd, 1), (1389, .iaload, 1), (1390, .aload_n 0, 1), (1391, .iload_n 3, 1), (1392, .iconst 2, 1), (1393, .iadd, 1), (1394, .iaload, 1), (1395, .aload_n 0, 1), (1396, .iload_n 3, 1), (1397, .iconst 3, 1), (1398, .iadd, 1), (1399, .iaload, 1), (1400, .aload_n 0, 1), (1401, .iload_n 3, 1), (1402, .iconst 4, 1), (1403, .iadd, 1)] = true := by decide +kernel
theorem kL_law_57 : zOk (zdec xL_law) [(1404, .iaload, 1), (1405, .invokevirtual 152, 3), (1408, .if_icmp .eq 937, 3), (1411, .iconst 0, 1), (1412, .ireturn, 1), (1413, .aload_n 1, 1), (1414, .aload_n 0, 1), (1415, .iload_n 3, 1), (1416, .iconst 1, 1), (1417, .iadd, 1), (1418, .iaload, 1), (1419, .aload_n 0, 1), (1420, .iload_n 3, 1), (1421, .iconst 2, 1), (1422, .iadd, 1), (1423, .iaload, 1)] = true := by decide +kernel
theorem kL_law_58 : zOk (zdec xL_law) [(1424, .aload_n 0, 1), (1425, .iload_n 3, 1), (1426, .iconst 3, 1), (1427, .iadd, 1), (1428, .iaload, 1), (1429, .aload_n 0, 1), (1430, .iload_n 3, 1), (1431, .iconst 4, 1), (1432, .iadd, 1), (1433, .iaload, 1), (1434, .invokevirtual 153, 3), (1437, .aload_n 2, 1), (1438, .aload_n 0, 1), (1439, .iload_n 3, 1), (1440, .iconst 1, 1), (1441, .iadd, 1)] = true := by decide +kernel
theorem kL_law_59 : zOk (zdec xL_law) [(1442, .iaload, 1), (1443, .aload_n 0, 1), (1444, .iload_n 3, 1), (1445, .iconst 2, 1), (1446, .iadd, 1), (1447, .iaload, 1), (1448, .aload_n 0, 1), (1449, .iload_n 3, 1), (1450, .iconst 3, 1), (1451, .iadd, 1), (1452, .iaload, 1), (1453, .aload_n 0, 1), (1454, .iload_n 3, 1), (1455, .iconst 4, 1), (1456, .iadd, 1), (1457, .iaload, 1)] = true := by decide +kernel
theorem kL_law_60 : zOk (zdec xL_law) [(1458, .invokevirtual 156, 3), (1461, .if_icmp .eq 884, 3), (1464, .iconst 0, 1), (1465, .ireturn, 1), (1466, .aload_n 1, 1), (1467, .aload_n 0, 1), (1468, .iload_n 3, 1), (1469, .iconst 1, 1), (1470, .iadd, 1), (1471, .iaload, 1), (1472, .aload_n 0, 1), (1473, .iload_n 3, 1), (1474, .iconst 2, 1), (1475, .iadd, 1), (1476, .iaload, 1), (1477, .aload_n 0, 1)] = true := by decide +kernel
theorem kL_law_61 : zOk (zdec xL_law) [(1478, .iload_n 3, 1), (1479, .iconst 3, 1), (1480, .iadd, 1), (1481, .iaload, 1), (1482, .invokevirtual 157, 3), (1485, .aload_n 2, 1), (1486, .aload_n 0, 1), (1487, .iload_n 3, 1), (1488, .iconst 1, 1), (1489, .iadd, 1), (1490, .iaload, 1), (1491, .aload_n 0, 1), (1492, .iload_n 3, 1), (1493, .iconst 2, 1), (1494, .iadd, 1), (1495, .iaload, 1)] = true := by decide +kernel
theorem kL_law_62 : zOk (zdec xL_law) [(1496, .aload_n 0, 1), (1497, .iload_n 3, 1), (1498, .iconst 3, 1), (1499, .iadd, 1), (1500, .iaload, 1), (1501, .invokevirtual 160, 3), (1504, .if_icmp .eq 841, 3), (1507, .iconst 0, 1), (1508, .ireturn, 1), (1509, .aload_n 1, 1), (1510, .aload_n 0, 1), (1511, .iload_n 3, 1), (1512, .iconst 1, 1), (1513, .iadd, 1), (1514, .iaload, 1), (1515, .aload_n 0, 1)] = true := by decide +kernel
theorem kL_law_63 : zOk (zdec xL_law) [(1516, .iload_n 3, 1), (1517, .iconst 2, 1), (1518, .iadd, 1), (1519, .iaload, 1), (1520, .aload_n 0, 1), (1521, .iload_n 3, 1), (1522, .iconst 3, 1), (1523, .iadd, 1), (1524, .iaload, 1), (1525, .invokevirtual 161, 3), (1528, .aload_n 2, 1), (1529, .aload_n 0, 1), (1530, .iload_n 3, 1), (1531, .iconst 1, 1), (1532, .iadd, 1), (1533, .iaload, 1)] = true := by decide +kernel
theorem kL_law_64 : zOk (zdec xL_law) [(1534, .aload_n 0, 1), (1535, .iload_n 3, 1), (1536, .iconst 2, 1), (1537, .iadd, 1), (1538, .iaload, 1), (1539, .aload_n 0, 1), (1540, .iload_n 3, 1), (1541, .iconst 3, 1), (1542, .iadd, 1), (1543, .iaload, 1), (1544, .invokevirtual 164, 3), (1547, .if_icmp .eq 798, 3), (1550, .iconst 0, 1), (1551, .ireturn, 1), (1552, .aload_n 1, 1), (1553, .aload_n 0, 1)] = true := by decide +kernel
theorem kL_law_65 : zOk (zdec xL_law) [(1554, .iload_n 3, 1), (1555, .iconst 1, 1), (1556, .iadd, 1), (1557, .iaload, 1), (1558, .aload_n 0, 1), (1559, .iload_n 3, 1), (1560, .iconst 2, 1), (1561, .iadd, 1), (1562, .iaload, 1), (1563, .aload_n 0, 1), (1564, .iload_n 3, 1), (1565, .iconst 3, 1), (1566, .iadd, 1), (1567, .iaload, 1), (1568, .aload_n 0, 1), (1569, .iload_n 3, 1)] = true := by decide +kernel
theorem kL_law_66 : zOk (zdec xL_law) [(1570, .iconst 4, 1), (1571, .iadd, 1), (1572, .iaload, 1), (1573, .aload_n 0, 1), (1574, .iload_n 3, 1), (1575, .iconst 5, 1), (1576, .iadd, 1), (1577, .iaload, 1), (1578, .invokevirtual 165, 3), (1581, .aload_n 2, 1), (1582, .aload_n 0, 1), (1583, .iload_n 3, 1), (1584, .iconst 1, 1), (1585, .iadd, 1), (1586, .iaload, 1), (1587, .aload_n 0, 1)] = true := by decide +kernel
theorem kL_law_67 : zOk (zdec xL_law) [(1588, .iload_n 3, 1), (1589, .iconst 2, 1), (1590, .iadd, 1), (1591, .iaload, 1), (1592, .aload_n 0, 1), (1593, .iload_n 3, 1), (1594, .iconst 3, 1), (1595, .iadd, 1), (1596, .iaload, 1), (1597, .aload_n 0, 1), (1598, .iload_n 3, 1), (1599, .iconst 4, 1), (1600, .iadd, 1), (1601, .iaload, 1), (1602, .aload_n 0, 1), (1603, .iload_n 3, 1)] = true := by decide +kernel
theorem kL_law_68 : zOk (zdec xL_law) [(1604, .iconst 5, 1), (1605, .iadd, 1), (1606, .iaload, 1), (1607, .invokevirtual 168, 3), (1610, .if_icmp .eq 735, 3), (1613, .iconst 0, 1), (1614, .ireturn, 1), (1615, .aload_n 1, 1), (1616, .aload_n 0, 1), (1617, .iload_n 3, 1), (1618, .iconst 1, 1), (1619, .iadd, 1), (1620, .iaload, 1), (1621, .aload_n 0, 1), (1622, .iload_n 3, 1), (1623, .iconst 2, 1)] = true := by decide +kernel
theorem kL_law_69 : zOk (zdec xL_law) [(1624, .iadd, 1), (1625, .iaload, 1), (1626, .aload_n 0, 1), (1627, .iload_n 3, 1), (1628, .iconst 3, 1), (1629, .iadd, 1), (1630, .iaload, 1), (1631, .aload_n 0, 1), (1632, .iload_n 3, 1), (1633, .iconst 4, 1), (1634, .iadd, 1), (1635, .iaload, 1), (1636, .aload_n 0, 1), (1637, .iload_n 3, 1), (1638, .iconst 5, 1), (1639, .iadd, 1)] = true := by decide +kernel
theorem kL_law_70 : zOk (zdec xL_law) [(1640, .iaload, 1), (1641, .invokevirtual 169, 3), (1644, .aload_n 2, 1), (1645, .aload_n 0, 1), (1646, .iload_n 3, 1), (1647, .iconst 1, 1), (1648, .iadd, 1), (1649, .iaload, 1), (1650, .aload_n 0, 1), (1651, .iload_n 3, 1), (1652, .iconst 2, 1), (1653, .iadd, 1), (1654, .iaload, 1), (1655, .aload_n 0, 1), (1656, .iload_n 3, 1), (1657, .iconst 3, 1)] = true := by decide +kernel
theorem kL_law_71 : zOk (zdec xL_law) [(1658, .iadd, 1), (1659, .iaload, 1), (1660, .aload_n 0, 1), (1661, .iload_n 3, 1), (1662, .iconst 4, 1), (1663, .iadd, 1), (1664, .iaload, 1), (1665, .aload_n 0, 1), (1666, .iload_n 3, 1), (1667, .iconst 5, 1), (1668, .iadd, 1), (1669, .iaload, 1), (1670, .invokevirtual 172, 3), (1673, .if_icmp .eq 672, 3), (1676, .iconst 0, 1), (1677, .ireturn, 1)] = true := by decide +kernel
theorem kL_law_72 : zOk (zdec xL_law) [(1678, .aload_n 1, 1), (1679, .aload_n 0, 1), (1680, .iload_n 3, 1), (1681, .iconst 1, 1), (1682, .iadd, 1), (1683, .iaload, 1), (1684, .aload_n 0, 1), (1685, .iload_n 3, 1), (1686, .iconst 2, 1), (1687, .iadd, 1), (1688, .iaload, 1), (1689, .invokevirtual 173, 3), (1692, .aload_n 2, 1), (1693, .aload_n 0, 1), (1694, .iload_n 3, 1), (1695, .iconst 1, 1)] = true := by decide +kernel
theorem kL_law_73 : zOk (zdec xL_law) [(1696, .iadd, 1), (1697, .iaload, 1), (1698, .aload_n 0, 1), (1699, .iload_n 3, 1), (1700, .iconst 2, 1), (1701, .iadd, 1), (1702, .iaload, 1), (1703, .invokevirtual 176, 3), (1706, .if_icmp .eq 639, 3), (1709, .iconst 0, 1), (1710, .ireturn, 1), (1711, .aload_n 1, 1), (1712, .aload_n 0, 1), (1713, .iload_n 3, 1), (1714, .iconst 1, 1), (1715, .iadd, 1)] = true := by decide +kernel
theorem kL_law_74 : zOk (zdec xL_law) [(1716, .iaload, 1), (1717, .invokevirtual 177, 3), (1720, .aload_n 2, 1), (1721, .aload_n 0, 1), (1722, .iload_n 3, 1), (1723, .iconst 1, 1), (1724, .iadd, 1), (1725, .iaload, 1), (1726, .invokevirtual 180, 3), (1729, .if_icmp .eq 616, 3), (1732, .iconst 0, 1), (1733, .ireturn, 1), (1734, .aload_n 1, 1), (1735, .aload_n 0, 1), (1736, .iload_n 3, 1), (1737, .iconst 1, 1)] = true := by decide +kernel
theorem kL_law_75 : zOk (zdec xL_law) [(1738, .iadd, 1), (1739, .iaload, 1), (1740, .invokevirtual 181, 3), (1743, .aload_n 2, 1), (1744, .aload_n 0, 1), (1745, .iload_n 3, 1), (1746, .iconst 1, 1), (1747, .iadd, 1), (1748, .iaload, 1), (1749, .invokevirtual 184, 3), (1752, .if_icmp .eq 593, 3), (1755, .iconst 0, 1), (1756, .ireturn, 1), (1757, .aload_n 1, 1), (1758, .invokevirtual 185, 3), (1761, .aload_n 2, 1)] = true := by decide +kernel
theorem kL_law_76 : zOk (zdec xL_law) [(1762, .invokevirtual 188, 3), (1765, .if_icmp .eq 580, 3), (1768, .iconst 0, 1), (1769, .ireturn, 1), (1770, .aload_n 1, 1), (1771, .aload_n 0, 1), (1772, .iload_n 3, 1), (1773, .iconst 1, 1), (1774, .iadd, 1), (1775, .iaload, 1), (1776, .aload_n 0, 1), (1777, .iload_n 3, 1), (1778, .iconst 2, 1), (1779, .iadd, 1), (1780, .iaload, 1), (1781, .invokevirtual 189, 3)] = true := by decide +kernel
theorem kL_law_77 : zOk (zdec xL_law) [(1784, .aload_n 2, 1), (1785, .aload_n 0, 1), (1786, .iload_n 3, 1), (1787, .iconst 1, 1), (1788, .iadd, 1), (1789, .iaload, 1), (1790, .aload_n 0, 1), (1791, .iload_n 3, 1), (1792, .iconst 2, 1), (1793, .iadd, 1), (1794, .iaload, 1), (1795, .invokevirtual 192, 3), (1798, .if_icmp .eq 547, 3), (1801, .iconst 0, 1), (1802, .ireturn, 1), (1803, .aload_n 1, 1)] = true := by decide +kernel
theorem kL_law_78 : zOk (zdec xL_law) [(1804, .aload_n 0, 1), (1805, .iload_n 3, 1), (1806, .iconst 1, 1), (1807, .iadd, 1), (1808, .iaload, 1), (1809, .aload_n 0, 1), (1810, .iload_n 3, 1), (1811, .iconst 2, 1), (1812, .iadd, 1), (1813, .iaload, 1), (1814, .invokevirtual 193, 3), (1817, .aload_n 2, 1), (1818, .aload_n 0, 1), (1819, .iload_n 3, 1), (1820, .iconst 1, 1), (1821, .iadd, 1)] = true := by decide +kernel
theorem kL_law_79 : zOk (zdec xL_law) [(1822, .iaload, 1), (1823, .aload_n 0, 1), (1824, .iload_n 3, 1), (1825, .iconst 2, 1), (1826, .iadd, 1), (1827, .iaload, 1), (1828, .invokevirtual 196, 3), (1831, .if_icmp .eq 514, 3), (1834, .iconst 0, 1), (1835, .ireturn, 1), (1836, .aload_n 1, 1), (1837, .invokevirtual 197, 3), (1840, .aload_n 2, 1), (1841, .invokevirtual 200, 3), (1844, .if_icmp .eq 501, 3), (1847, .iconst 0, 1)] = true := by decide +kernel
theorem kL_law_80 : zOk (zdec xL_law) [(1848, .ireturn, 1), (1849, .aload_n 1, 1), (1850, .invokevirtual 201, 3), (1853, .aload_n 2, 1), (1854, .invokevirtual 204, 3), (1857, .if_icmp .eq 488, 3), (1860, .iconst 0, 1), (1861, .ireturn, 1), (1862, .aload_n 1, 1), (1863, .invokevirtual 205, 3), (1866, .aload_n 2, 1), (1867, .invokevirtual 208, 3), (1870, .if_icmp .eq 475, 3), (1873, .iconst 0, 1), (1874, .ireturn, 1), (1875, .aload_n 1, 1)] = true := by decide +kernel
theorem kL_law_81 : zOk (zdec xL_law) [(1876, .aload_n 0, 1), (1877, .iload_n 3, 1), (1878, .iconst 1, 1), (1879, .iadd, 1), (1880, .iaload, 1), (1881, .aload_n 0, 1), (1882, .iload_n 3, 1), (1883, .iconst 2, 1), (1884, .iadd, 1), (1885, .iaload, 1), (1886, .invokevirtual 209, 3), (1889, .aload_n 2, 1), (1890, .aload_n 0, 1), (1891, .iload_n 3, 1), (1892, .iconst 1, 1), (1893, .iadd, 1)] = true := by decide +kernel
theorem kL_law_82 : zOk (zdec xL_law) [(1894, .iaload, 1), (1895, .aload_n 0, 1), (1896, .iload_n 3, 1), (1897, .iconst 2, 1), (1898, .iadd, 1), (1899, .iaload, 1), (1900, .invokevirtual 212, 3), (1903, .if_icmp .eq 442, 3), (1906, .iconst 0, 1), (1907, .ireturn, 1), (1908, .aload_n 1, 1), (1909, .aload_n 0, 1), (1910, .iload_n 3, 1), (1911, .iconst 1, 1), (1912, .iadd, 1), (1913, .iaload, 1)] = true := by decide +kernel
theorem kL_law_83 : zOk (zdec xL_law) [(1914, .aload_n 0, 1), (1915, .iload_n 3, 1), (1916, .iconst 2, 1), (1917, .iadd, 1), (1918, .iaload, 1), (1919, .invokevirtual 213, 3), (1922, .aload_n 2, 1), (1923, .aload_n 0, 1), (1924, .iload_n 3, 1), (1925, .iconst 1, 1), (1926, .iadd, 1), (1927, .iaload, 1), (1928, .aload_n 0, 1), (1929, .iload_n 3, 1), (1930, .iconst 2, 1), (1931, .iadd, 1)] = true := by decide +kernel
theorem kL_law_84 : zOk (zdec xL_law) [(1932, .iaload, 1), (1933, .invokevirtual 216, 3), (1936, .if_icmp .eq 409, 3), (1939, .iconst 0, 1), (1940, .ireturn, 1), (1941, .aload_n 1, 1), (1942, .aload_n 0, 1), (1943, .iload_n 3, 1), (1944, .iconst 1, 1), (1945, .iadd, 1), (1946, .iaload, 1), (1947, .aload_n 0, 1), (1948, .iload_n 3, 1), (1949, .iconst 2, 1), (1950, .iadd, 1), (1951, .iaload, 1)] = true := by decide +kernel
theorem kL_law_85 : zOk (zdec xL_law) [(1952, .invokevirtual 217, 3), (1955, .aload_n 2, 1), (1956, .aload_n 0, 1), (1957, .iload_n 3, 1), (1958, .iconst 1, 1), (1959, .iadd, 1), (1960, .iaload, 1), (1961, .aload_n 0, 1), (1962, .iload_n 3, 1), (1963, .iconst 2, 1), (1964, .iadd, 1), (1965, .iaload, 1), (1966, .invokevirtual 220, 3), (1969, .if_icmp .eq 376, 3), (1972, .iconst 0, 1), (1973, .ireturn, 1)] = true := by decide +kernel
theorem kL_law_86 : zOk (zdec xL_law) [(1974, .aload_n 1, 1), (1975, .aload_n 0, 1), (1976, .iload_n 3, 1), (1977, .iconst 1, 1), (1978, .iadd, 1), (1979, .iaload, 1), (1980, .invokevirtual 221, 3), (1983, .aload_n 2, 1), (1984, .aload_n 0, 1), (1985, .iload_n 3, 1), (1986, .iconst 1, 1), (1987, .iadd, 1), (1988, .iaload, 1), (1989, .invokevirtual 224, 3), (1992, .if_icmp .eq 353, 3), (1995, .iconst 0, 1)] = true := by decide +kernel
theorem kL_law_87 : zOk (zdec xL_law) [(1996, .ireturn, 1), (1997, .aload_n 1, 1), (1998, .aload_n 0, 1), (1999, .iload_n 3, 1), (2000, .iconst 1, 1), (2001, .iadd, 1), (2002, .iaload, 1), (2003, .invokevirtual 225, 3), (2006, .aload_n 2, 1), (2007, .aload_n 0, 1), (2008, .iload_n 3, 1), (2009, .iconst 1, 1), (2010, .iadd, 1), (2011, .iaload, 1), (2012, .invokevirtual 228, 3), (2015, .if_icmp .eq 330, 3)] = true := by decide +kernel
theorem kL_law_88 : zOk (zdec xL_law) [(2018, .iconst 0, 1), (2019, .ireturn, 1), (2020, .aload_n 1, 1), (2021, .aload_n 0, 1), (2022, .iload_n 3, 1), (2023, .iconst 1, 1), (2024, .iadd, 1), (2025, .iaload, 1), (2026, .invokevirtual 229, 3), (2029, .aload_n 2, 1), (2030, .aload_n 0, 1), (2031, .iload_n 3, 1), (2032, .iconst 1, 1), (2033, .iadd, 1), (2034, .iaload, 1), (2035, .invokevirtual 232, 3)] = true := by decide +kernel
theorem kL_law_89 : zOk (zdec xL_law) [(2038, .if_icmp .eq 307, 3), (2041, .iconst 0, 1), (2042, .ireturn, 1), (2043, .aload_n 1, 1), (2044, .aload_n 0, 1), (2045, .iload_n 3, 1), (2046, .iconst 1, 1), (2047, .iadd, 1), (2048, .iaload, 1), (2049, .aload_n 0, 1), (2050, .iload_n 3, 1), (2051, .iconst 2, 1), (2052, .iadd, 1), (2053, .iaload, 1), (2054, .invokevirtual 233, 3), (2057, .aload_n 2, 1)] = true := by decide +kernel
theorem kL_law_90 : zOk (zdec xL_law) [(2058, .aload_n 0, 1), (2059, .iload_n 3, 1), (2060, .iconst 1, 1), (2061, .iadd, 1), (2062, .iaload, 1), (2063, .aload_n 0, 1), (2064, .iload_n 3, 1), (2065, .iconst 2, 1), (2066, .iadd, 1), (2067, .iaload, 1), (2068, .invokevirtual 236, 3), (2071, .if_icmp .eq 274, 3), (2074, .iconst 0, 1), (2075, .ireturn, 1), (2076, .aload_n 1, 1), (2077, .aload_n 0, 1)] = true := by decide +kernel
theorem kL_law_91 : zOk (zdec xL_law) [(2078, .iload_n 3, 1), (2079, .iconst 1, 1), (2080, .iadd, 1), (2081, .iaload, 1), (2082, .invokevirtual 237, 3), (2085, .aload_n 2, 1), (2086, .aload_n 0, 1), (2087, .iload_n 3, 1), (2088, .iconst 1, 1), (2089, .iadd, 1), (2090, .iaload, 1), (2091, .invokevirtual 240, 3), (2094, .if_icmp .eq 251, 3), (2097, .iconst 0, 1), (2098, .ireturn, 1), (2099, .aload_n 1, 1)] = true := by decide +kernel
theorem kL_law_92 : zOk (zdec xL_law) [(2100, .aload_n 0, 1), (2101, .iload_n 3, 1), (2102, .iconst 1, 1), (2103, .iadd, 1), (2104, .iaload, 1), (2105, .aload_n 0, 1), (2106, .iload_n 3, 1), (2107, .iconst 2, 1), (2108, .iadd, 1), (2109, .iaload, 1), (2110, .invokevirtual 241, 3), (2113, .aload_n 2, 1), (2114, .aload_n 0, 1), (2115, .iload_n 3, 1), (2116, .iconst 1, 1), (2117, .iadd, 1)] = true := by decide +kernel
theorem kL_law_93 : zOk (zdec xL_law) [(2118, .iaload, 1), (2119, .aload_n 0, 1), (2120, .iload_n 3, 1), (2121, .iconst 2, 1), (2122, .iadd, 1), (2123, .iaload, 1), (2124, .invokevirtual 244, 3), (2127, .if_icmp .eq 218, 3), (2130, .iconst 0, 1), (2131, .ireturn, 1), (2132, .aload_n 1, 1), (2133, .aload_n 0, 1), (2134, .iload_n 3, 1), (2135, .iconst 1, 1), (2136, .iadd, 1), (2137, .iaload, 1)] = true := by decide +kernel
theorem kL_law_94 : zOk (zdec xL_law) [(2138, .invokevirtual 245, 3), (2141, .aload_n 2, 1), (2142, .aload_n 0, 1), (2143, .iload_n 3, 1), (2144, .iconst 1, 1), (2145, .iadd, 1), (2146, .iaload, 1), (2147, .invokevirtual 248, 3), (2150, .if_icmp .eq 195, 3), (2153, .iconst 0, 1), (2154, .ireturn, 1), (2155, .aload_n 1, 1), (2156, .aload_n 0, 1), (2157, .iload_n 3, 1), (2158, .iconst 1, 1), (2159, .iadd, 1)] = true := by decide +kernel
theorem kL_law_95 : zOk (zdec xL_law) [(2160, .iaload, 1), (2161, .invokevirtual 249, 3), (2164, .aload_n 2, 1), (2165, .aload_n 0, 1), (2166, .iload_n 3, 1), (2167, .iconst 1, 1), (2168, .iadd, 1), (2169, .iaload, 1), (2170, .invokevirtual 252, 3), (2173, .if_icmp .eq 172, 3), (2176, .iconst 0, 1), (2177, .ireturn, 1), (2178, .aload_n 1, 1), (2179, .aload_n 0, 1), (2180, .iload_n 3, 1), (2181, .iconst 1, 1)] = true := by decide +kernel
theorem kL_law_96 : zOk (zdec xL_law) [(2182, .iadd, 1), (2183, .iaload, 1), (2184, .aload_n 0, 1), (2185, .iload_n 3, 1), (2186, .iconst 2, 1), (2187, .iadd, 1), (2188, .iaload, 1), (2189, .invokevirtual 253, 3), (2192, .aload_n 2, 1), (2193, .aload_n 0, 1), (2194, .iload_n 3, 1), (2195, .iconst 1, 1), (2196, .iadd, 1), (2197, .iaload, 1), (2198, .aload_n 0, 1), (2199, .iload_n 3, 1)] = true := by decide +kernel
theorem kL_law_97 : zOk (zdec xL_law) [(2200, .iconst 2, 1), (2201, .iadd, 1), (2202, .iaload, 1), (2203, .invokevirtual 256, 3), (2206, .if_icmp .eq 139, 3), (2209, .iconst 0, 1), (2210, .ireturn, 1), (2211, .aload_n 1, 1), (2212, .aload_n 0, 1), (2213, .iload_n 3, 1), (2214, .iconst 1, 1), (2215, .iadd, 1), (2216, .iaload, 1), (2217, .ifCond .eq 7, 3), (2220, .iconst 1, 1), (2221, .goto 4, 3)] = true := by decide +kernel
theorem kL_law_98 : zOk (zdec xL_law) [(2224, .iconst 0, 1), (2225, .invokevirtual 257, 3), (2228, .aload_n 2, 1), (2229, .aload_n 0, 1), (2230, .iload_n 3, 1), (2231, .iconst 1, 1), (2232, .iadd, 1), (2233, .iaload, 1), (2234, .ifCond .eq 7, 3), (2237, .iconst 1, 1), (2238, .goto 4, 3), (2241, .iconst 0, 1), (2242, .invokevirtual 260, 3), (2245, .if_icmp .eq 100, 3), (2248, .iconst 0, 1), (2249, .ireturn, 1)] = true := by decide +kernel
theorem kL_law_99 : zOk (zdec xL_law) [(2250, .aload_n 1, 1), (2251, .aload_n 0, 1), (2252, .iload_n 3, 1), (2253, .iconst 1, 1), (2254, .iadd, 1), (2255, .iaload, 1), (2256, .invokevirtual 261, 3), (2259, .aload_n 2, 1), (2260, .aload_n 0, 1), (2261, .iload_n 3, 1), (2262, .iconst 1, 1), (2263, .iadd, 1), (2264, .iaload, 1), (2265, .invokevirtual 264, 3), (2268, .if_icmp .eq 77, 3), (2271, .iconst 0, 1)] = true := by decide +kernel
theorem kL_law_100 : zOk (zdec xL_law) [(2272, .ireturn, 1), (2273, .aload_n 1, 1), (2274, .aload_n 0, 1), (2275, .iload_n 3, 1), (2276, .iconst 1, 1), (2277, .iadd, 1), (2278, .iaload, 1), (2279, .invokevirtual 265, 3), (2282, .aload_n 2, 1), (2283, .aload_n 0, 1), (2284, .iload_n 3, 1), (2285, .iconst 1, 1), (2286, .iadd, 1), (2287, .iaload, 1), (2288, .invokevirtual 268, 3), (2291, .if_icmp .eq 54, 3)] = true := by decide +kernel
theorem kL_law_101 : zOk (zdec xL_law) [(2294, .iconst 0, 1), (2295, .ireturn, 1), (2296, .aload_n 1, 1), (2297, .invokevirtual 269, 3), (2300, .aload_n 2, 1), (2301, .invokevirtual 272, 3), (2304, .if_icmp .eq 41, 3), (2307, .iconst 0, 1), (2308, .ireturn, 1), (2309, .aload_n 1, 1), (2310, .invokevirtual 273, 3), (2313, .aload_n 2, 1), (2314, .invokevirtual 276, 3), (2317, .if_icmp .eq 28, 3), (2320, .iconst 0, 1), (2321, .ireturn, 1)] = true := by decide +kernel
theorem kL_law_102 : zOk (zdec xL_law) [(2322, .aload_n 1, 1), (2323, .aload_n 0, 1), (2324, .iload_n 3, 1), (2325, .iconst 1, 1), (2326, .iadd, 1), (2327, .iaload, 1), (2328, .invokevirtual 277, 3), (2331, .aload_n 2, 1), (2332, .aload_n 0, 1), (2333, .iload_n 3, 1), (2334, .iconst 1, 1), (2335, .iadd, 1), (2336, .iaload, 1), (2337, .invokevirtual 280, 3), (2340, .if_icmp .eq 5, 3), (2343, .iconst 0, 1)] = true := by decide +kernel
theorem kL_law_103 : zOk (zdec xL_law) [(2344, .ireturn, 1), (2345, .iinc 3 6, 3), (2348, .goto (-2330), 3), (2351, .iconst 1, 1), (2352, .ireturn, 1)] = true := by decide +kernel
end
section
theorem zT_of {w : Cond} {i : Nat} (h : lw_tbl[i]? = some w) (hg : goodWord w = true) : w ∈ zT := List.mem_filter.mpr ⟨List.mem_of_getElem? h, hg⟩
def zChk (ps : List Nat) (ws : List Cond) : Bool := decide (ps.filterMap (fun i => lw_tbl[i]?) = ws) && ws.all goodWord
theorem zChk_ok {ps : List Nat} {ws : List Cond} (h : zChk ps ws = true) : ∀ w ∈ ws, w ∈ zT := by
  unfold zChk at h
  rw [Bool.and_eq_true, decide_eq_true_eq] at h
  intro w hw
  have hg := List.all_eq_true.mp h.2 w hw
  rw [← h.1] at hw
  obtain ⟨i, -, hi⟩ := List.mem_filterMap.mp hw
  exact zT_of hi hg
theorem zLk_of {own : String} {idx : Nat} {Y : zX} {n : Nat} (ps : List Nat) (h : zChk ps [Cond.methodLink own idx Y.1, Cond.initialized Y.1.cls] = true) (hc : Cond.code Y.1 Y.2.1 Y.2.2.1 Y.2.2.2.1 ∈ zT) (hd : Y.1.cls ≠ "java/lang/invoke/MethodHandle" ∧ Y.1.cls ≠ "java/lang/invoke/VarHandle" ∧ (parseMethodDescriptor Y.1.desc).map (fun d => d.parameters.length) = some n) : zLk own idx Y n := ⟨zChk_ok h _ (.head _), zChk_ok h _ (.tail _ (.head _)), hc, hd⟩
set_option maxRecDepth 100000 in
theorem wcJ0_charAt_5068e : Cond.code xJ0_charAt_5068e.1 xJ0_charAt_5068e.2.1 xJ0_charAt_5068e.2.2.1 xJ0_charAt_5068e.2.2.2.1 ∈ zT := zT_of (i := 512) rfl rfl
theorem pdJ0_charAt_5068e : xJ0_charAt_5068e.1.cls ≠ "java/lang/invoke/MethodHandle" ∧ xJ0_charAt_5068e.1.cls ≠ "java/lang/invoke/VarHandle" ∧ (parseMethodDescriptor xJ0_charAt_5068e.1.desc).map (fun d => d.parameters.length) = some 1 := by decide +kernel
theorem ivJ0_charAt_5068e : Cond.instanceMethod xJ0_charAt_5068e.1 ∈ zT ∧ Cond.selects xJ0_charAt_5068e.1.cls xJ0_charAt_5068e.1 xJ0_charAt_5068e.1 ∈ zT := have h : zChk [510, 511] [Cond.instanceMethod xJ0_charAt_5068e.1, Cond.selects xJ0_charAt_5068e.1.cls xJ0_charAt_5068e.1 xJ0_charAt_5068e.1] = true := by decide +kernel
  ⟨zChk_ok h _ (.head _), zChk_ok h _ (.tail _ (.head _))⟩
theorem lkX3_118 : zLk RX3 118 xJ0_charAt_5068e 1 := zLk_of [509, 79] (by decide +kernel) wcJ0_charAt_5068e pdJ0_charAt_5068e
theorem lkX5_173 : zLk RX5 173 xJ0_charAt_5068e 1 := zLk_of [1310, 79] (by decide +kernel) wcJ0_charAt_5068e pdJ0_charAt_5068e
set_option maxRecDepth 100000 in
theorem wcJ0_coder_7d493 : Cond.code xJ0_coder_7d493.1 xJ0_coder_7d493.2.1 xJ0_coder_7d493.2.2.1 xJ0_coder_7d493.2.2.2.1 ∈ zT := zT_of (i := 506) rfl rfl
theorem pdJ0_coder_7d493 : xJ0_coder_7d493.1.cls ≠ "java/lang/invoke/MethodHandle" ∧ xJ0_coder_7d493.1.cls ≠ "java/lang/invoke/VarHandle" ∧ (parseMethodDescriptor xJ0_coder_7d493.1.desc).map (fun d => d.parameters.length) = some 0 := by decide +kernel
theorem ivJ0_coder_7d493 : Cond.instanceMethod xJ0_coder_7d493.1 ∈ zT ∧ Cond.selects xJ0_coder_7d493.1.cls xJ0_coder_7d493.1 xJ0_coder_7d493.1 ∈ zT := have h : zChk [504, 505] [Cond.instanceMethod xJ0_coder_7d493.1, Cond.selects xJ0_coder_7d493.1.cls xJ0_coder_7d493.1 xJ0_coder_7d493.1] = true := by decide +kernel
  ⟨zChk_ok h _ (.head _), zChk_ok h _ (.tail _ (.head _))⟩
theorem lkJ0_335 : zLk RJ0 335 xJ0_coder_7d493 0 := zLk_of [503, 79] (by decide +kernel) wcJ0_coder_7d493 pdJ0_coder_7d493
set_option maxRecDepth 100000 in
theorem wcJ0_isLatin1_aae02 : Cond.code xJ0_isLatin1_aae02.1 xJ0_isLatin1_aae02.2.1 xJ0_isLatin1_aae02.2.2.1 xJ0_isLatin1_aae02.2.2.2.1 ∈ zT := zT_of (i := 516) rfl rfl
theorem pdJ0_isLatin1_aae02 : xJ0_isLatin1_aae02.1.cls ≠ "java/lang/invoke/MethodHandle" ∧ xJ0_isLatin1_aae02.1.cls ≠ "java/lang/invoke/VarHandle" ∧ (parseMethodDescriptor xJ0_isLatin1_aae02.1.desc).map (fun d => d.parameters.length) = some 0 := by decide +kernel
theorem ivJ0_isLatin1_aae02 : Cond.instanceMethod xJ0_isLatin1_aae02.1 ∈ zT ∧ Cond.selects xJ0_isLatin1_aae02.1.cls xJ0_isLatin1_aae02.1 xJ0_isLatin1_aae02.1 ∈ zT := have h : zChk [514, 515] [Cond.instanceMethod xJ0_isLatin1_aae02.1, Cond.selects xJ0_isLatin1_aae02.1.cls xJ0_isLatin1_aae02.1 xJ0_isLatin1_aae02.1] = true := by decide +kernel
  ⟨zChk_ok h _ (.head _), zChk_ok h _ (.tail _ (.head _))⟩
theorem lkJ0_492 : zLk RJ0 492 xJ0_isLatin1_aae02 0 := zLk_of [513, 79] (by decide +kernel) wcJ0_isLatin1_aae02 pdJ0_isLatin1_aae02
set_option maxRecDepth 100000 in
theorem wcJ0_length_8abf5 : Cond.code xJ0_length_8abf5.1 xJ0_length_8abf5.2.1 xJ0_length_8abf5.2.2.1 xJ0_length_8abf5.2.2.2.1 ∈ zT := zT_of (i := 502) rfl rfl
theorem pdJ0_length_8abf5 : xJ0_length_8abf5.1.cls ≠ "java/lang/invoke/MethodHandle" ∧ xJ0_length_8abf5.1.cls ≠ "java/lang/invoke/VarHandle" ∧ (parseMethodDescriptor xJ0_length_8abf5.1.desc).map (fun d => d.parameters.length) = some 0 := by decide +kernel
theorem ivJ0_length_8abf5 : Cond.instanceMethod xJ0_length_8abf5.1 ∈ zT ∧ Cond.selects xJ0_length_8abf5.1.cls xJ0_length_8abf5.1 xJ0_length_8abf5.1 ∈ zT := have h : zChk [500, 501] [Cond.instanceMethod xJ0_length_8abf5.1, Cond.selects xJ0_length_8abf5.1.cls xJ0_length_8abf5.1 xJ0_length_8abf5.1] = true := by decide +kernel
  ⟨zChk_ok h _ (.head _), zChk_ok h _ (.tail _ (.head _))⟩
theorem lkX3_112 : zLk RX3 112 xJ0_length_8abf5 0 := zLk_of [499, 79] (by decide +kernel) wcJ0_length_8abf5 pdJ0_length_8abf5
theorem lkX5_168 : zLk RX5 168 xJ0_length_8abf5 0 := zLk_of [1309, 79] (by decide +kernel) wcJ0_length_8abf5 pdJ0_length_8abf5
set_option maxRecDepth 100000 in
theorem wcJ1_charAt_3b067 : Cond.code xJ1_charAt_3b067.1 xJ1_charAt_3b067.2.1 xJ1_charAt_3b067.2.2.1 xJ1_charAt_3b067.2.2.2.1 ∈ zT := zT_of (i := 519) rfl rfl
theorem pdJ1_charAt_3b067 : xJ1_charAt_3b067.1.cls ≠ "java/lang/invoke/MethodHandle" ∧ xJ1_charAt_3b067.1.cls ≠ "java/lang/invoke/VarHandle" ∧ (parseMethodDescriptor xJ1_charAt_3b067.1.desc).map (fun d => d.parameters.length) = some 2 := by decide +kernel
theorem isJ1_charAt_3b067 : Cond.static xJ1_charAt_3b067.1 ∈ zT := have h : zChk [518] [Cond.static xJ1_charAt_3b067.1] = true := by decide +kernel
  zChk_ok h _ (.head _)
theorem lkJ0_495 : zLk RJ0 495 xJ1_charAt_3b067 2 := zLk_of [517, 80] (by decide +kernel) wcJ1_charAt_3b067 pdJ1_charAt_3b067
set_option maxRecDepth 100000 in
theorem wcJ6_bitCount_0f7a4 : Cond.code xJ6_bitCount_0f7a4.1 xJ6_bitCount_0f7a4.2.1 xJ6_bitCount_0f7a4.2.2.1 xJ6_bitCount_0f7a4.2.2.2.1 ∈ zT := zT_of (i := 835) rfl rfl
theorem pdJ6_bitCount_0f7a4 : xJ6_bitCount_0f7a4.1.cls ≠ "java/lang/invoke/MethodHandle" ∧ xJ6_bitCount_0f7a4.1.cls ≠ "java/lang/invoke/VarHandle" ∧ (parseMethodDescriptor xJ6_bitCount_0f7a4.1.desc).map (fun d => d.parameters.length) = some 1 := by decide +kernel
theorem isJ6_bitCount_0f7a4 : Cond.static xJ6_bitCount_0f7a4.1 ∈ zT := have h : zChk [834] [Cond.static xJ6_bitCount_0f7a4.1] = true := by decide +kernel
  zChk_ok h _ (.head _)
theorem lkX4_304 : zLk RX4 304 xJ6_bitCount_0f7a4 1 := zLk_of [843, 83] (by decide +kernel) wcJ6_bitCount_0f7a4 pdJ6_bitCount_0f7a4
theorem lkX0_112 : zLk RX0 112 xJ6_bitCount_0f7a4 1 := zLk_of [833, 83] (by decide +kernel) wcJ6_bitCount_0f7a4 pdJ6_bitCount_0f7a4
theorem lkX1_105 : zLk RX1 105 xJ6_bitCount_0f7a4 1 := zLk_of [920, 83] (by decide +kernel) wcJ6_bitCount_0f7a4 pdJ6_bitCount_0f7a4
set_option maxRecDepth 100000 in
theorem wcJ9_abs_0f7a4 : Cond.code xJ9_abs_0f7a4.1 xJ9_abs_0f7a4.2.1 xJ9_abs_0f7a4.2.2.1 xJ9_abs_0f7a4.2.2.2.1 ∈ zT := zT_of (i := 391) rfl rfl
theorem pdJ9_abs_0f7a4 : xJ9_abs_0f7a4.1.cls ≠ "java/lang/invoke/MethodHandle" ∧ xJ9_abs_0f7a4.1.cls ≠ "java/lang/invoke/VarHandle" ∧ (parseMethodDescriptor xJ9_abs_0f7a4.1.desc).map (fun d => d.parameters.length) = some 1 := by decide +kernel
theorem isJ9_abs_0f7a4 : Cond.static xJ9_abs_0f7a4.1 ∈ zT := have h : zChk [390] [Cond.static xJ9_abs_0f7a4.1] = true := by decide +kernel
  zChk_ok h _ (.head _)
theorem lkX1_91 : zLk RX1 91 xJ9_abs_0f7a4 1 := zLk_of [389, 78] (by decide +kernel) wcJ9_abs_0f7a4 pdJ9_abs_0f7a4
set_option maxRecDepth 100000 in
theorem wcJ9_max_7cf53 : Cond.code xJ9_max_7cf53.1 xJ9_max_7cf53.2.1 xJ9_max_7cf53.2.2.1 xJ9_max_7cf53.2.2.2.1 ∈ zT := zT_of (i := 768) rfl rfl
theorem pdJ9_max_7cf53 : xJ9_max_7cf53.1.cls ≠ "java/lang/invoke/MethodHandle" ∧ xJ9_max_7cf53.1.cls ≠ "java/lang/invoke/VarHandle" ∧ (parseMethodDescriptor xJ9_max_7cf53.1.desc).map (fun d => d.parameters.length) = some 2 := by decide +kernel
theorem isJ9_max_7cf53 : Cond.static xJ9_max_7cf53.1 ∈ zT := have h : zChk [767] [Cond.static xJ9_max_7cf53.1] = true := by decide +kernel
  zChk_ok h _ (.head _)
theorem lkX4_324 : zLk RX4 324 xJ9_max_7cf53 2 := zLk_of [890, 78] (by decide +kernel) wcJ9_max_7cf53 pdJ9_max_7cf53
theorem lkX0_86 : zLk RX0 86 xJ9_max_7cf53 2 := zLk_of [766, 78] (by decide +kernel) wcJ9_max_7cf53 pdJ9_max_7cf53
set_option maxRecDepth 100000 in
theorem wcX0_addressFor : Cond.code xX0_addressFor.1 xX0_addressFor.2.1 xX0_addressFor.2.2.1 xX0_addressFor.2.2.2.1 ∈ zT := zT_of (i := 676) rfl rfl
theorem pdX0_addressFor : xX0_addressFor.1.cls ≠ "java/lang/invoke/MethodHandle" ∧ xX0_addressFor.1.cls ≠ "java/lang/invoke/VarHandle" ∧ (parseMethodDescriptor xX0_addressFor.1.desc).map (fun d => d.parameters.length) = some 3 := by decide +kernel
theorem ivX0_addressFor : Cond.instanceMethod xX0_addressFor.1 ∈ zT ∧ Cond.selects xX0_addressFor.1.cls xX0_addressFor.1 xX0_addressFor.1 ∈ zT := have h : zChk [674, 675] [Cond.instanceMethod xX0_addressFor.1, Cond.selects xX0_addressFor.1.cls xX0_addressFor.1 xX0_addressFor.1] = true := by decide +kernel
  ⟨zChk_ok h _ (.head _), zChk_ok h _ (.tail _ (.head _))⟩
theorem lkX4_232 : zLk RX4 232 xX0_addressFor 3 := zLk_of [673, 73] (by decide +kernel) wcX0_addressFor pdX0_addressFor
set_option maxRecDepth 100000 in
theorem wcX0_allKnowersIfDrink : Cond.code xX0_allKnowersIfDrink.1 xX0_allKnowersIfDrink.2.1 xX0_allKnowersIfDrink.2.2.1 xX0_allKnowersIfDrink.2.2.2.1 ∈ zT := zT_of (i := 924) rfl rfl
theorem pdX0_allKnowersIfDrink : xX0_allKnowersIfDrink.1.cls ≠ "java/lang/invoke/MethodHandle" ∧ xX0_allKnowersIfDrink.1.cls ≠ "java/lang/invoke/VarHandle" ∧ (parseMethodDescriptor xX0_allKnowersIfDrink.1.desc).map (fun d => d.parameters.length) = some 3 := by decide +kernel
theorem ivX0_allKnowersIfDrink : Cond.instanceMethod xX0_allKnowersIfDrink.1 ∈ zT ∧ Cond.selects xX0_allKnowersIfDrink.1.cls xX0_allKnowersIfDrink.1 xX0_allKnowersIfDrink.1 ∈ zT := have h : zChk [922, 923] [Cond.instanceMethod xX0_allKnowersIfDrink.1, Cond.selects xX0_allKnowersIfDrink.1.cls xX0_allKnowersIfDrink.1 xX0_allKnowersIfDrink.1] = true := by decide +kernel
  ⟨zChk_ok h _ (.head _), zChk_ok h _ (.tail _ (.head _))⟩
theorem lkX4_338 : zLk RX4 338 xX0_allKnowersIfDrink 3 := zLk_of [921, 73] (by decide +kernel) wcX0_allKnowersIfDrink pdX0_allKnowersIfDrink
set_option maxRecDepth 100000 in
theorem wcX0_answerTo : Cond.code xX0_answerTo.1 xX0_answerTo.2.1 xX0_answerTo.2.2.1 xX0_answerTo.2.2.2.1 ∈ zT := zT_of (i := 800) rfl rfl
theorem pdX0_answerTo : xX0_answerTo.1.cls ≠ "java/lang/invoke/MethodHandle" ∧ xX0_answerTo.1.cls ≠ "java/lang/invoke/VarHandle" ∧ (parseMethodDescriptor xX0_answerTo.1.desc).map (fun d => d.parameters.length) = some 6 := by decide +kernel
theorem ivX0_answerTo : Cond.instanceMethod xX0_answerTo.1 ∈ zT ∧ Cond.selects xX0_answerTo.1.cls xX0_answerTo.1 xX0_answerTo.1 ∈ zT := have h : zChk [798, 799] [Cond.instanceMethod xX0_answerTo.1, Cond.selects xX0_answerTo.1.cls xX0_answerTo.1 xX0_answerTo.1] = true := by decide +kernel
  ⟨zChk_ok h _ (.head _), zChk_ok h _ (.tail _ (.head _))⟩
theorem lkX4_290 : zLk RX4 290 xX0_answerTo 6 := zLk_of [806, 73] (by decide +kernel) wcX0_answerTo pdX0_answerTo
theorem lkX0_101 : zLk RX0 101 xX0_answerTo 6 := zLk_of [797, 73] (by decide +kernel) wcX0_answerTo pdX0_answerTo
set_option maxRecDepth 100000 in
theorem wcX0_bestDrink : Cond.code xX0_bestDrink.1 xX0_bestDrink.2.1 xX0_bestDrink.2.2.1 xX0_bestDrink.2.2.2.1 ∈ zT := zT_of (i := 792) rfl rfl
theorem pdX0_bestDrink : xX0_bestDrink.1.cls ≠ "java/lang/invoke/MethodHandle" ∧ xX0_bestDrink.1.cls ≠ "java/lang/invoke/VarHandle" ∧ (parseMethodDescriptor xX0_bestDrink.1.desc).map (fun d => d.parameters.length) = some 5 := by decide +kernel
theorem ivX0_bestDrink : Cond.instanceMethod xX0_bestDrink.1 ∈ zT ∧ Cond.selects xX0_bestDrink.1.cls xX0_bestDrink.1 xX0_bestDrink.1 ∈ zT := have h : zChk [790, 791] [Cond.instanceMethod xX0_bestDrink.1, Cond.selects xX0_bestDrink.1.cls xX0_bestDrink.1 xX0_bestDrink.1] = true := by decide +kernel
  ⟨zChk_ok h _ (.head _), zChk_ok h _ (.tail _ (.head _))⟩
theorem lkX4_282 : zLk RX4 282 xX0_bestDrink 5 := zLk_of [789, 73] (by decide +kernel) wcX0_bestDrink pdX0_bestDrink
set_option maxRecDepth 100000 in
theorem wcX0_bestParting : Cond.code xX0_bestParting.1 xX0_bestParting.2.1 xX0_bestParting.2.2.1 xX0_bestParting.2.2.2.1 ∈ zT := zT_of (i := 761) rfl rfl
theorem pdX0_bestParting : xX0_bestParting.1.cls ≠ "java/lang/invoke/MethodHandle" ∧ xX0_bestParting.1.cls ≠ "java/lang/invoke/VarHandle" ∧ (parseMethodDescriptor xX0_bestParting.1.desc).map (fun d => d.parameters.length) = some 1 := by decide +kernel
theorem ivX0_bestParting : Cond.instanceMethod xX0_bestParting.1 ∈ zT ∧ Cond.selects xX0_bestParting.1.cls xX0_bestParting.1 xX0_bestParting.1 ∈ zT := have h : zChk [759, 760] [Cond.instanceMethod xX0_bestParting.1, Cond.selects xX0_bestParting.1.cls xX0_bestParting.1 xX0_bestParting.1] = true := by decide +kernel
  ⟨zChk_ok h _ (.head _), zChk_ok h _ (.tail _ (.head _))⟩
theorem lkX4_269 : zLk RX4 269 xX0_bestParting 1 := zLk_of [758, 73] (by decide +kernel) wcX0_bestParting pdX0_bestParting
set_option maxRecDepth 100000 in
theorem wcX0_fitsHeard : Cond.code xX0_fitsHeard.1 xX0_fitsHeard.2.1 xX0_fitsHeard.2.2.1 xX0_fitsHeard.2.2.2.1 ∈ zT := zT_of (i := 731) rfl rfl
theorem pdX0_fitsHeard : xX0_fitsHeard.1.cls ≠ "java/lang/invoke/MethodHandle" ∧ xX0_fitsHeard.1.cls ≠ "java/lang/invoke/VarHandle" ∧ (parseMethodDescriptor xX0_fitsHeard.1.desc).map (fun d => d.parameters.length) = some 3 := by decide +kernel
theorem ivX0_fitsHeard : Cond.instanceMethod xX0_fitsHeard.1 ∈ zT ∧ Cond.selects xX0_fitsHeard.1.cls xX0_fitsHeard.1 xX0_fitsHeard.1 ∈ zT := have h : zChk [730, 22] [Cond.instanceMethod xX0_fitsHeard.1, Cond.selects xX0_fitsHeard.1.cls xX0_fitsHeard.1 xX0_fitsHeard.1] = true := by decide +kernel
  ⟨zChk_ok h _ (.head _), zChk_ok h _ (.tail _ (.head _))⟩
theorem lkX0_75 : zLk RX0 75 xX0_fitsHeard 3 := zLk_of [728, 73] (by decide +kernel) wcX0_fitsHeard pdX0_fitsHeard
set_option maxRecDepth 100000 in
theorem wcX0_fitsHouse : Cond.code xX0_fitsHouse.1 xX0_fitsHouse.2.1 xX0_fitsHouse.2.2.1 xX0_fitsHouse.2.2.2.1 ∈ zT := zT_of (i := 780) rfl rfl
theorem pdX0_fitsHouse : xX0_fitsHouse.1.cls ≠ "java/lang/invoke/MethodHandle" ∧ xX0_fitsHouse.1.cls ≠ "java/lang/invoke/VarHandle" ∧ (parseMethodDescriptor xX0_fitsHouse.1.desc).map (fun d => d.parameters.length) = some 3 := by decide +kernel
theorem ivX0_fitsHouse : Cond.instanceMethod xX0_fitsHouse.1 ∈ zT ∧ Cond.selects xX0_fitsHouse.1.cls xX0_fitsHouse.1 xX0_fitsHouse.1 ∈ zT := have h : zChk [779, 24] [Cond.instanceMethod xX0_fitsHouse.1, Cond.selects xX0_fitsHouse.1.cls xX0_fitsHouse.1 xX0_fitsHouse.1] = true := by decide +kernel
  ⟨zChk_ok h _ (.head _), zChk_ok h _ (.tail _ (.head _))⟩
theorem lkX0_94 : zLk RX0 94 xX0_fitsHouse 3 := zLk_of [777, 73] (by decide +kernel) wcX0_fitsHouse pdX0_fitsHouse
set_option maxRecDepth 100000 in
theorem wcX0_fittingKinds : Cond.code xX0_fittingKinds.1 xX0_fittingKinds.2.1 xX0_fittingKinds.2.2.1 xX0_fittingKinds.2.2.2.1 ∈ zT := zT_of (i := 749) rfl rfl
theorem pdX0_fittingKinds : xX0_fittingKinds.1.cls ≠ "java/lang/invoke/MethodHandle" ∧ xX0_fittingKinds.1.cls ≠ "java/lang/invoke/VarHandle" ∧ (parseMethodDescriptor xX0_fittingKinds.1.desc).map (fun d => d.parameters.length) = some 4 := by decide +kernel
theorem ivX0_fittingKinds : Cond.instanceMethod xX0_fittingKinds.1 ∈ zT ∧ Cond.selects xX0_fittingKinds.1.cls xX0_fittingKinds.1 xX0_fittingKinds.1 ∈ zT := have h : zChk [747, 748] [Cond.instanceMethod xX0_fittingKinds.1, Cond.selects xX0_fittingKinds.1.cls xX0_fittingKinds.1 xX0_fittingKinds.1] = true := by decide +kernel
  ⟨zChk_ok h _ (.head _), zChk_ok h _ (.tail _ (.head _))⟩
theorem lkX4_263 : zLk RX4 263 xX0_fittingKinds 4 := zLk_of [746, 73] (by decide +kernel) wcX0_fittingKinds pdX0_fittingKinds
set_option maxRecDepth 100000 in
theorem wcX0_fittingTos : Cond.code xX0_fittingTos.1 xX0_fittingTos.2.1 xX0_fittingTos.2.2.1 xX0_fittingTos.2.2.2.1 ∈ zT := zT_of (i := 753) rfl rfl
theorem pdX0_fittingTos : xX0_fittingTos.1.cls ≠ "java/lang/invoke/MethodHandle" ∧ xX0_fittingTos.1.cls ≠ "java/lang/invoke/VarHandle" ∧ (parseMethodDescriptor xX0_fittingTos.1.desc).map (fun d => d.parameters.length) = some 4 := by decide +kernel
theorem ivX0_fittingTos : Cond.instanceMethod xX0_fittingTos.1 ∈ zT ∧ Cond.selects xX0_fittingTos.1.cls xX0_fittingTos.1 xX0_fittingTos.1 ∈ zT := have h : zChk [751, 752] [Cond.instanceMethod xX0_fittingTos.1, Cond.selects xX0_fittingTos.1.cls xX0_fittingTos.1 xX0_fittingTos.1] = true := by decide +kernel
  ⟨zChk_ok h _ (.head _), zChk_ok h _ (.tail _ (.head _))⟩
theorem lkX4_266 : zLk RX4 266 xX0_fittingTos 4 := zLk_of [750, 73] (by decide +kernel) wcX0_fittingTos pdX0_fittingTos
set_option maxRecDepth 100000 in
theorem wcX0_fittingWinds : Cond.code xX0_fittingWinds.1 xX0_fittingWinds.2.1 xX0_fittingWinds.2.2.1 xX0_fittingWinds.2.2.2.1 ∈ zT := zT_of (i := 776) rfl rfl
theorem pdX0_fittingWinds : xX0_fittingWinds.1.cls ≠ "java/lang/invoke/MethodHandle" ∧ xX0_fittingWinds.1.cls ≠ "java/lang/invoke/VarHandle" ∧ (parseMethodDescriptor xX0_fittingWinds.1.desc).map (fun d => d.parameters.length) = some 4 := by decide +kernel
theorem ivX0_fittingWinds : Cond.instanceMethod xX0_fittingWinds.1 ∈ zT ∧ Cond.selects xX0_fittingWinds.1.cls xX0_fittingWinds.1 xX0_fittingWinds.1 ∈ zT := have h : zChk [774, 775] [Cond.instanceMethod xX0_fittingWinds.1, Cond.selects xX0_fittingWinds.1.cls xX0_fittingWinds.1 xX0_fittingWinds.1] = true := by decide +kernel
  ⟨zChk_ok h _ (.head _), zChk_ok h _ (.tail _ (.head _))⟩
theorem lkX4_275 : zLk RX4 275 xX0_fittingWinds 4 := zLk_of [773, 73] (by decide +kernel) wcX0_fittingWinds pdX0_fittingWinds
set_option maxRecDepth 100000 in
theorem wcX0_freshFrom : Cond.code xX0_freshFrom.1 xX0_freshFrom.2.1 xX0_freshFrom.2.2.1 xX0_freshFrom.2.2.2.1 ∈ zT := zT_of (i := 468) rfl rfl
theorem pdX0_freshFrom : xX0_freshFrom.1.cls ≠ "java/lang/invoke/MethodHandle" ∧ xX0_freshFrom.1.cls ≠ "java/lang/invoke/VarHandle" ∧ (parseMethodDescriptor xX0_freshFrom.1.desc).map (fun d => d.parameters.length) = some 1 := by decide +kernel
theorem ivX0_freshFrom : Cond.instanceMethod xX0_freshFrom.1 ∈ zT ∧ Cond.selects xX0_freshFrom.1.cls xX0_freshFrom.1 xX0_freshFrom.1 ∈ zT := have h : zChk [466, 467] [Cond.instanceMethod xX0_freshFrom.1, Cond.selects xX0_freshFrom.1.cls xX0_freshFrom.1 xX0_freshFrom.1] = true := by decide +kernel
  ⟨zChk_ok h _ (.head _), zChk_ok h _ (.tail _ (.head _))⟩
theorem lkX4_177 : zLk RX4 177 xX0_freshFrom 1 := zLk_of [465, 73] (by decide +kernel) wcX0_freshFrom pdX0_freshFrom
theorem lkX0_30 : zLk RX0 30 xX0_freshFrom 1 := zLk_of [677, 73] (by decide +kernel) wcX0_freshFrom pdX0_freshFrom
set_option maxRecDepth 100000 in
theorem wcX0_greatestMarked : Cond.code xX0_greatestMarked.1 xX0_greatestMarked.2.1 xX0_greatestMarked.2.2.1 xX0_greatestMarked.2.2.2.1 ∈ zT := zT_of (i := 741) rfl rfl
theorem pdX0_greatestMarked : xX0_greatestMarked.1.cls ≠ "java/lang/invoke/MethodHandle" ∧ xX0_greatestMarked.1.cls ≠ "java/lang/invoke/VarHandle" ∧ (parseMethodDescriptor xX0_greatestMarked.1.desc).map (fun d => d.parameters.length) = some 0 := by decide +kernel
theorem ivX0_greatestMarked : Cond.instanceMethod xX0_greatestMarked.1 ∈ zT ∧ Cond.selects xX0_greatestMarked.1.cls xX0_greatestMarked.1 xX0_greatestMarked.1 ∈ zT := have h : zChk [739, 740] [Cond.instanceMethod xX0_greatestMarked.1, Cond.selects xX0_greatestMarked.1.cls xX0_greatestMarked.1 xX0_greatestMarked.1] = true := by decide +kernel
  ⟨zChk_ok h _ (.head _), zChk_ok h _ (.tail _ (.head _))⟩
theorem lkX4_260 : zLk RX4 260 xX0_greatestMarked 0 := zLk_of [738, 73] (by decide +kernel) wcX0_greatestMarked pdX0_greatestMarked
set_option maxRecDepth 100000 in
theorem wcX0_heardOfPoured : Cond.code xX0_heardOfPoured.1 xX0_heardOfPoured.2.1 xX0_heardOfPoured.2.2.1 xX0_heardOfPoured.2.2.2.1 ∈ zT := zT_of (i := 796) rfl rfl
theorem pdX0_heardOfPoured : xX0_heardOfPoured.1.cls ≠ "java/lang/invoke/MethodHandle" ∧ xX0_heardOfPoured.1.cls ≠ "java/lang/invoke/VarHandle" ∧ (parseMethodDescriptor xX0_heardOfPoured.1.desc).map (fun d => d.parameters.length) = some 6 := by decide +kernel
theorem ivX0_heardOfPoured : Cond.instanceMethod xX0_heardOfPoured.1 ∈ zT ∧ Cond.selects xX0_heardOfPoured.1.cls xX0_heardOfPoured.1 xX0_heardOfPoured.1 ∈ zT := have h : zChk [794, 795] [Cond.instanceMethod xX0_heardOfPoured.1, Cond.selects xX0_heardOfPoured.1.cls xX0_heardOfPoured.1 xX0_heardOfPoured.1] = true := by decide +kernel
  ⟨zChk_ok h _ (.head _), zChk_ok h _ (.tail _ (.head _))⟩
theorem lkX4_286 : zLk RX4 286 xX0_heardOfPoured 6 := zLk_of [801, 73] (by decide +kernel) wcX0_heardOfPoured pdX0_heardOfPoured
theorem lkX0_97 : zLk RX0 97 xX0_heardOfPoured 6 := zLk_of [793, 73] (by decide +kernel) wcX0_heardOfPoured pdX0_heardOfPoured
set_option maxRecDepth 100000 in
theorem wcX0_hushHouse : Cond.code xX0_hushHouse.1 xX0_hushHouse.2.1 xX0_hushHouse.2.2.1 xX0_hushHouse.2.2.2.1 ∈ zT := zT_of (i := 694) rfl rfl
theorem pdX0_hushHouse : xX0_hushHouse.1.cls ≠ "java/lang/invoke/MethodHandle" ∧ xX0_hushHouse.1.cls ≠ "java/lang/invoke/VarHandle" ∧ (parseMethodDescriptor xX0_hushHouse.1.desc).map (fun d => d.parameters.length) = some 4 := by decide +kernel
theorem ivX0_hushHouse : Cond.instanceMethod xX0_hushHouse.1 ∈ zT ∧ Cond.selects xX0_hushHouse.1.cls xX0_hushHouse.1 xX0_hushHouse.1 ∈ zT := have h : zChk [692, 693] [Cond.instanceMethod xX0_hushHouse.1, Cond.selects xX0_hushHouse.1.cls xX0_hushHouse.1 xX0_hushHouse.1] = true := by decide +kernel
  ⟨zChk_ok h _ (.head _), zChk_ok h _ (.tail _ (.head _))⟩
theorem lkX4_239 : zLk RX4 239 xX0_hushHouse 4 := zLk_of [695, 73] (by decide +kernel) wcX0_hushHouse pdX0_hushHouse
theorem lkX0_49 : zLk RX0 49 xX0_hushHouse 4 := zLk_of [691, 73] (by decide +kernel) wcX0_hushHouse pdX0_hushHouse
set_option maxRecDepth 100000 in
theorem wcX0_init : Cond.code xX0_init.1 xX0_init.2.1 xX0_init.2.2.1 xX0_init.2.2.2.1 ∈ zT := zT_of (i := 174) rfl rfl
theorem pdX0_init : xX0_init.1.cls ≠ "java/lang/invoke/MethodHandle" ∧ xX0_init.1.cls ≠ "java/lang/invoke/VarHandle" ∧ (parseMethodDescriptor xX0_init.1.desc).map (fun d => d.parameters.length) = some 0 := by decide +kernel
theorem iiX0_init : Cond.instanceMethod xX0_init.1 ∈ zT ∧ xX0_init.1.name = "<init>" ∧ xX0_init.2.2.2.1 = none := have h : zChk [173] [Cond.instanceMethod xX0_init.1] = true := by decide +kernel
  ⟨zChk_ok h _ (.head _), rfl, rfl⟩
theorem lkX4_21 : zLn RX4 21 xX0_init 0 := ⟨⟨"ReadOutAlongTheWay", by decide +kernel⟩, zChk_ok (ps := [73]) (ws := [Cond.initialized xX0_init.1.cls]) (by decide +kernel) _ (.head _), wcX0_init, pdX0_init⟩
set_option maxRecDepth 100000 in
theorem wcX0_isHushed : Cond.code xX0_isHushed.1 xX0_isHushed.2.1 xX0_isHushed.2.2.1 xX0_isHushed.2.2.2.1 ∈ zT := zT_of (i := 690) rfl rfl
theorem pdX0_isHushed : xX0_isHushed.1.cls ≠ "java/lang/invoke/MethodHandle" ∧ xX0_isHushed.1.cls ≠ "java/lang/invoke/VarHandle" ∧ (parseMethodDescriptor xX0_isHushed.1.desc).map (fun d => d.parameters.length) = some 2 := by decide +kernel
theorem ivX0_isHushed : Cond.instanceMethod xX0_isHushed.1 ∈ zT ∧ Cond.selects xX0_isHushed.1.cls xX0_isHushed.1 xX0_isHushed.1 ∈ zT := have h : zChk [689, 20] [Cond.instanceMethod xX0_isHushed.1, Cond.selects xX0_isHushed.1.cls xX0_isHushed.1 xX0_isHushed.1] = true := by decide +kernel
  ⟨zChk_ok h _ (.head _), zChk_ok h _ (.tail _ (.head _))⟩
theorem lkX0_45 : zLk RX0 45 xX0_isHushed 2 := zLk_of [687, 73] (by decide +kernel) wcX0_isHushed pdX0_isHushed
set_option maxRecDepth 100000 in
theorem wcX0_isKnownIfTaught : Cond.code xX0_isKnownIfTaught.1 xX0_isKnownIfTaught.2.1 xX0_isKnownIfTaught.2.2.1 xX0_isKnownIfTaught.2.2.2.1 ∈ zT := zT_of (i := 933) rfl rfl
theorem pdX0_isKnownIfTaught : xX0_isKnownIfTaught.1.cls ≠ "java/lang/invoke/MethodHandle" ∧ xX0_isKnownIfTaught.1.cls ≠ "java/lang/invoke/VarHandle" ∧ (parseMethodDescriptor xX0_isKnownIfTaught.1.desc).map (fun d => d.parameters.length) = some 3 := by decide +kernel
theorem ivX0_isKnownIfTaught : Cond.instanceMethod xX0_isKnownIfTaught.1 ∈ zT ∧ Cond.selects xX0_isKnownIfTaught.1.cls xX0_isKnownIfTaught.1 xX0_isKnownIfTaught.1 ∈ zT := have h : zChk [931, 932] [Cond.instanceMethod xX0_isKnownIfTaught.1, Cond.selects xX0_isKnownIfTaught.1.cls xX0_isKnownIfTaught.1 xX0_isKnownIfTaught.1] = true := by decide +kernel
  ⟨zChk_ok h _ (.head _), zChk_ok h _ (.tail _ (.head _))⟩
theorem lkX4_341 : zLk RX4 341 xX0_isKnownIfTaught 3 := zLk_of [930, 73] (by decide +kernel) wcX0_isKnownIfTaught pdX0_isKnownIfTaught
set_option maxRecDepth 100000 in
theorem wcX0_knowersIfTo : Cond.code xX0_knowersIfTo.1 xX0_knowersIfTo.2.1 xX0_knowersIfTo.2.2.1 xX0_knowersIfTo.2.2.2.1 ∈ zT := zT_of (i := 863) rfl rfl
theorem pdX0_knowersIfTo : xX0_knowersIfTo.1.cls ≠ "java/lang/invoke/MethodHandle" ∧ xX0_knowersIfTo.1.cls ≠ "java/lang/invoke/VarHandle" ∧ (parseMethodDescriptor xX0_knowersIfTo.1.desc).map (fun d => d.parameters.length) = some 3 := by decide +kernel
theorem ivX0_knowersIfTo : Cond.instanceMethod xX0_knowersIfTo.1 ∈ zT ∧ Cond.selects xX0_knowersIfTo.1.cls xX0_knowersIfTo.1 xX0_knowersIfTo.1 ∈ zT := have h : zChk [861, 862] [Cond.instanceMethod xX0_knowersIfTo.1, Cond.selects xX0_knowersIfTo.1.cls xX0_knowersIfTo.1 xX0_knowersIfTo.1] = true := by decide +kernel
  ⟨zChk_ok h _ (.head _), zChk_ok h _ (.tail _ (.head _))⟩
theorem lkX4_315 : zLk RX4 315 xX0_knowersIfTo 3 := zLk_of [864, 73] (by decide +kernel) wcX0_knowersIfTo pdX0_knowersIfTo
theorem lkX0_120 : zLk RX0 120 xX0_knowersIfTo 3 := zLk_of [860, 73] (by decide +kernel) wcX0_knowersIfTo pdX0_knowersIfTo
set_option maxRecDepth 100000 in
theorem wcX0_knowersSober : Cond.code xX0_knowersSober.1 xX0_knowersSober.2.1 xX0_knowersSober.2.2.1 xX0_knowersSober.2.2.2.1 ∈ zT := zT_of (i := 911) rfl rfl
theorem pdX0_knowersSober : xX0_knowersSober.1.cls ≠ "java/lang/invoke/MethodHandle" ∧ xX0_knowersSober.1.cls ≠ "java/lang/invoke/VarHandle" ∧ (parseMethodDescriptor xX0_knowersSober.1.desc).map (fun d => d.parameters.length) = some 2 := by decide +kernel
theorem ivX0_knowersSober : Cond.instanceMethod xX0_knowersSober.1 ∈ zT ∧ Cond.selects xX0_knowersSober.1.cls xX0_knowersSober.1 xX0_knowersSober.1 ∈ zT := have h : zChk [909, 910] [Cond.instanceMethod xX0_knowersSober.1, Cond.selects xX0_knowersSober.1.cls xX0_knowersSober.1 xX0_knowersSober.1] = true := by decide +kernel
  ⟨zChk_ok h _ (.head _), zChk_ok h _ (.tail _ (.head _))⟩
theorem lkX4_332 : zLk RX4 332 xX0_knowersSober 2 := zLk_of [908, 73] (by decide +kernel) wcX0_knowersSober pdX0_knowersSober
set_option maxRecDepth 100000 in
theorem wcX0_knowersTurned : Cond.code xX0_knowersTurned.1 xX0_knowersTurned.2.1 xX0_knowersTurned.2.2.1 xX0_knowersTurned.2.2.2.1 ∈ zT := zT_of (i := 832) rfl rfl
theorem pdX0_knowersTurned : xX0_knowersTurned.1.cls ≠ "java/lang/invoke/MethodHandle" ∧ xX0_knowersTurned.1.cls ≠ "java/lang/invoke/VarHandle" ∧ (parseMethodDescriptor xX0_knowersTurned.1.desc).map (fun d => d.parameters.length) = some 2 := by decide +kernel
theorem ivX0_knowersTurned : Cond.instanceMethod xX0_knowersTurned.1 ∈ zT ∧ Cond.selects xX0_knowersTurned.1.cls xX0_knowersTurned.1 xX0_knowersTurned.1 ∈ zT := have h : zChk [830, 831] [Cond.instanceMethod xX0_knowersTurned.1, Cond.selects xX0_knowersTurned.1.cls xX0_knowersTurned.1 xX0_knowersTurned.1] = true := by decide +kernel
  ⟨zChk_ok h _ (.head _), zChk_ok h _ (.tail _ (.head _))⟩
theorem lkX4_301 : zLk RX4 301 xX0_knowersTurned 2 := zLk_of [829, 73] (by decide +kernel) wcX0_knowersTurned pdX0_knowersTurned
set_option maxRecDepth 100000 in
theorem wcX0_leastCold : Cond.code xX0_leastCold.1 xX0_leastCold.2.1 xX0_leastCold.2.2.1 xX0_leastCold.2.2.2.1 ∈ zT := zT_of (i := 851) rfl rfl
theorem pdX0_leastCold : xX0_leastCold.1.cls ≠ "java/lang/invoke/MethodHandle" ∧ xX0_leastCold.1.cls ≠ "java/lang/invoke/VarHandle" ∧ (parseMethodDescriptor xX0_leastCold.1.desc).map (fun d => d.parameters.length) = some 3 := by decide +kernel
theorem ivX0_leastCold : Cond.instanceMethod xX0_leastCold.1 ∈ zT ∧ Cond.selects xX0_leastCold.1.cls xX0_leastCold.1 xX0_leastCold.1 ∈ zT := have h : zChk [849, 850] [Cond.instanceMethod xX0_leastCold.1, Cond.selects xX0_leastCold.1.cls xX0_leastCold.1 xX0_leastCold.1] = true := by decide +kernel
  ⟨zChk_ok h _ (.head _), zChk_ok h _ (.tail _ (.head _))⟩
theorem lkX4_309 : zLk RX4 309 xX0_leastCold 3 := zLk_of [848, 73] (by decide +kernel) wcX0_leastCold pdX0_leastCold
set_option maxRecDepth 100000 in
theorem wcX0_leastHush : Cond.code xX0_leastHush.1 xX0_leastHush.2.1 xX0_leastHush.2.2.1 xX0_leastHush.2.2.2.1 ∈ zT := zT_of (i := 686) rfl rfl
theorem pdX0_leastHush : xX0_leastHush.1.cls ≠ "java/lang/invoke/MethodHandle" ∧ xX0_leastHush.1.cls ≠ "java/lang/invoke/VarHandle" ∧ (parseMethodDescriptor xX0_leastHush.1.desc).map (fun d => d.parameters.length) = some 3 := by decide +kernel
theorem ivX0_leastHush : Cond.instanceMethod xX0_leastHush.1 ∈ zT ∧ Cond.selects xX0_leastHush.1.cls xX0_leastHush.1 xX0_leastHush.1 ∈ zT := have h : zChk [684, 685] [Cond.instanceMethod xX0_leastHush.1, Cond.selects xX0_leastHush.1.cls xX0_leastHush.1 xX0_leastHush.1] = true := by decide +kernel
  ⟨zChk_ok h _ (.head _), zChk_ok h _ (.tail _ (.head _))⟩
theorem lkX4_236 : zLk RX4 236 xX0_leastHush 3 := zLk_of [683, 73] (by decide +kernel) wcX0_leastHush pdX0_leastHush
set_option maxRecDepth 100000 in
theorem wcX0_leastLength : Cond.code xX0_leastLength.1 xX0_leastLength.2.1 xX0_leastLength.2.2.1 xX0_leastLength.2.2.2.1 ∈ zT := zT_of (i := 711) rfl rfl
theorem pdX0_leastLength : xX0_leastLength.1.cls ≠ "java/lang/invoke/MethodHandle" ∧ xX0_leastLength.1.cls ≠ "java/lang/invoke/VarHandle" ∧ (parseMethodDescriptor xX0_leastLength.1.desc).map (fun d => d.parameters.length) = some 3 := by decide +kernel
theorem ivX0_leastLength : Cond.instanceMethod xX0_leastLength.1 ∈ zT ∧ Cond.selects xX0_leastLength.1.cls xX0_leastLength.1 xX0_leastLength.1 ∈ zT := have h : zChk [709, 710] [Cond.instanceMethod xX0_leastLength.1, Cond.selects xX0_leastLength.1.cls xX0_leastLength.1 xX0_leastLength.1] = true := by decide +kernel
  ⟨zChk_ok h _ (.head _), zChk_ok h _ (.tail _ (.head _))⟩
theorem lkX4_246 : zLk RX4 246 xX0_leastLength 3 := zLk_of [708, 73] (by decide +kernel) wcX0_leastLength pdX0_leastLength
set_option maxRecDepth 100000 in
theorem wcX0_leastMarked : Cond.code xX0_leastMarked.1 xX0_leastMarked.2.1 xX0_leastMarked.2.2.1 xX0_leastMarked.2.2.2.1 ∈ zT := zT_of (i := 737) rfl rfl
theorem pdX0_leastMarked : xX0_leastMarked.1.cls ≠ "java/lang/invoke/MethodHandle" ∧ xX0_leastMarked.1.cls ≠ "java/lang/invoke/VarHandle" ∧ (parseMethodDescriptor xX0_leastMarked.1.desc).map (fun d => d.parameters.length) = some 0 := by decide +kernel
theorem ivX0_leastMarked : Cond.instanceMethod xX0_leastMarked.1 ∈ zT ∧ Cond.selects xX0_leastMarked.1.cls xX0_leastMarked.1 xX0_leastMarked.1 ∈ zT := have h : zChk [735, 736] [Cond.instanceMethod xX0_leastMarked.1, Cond.selects xX0_leastMarked.1.cls xX0_leastMarked.1 xX0_leastMarked.1] = true := by decide +kernel
  ⟨zChk_ok h _ (.head _), zChk_ok h _ (.tail _ (.head _))⟩
theorem lkX4_257 : zLk RX4 257 xX0_leastMarked 0 := zLk_of [734, 73] (by decide +kernel) wcX0_leastMarked pdX0_leastMarked
set_option maxRecDepth 100000 in
theorem wcX0_leastQuietWind : Cond.code xX0_leastQuietWind.1 xX0_leastQuietWind.2.1 xX0_leastQuietWind.2.2.1 xX0_leastQuietWind.2.2.2.1 ∈ zT := zT_of (i := 902) rfl rfl
theorem pdX0_leastQuietWind : xX0_leastQuietWind.1.cls ≠ "java/lang/invoke/MethodHandle" ∧ xX0_leastQuietWind.1.cls ≠ "java/lang/invoke/VarHandle" ∧ (parseMethodDescriptor xX0_leastQuietWind.1.desc).map (fun d => d.parameters.length) = some 2 := by decide +kernel
theorem ivX0_leastQuietWind : Cond.instanceMethod xX0_leastQuietWind.1 ∈ zT ∧ Cond.selects xX0_leastQuietWind.1.cls xX0_leastQuietWind.1 xX0_leastQuietWind.1 ∈ zT := have h : zChk [900, 901] [Cond.instanceMethod xX0_leastQuietWind.1, Cond.selects xX0_leastQuietWind.1.cls xX0_leastQuietWind.1 xX0_leastQuietWind.1] = true := by decide +kernel
  ⟨zChk_ok h _ (.head _), zChk_ok h _ (.tail _ (.head _))⟩
theorem lkX4_329 : zLk RX4 329 xX0_leastQuietWind 2 := zLk_of [899, 73] (by decide +kernel) wcX0_leastQuietWind pdX0_leastQuietWind
set_option maxRecDepth 100000 in
theorem wcX0_markLengths : Cond.code xX0_markLengths.1 xX0_markLengths.2.1 xX0_markLengths.2.2.1 xX0_markLengths.2.2.2.1 ∈ zT := zT_of (i := 727) rfl rfl
theorem pdX0_markLengths : xX0_markLengths.1.cls ≠ "java/lang/invoke/MethodHandle" ∧ xX0_markLengths.1.cls ≠ "java/lang/invoke/VarHandle" ∧ (parseMethodDescriptor xX0_markLengths.1.desc).map (fun d => d.parameters.length) = some 4 := by decide +kernel
theorem ivX0_markLengths : Cond.instanceMethod xX0_markLengths.1 ∈ zT ∧ Cond.selects xX0_markLengths.1.cls xX0_markLengths.1 xX0_markLengths.1 ∈ zT := have h : zChk [725, 726] [Cond.instanceMethod xX0_markLengths.1, Cond.selects xX0_markLengths.1.cls xX0_markLengths.1 xX0_markLengths.1] = true := by decide +kernel
  ⟨zChk_ok h _ (.head _), zChk_ok h _ (.tail _ (.head _))⟩
theorem lkX4_253 : zLk RX4 253 xX0_markLengths 4 := zLk_of [724, 73] (by decide +kernel) wcX0_markLengths pdX0_markLengths
set_option maxRecDepth 100000 in
theorem wcX0_merriestHouse : Cond.code xX0_merriestHouse.1 xX0_merriestHouse.2.1 xX0_merriestHouse.2.2.1 xX0_merriestHouse.2.2.2.1 ∈ zT := zT_of (i := 942) rfl rfl
theorem pdX0_merriestHouse : xX0_merriestHouse.1.cls ≠ "java/lang/invoke/MethodHandle" ∧ xX0_merriestHouse.1.cls ≠ "java/lang/invoke/VarHandle" ∧ (parseMethodDescriptor xX0_merriestHouse.1.desc).map (fun d => d.parameters.length) = some 2 := by decide +kernel
theorem ivX0_merriestHouse : Cond.instanceMethod xX0_merriestHouse.1 ∈ zT ∧ Cond.selects xX0_merriestHouse.1.cls xX0_merriestHouse.1 xX0_merriestHouse.1 ∈ zT := have h : zChk [940, 941] [Cond.instanceMethod xX0_merriestHouse.1, Cond.selects xX0_merriestHouse.1.cls xX0_merriestHouse.1 xX0_merriestHouse.1] = true := by decide +kernel
  ⟨zChk_ok h _ (.head _), zChk_ok h _ (.tail _ (.head _))⟩
theorem lkX4_345 : zLk RX4 345 xX0_merriestHouse 2 := zLk_of [939, 73] (by decide +kernel) wcX0_merriestHouse pdX0_merriestHouse
set_option maxRecDepth 100000 in
theorem wcX0_mostLeft : Cond.code xX0_mostLeft.1 xX0_mostLeft.2.1 xX0_mostLeft.2.2.1 xX0_mostLeft.2.2.2.1 ∈ zT := zT_of (i := 765) rfl rfl
theorem pdX0_mostLeft : xX0_mostLeft.1.cls ≠ "java/lang/invoke/MethodHandle" ∧ xX0_mostLeft.1.cls ≠ "java/lang/invoke/VarHandle" ∧ (parseMethodDescriptor xX0_mostLeft.1.desc).map (fun d => d.parameters.length) = some 2 := by decide +kernel
theorem ivX0_mostLeft : Cond.instanceMethod xX0_mostLeft.1 ∈ zT ∧ Cond.selects xX0_mostLeft.1.cls xX0_mostLeft.1 xX0_mostLeft.1 ∈ zT := have h : zChk [764, 23] [Cond.instanceMethod xX0_mostLeft.1, Cond.selects xX0_mostLeft.1.cls xX0_mostLeft.1 xX0_mostLeft.1] = true := by decide +kernel
  ⟨zChk_ok h _ (.head _), zChk_ok h _ (.tail _ (.head _))⟩
theorem lkX0_83 : zLk RX0 83 xX0_mostLeft 2 := zLk_of [762, 73] (by decide +kernel) wcX0_mostLeft pdX0_mostLeft
set_option maxRecDepth 100000 in
theorem wcX0_sealFor : Cond.code xX0_sealFor.1 xX0_sealFor.2.1 xX0_sealFor.2.2.1 xX0_sealFor.2.2.2.1 ∈ zT := zT_of (i := 703) rfl rfl
theorem pdX0_sealFor : xX0_sealFor.1.cls ≠ "java/lang/invoke/MethodHandle" ∧ xX0_sealFor.1.cls ≠ "java/lang/invoke/VarHandle" ∧ (parseMethodDescriptor xX0_sealFor.1.desc).map (fun d => d.parameters.length) = some 3 := by decide +kernel
theorem ivX0_sealFor : Cond.instanceMethod xX0_sealFor.1 ∈ zT ∧ Cond.selects xX0_sealFor.1.cls xX0_sealFor.1 xX0_sealFor.1 ∈ zT := have h : zChk [701, 702] [Cond.instanceMethod xX0_sealFor.1, Cond.selects xX0_sealFor.1.cls xX0_sealFor.1 xX0_sealFor.1] = true := by decide +kernel
  ⟨zChk_ok h _ (.head _), zChk_ok h _ (.tail _ (.head _))⟩
theorem lkX4_243 : zLk RX4 243 xX0_sealFor 3 := zLk_of [700, 73] (by decide +kernel) wcX0_sealFor pdX0_sealFor
set_option maxRecDepth 100000 in
theorem wcX0_sureKnowers : Cond.code xX0_sureKnowers.1 xX0_sureKnowers.2.1 xX0_sureKnowers.2.2.1 xX0_sureKnowers.2.2.2.1 ∈ zT := zT_of (i := 823) rfl rfl
theorem pdX0_sureKnowers : xX0_sureKnowers.1.cls ≠ "java/lang/invoke/MethodHandle" ∧ xX0_sureKnowers.1.cls ≠ "java/lang/invoke/VarHandle" ∧ (parseMethodDescriptor xX0_sureKnowers.1.desc).map (fun d => d.parameters.length) = some 2 := by decide +kernel
theorem ivX0_sureKnowers : Cond.instanceMethod xX0_sureKnowers.1 ∈ zT ∧ Cond.selects xX0_sureKnowers.1.cls xX0_sureKnowers.1 xX0_sureKnowers.1 ∈ zT := have h : zChk [821, 822] [Cond.instanceMethod xX0_sureKnowers.1, Cond.selects xX0_sureKnowers.1.cls xX0_sureKnowers.1 xX0_sureKnowers.1] = true := by decide +kernel
  ⟨zChk_ok h _ (.head _), zChk_ok h _ (.tail _ (.head _))⟩
theorem lkX4_297 : zLk RX4 297 xX0_sureKnowers 2 := zLk_of [820, 73] (by decide +kernel) wcX0_sureKnowers pdX0_sureKnowers
set_option maxRecDepth 100000 in
theorem wcX0_widestTo : Cond.code xX0_widestTo.1 xX0_widestTo.2.1 xX0_widestTo.2.2.1 xX0_widestTo.2.2.2.1 ∈ zT := zT_of (i := 859) rfl rfl
theorem pdX0_widestTo : xX0_widestTo.1.cls ≠ "java/lang/invoke/MethodHandle" ∧ xX0_widestTo.1.cls ≠ "java/lang/invoke/VarHandle" ∧ (parseMethodDescriptor xX0_widestTo.1.desc).map (fun d => d.parameters.length) = some 2 := by decide +kernel
theorem ivX0_widestTo : Cond.instanceMethod xX0_widestTo.1 ∈ zT ∧ Cond.selects xX0_widestTo.1.cls xX0_widestTo.1 xX0_widestTo.1 ∈ zT := have h : zChk [857, 858] [Cond.instanceMethod xX0_widestTo.1, Cond.selects xX0_widestTo.1.cls xX0_widestTo.1 xX0_widestTo.1] = true := by decide +kernel
  ⟨zChk_ok h _ (.head _), zChk_ok h _ (.tail _ (.head _))⟩
theorem lkX4_312 : zLk RX4 312 xX0_widestTo 2 := zLk_of [856, 73] (by decide +kernel) wcX0_widestTo pdX0_widestTo
set_option maxRecDepth 100000 in
theorem wcX0_windsOfKnowing : Cond.code xX0_windsOfKnowing.1 xX0_windsOfKnowing.2.1 xX0_windsOfKnowing.2.2.1 xX0_windsOfKnowing.2.2.2.1 ∈ zT := zT_of (i := 814) rfl rfl
theorem pdX0_windsOfKnowing : xX0_windsOfKnowing.1.cls ≠ "java/lang/invoke/MethodHandle" ∧ xX0_windsOfKnowing.1.cls ≠ "java/lang/invoke/VarHandle" ∧ (parseMethodDescriptor xX0_windsOfKnowing.1.desc).map (fun d => d.parameters.length) = some 3 := by decide +kernel
theorem ivX0_windsOfKnowing : Cond.instanceMethod xX0_windsOfKnowing.1 ∈ zT ∧ Cond.selects xX0_windsOfKnowing.1.cls xX0_windsOfKnowing.1 xX0_windsOfKnowing.1 ∈ zT := have h : zChk [812, 813] [Cond.instanceMethod xX0_windsOfKnowing.1, Cond.selects xX0_windsOfKnowing.1.cls xX0_windsOfKnowing.1 xX0_windsOfKnowing.1] = true := by decide +kernel
  ⟨zChk_ok h _ (.head _), zChk_ok h _ (.tail _ (.head _))⟩
theorem lkX4_293 : zLk RX4 293 xX0_windsOfKnowing 3 := zLk_of [811, 73] (by decide +kernel) wcX0_windsOfKnowing pdX0_windsOfKnowing
theorem lkX0_104 : zLk RX0 104 xX0_windsOfKnowing 3 := zLk_of [824, 73] (by decide +kernel) wcX0_windsOfKnowing pdX0_windsOfKnowing
set_option maxRecDepth 100000 in
theorem wcX1_addLetter : Cond.code xX1_addLetter.1 xX1_addLetter.2.1 xX1_addLetter.2.2.1 xX1_addLetter.2.2.2.1 ∈ zT := zT_of (i := 411) rfl rfl
theorem pdX1_addLetter : xX1_addLetter.1.cls ≠ "java/lang/invoke/MethodHandle" ∧ xX1_addLetter.1.cls ≠ "java/lang/invoke/VarHandle" ∧ (parseMethodDescriptor xX1_addLetter.1.desc).map (fun d => d.parameters.length) = some 4 := by decide +kernel
theorem ivX1_addLetter : Cond.instanceMethod xX1_addLetter.1 ∈ zT ∧ Cond.selects xX1_addLetter.1.cls xX1_addLetter.1 xX1_addLetter.1 ∈ zT := have h : zChk [409, 410] [Cond.instanceMethod xX1_addLetter.1, Cond.selects xX1_addLetter.1.cls xX1_addLetter.1 xX1_addLetter.1] = true := by decide +kernel
  ⟨zChk_ok h _ (.head _), zChk_ok h _ (.tail _ (.head _))⟩
theorem lkX4_138 : zLk RX4 138 xX1_addLetter 4 := zLk_of [408, 72] (by decide +kernel) wcX1_addLetter pdX1_addLetter
theorem lkX3_98 : zLk RX3 98 xX1_addLetter 4 := zLk_of [561, 72] (by decide +kernel) wcX1_addLetter pdX1_addLetter
set_option maxRecDepth 100000 in
theorem wcX1_allDrink : Cond.code xX1_allDrink.1 xX1_allDrink.2.1 xX1_allDrink.2.2.1 xX1_allDrink.2.2.2.1 ∈ zT := zT_of (i := 1008) rfl rfl
theorem pdX1_allDrink : xX1_allDrink.1.cls ≠ "java/lang/invoke/MethodHandle" ∧ xX1_allDrink.1.cls ≠ "java/lang/invoke/VarHandle" ∧ (parseMethodDescriptor xX1_allDrink.1.desc).map (fun d => d.parameters.length) = some 0 := by decide +kernel
theorem ivX1_allDrink : Cond.instanceMethod xX1_allDrink.1 ∈ zT ∧ Cond.selects xX1_allDrink.1.cls xX1_allDrink.1 xX1_allDrink.1 ∈ zT := have h : zChk [1006, 1007] [Cond.instanceMethod xX1_allDrink.1, Cond.selects xX1_allDrink.1.cls xX1_allDrink.1 xX1_allDrink.1] = true := by decide +kernel
  ⟨zChk_ok h _ (.head _), zChk_ok h _ (.tail _ (.head _))⟩
theorem lkX4_363 : zLk RX4 363 xX1_allDrink 0 := zLk_of [1005, 72] (by decide +kernel) wcX1_allDrink pdX1_allDrink
set_option maxRecDepth 100000 in
theorem wcX1_allEars : Cond.code xX1_allEars.1 xX1_allEars.2.1 xX1_allEars.2.2.1 xX1_allEars.2.2.2.1 ∈ zT := zT_of (i := 974) rfl rfl
theorem pdX1_allEars : xX1_allEars.1.cls ≠ "java/lang/invoke/MethodHandle" ∧ xX1_allEars.1.cls ≠ "java/lang/invoke/VarHandle" ∧ (parseMethodDescriptor xX1_allEars.1.desc).map (fun d => d.parameters.length) = some 0 := by decide +kernel
theorem ivX1_allEars : Cond.instanceMethod xX1_allEars.1 ∈ zT ∧ Cond.selects xX1_allEars.1.cls xX1_allEars.1 xX1_allEars.1 ∈ zT := have h : zChk [972, 973] [Cond.instanceMethod xX1_allEars.1, Cond.selects xX1_allEars.1.cls xX1_allEars.1 xX1_allEars.1] = true := by decide +kernel
  ⟨zChk_ok h _ (.head _), zChk_ok h _ (.tail _ (.head _))⟩
theorem lkX4_354 : zLk RX4 354 xX1_allEars 0 := zLk_of [971, 72] (by decide +kernel) wcX1_allEars pdX1_allEars
set_option maxRecDepth 100000 in
theorem wcX1_allKnowers : Cond.code xX1_allKnowers.1 xX1_allKnowers.2.1 xX1_allKnowers.2.2.1 xX1_allKnowers.2.2.2.1 ∈ zT := zT_of (i := 919) rfl rfl
theorem pdX1_allKnowers : xX1_allKnowers.1.cls ≠ "java/lang/invoke/MethodHandle" ∧ xX1_allKnowers.1.cls ≠ "java/lang/invoke/VarHandle" ∧ (parseMethodDescriptor xX1_allKnowers.1.desc).map (fun d => d.parameters.length) = some 0 := by decide +kernel
theorem ivX1_allKnowers : Cond.instanceMethod xX1_allKnowers.1 ∈ zT ∧ Cond.selects xX1_allKnowers.1.cls xX1_allKnowers.1 xX1_allKnowers.1 ∈ zT := have h : zChk [917, 918] [Cond.instanceMethod xX1_allKnowers.1, Cond.selects xX1_allKnowers.1.cls xX1_allKnowers.1 xX1_allKnowers.1] = true := by decide +kernel
  ⟨zChk_ok h _ (.head _), zChk_ok h _ (.tail _ (.head _))⟩
theorem lkX4_335 : zLk RX4 335 xX1_allKnowers 0 := zLk_of [916, 72] (by decide +kernel) wcX1_allKnowers pdX1_allKnowers
theorem lkX0_126 : zLk RX0 126 xX1_allKnowers 0 := zLk_of [925, 72] (by decide +kernel) wcX1_allKnowers pdX1_allKnowers
set_option maxRecDepth 100000 in
theorem wcX1_draw : Cond.code xX1_draw.1 xX1_draw.2.1 xX1_draw.2.2.1 xX1_draw.2.2.2.1 ∈ zT := zT_of (i := 986) rfl rfl
theorem pdX1_draw : xX1_draw.1.cls ≠ "java/lang/invoke/MethodHandle" ∧ xX1_draw.1.cls ≠ "java/lang/invoke/VarHandle" ∧ (parseMethodDescriptor xX1_draw.1.desc).map (fun d => d.parameters.length) = some 1 := by decide +kernel
theorem ivX1_draw : Cond.instanceMethod xX1_draw.1 ∈ zT ∧ Cond.selects xX1_draw.1.cls xX1_draw.1 xX1_draw.1 ∈ zT := have h : zChk [985, 27] [Cond.instanceMethod xX1_draw.1, Cond.selects xX1_draw.1.cls xX1_draw.1 xX1_draw.1] = true := by decide +kernel
  ⟨zChk_ok h _ (.head _), zChk_ok h _ (.tail _ (.head _))⟩
theorem lkX1_113 : zLk RX1 113 xX1_draw 1 := zLk_of [983, 72] (by decide +kernel) wcX1_draw pdX1_draw
set_option maxRecDepth 100000 in
theorem wcX1_endKnower : Cond.code xX1_endKnower.1 xX1_endKnower.2.1 xX1_endKnower.2.2.1 xX1_endKnower.2.2.2.1 ∈ zT := zT_of (i := 633) rfl rfl
theorem pdX1_endKnower : xX1_endKnower.1.cls ≠ "java/lang/invoke/MethodHandle" ∧ xX1_endKnower.1.cls ≠ "java/lang/invoke/VarHandle" ∧ (parseMethodDescriptor xX1_endKnower.1.desc).map (fun d => d.parameters.length) = some 2 := by decide +kernel
theorem ivX1_endKnower : Cond.instanceMethod xX1_endKnower.1 ∈ zT ∧ Cond.selects xX1_endKnower.1.cls xX1_endKnower.1 xX1_endKnower.1 ∈ zT := have h : zChk [631, 632] [Cond.instanceMethod xX1_endKnower.1, Cond.selects xX1_endKnower.1.cls xX1_endKnower.1 xX1_endKnower.1] = true := by decide +kernel
  ⟨zChk_ok h _ (.head _), zChk_ok h _ (.tail _ (.head _))⟩
theorem lkX4_213 : zLk RX4 213 xX1_endKnower 2 := zLk_of [630, 72] (by decide +kernel) wcX1_endKnower pdX1_endKnower
set_option maxRecDepth 100000 in
theorem wcX1_goDrawnDay : Cond.code xX1_goDrawnDay.1 xX1_goDrawnDay.2.1 xX1_goDrawnDay.2.2.1 xX1_goDrawnDay.2.2.2.1 ∈ zT := zT_of (i := 982) rfl rfl
theorem pdX1_goDrawnDay : xX1_goDrawnDay.1.cls ≠ "java/lang/invoke/MethodHandle" ∧ xX1_goDrawnDay.1.cls ≠ "java/lang/invoke/VarHandle" ∧ (parseMethodDescriptor xX1_goDrawnDay.1.desc).map (fun d => d.parameters.length) = some 0 := by decide +kernel
theorem ivX1_goDrawnDay : Cond.instanceMethod xX1_goDrawnDay.1 ∈ zT ∧ Cond.selects xX1_goDrawnDay.1.cls xX1_goDrawnDay.1 xX1_goDrawnDay.1 ∈ zT := have h : zChk [980, 981] [Cond.instanceMethod xX1_goDrawnDay.1, Cond.selects xX1_goDrawnDay.1.cls xX1_goDrawnDay.1 xX1_goDrawnDay.1] = true := by decide +kernel
  ⟨zChk_ok h _ (.head _), zChk_ok h _ (.tail _ (.head _))⟩
theorem lkX4_357 : zLk RX4 357 xX1_goDrawnDay 0 := zLk_of [979, 72] (by decide +kernel) wcX1_goDrawnDay pdX1_goDrawnDay
set_option maxRecDepth 100000 in
theorem wcX1_goRound : Cond.code xX1_goRound.1 xX1_goRound.2.1 xX1_goRound.2.2.1 xX1_goRound.2.2.2.1 ∈ zT := zT_of (i := 966) rfl rfl
theorem pdX1_goRound : xX1_goRound.1.cls ≠ "java/lang/invoke/MethodHandle" ∧ xX1_goRound.1.cls ≠ "java/lang/invoke/VarHandle" ∧ (parseMethodDescriptor xX1_goRound.1.desc).map (fun d => d.parameters.length) = some 0 := by decide +kernel
theorem ivX1_goRound : Cond.instanceMethod xX1_goRound.1 ∈ zT ∧ Cond.selects xX1_goRound.1.cls xX1_goRound.1 xX1_goRound.1 ∈ zT := have h : zChk [964, 965] [Cond.instanceMethod xX1_goRound.1, Cond.selects xX1_goRound.1.cls xX1_goRound.1 xX1_goRound.1] = true := by decide +kernel
  ⟨zChk_ok h _ (.head _), zChk_ok h _ (.tail _ (.head _))⟩
theorem lkX4_348 : zLk RX4 348 xX1_goRound 0 := zLk_of [963, 72] (by decide +kernel) wcX1_goRound pdX1_goRound
theorem lkX1_116 : zLk RX1 116 xX1_goRound 0 := zLk_of [988, 72] (by decide +kernel) wcX1_goRound pdX1_goRound
set_option maxRecDepth 100000 in
theorem wcX1_hasRoom : Cond.code xX1_hasRoom.1 xX1_hasRoom.2.1 xX1_hasRoom.2.2.1 xX1_hasRoom.2.2.2.1 ∈ zT := zT_of (i := 407) rfl rfl
theorem pdX1_hasRoom : xX1_hasRoom.1.cls ≠ "java/lang/invoke/MethodHandle" ∧ xX1_hasRoom.1.cls ≠ "java/lang/invoke/VarHandle" ∧ (parseMethodDescriptor xX1_hasRoom.1.desc).map (fun d => d.parameters.length) = some 0 := by decide +kernel
theorem ivX1_hasRoom : Cond.instanceMethod xX1_hasRoom.1 ∈ zT ∧ Cond.selects xX1_hasRoom.1.cls xX1_hasRoom.1 xX1_hasRoom.1 ∈ zT := have h : zChk [405, 406] [Cond.instanceMethod xX1_hasRoom.1, Cond.selects xX1_hasRoom.1.cls xX1_hasRoom.1 xX1_hasRoom.1] = true := by decide +kernel
  ⟨zChk_ok h _ (.head _), zChk_ok h _ (.tail _ (.head _))⟩
theorem lkX4_135 : zLk RX4 135 xX1_hasRoom 0 := zLk_of [404, 72] (by decide +kernel) wcX1_hasRoom pdX1_hasRoom
theorem lkX1_62 : zLk RX1 62 xX1_hasRoom 0 := zLk_of [412, 72] (by decide +kernel) wcX1_hasRoom pdX1_hasRoom
theorem lkX3_97 : zLk RX3 97 xX1_hasRoom 0 := zLk_of [560, 72] (by decide +kernel) wcX1_hasRoom pdX1_hasRoom
set_option maxRecDepth 100000 in
theorem wcX1_heardAt : Cond.code xX1_heardAt.1 xX1_heardAt.2.1 xX1_heardAt.2.2.1 xX1_heardAt.2.2.2.1 ∈ zT := zT_of (i := 361) rfl rfl
theorem pdX1_heardAt : xX1_heardAt.1.cls ≠ "java/lang/invoke/MethodHandle" ∧ xX1_heardAt.1.cls ≠ "java/lang/invoke/VarHandle" ∧ (parseMethodDescriptor xX1_heardAt.1.desc).map (fun d => d.parameters.length) = some 2 := by decide +kernel
theorem ivX1_heardAt : Cond.instanceMethod xX1_heardAt.1 ∈ zT ∧ Cond.selects xX1_heardAt.1.cls xX1_heardAt.1 xX1_heardAt.1 ∈ zT := have h : zChk [359, 360] [Cond.instanceMethod xX1_heardAt.1, Cond.selects xX1_heardAt.1.cls xX1_heardAt.1 xX1_heardAt.1] = true := by decide +kernel
  ⟨zChk_ok h _ (.head _), zChk_ok h _ (.tail _ (.head _))⟩
theorem lkX4_125 : zLk RX4 125 xX1_heardAt 2 := zLk_of [358, 72] (by decide +kernel) wcX1_heardAt pdX1_heardAt
theorem lkX0_65 : zLk RX0 65 xX1_heardAt 2 := zLk_of [732, 72] (by decide +kernel) wcX1_heardAt pdX1_heardAt
theorem lkX1_96 : zLk RX1 96 xX1_heardAt 2 := zLk_of [643, 72] (by decide +kernel) wcX1_heardAt pdX1_heardAt
set_option maxRecDepth 100000 in
theorem wcX1_heardWith : Cond.code xX1_heardWith.1 xX1_heardWith.2.1 xX1_heardWith.2.2.1 xX1_heardWith.2.2.2.1 ∈ zT := zT_of (i := 373) rfl rfl
theorem pdX1_heardWith : xX1_heardWith.1.cls ≠ "java/lang/invoke/MethodHandle" ∧ xX1_heardWith.1.cls ≠ "java/lang/invoke/VarHandle" ∧ (parseMethodDescriptor xX1_heardWith.1.desc).map (fun d => d.parameters.length) = some 3 := by decide +kernel
theorem ivX1_heardWith : Cond.instanceMethod xX1_heardWith.1 ∈ zT ∧ Cond.selects xX1_heardWith.1.cls xX1_heardWith.1 xX1_heardWith.1 ∈ zT := have h : zChk [372, 4] [Cond.instanceMethod xX1_heardWith.1, Cond.selects xX1_heardWith.1.cls xX1_heardWith.1 xX1_heardWith.1] = true := by decide +kernel
  ⟨zChk_ok h _ (.head _), zChk_ok h _ (.tail _ (.head _))⟩
theorem lkX1_73 : zLk RX1 73 xX1_heardWith 3 := zLk_of [370, 72] (by decide +kernel) wcX1_heardWith pdX1_heardWith
set_option maxRecDepth 100000 in
theorem wcX1_houseAtStep : Cond.code xX1_houseAtStep.1 xX1_houseAtStep.2.1 xX1_houseAtStep.2.2.1 xX1_houseAtStep.2.2.2.1 ∈ zT := zT_of (i := 617) rfl rfl
theorem pdX1_houseAtStep : xX1_houseAtStep.1.cls ≠ "java/lang/invoke/MethodHandle" ∧ xX1_houseAtStep.1.cls ≠ "java/lang/invoke/VarHandle" ∧ (parseMethodDescriptor xX1_houseAtStep.1.desc).map (fun d => d.parameters.length) = some 1 := by decide +kernel
theorem ivX1_houseAtStep : Cond.instanceMethod xX1_houseAtStep.1 ∈ zT ∧ Cond.selects xX1_houseAtStep.1.cls xX1_houseAtStep.1 xX1_houseAtStep.1 ∈ zT := have h : zChk [615, 616] [Cond.instanceMethod xX1_houseAtStep.1, Cond.selects xX1_houseAtStep.1.cls xX1_houseAtStep.1 xX1_houseAtStep.1] = true := by decide +kernel
  ⟨zChk_ok h _ (.head _), zChk_ok h _ (.tail _ (.head _))⟩
theorem lkX1_99 : zLk RX1 99 xX1_houseAtStep 1 := zLk_of [614, 72] (by decide +kernel) wcX1_houseAtStep pdX1_houseAtStep
set_option maxRecDepth 100000 in
theorem wcX1_houseWithFewest : Cond.code xX1_houseWithFewest.1 xX1_houseWithFewest.2.1 xX1_houseWithFewest.2.2.1 xX1_houseWithFewest.2.2.2.1 ∈ zT := zT_of (i := 659) rfl rfl
theorem pdX1_houseWithFewest : xX1_houseWithFewest.1.cls ≠ "java/lang/invoke/MethodHandle" ∧ xX1_houseWithFewest.1.cls ≠ "java/lang/invoke/VarHandle" ∧ (parseMethodDescriptor xX1_houseWithFewest.1.desc).map (fun d => d.parameters.length) = some 0 := by decide +kernel
theorem ivX1_houseWithFewest : Cond.instanceMethod xX1_houseWithFewest.1 ∈ zT ∧ Cond.selects xX1_houseWithFewest.1.cls xX1_houseWithFewest.1 xX1_houseWithFewest.1 ∈ zT := have h : zChk [657, 658] [Cond.instanceMethod xX1_houseWithFewest.1, Cond.selects xX1_houseWithFewest.1.cls xX1_houseWithFewest.1 xX1_houseWithFewest.1] = true := by decide +kernel
  ⟨zChk_ok h _ (.head _), zChk_ok h _ (.tail _ (.head _))⟩
theorem lkX4_223 : zLk RX4 223 xX1_houseWithFewest 0 := zLk_of [656, 72] (by decide +kernel) wcX1_houseWithFewest pdX1_houseWithFewest
set_option maxRecDepth 100000 in
theorem wcX1_houseWithMost : Cond.code xX1_houseWithMost.1 xX1_houseWithMost.2.1 xX1_houseWithMost.2.2.1 xX1_houseWithMost.2.2.2.1 ∈ zT := zT_of (i := 664) rfl rfl
theorem pdX1_houseWithMost : xX1_houseWithMost.1.cls ≠ "java/lang/invoke/MethodHandle" ∧ xX1_houseWithMost.1.cls ≠ "java/lang/invoke/VarHandle" ∧ (parseMethodDescriptor xX1_houseWithMost.1.desc).map (fun d => d.parameters.length) = some 0 := by decide +kernel
theorem ivX1_houseWithMost : Cond.instanceMethod xX1_houseWithMost.1 ∈ zT ∧ Cond.selects xX1_houseWithMost.1.cls xX1_houseWithMost.1 xX1_houseWithMost.1 ∈ zT := have h : zChk [662, 663] [Cond.instanceMethod xX1_houseWithMost.1, Cond.selects xX1_houseWithMost.1.cls xX1_houseWithMost.1 xX1_houseWithMost.1] = true := by decide +kernel
  ⟨zChk_ok h _ (.head _), zChk_ok h _ (.tail _ (.head _))⟩
theorem lkX4_226 : zLk RX4 226 xX1_houseWithMost 0 := zLk_of [661, 72] (by decide +kernel) wcX1_houseWithMost pdX1_houseWithMost
set_option maxRecDepth 100000 in
theorem wcX1_init : Cond.code xX1_init.1 xX1_init.2.1 xX1_init.2.2.1 xX1_init.2.2.2.1 ∈ zT := zT_of (i := 96) rfl rfl
theorem pdX1_init : xX1_init.1.cls ≠ "java/lang/invoke/MethodHandle" ∧ xX1_init.1.cls ≠ "java/lang/invoke/VarHandle" ∧ (parseMethodDescriptor xX1_init.1.desc).map (fun d => d.parameters.length) = some 0 := by decide +kernel
theorem iiX1_init : Cond.instanceMethod xX1_init.1 ∈ zT ∧ xX1_init.1.name = "<init>" ∧ xX1_init.2.2.2.1 = none := have h : zChk [95] [Cond.instanceMethod xX1_init.1] = true := by decide +kernel
  ⟨zChk_ok h _ (.head _), rfl, rfl⟩
theorem lkX4_9 : zLn RX4 9 xX1_init 0 := ⟨⟨"ReadOutAlongTheWay", by decide +kernel⟩, zChk_ok (ps := [72]) (ws := [Cond.initialized xX1_init.1.cls]) (by decide +kernel) _ (.head _), wcX1_init, pdX1_init⟩
theorem lkX0_11 : zLn RX0 11 xX1_init 0 := ⟨⟨"ReadOutAlongTheWay", by decide +kernel⟩, zChk_ok (ps := [72]) (ws := [Cond.initialized xX1_init.1.cls]) (by decide +kernel) _ (.head _), wcX1_init, pdX1_init⟩
set_option maxRecDepth 100000 in
theorem wcX1_isKnown : Cond.code xX1_isKnown.1 xX1_isKnown.2.1 xX1_isKnown.2.2.1 xX1_isKnown.2.2.2.1 ∈ zT := zT_of (i := 715) rfl rfl
theorem pdX1_isKnown : xX1_isKnown.1.cls ≠ "java/lang/invoke/MethodHandle" ∧ xX1_isKnown.1.cls ≠ "java/lang/invoke/VarHandle" ∧ (parseMethodDescriptor xX1_isKnown.1.desc).map (fun d => d.parameters.length) = some 2 := by decide +kernel
theorem ivX1_isKnown : Cond.instanceMethod xX1_isKnown.1 ∈ zT ∧ Cond.selects xX1_isKnown.1.cls xX1_isKnown.1 xX1_isKnown.1 ∈ zT := have h : zChk [713, 714] [Cond.instanceMethod xX1_isKnown.1, Cond.selects xX1_isKnown.1.cls xX1_isKnown.1 xX1_isKnown.1] = true := by decide +kernel
  ⟨zChk_ok h _ (.head _), zChk_ok h _ (.tail _ (.head _))⟩
theorem lkX4_321 : zLk RX4 321 xX1_isKnown 2 := zLk_of [881, 72] (by decide +kernel) wcX1_isKnown pdX1_isKnown
theorem lkX0_62 : zLk RX0 62 xX1_isKnown 2 := zLk_of [712, 72] (by decide +kernel) wcX1_isKnown pdX1_isKnown
set_option maxRecDepth 100000 in
theorem wcX1_isNearTo : Cond.code xX1_isNearTo.1 xX1_isNearTo.2.1 xX1_isNearTo.2.2.1 xX1_isNearTo.2.2.2.1 ∈ zT := zT_of (i := 388) rfl rfl
theorem pdX1_isNearTo : xX1_isNearTo.1.cls ≠ "java/lang/invoke/MethodHandle" ∧ xX1_isNearTo.1.cls ≠ "java/lang/invoke/VarHandle" ∧ (parseMethodDescriptor xX1_isNearTo.1.desc).map (fun d => d.parameters.length) = some 2 := by decide +kernel
theorem ivX1_isNearTo : Cond.instanceMethod xX1_isNearTo.1 ∈ zT ∧ Cond.selects xX1_isNearTo.1.cls xX1_isNearTo.1 xX1_isNearTo.1 ∈ zT := have h : zChk [387, 6] [Cond.instanceMethod xX1_isNearTo.1, Cond.selects xX1_isNearTo.1.cls xX1_isNearTo.1 xX1_isNearTo.1] = true := by decide +kernel
  ⟨zChk_ok h _ (.head _), zChk_ok h _ (.tail _ (.head _))⟩
theorem lkX1_88 : zLk RX1 88 xX1_isNearTo 2 := zLk_of [385, 72] (by decide +kernel) wcX1_isNearTo pdX1_isNearTo
set_option maxRecDepth 100000 in
theorem wcX1_knowers : Cond.code xX1_knowers.1 xX1_knowers.2.1 xX1_knowers.2.2.1 xX1_knowers.2.2.2.1 ∈ zT := zT_of (i := 613) rfl rfl
theorem pdX1_knowers : xX1_knowers.1.cls ≠ "java/lang/invoke/MethodHandle" ∧ xX1_knowers.1.cls ≠ "java/lang/invoke/VarHandle" ∧ (parseMethodDescriptor xX1_knowers.1.desc).map (fun d => d.parameters.length) = some 1 := by decide +kernel
theorem ivX1_knowers : Cond.instanceMethod xX1_knowers.1 ∈ zT ∧ Cond.selects xX1_knowers.1.cls xX1_knowers.1 xX1_knowers.1 ∈ zT := have h : zChk [611, 612] [Cond.instanceMethod xX1_knowers.1, Cond.selects xX1_knowers.1.cls xX1_knowers.1 xX1_knowers.1] = true := by decide +kernel
  ⟨zChk_ok h _ (.head _), zChk_ok h _ (.tail _ (.head _))⟩
theorem lkX4_207 : zLk RX4 207 xX1_knowers 1 := zLk_of [610, 72] (by decide +kernel) wcX1_knowers pdX1_knowers
theorem lkX0_41 : zLk RX0 41 xX1_knowers 1 := zLk_of [678, 72] (by decide +kernel) wcX1_knowers pdX1_knowers
theorem lkX1_102 : zLk RX1 102 xX1_knowers 1 := zLk_of [634, 72] (by decide +kernel) wcX1_knowers pdX1_knowers
set_option maxRecDepth 100000 in
theorem wcX1_knownAt : Cond.code xX1_knownAt.1 xX1_knownAt.2.1 xX1_knownAt.2.2.1 xX1_knownAt.2.2.2.1 ∈ zT := zT_of (i := 625) rfl rfl
theorem pdX1_knownAt : xX1_knownAt.1.cls ≠ "java/lang/invoke/MethodHandle" ∧ xX1_knownAt.1.cls ≠ "java/lang/invoke/VarHandle" ∧ (parseMethodDescriptor xX1_knownAt.1.desc).map (fun d => d.parameters.length) = some 1 := by decide +kernel
theorem ivX1_knownAt : Cond.instanceMethod xX1_knownAt.1 ∈ zT ∧ Cond.selects xX1_knownAt.1.cls xX1_knownAt.1 xX1_knownAt.1 ∈ zT := have h : zChk [623, 624] [Cond.instanceMethod xX1_knownAt.1, Cond.selects xX1_knownAt.1.cls xX1_knownAt.1 xX1_knownAt.1] = true := by decide +kernel
  ⟨zChk_ok h _ (.head _), zChk_ok h _ (.tail _ (.head _))⟩
theorem lkX4_210 : zLk RX4 210 xX1_knownAt 1 := zLk_of [622, 72] (by decide +kernel) wcX1_knownAt pdX1_knownAt
theorem lkX0_123 : zLk RX0 123 xX1_knownAt 1 := zLk_of [903, 72] (by decide +kernel) wcX1_knownAt pdX1_knownAt
set_option maxRecDepth 100000 in
theorem wcX1_learn : Cond.code xX1_learn.1 xX1_learn.2.1 xX1_learn.2.2.1 xX1_learn.2.2.2.1 ∈ zT := zT_of (i := 428) rfl rfl
theorem pdX1_learn : xX1_learn.1.cls ≠ "java/lang/invoke/MethodHandle" ∧ xX1_learn.1.cls ≠ "java/lang/invoke/VarHandle" ∧ (parseMethodDescriptor xX1_learn.1.desc).map (fun d => d.parameters.length) = some 2 := by decide +kernel
theorem ivX1_learn : Cond.instanceMethod xX1_learn.1 ∈ zT ∧ Cond.selects xX1_learn.1.cls xX1_learn.1 xX1_learn.1 ∈ zT := have h : zChk [426, 427] [Cond.instanceMethod xX1_learn.1, Cond.selects xX1_learn.1.cls xX1_learn.1 xX1_learn.1] = true := by decide +kernel
  ⟨zChk_ok h _ (.head _), zChk_ok h _ (.tail _ (.head _))⟩
theorem lkX4_157 : zLk RX4 157 xX1_learn 2 := zLk_of [425, 72] (by decide +kernel) wcX1_learn pdX1_learn
theorem lkX0_133 : zLk RX0 133 xX1_learn 2 := zLk_of [934, 72] (by decide +kernel) wcX1_learn pdX1_learn
theorem lkX3_102 : zLk RX3 102 xX1_learn 2 := zLk_of [573, 72] (by decide +kernel) wcX1_learn pdX1_learn
set_option maxRecDepth 100000 in
theorem wcX1_leftOutAfter : Cond.code xX1_leftOutAfter.1 xX1_leftOutAfter.2.1 xX1_leftOutAfter.2.2.1 xX1_leftOutAfter.2.2.2.1 ∈ zT := zT_of (i := 369) rfl rfl
theorem pdX1_leftOutAfter : xX1_leftOutAfter.1.cls ≠ "java/lang/invoke/MethodHandle" ∧ xX1_leftOutAfter.1.cls ≠ "java/lang/invoke/VarHandle" ∧ (parseMethodDescriptor xX1_leftOutAfter.1.desc).map (fun d => d.parameters.length) = some 1 := by decide +kernel
theorem ivX1_leftOutAfter : Cond.instanceMethod xX1_leftOutAfter.1 ∈ zT ∧ Cond.selects xX1_leftOutAfter.1.cls xX1_leftOutAfter.1 xX1_leftOutAfter.1 ∈ zT := have h : zChk [367, 368] [Cond.instanceMethod xX1_leftOutAfter.1, Cond.selects xX1_leftOutAfter.1.cls xX1_leftOutAfter.1 xX1_leftOutAfter.1] = true := by decide +kernel
  ⟨zChk_ok h _ (.head _), zChk_ok h _ (.tail _ (.head _))⟩
theorem lkX4_201 : zLk RX4 201 xX1_leftOutAfter 1 := zLk_of [596, 72] (by decide +kernel) wcX1_leftOutAfter pdX1_leftOutAfter
theorem lkX1_70 : zLk RX1 70 xX1_leftOutAfter 1 := zLk_of [366, 72] (by decide +kernel) wcX1_leftOutAfter pdX1_leftOutAfter
set_option maxRecDepth 100000 in
theorem wcX1_lettersReadAt : Cond.code xX1_lettersReadAt.1 xX1_lettersReadAt.2.1 xX1_lettersReadAt.2.2.1 xX1_lettersReadAt.2.2.2.1 ∈ zT := zT_of (i := 872) rfl rfl
theorem pdX1_lettersReadAt : xX1_lettersReadAt.1.cls ≠ "java/lang/invoke/MethodHandle" ∧ xX1_lettersReadAt.1.cls ≠ "java/lang/invoke/VarHandle" ∧ (parseMethodDescriptor xX1_lettersReadAt.1.desc).map (fun d => d.parameters.length) = some 1 := by decide +kernel
theorem ivX1_lettersReadAt : Cond.instanceMethod xX1_lettersReadAt.1 ∈ zT ∧ Cond.selects xX1_lettersReadAt.1.cls xX1_lettersReadAt.1 xX1_lettersReadAt.1 ∈ zT := have h : zChk [870, 871] [Cond.instanceMethod xX1_lettersReadAt.1, Cond.selects xX1_lettersReadAt.1.cls xX1_lettersReadAt.1 xX1_lettersReadAt.1] = true := by decide +kernel
  ⟨zChk_ok h _ (.head _), zChk_ok h _ (.tail _ (.head _))⟩
theorem lkX4_318 : zLk RX4 318 xX1_lettersReadAt 1 := zLk_of [869, 72] (by decide +kernel) wcX1_lettersReadAt pdX1_lettersReadAt
set_option maxRecDepth 100000 in
theorem wcX1_loudestAt : Cond.code xX1_loudestAt.1 xX1_loudestAt.2.1 xX1_loudestAt.2.2.1 xX1_loudestAt.2.2.2.1 ∈ zT := zT_of (i := 642) rfl rfl
theorem pdX1_loudestAt : xX1_loudestAt.1.cls ≠ "java/lang/invoke/MethodHandle" ∧ xX1_loudestAt.1.cls ≠ "java/lang/invoke/VarHandle" ∧ (parseMethodDescriptor xX1_loudestAt.1.desc).map (fun d => d.parameters.length) = some 1 := by decide +kernel
theorem ivX1_loudestAt : Cond.instanceMethod xX1_loudestAt.1 ∈ zT ∧ Cond.selects xX1_loudestAt.1.cls xX1_loudestAt.1 xX1_loudestAt.1 ∈ zT := have h : zChk [640, 641] [Cond.instanceMethod xX1_loudestAt.1, Cond.selects xX1_loudestAt.1.cls xX1_loudestAt.1 xX1_loudestAt.1] = true := by decide +kernel
  ⟨zChk_ok h _ (.head _), zChk_ok h _ (.tail _ (.head _))⟩
theorem lkX4_217 : zLk RX4 217 xX1_loudestAt 1 := zLk_of [639, 72] (by decide +kernel) wcX1_loudestAt pdX1_loudestAt
set_option maxRecDepth 100000 in
theorem wcX1_readAt : Cond.code xX1_readAt.1 xX1_readAt.2.1 xX1_readAt.2.2.1 xX1_readAt.2.2.2.1 ∈ zT := zT_of (i := 377) rfl rfl
theorem pdX1_readAt : xX1_readAt.1.cls ≠ "java/lang/invoke/MethodHandle" ∧ xX1_readAt.1.cls ≠ "java/lang/invoke/VarHandle" ∧ (parseMethodDescriptor xX1_readAt.1.desc).map (fun d => d.parameters.length) = some 2 := by decide +kernel
theorem ivX1_readAt : Cond.instanceMethod xX1_readAt.1 ∈ zT ∧ Cond.selects xX1_readAt.1.cls xX1_readAt.1 xX1_readAt.1 ∈ zT := have h : zChk [375, 376] [Cond.instanceMethod xX1_readAt.1, Cond.selects xX1_readAt.1.cls xX1_readAt.1 xX1_readAt.1] = true := by decide +kernel
  ⟨zChk_ok h _ (.head _), zChk_ok h _ (.tail _ (.head _))⟩
theorem lkX4_204 : zLk RX4 204 xX1_readAt 2 := zLk_of [605, 72] (by decide +kernel) wcX1_readAt pdX1_readAt
theorem lkX1_77 : zLk RX1 77 xX1_readAt 2 := zLk_of [374, 72] (by decide +kernel) wcX1_readAt pdX1_readAt
set_option maxRecDepth 100000 in
theorem wcX1_takeFrom : Cond.code xX1_takeFrom.1 xX1_takeFrom.2.1 xX1_takeFrom.2.2.1 xX1_takeFrom.2.2.2.1 ∈ zT := zT_of (i := 472) rfl rfl
theorem pdX1_takeFrom : xX1_takeFrom.1.cls ≠ "java/lang/invoke/MethodHandle" ∧ xX1_takeFrom.1.cls ≠ "java/lang/invoke/VarHandle" ∧ (parseMethodDescriptor xX1_takeFrom.1.desc).map (fun d => d.parameters.length) = some 1 := by decide +kernel
theorem ivX1_takeFrom : Cond.instanceMethod xX1_takeFrom.1 ∈ zT ∧ Cond.selects xX1_takeFrom.1.cls xX1_takeFrom.1 xX1_takeFrom.1 ∈ zT := have h : zChk [470, 471] [Cond.instanceMethod xX1_takeFrom.1, Cond.selects xX1_takeFrom.1.cls xX1_takeFrom.1 xX1_takeFrom.1] = true := by decide +kernel
  ⟨zChk_ok h _ (.head _), zChk_ok h _ (.tail _ (.head _))⟩
theorem lkX4_191 : zLk RX4 191 xX1_takeFrom 1 := zLk_of [585, 72] (by decide +kernel) wcX1_takeFrom pdX1_takeFrom
theorem lkX0_26 : zLk RX0 26 xX1_takeFrom 1 := zLk_of [469, 72] (by decide +kernel) wcX1_takeFrom pdX1_takeFrom
set_option maxRecDepth 100000 in
theorem wcX1_tipsyAt : Cond.code xX1_tipsyAt.1 xX1_tipsyAt.2.1 xX1_tipsyAt.2.2.1 xX1_tipsyAt.2.2.2.1 ∈ zT := zT_of (i := 365) rfl rfl
theorem pdX1_tipsyAt : xX1_tipsyAt.1.cls ≠ "java/lang/invoke/MethodHandle" ∧ xX1_tipsyAt.1.cls ≠ "java/lang/invoke/VarHandle" ∧ (parseMethodDescriptor xX1_tipsyAt.1.desc).map (fun d => d.parameters.length) = some 1 := by decide +kernel
theorem ivX1_tipsyAt : Cond.instanceMethod xX1_tipsyAt.1 ∈ zT ∧ Cond.selects xX1_tipsyAt.1.cls xX1_tipsyAt.1 xX1_tipsyAt.1 ∈ zT := have h : zChk [363, 364] [Cond.instanceMethod xX1_tipsyAt.1, Cond.selects xX1_tipsyAt.1.cls xX1_tipsyAt.1 xX1_tipsyAt.1] = true := by decide +kernel
  ⟨zChk_ok h _ (.head _), zChk_ok h _ (.tail _ (.head _))⟩
theorem lkX4_198 : zLk RX4 198 xX1_tipsyAt 1 := zLk_of [595, 72] (by decide +kernel) wcX1_tipsyAt pdX1_tipsyAt
theorem lkX1_66 : zLk RX1 66 xX1_tipsyAt 1 := zLk_of [362, 72] (by decide +kernel) wcX1_tipsyAt pdX1_tipsyAt
set_option maxRecDepth 100000 in
theorem wcX1_understands : Cond.code xX1_understands.1 xX1_understands.2.1 xX1_understands.2.2.1 xX1_understands.2.2.2.1 ∈ zT := zT_of (i := 384) rfl rfl
theorem pdX1_understands : xX1_understands.1.cls ≠ "java/lang/invoke/MethodHandle" ∧ xX1_understands.1.cls ≠ "java/lang/invoke/VarHandle" ∧ (parseMethodDescriptor xX1_understands.1.desc).map (fun d => d.parameters.length) = some 2 := by decide +kernel
theorem ivX1_understands : Cond.instanceMethod xX1_understands.1 ∈ zT ∧ Cond.selects xX1_understands.1.cls xX1_understands.1 xX1_understands.1 ∈ zT := have h : zChk [383, 5] [Cond.instanceMethod xX1_understands.1, Cond.selects xX1_understands.1.cls xX1_understands.1 xX1_understands.1] = true := by decide +kernel
  ⟨zChk_ok h _ (.head _), zChk_ok h _ (.tail _ (.head _))⟩
theorem lkX1_85 : zLk RX1 85 xX1_understands 2 := zLk_of [381, 72] (by decide +kernel) wcX1_understands pdX1_understands
set_option maxRecDepth 100000 in
theorem wcX1_within : Cond.code xX1_within.1 xX1_within.2.1 xX1_within.2.2.1 xX1_within.2.2.2.1 ∈ zT := zT_of (i := 380) rfl rfl
theorem pdX1_within : xX1_within.1.cls ≠ "java/lang/invoke/MethodHandle" ∧ xX1_within.1.cls ≠ "java/lang/invoke/VarHandle" ∧ (parseMethodDescriptor xX1_within.1.desc).map (fun d => d.parameters.length) = some 2 := by decide +kernel
theorem isX1_within : Cond.static xX1_within.1 ∈ zT := have h : zChk [379] [Cond.static xX1_within.1] = true := by decide +kernel
  zChk_ok h _ (.head _)
theorem lkX1_81 : zLk RX1 81 xX1_within 2 := zLk_of [378, 72] (by decide +kernel) wcX1_within pdX1_within
set_option maxRecDepth 100000 in
theorem wcX1_wordsAt : Cond.code xX1_wordsAt.1 xX1_wordsAt.2.1 xX1_wordsAt.2.2.1 xX1_wordsAt.2.2.2.1 ∈ zT := zT_of (i := 651) rfl rfl
theorem pdX1_wordsAt : xX1_wordsAt.1.cls ≠ "java/lang/invoke/MethodHandle" ∧ xX1_wordsAt.1.cls ≠ "java/lang/invoke/VarHandle" ∧ (parseMethodDescriptor xX1_wordsAt.1.desc).map (fun d => d.parameters.length) = some 1 := by decide +kernel
theorem ivX1_wordsAt : Cond.instanceMethod xX1_wordsAt.1 ∈ zT ∧ Cond.selects xX1_wordsAt.1.cls xX1_wordsAt.1 xX1_wordsAt.1 ∈ zT := have h : zChk [649, 650] [Cond.instanceMethod xX1_wordsAt.1, Cond.selects xX1_wordsAt.1.cls xX1_wordsAt.1 xX1_wordsAt.1] = true := by decide +kernel
  ⟨zChk_ok h _ (.head _), zChk_ok h _ (.tail _ (.head _))⟩
theorem lkX4_220 : zLk RX4 220 xX1_wordsAt 1 := zLk_of [648, 72] (by decide +kernel) wcX1_wordsAt pdX1_wordsAt
theorem lkX1_110 : zLk RX1 110 xX1_wordsAt 1 := zLk_of [660, 72] (by decide +kernel) wcX1_wordsAt pdX1_wordsAt
set_option maxRecDepth 100000 in
theorem wcX2_asKept : Cond.code xX2_asKept.1 xX2_asKept.2.1 xX2_asKept.2.2.1 xX2_asKept.2.2.2.1 ∈ zT := zT_of (i := 304) rfl rfl
theorem pdX2_asKept : xX2_asKept.1.cls ≠ "java/lang/invoke/MethodHandle" ∧ xX2_asKept.1.cls ≠ "java/lang/invoke/VarHandle" ∧ (parseMethodDescriptor xX2_asKept.1.desc).map (fun d => d.parameters.length) = some 1 := by decide +kernel
theorem ivX2_asKept : Cond.instanceMethod xX2_asKept.1 ∈ zT ∧ Cond.selects xX2_asKept.1.cls xX2_asKept.1 xX2_asKept.1 ∈ zT := have h : zChk [303, 2] [Cond.instanceMethod xX2_asKept.1, Cond.selects xX2_asKept.1.cls xX2_asKept.1 xX2_asKept.1] = true := by decide +kernel
  ⟨zChk_ok h _ (.head _), zChk_ok h _ (.tail _ (.head _))⟩
theorem lkX2_29 : zLk RX2 29 xX2_asKept 1 := zLk_of [301, 74] (by decide +kernel) wcX2_asKept pdX2_asKept
set_option maxRecDepth 100000 in
theorem wcX2_clearOut : Cond.code xX2_clearOut.1 xX2_clearOut.2.1 xX2_clearOut.2.2.1 xX2_clearOut.2.2.2.1 ∈ zT := zT_of (i := 337) rfl rfl
theorem pdX2_clearOut : xX2_clearOut.1.cls ≠ "java/lang/invoke/MethodHandle" ∧ xX2_clearOut.1.cls ≠ "java/lang/invoke/VarHandle" ∧ (parseMethodDescriptor xX2_clearOut.1.desc).map (fun d => d.parameters.length) = some 0 := by decide +kernel
theorem ivX2_clearOut : Cond.instanceMethod xX2_clearOut.1 ∈ zT ∧ Cond.selects xX2_clearOut.1.cls xX2_clearOut.1 xX2_clearOut.1 ∈ zT := have h : zChk [335, 336] [Cond.instanceMethod xX2_clearOut.1, Cond.selects xX2_clearOut.1.cls xX2_clearOut.1 xX2_clearOut.1] = true := by decide +kernel
  ⟨zChk_ok h _ (.head _), zChk_ok h _ (.tail _ (.head _))⟩
theorem lkX4_102 : zLk RX4 102 xX2_clearOut 0 := zLk_of [334, 74] (by decide +kernel) wcX2_clearOut pdX2_clearOut
set_option maxRecDepth 100000 in
theorem wcX2_hasElement : Cond.code xX2_hasElement.1 xX2_hasElement.2.1 xX2_hasElement.2.2.1 xX2_hasElement.2.2.2.1 ∈ zT := zT_of (i := 296) rfl rfl
theorem pdX2_hasElement : xX2_hasElement.1.cls ≠ "java/lang/invoke/MethodHandle" ∧ xX2_hasElement.1.cls ≠ "java/lang/invoke/VarHandle" ∧ (parseMethodDescriptor xX2_hasElement.1.desc).map (fun d => d.parameters.length) = some 1 := by decide +kernel
theorem ivX2_hasElement : Cond.instanceMethod xX2_hasElement.1 ∈ zT ∧ Cond.selects xX2_hasElement.1.cls xX2_hasElement.1 xX2_hasElement.1 ∈ zT := have h : zChk [294, 295] [Cond.instanceMethod xX2_hasElement.1, Cond.selects xX2_hasElement.1.cls xX2_hasElement.1 xX2_hasElement.1] = true := by decide +kernel
  ⟨zChk_ok h _ (.head _), zChk_ok h _ (.tail _ (.head _))⟩
theorem lkX4_67 : zLk RX4 67 xX2_hasElement 1 := zLk_of [293, 74] (by decide +kernel) wcX2_hasElement pdX2_hasElement
set_option maxRecDepth 100000 in
theorem wcX2_hasPart : Cond.code xX2_hasPart.1 xX2_hasPart.2.1 xX2_hasPart.2.2.1 xX2_hasPart.2.2.2.1 ∈ zT := zT_of (i := 314) rfl rfl
theorem pdX2_hasPart : xX2_hasPart.1.cls ≠ "java/lang/invoke/MethodHandle" ∧ xX2_hasPart.1.cls ≠ "java/lang/invoke/VarHandle" ∧ (parseMethodDescriptor xX2_hasPart.1.desc).map (fun d => d.parameters.length) = some 2 := by decide +kernel
theorem ivX2_hasPart : Cond.instanceMethod xX2_hasPart.1 ∈ zT ∧ Cond.selects xX2_hasPart.1.cls xX2_hasPart.1 xX2_hasPart.1 ∈ zT := have h : zChk [312, 313] [Cond.instanceMethod xX2_hasPart.1, Cond.selects xX2_hasPart.1.cls xX2_hasPart.1 xX2_hasPart.1] = true := by decide +kernel
  ⟨zChk_ok h _ (.head _), zChk_ok h _ (.tail _ (.head _))⟩
theorem lkX4_85 : zLk RX4 85 xX2_hasPart 2 := zLk_of [311, 74] (by decide +kernel) wcX2_hasPart pdX2_hasPart
set_option maxRecDepth 100000 in
theorem wcX2_holdsLetter : Cond.code xX2_holdsLetter.1 xX2_holdsLetter.2.1 xX2_holdsLetter.2.2.1 xX2_holdsLetter.2.2.2.1 ∈ zT := zT_of (i := 288) rfl rfl
theorem pdX2_holdsLetter : xX2_holdsLetter.1.cls ≠ "java/lang/invoke/MethodHandle" ∧ xX2_holdsLetter.1.cls ≠ "java/lang/invoke/VarHandle" ∧ (parseMethodDescriptor xX2_holdsLetter.1.desc).map (fun d => d.parameters.length) = some 0 := by decide +kernel
theorem ivX2_holdsLetter : Cond.instanceMethod xX2_holdsLetter.1 ∈ zT ∧ Cond.selects xX2_holdsLetter.1.cls xX2_holdsLetter.1 xX2_holdsLetter.1 ∈ zT := have h : zChk [286, 287] [Cond.instanceMethod xX2_holdsLetter.1, Cond.selects xX2_holdsLetter.1.cls xX2_holdsLetter.1 xX2_holdsLetter.1] = true := by decide +kernel
  ⟨zChk_ok h _ (.head _), zChk_ok h _ (.tail _ (.head _))⟩
theorem lkX4_74 : zLk RX4 74 xX2_holdsLetter 0 := zLk_of [309, 74] (by decide +kernel) wcX2_holdsLetter pdX2_holdsLetter
theorem lkX2_22 : zLk RX2 22 xX2_holdsLetter 0 := zLk_of [285, 74] (by decide +kernel) wcX2_holdsLetter pdX2_holdsLetter
set_option maxRecDepth 100000 in
theorem wcX2_holdsNothing : Cond.code xX2_holdsNothing.1 xX2_holdsNothing.2.1 xX2_holdsNothing.2.2.1 xX2_holdsNothing.2.2.2.1 ∈ zT := zT_of (i := 292) rfl rfl
theorem pdX2_holdsNothing : xX2_holdsNothing.1.cls ≠ "java/lang/invoke/MethodHandle" ∧ xX2_holdsNothing.1.cls ≠ "java/lang/invoke/VarHandle" ∧ (parseMethodDescriptor xX2_holdsNothing.1.desc).map (fun d => d.parameters.length) = some 0 := by decide +kernel
theorem ivX2_holdsNothing : Cond.instanceMethod xX2_holdsNothing.1 ∈ zT ∧ Cond.selects xX2_holdsNothing.1.cls xX2_holdsNothing.1 xX2_holdsNothing.1 ∈ zT := have h : zChk [290, 291] [Cond.instanceMethod xX2_holdsNothing.1, Cond.selects xX2_holdsNothing.1.cls xX2_holdsNothing.1 xX2_holdsNothing.1] = true := by decide +kernel
  ⟨zChk_ok h _ (.head _), zChk_ok h _ (.tail _ (.head _))⟩
theorem lkX4_78 : zLk RX4 78 xX2_holdsNothing 0 := zLk_of [310, 74] (by decide +kernel) wcX2_holdsNothing pdX2_holdsNothing
theorem lkX2_26 : zLk RX2 26 xX2_holdsNothing 0 := zLk_of [289, 74] (by decide +kernel) wcX2_holdsNothing pdX2_holdsNothing
set_option maxRecDepth 100000 in
theorem wcX2_init : Cond.code xX2_init.1 xX2_init.2.1 xX2_init.2.2.1 xX2_init.2.2.2.1 ∈ zT := zT_of (i := 195) rfl rfl
theorem pdX2_init : xX2_init.1.cls ≠ "java/lang/invoke/MethodHandle" ∧ xX2_init.1.cls ≠ "java/lang/invoke/VarHandle" ∧ (parseMethodDescriptor xX2_init.1.desc).map (fun d => d.parameters.length) = some 0 := by decide +kernel
theorem iiX2_init : Cond.instanceMethod xX2_init.1 ∈ zT ∧ xX2_init.1.name = "<init>" ∧ xX2_init.2.2.2.1 = none := have h : zChk [194] [Cond.instanceMethod xX2_init.1] = true := by decide +kernel
  ⟨zChk_ok h _ (.head _), rfl, rfl⟩
theorem lkX4_32 : zLn RX4 32 xX2_init 0 := ⟨⟨"ReadOutAlongTheWay", by decide +kernel⟩, zChk_ok (ps := [74]) (ws := [Cond.initialized xX2_init.1.cls]) (by decide +kernel) _ (.head _), wcX2_init, pdX2_init⟩
set_option maxRecDepth 100000 in
theorem wcX2_put : Cond.code xX2_put.1 xX2_put.2.1 xX2_put.2.2.1 xX2_put.2.2.2.1 ∈ zT := zT_of (i := 300) rfl rfl
theorem pdX2_put : xX2_put.1.cls ≠ "java/lang/invoke/MethodHandle" ∧ xX2_put.1.cls ≠ "java/lang/invoke/VarHandle" ∧ (parseMethodDescriptor xX2_put.1.desc).map (fun d => d.parameters.length) = some 2 := by decide +kernel
theorem ivX2_put : Cond.instanceMethod xX2_put.1 ∈ zT ∧ Cond.selects xX2_put.1.cls xX2_put.1 xX2_put.1 ∈ zT := have h : zChk [298, 299] [Cond.instanceMethod xX2_put.1, Cond.selects xX2_put.1.cls xX2_put.1 xX2_put.1] = true := by decide +kernel
  ⟨zChk_ok h _ (.head _), zChk_ok h _ (.tail _ (.head _))⟩
theorem lkX4_70 : zLk RX4 70 xX2_put 2 := zLk_of [297, 74] (by decide +kernel) wcX2_put pdX2_put
set_option maxRecDepth 100000 in
theorem wcX2_rowFault : Cond.code xX2_rowFault.1 xX2_rowFault.2.1 xX2_rowFault.2.2.1 xX2_rowFault.2.2.2.1 ∈ zT := zT_of (i := 284) rfl rfl
theorem pdX2_rowFault : xX2_rowFault.1.cls ≠ "java/lang/invoke/MethodHandle" ∧ xX2_rowFault.1.cls ≠ "java/lang/invoke/VarHandle" ∧ (parseMethodDescriptor xX2_rowFault.1.desc).map (fun d => d.parameters.length) = some 1 := by decide +kernel
theorem ivX2_rowFault : Cond.instanceMethod xX2_rowFault.1 ∈ zT ∧ Cond.selects xX2_rowFault.1.cls xX2_rowFault.1 xX2_rowFault.1 ∈ zT := have h : zChk [282, 283] [Cond.instanceMethod xX2_rowFault.1, Cond.selects xX2_rowFault.1.cls xX2_rowFault.1 xX2_rowFault.1] = true := by decide +kernel
  ⟨zChk_ok h _ (.head _), zChk_ok h _ (.tail _ (.head _))⟩
theorem lkX4_64 : zLk RX4 64 xX2_rowFault 1 := zLk_of [281, 74] (by decide +kernel) wcX2_rowFault pdX2_rowFault
set_option maxRecDepth 100000 in
theorem wcX2_shownLetter : Cond.code xX2_shownLetter.1 xX2_shownLetter.2.1 xX2_shownLetter.2.2.1 xX2_shownLetter.2.2.2.1 ∈ zT := zT_of (i := 352) rfl rfl
theorem pdX2_shownLetter : xX2_shownLetter.1.cls ≠ "java/lang/invoke/MethodHandle" ∧ xX2_shownLetter.1.cls ≠ "java/lang/invoke/VarHandle" ∧ (parseMethodDescriptor xX2_shownLetter.1.desc).map (fun d => d.parameters.length) = some 0 := by decide +kernel
theorem ivX2_shownLetter : Cond.instanceMethod xX2_shownLetter.1 ∈ zT ∧ Cond.selects xX2_shownLetter.1.cls xX2_shownLetter.1 xX2_shownLetter.1 ∈ zT := have h : zChk [350, 351] [Cond.instanceMethod xX2_shownLetter.1, Cond.selects xX2_shownLetter.1.cls xX2_shownLetter.1 xX2_shownLetter.1] = true := by decide +kernel
  ⟨zChk_ok h _ (.head _), zChk_ok h _ (.tail _ (.head _))⟩
theorem lkX4_112 : zLk RX4 112 xX2_shownLetter 0 := zLk_of [349, 74] (by decide +kernel) wcX2_shownLetter pdX2_shownLetter
set_option maxRecDepth 100000 in
theorem wcX2_takeLetter : Cond.code xX2_takeLetter.1 xX2_takeLetter.2.1 xX2_takeLetter.2.2.1 xX2_takeLetter.2.2.2.1 ∈ zT := zT_of (i := 341) rfl rfl
theorem pdX2_takeLetter : xX2_takeLetter.1.cls ≠ "java/lang/invoke/MethodHandle" ∧ xX2_takeLetter.1.cls ≠ "java/lang/invoke/VarHandle" ∧ (parseMethodDescriptor xX2_takeLetter.1.desc).map (fun d => d.parameters.length) = some 1 := by decide +kernel
theorem ivX2_takeLetter : Cond.instanceMethod xX2_takeLetter.1 ∈ zT ∧ Cond.selects xX2_takeLetter.1.cls xX2_takeLetter.1 xX2_takeLetter.1 ∈ zT := have h : zChk [339, 340] [Cond.instanceMethod xX2_takeLetter.1, Cond.selects xX2_takeLetter.1.cls xX2_takeLetter.1 xX2_takeLetter.1] = true := by decide +kernel
  ⟨zChk_ok h _ (.head _), zChk_ok h _ (.tail _ (.head _))⟩
theorem lkX4_105 : zLk RX4 105 xX2_takeLetter 1 := zLk_of [338, 74] (by decide +kernel) wcX2_takeLetter pdX2_takeLetter
set_option maxRecDepth 100000 in
theorem wcX2_takeRow : Cond.code xX2_takeRow.1 xX2_takeRow.2.1 xX2_takeRow.2.2.1 xX2_takeRow.2.2.2.1 ∈ zT := zT_of (i := 276) rfl rfl
theorem pdX2_takeRow : xX2_takeRow.1.cls ≠ "java/lang/invoke/MethodHandle" ∧ xX2_takeRow.1.cls ≠ "java/lang/invoke/VarHandle" ∧ (parseMethodDescriptor xX2_takeRow.1.desc).map (fun d => d.parameters.length) = some 2 := by decide +kernel
theorem ivX2_takeRow : Cond.instanceMethod xX2_takeRow.1 ∈ zT ∧ Cond.selects xX2_takeRow.1.cls xX2_takeRow.1 xX2_takeRow.1 ∈ zT := have h : zChk [274, 275] [Cond.instanceMethod xX2_takeRow.1, Cond.selects xX2_takeRow.1.cls xX2_takeRow.1 xX2_takeRow.1] = true := by decide +kernel
  ⟨zChk_ok h _ (.head _), zChk_ok h _ (.tail _ (.head _))⟩
theorem lkX4_60 : zLk RX4 60 xX2_takeRow 2 := zLk_of [273, 74] (by decide +kernel) wcX2_takeRow pdX2_takeRow
set_option maxRecDepth 100000 in
theorem wcX3_append : Cond.code xX3_append.1 xX3_append.2.1 xX3_append.2.2.1 xX3_append.2.2.2.1 ∈ zT := zT_of (i := 451) rfl rfl
theorem pdX3_append : xX3_append.1.cls ≠ "java/lang/invoke/MethodHandle" ∧ xX3_append.1.cls ≠ "java/lang/invoke/VarHandle" ∧ (parseMethodDescriptor xX3_append.1.desc).map (fun d => d.parameters.length) = some 1 := by decide +kernel
theorem ivX3_append : Cond.instanceMethod xX3_append.1 ∈ zT ∧ Cond.selects xX3_append.1.cls xX3_append.1 xX3_append.1 ∈ zT := have h : zChk [449, 450] [Cond.instanceMethod xX3_append.1, Cond.selects xX3_append.1.cls xX3_append.1 xX3_append.1] = true := by decide +kernel
  ⟨zChk_ok h _ (.head _), zChk_ok h _ (.tail _ (.head _))⟩
theorem lkX4_171 : zLk RX4 171 xX3_append 1 := zLk_of [448, 75] (by decide +kernel) wcX3_append pdX3_append
set_option maxRecDepth 100000 in
theorem wcX3_blame : Cond.code xX3_blame.1 xX3_blame.2.1 xX3_blame.2.2.1 xX3_blame.2.2.2.1 ∈ zT := zT_of (i := 493) rfl rfl
theorem pdX3_blame : xX3_blame.1.cls ≠ "java/lang/invoke/MethodHandle" ∧ xX3_blame.1.cls ≠ "java/lang/invoke/VarHandle" ∧ (parseMethodDescriptor xX3_blame.1.desc).map (fun d => d.parameters.length) = some 1 := by decide +kernel
theorem ivX3_blame : Cond.instanceMethod xX3_blame.1 ∈ zT ∧ Cond.selects xX3_blame.1.cls xX3_blame.1 xX3_blame.1 ∈ zT := have h : zChk [492, 11] [Cond.instanceMethod xX3_blame.1, Cond.selects xX3_blame.1.cls xX3_blame.1 xX3_blame.1] = true := by decide +kernel
  ⟨zChk_ok h _ (.head _), zChk_ok h _ (.tail _ (.head _))⟩
theorem lkX3_42 : zLk RX3 42 xX3_blame 1 := zLk_of [490, 75] (by decide +kernel) wcX3_blame pdX3_blame
set_option maxRecDepth 100000 in
theorem wcX3_empty : Cond.code xX3_empty.1 xX3_empty.2.1 xX3_empty.2.2.1 xX3_empty.2.2.2.1 ∈ zT := zT_of (i := 460) rfl rfl
theorem pdX3_empty : xX3_empty.1.cls ≠ "java/lang/invoke/MethodHandle" ∧ xX3_empty.1.cls ≠ "java/lang/invoke/VarHandle" ∧ (parseMethodDescriptor xX3_empty.1.desc).map (fun d => d.parameters.length) = some 0 := by decide +kernel
theorem ivX3_empty : Cond.instanceMethod xX3_empty.1 ∈ zT ∧ Cond.selects xX3_empty.1.cls xX3_empty.1 xX3_empty.1 ∈ zT := have h : zChk [458, 459] [Cond.instanceMethod xX3_empty.1, Cond.selects xX3_empty.1.cls xX3_empty.1 xX3_empty.1] = true := by decide +kernel
  ⟨zChk_ok h _ (.head _), zChk_ok h _ (.tail _ (.head _))⟩
theorem lkX4_174 : zLk RX4 174 xX3_empty 0 := zLk_of [457, 75] (by decide +kernel) wcX3_empty pdX3_empty
set_option maxRecDepth 100000 in
theorem wcX3_fault : Cond.code xX3_fault.1 xX3_fault.2.1 xX3_fault.2.2.1 xX3_fault.2.2.2.1 ∈ zT := zT_of (i := 584) rfl rfl
theorem pdX3_fault : xX3_fault.1.cls ≠ "java/lang/invoke/MethodHandle" ∧ xX3_fault.1.cls ≠ "java/lang/invoke/VarHandle" ∧ (parseMethodDescriptor xX3_fault.1.desc).map (fun d => d.parameters.length) = some 0 := by decide +kernel
theorem ivX3_fault : Cond.instanceMethod xX3_fault.1 ∈ zT ∧ Cond.selects xX3_fault.1.cls xX3_fault.1 xX3_fault.1 ∈ zT := have h : zChk [582, 583] [Cond.instanceMethod xX3_fault.1, Cond.selects xX3_fault.1.cls xX3_fault.1 xX3_fault.1] = true := by decide +kernel
  ⟨zChk_ok h _ (.head _), zChk_ok h _ (.tail _ (.head _))⟩
theorem lkX4_185 : zLk RX4 185 xX3_fault 0 := zLk_of [581, 75] (by decide +kernel) wcX3_fault pdX3_fault
set_option maxRecDepth 100000 in
theorem wcX3_hasRoom : Cond.code xX3_hasRoom.1 xX3_hasRoom.2.1 xX3_hasRoom.2.2.1 xX3_hasRoom.2.2.2.1 ∈ zT := zT_of (i := 447) rfl rfl
theorem pdX3_hasRoom : xX3_hasRoom.1.cls ≠ "java/lang/invoke/MethodHandle" ∧ xX3_hasRoom.1.cls ≠ "java/lang/invoke/VarHandle" ∧ (parseMethodDescriptor xX3_hasRoom.1.desc).map (fun d => d.parameters.length) = some 0 := by decide +kernel
theorem ivX3_hasRoom : Cond.instanceMethod xX3_hasRoom.1 ∈ zT ∧ Cond.selects xX3_hasRoom.1.cls xX3_hasRoom.1 xX3_hasRoom.1 ∈ zT := have h : zChk [445, 446] [Cond.instanceMethod xX3_hasRoom.1, Cond.selects xX3_hasRoom.1.cls xX3_hasRoom.1 xX3_hasRoom.1] = true := by decide +kernel
  ⟨zChk_ok h _ (.head _), zChk_ok h _ (.tail _ (.head _))⟩
theorem lkX4_170 : zLk RX4 170 xX3_hasRoom 0 := zLk_of [444, 75] (by decide +kernel) wcX3_hasRoom pdX3_hasRoom
theorem lkX3_31 : zLk RX3 31 xX3_hasRoom 0 := zLk_of [452, 75] (by decide +kernel) wcX3_hasRoom pdX3_hasRoom
set_option maxRecDepth 100000 in
theorem wcX3_init : Cond.code xX3_init.1 xX3_init.2.1 xX3_init.2.2.1 xX3_init.2.2.2.1 ∈ zT := zT_of (i := 215) rfl rfl
theorem pdX3_init : xX3_init.1.cls ≠ "java/lang/invoke/MethodHandle" ∧ xX3_init.1.cls ≠ "java/lang/invoke/VarHandle" ∧ (parseMethodDescriptor xX3_init.1.desc).map (fun d => d.parameters.length) = some 0 := by decide +kernel
theorem iiX3_init : Cond.instanceMethod xX3_init.1 ∈ zT ∧ xX3_init.1.name = "<init>" ∧ xX3_init.2.2.2.1 = none := have h : zChk [214] [Cond.instanceMethod xX3_init.1] = true := by decide +kernel
  ⟨zChk_ok h _ (.head _), rfl, rfl⟩
theorem lkX4_35 : zLn RX4 35 xX3_init 0 := ⟨⟨"ReadOutAlongTheWay", by decide +kernel⟩, zChk_ok (ps := [75]) (ws := [Cond.initialized xX3_init.1.cls]) (by decide +kernel) _ (.head _), wcX3_init, pdX3_init⟩
set_option maxRecDepth 100000 in
theorem wcX3_isWord : Cond.code xX3_isWord.1 xX3_isWord.2.1 xX3_isWord.2.2.1 xX3_isWord.2.2.2.1 ∈ zT := zT_of (i := 498) rfl rfl
theorem pdX3_isWord : xX3_isWord.1.cls ≠ "java/lang/invoke/MethodHandle" ∧ xX3_isWord.1.cls ≠ "java/lang/invoke/VarHandle" ∧ (parseMethodDescriptor xX3_isWord.1.desc).map (fun d => d.parameters.length) = some 1 := by decide +kernel
theorem ivX3_isWord : Cond.instanceMethod xX3_isWord.1 ∈ zT ∧ Cond.selects xX3_isWord.1.cls xX3_isWord.1 xX3_isWord.1 ∈ zT := have h : zChk [497, 12] [Cond.instanceMethod xX3_isWord.1, Cond.selects xX3_isWord.1.cls xX3_isWord.1 xX3_isWord.1] = true := by decide +kernel
  ⟨zChk_ok h _ (.head _), zChk_ok h _ (.tail _ (.head _))⟩
theorem lkX3_48 : zLk RX3 48 xX3_isWord 1 := zLk_of [495, 75] (by decide +kernel) wcX3_isWord pdX3_isWord
set_option maxRecDepth 100000 in
theorem wcX3_readCode : Cond.code xX3_readCode.1 xX3_readCode.2.1 xX3_readCode.2.2.1 xX3_readCode.2.2.2.1 ∈ zT := zT_of (i := 572) rfl rfl
theorem pdX3_readCode : xX3_readCode.1.cls ≠ "java/lang/invoke/MethodHandle" ∧ xX3_readCode.1.cls ≠ "java/lang/invoke/VarHandle" ∧ (parseMethodDescriptor xX3_readCode.1.desc).map (fun d => d.parameters.length) = some 1 := by decide +kernel
theorem ivX3_readCode : Cond.instanceMethod xX3_readCode.1 ∈ zT ∧ Cond.selects xX3_readCode.1.cls xX3_readCode.1 xX3_readCode.1 ∈ zT := have h : zChk [571, 17] [Cond.instanceMethod xX3_readCode.1, Cond.selects xX3_readCode.1.cls xX3_readCode.1 xX3_readCode.1] = true := by decide +kernel
  ⟨zChk_ok h _ (.head _), zChk_ok h _ (.tail _ (.head _))⟩
theorem lkX3_76 : zLk RX3 76 xX3_readCode 1 := zLk_of [569, 75] (by decide +kernel) wcX3_readCode pdX3_readCode
set_option maxRecDepth 100000 in
theorem wcX3_readCold : Cond.code xX3_readCold.1 xX3_readCold.2.1 xX3_readCold.2.2.1 xX3_readCold.2.2.2.1 ∈ zT := zT_of (i := 578) rfl rfl
theorem pdX3_readCold : xX3_readCold.1.cls ≠ "java/lang/invoke/MethodHandle" ∧ xX3_readCold.1.cls ≠ "java/lang/invoke/VarHandle" ∧ (parseMethodDescriptor xX3_readCold.1.desc).map (fun d => d.parameters.length) = some 1 := by decide +kernel
theorem ivX3_readCold : Cond.instanceMethod xX3_readCold.1 ∈ zT ∧ Cond.selects xX3_readCold.1.cls xX3_readCold.1 xX3_readCold.1 ∈ zT := have h : zChk [577, 18] [Cond.instanceMethod xX3_readCold.1, Cond.selects xX3_readCold.1.cls xX3_readCold.1 xX3_readCold.1] = true := by decide +kernel
  ⟨zChk_ok h _ (.head _), zChk_ok h _ (.tail _ (.head _))⟩
theorem lkX3_81 : zLk RX3 81 xX3_readCold 1 := zLk_of [575, 75] (by decide +kernel) wcX3_readCold pdX3_readCold
set_option maxRecDepth 100000 in
theorem wcX3_readHouses : Cond.code xX3_readHouses.1 xX3_readHouses.2.1 xX3_readHouses.2.2.1 xX3_readHouses.2.2.2.1 ∈ zT := zT_of (i := 550) rfl rfl
theorem pdX3_readHouses : xX3_readHouses.1.cls ≠ "java/lang/invoke/MethodHandle" ∧ xX3_readHouses.1.cls ≠ "java/lang/invoke/VarHandle" ∧ (parseMethodDescriptor xX3_readHouses.1.desc).map (fun d => d.parameters.length) = some 1 := by decide +kernel
theorem ivX3_readHouses : Cond.instanceMethod xX3_readHouses.1 ∈ zT ∧ Cond.selects xX3_readHouses.1.cls xX3_readHouses.1 xX3_readHouses.1 ∈ zT := have h : zChk [549, 13] [Cond.instanceMethod xX3_readHouses.1, Cond.selects xX3_readHouses.1.cls xX3_readHouses.1 xX3_readHouses.1] = true := by decide +kernel
  ⟨zChk_ok h _ (.head _), zChk_ok h _ (.tail _ (.head _))⟩
theorem lkX3_52 : zLk RX3 52 xX3_readHouses 1 := zLk_of [547, 75] (by decide +kernel) wcX3_readHouses pdX3_readHouses
set_option maxRecDepth 100000 in
theorem wcX3_readInto : Cond.code xX3_readInto.1 xX3_readInto.2.1 xX3_readInto.2.2.1 xX3_readInto.2.2.2.1 ∈ zT := zT_of (i := 477) rfl rfl
theorem pdX3_readInto : xX3_readInto.1.cls ≠ "java/lang/invoke/MethodHandle" ∧ xX3_readInto.1.cls ≠ "java/lang/invoke/VarHandle" ∧ (parseMethodDescriptor xX3_readInto.1.desc).map (fun d => d.parameters.length) = some 1 := by decide +kernel
theorem ivX3_readInto : Cond.instanceMethod xX3_readInto.1 ∈ zT ∧ Cond.selects xX3_readInto.1.cls xX3_readInto.1 xX3_readInto.1 ∈ zT := have h : zChk [475, 476] [Cond.instanceMethod xX3_readInto.1, Cond.selects xX3_readInto.1.cls xX3_readInto.1 xX3_readInto.1] = true := by decide +kernel
  ⟨zChk_ok h _ (.head _), zChk_ok h _ (.tail _ (.head _))⟩
theorem lkX4_181 : zLk RX4 181 xX3_readInto 1 := zLk_of [474, 75] (by decide +kernel) wcX3_readInto pdX3_readInto
set_option maxRecDepth 100000 in
theorem wcX3_readIntoHouse : Cond.code xX3_readIntoHouse.1 xX3_readIntoHouse.2.1 xX3_readIntoHouse.2.2.1 xX3_readIntoHouse.2.2.2.1 ∈ zT := zT_of (i := 566) rfl rfl
theorem pdX3_readIntoHouse : xX3_readIntoHouse.1.cls ≠ "java/lang/invoke/MethodHandle" ∧ xX3_readIntoHouse.1.cls ≠ "java/lang/invoke/VarHandle" ∧ (parseMethodDescriptor xX3_readIntoHouse.1.desc).map (fun d => d.parameters.length) = some 2 := by decide +kernel
theorem ivX3_readIntoHouse : Cond.instanceMethod xX3_readIntoHouse.1 ∈ zT ∧ Cond.selects xX3_readIntoHouse.1.cls xX3_readIntoHouse.1 xX3_readIntoHouse.1 ∈ zT := have h : zChk [565, 16] [Cond.instanceMethod xX3_readIntoHouse.1, Cond.selects xX3_readIntoHouse.1.cls xX3_readIntoHouse.1 xX3_readIntoHouse.1] = true := by decide +kernel
  ⟨zChk_ok h _ (.head _), zChk_ok h _ (.tail _ (.head _))⟩
theorem lkX3_66 : zLk RX3 66 xX3_readIntoHouse 2 := zLk_of [563, 75] (by decide +kernel) wcX3_readIntoHouse pdX3_readIntoHouse
set_option maxRecDepth 100000 in
theorem wcX3_readLetter : Cond.code xX3_readLetter.1 xX3_readLetter.2.1 xX3_readLetter.2.2.1 xX3_readLetter.2.2.2.1 ∈ zT := zT_of (i := 559) rfl rfl
theorem pdX3_readLetter : xX3_readLetter.1.cls ≠ "java/lang/invoke/MethodHandle" ∧ xX3_readLetter.1.cls ≠ "java/lang/invoke/VarHandle" ∧ (parseMethodDescriptor xX3_readLetter.1.desc).map (fun d => d.parameters.length) = some 1 := by decide +kernel
theorem ivX3_readLetter : Cond.instanceMethod xX3_readLetter.1 ∈ zT ∧ Cond.selects xX3_readLetter.1.cls xX3_readLetter.1 xX3_readLetter.1 ∈ zT := have h : zChk [558, 15] [Cond.instanceMethod xX3_readLetter.1, Cond.selects xX3_readLetter.1.cls xX3_readLetter.1 xX3_readLetter.1] = true := by decide +kernel
  ⟨zChk_ok h _ (.head _), zChk_ok h _ (.tail _ (.head _))⟩
theorem lkX3_57 : zLk RX3 57 xX3_readLetter 1 := zLk_of [556, 75] (by decide +kernel) wcX3_readLetter pdX3_readLetter
set_option maxRecDepth 100000 in
theorem wcX3_readNumber : Cond.code xX3_readNumber.1 xX3_readNumber.2.1 xX3_readNumber.2.2.1 xX3_readNumber.2.2.2.1 ∈ zT := zT_of (i := 554) rfl rfl
theorem pdX3_readNumber : xX3_readNumber.1.cls ≠ "java/lang/invoke/MethodHandle" ∧ xX3_readNumber.1.cls ≠ "java/lang/invoke/VarHandle" ∧ (parseMethodDescriptor xX3_readNumber.1.desc).map (fun d => d.parameters.length) = some 2 := by decide +kernel
theorem ivX3_readNumber : Cond.instanceMethod xX3_readNumber.1 ∈ zT ∧ Cond.selects xX3_readNumber.1.cls xX3_readNumber.1 xX3_readNumber.1 ∈ zT := have h : zChk [553, 14] [Cond.instanceMethod xX3_readNumber.1, Cond.selects xX3_readNumber.1.cls xX3_readNumber.1 xX3_readNumber.1] = true := by decide +kernel
  ⟨zChk_ok h _ (.head _), zChk_ok h _ (.tail _ (.head _))⟩
theorem lkX3_93 : zLk RX3 93 xX3_readNumber 2 := zLk_of [551, 75] (by decide +kernel) wcX3_readNumber pdX3_readNumber
set_option maxRecDepth 100000 in
theorem wcX3_readStatement : Cond.code xX3_readStatement.1 xX3_readStatement.2.1 xX3_readStatement.2.2.1 xX3_readStatement.2.2.2.1 ∈ zT := zT_of (i := 489) rfl rfl
theorem pdX3_readStatement : xX3_readStatement.1.cls ≠ "java/lang/invoke/MethodHandle" ∧ xX3_readStatement.1.cls ≠ "java/lang/invoke/VarHandle" ∧ (parseMethodDescriptor xX3_readStatement.1.desc).map (fun d => d.parameters.length) = some 1 := by decide +kernel
theorem ivX3_readStatement : Cond.instanceMethod xX3_readStatement.1 ∈ zT ∧ Cond.selects xX3_readStatement.1.cls xX3_readStatement.1 xX3_readStatement.1 ∈ zT := have h : zChk [488, 10] [Cond.instanceMethod xX3_readStatement.1, Cond.selects xX3_readStatement.1.cls xX3_readStatement.1 xX3_readStatement.1] = true := by decide +kernel
  ⟨zChk_ok h _ (.head _), zChk_ok h _ (.tail _ (.head _))⟩
theorem lkX3_38 : zLk RX3 38 xX3_readStatement 1 := zLk_of [486, 75] (by decide +kernel) wcX3_readStatement pdX3_readStatement
set_option maxRecDepth 100000 in
theorem wcX3_size : Cond.code xX3_size.1 xX3_size.2.1 xX3_size.2.2.1 xX3_size.2.2.2.1 ∈ zT := zT_of (i := 1012) rfl rfl
theorem pdX3_size : xX3_size.1.cls ≠ "java/lang/invoke/MethodHandle" ∧ xX3_size.1.cls ≠ "java/lang/invoke/VarHandle" ∧ (parseMethodDescriptor xX3_size.1.desc).map (fun d => d.parameters.length) = some 0 := by decide +kernel
theorem ivX3_size : Cond.instanceMethod xX3_size.1 ∈ zT ∧ Cond.selects xX3_size.1.cls xX3_size.1 xX3_size.1 ∈ zT := have h : zChk [1010, 1011] [Cond.instanceMethod xX3_size.1, Cond.selects xX3_size.1.cls xX3_size.1 xX3_size.1] = true := by decide +kernel
  ⟨zChk_ok h _ (.head _), zChk_ok h _ (.tail _ (.head _))⟩
theorem lkX4_369 : zLk RX4 369 xX3_size 0 := zLk_of [1009, 75] (by decide +kernel) wcX3_size pdX3_size
set_option maxRecDepth 100000 in
theorem wcX3_sortAt : Cond.code xX3_sortAt.1 xX3_sortAt.2.1 xX3_sortAt.2.2.1 xX3_sortAt.2.2.2.1 ∈ zT := zT_of (i := 485) rfl rfl
theorem pdX3_sortAt : xX3_sortAt.1.cls ≠ "java/lang/invoke/MethodHandle" ∧ xX3_sortAt.1.cls ≠ "java/lang/invoke/VarHandle" ∧ (parseMethodDescriptor xX3_sortAt.1.desc).map (fun d => d.parameters.length) = some 1 := by decide +kernel
theorem ivX3_sortAt : Cond.instanceMethod xX3_sortAt.1 ∈ zT ∧ Cond.selects xX3_sortAt.1.cls xX3_sortAt.1 xX3_sortAt.1 ∈ zT := have h : zChk [484, 9] [Cond.instanceMethod xX3_sortAt.1, Cond.selects xX3_sortAt.1.cls xX3_sortAt.1 xX3_sortAt.1] = true := by decide +kernel
  ⟨zChk_ok h _ (.head _), zChk_ok h _ (.tail _ (.head _))⟩
theorem lkX3_108 : zLk RX3 108 xX3_sortAt 1 := zLk_of [482, 75] (by decide +kernel) wcX3_sortAt pdX3_sortAt
set_option maxRecDepth 100000 in
theorem wcX3_step : Cond.code xX3_step.1 xX3_step.2.1 xX3_step.2.2.1 xX3_step.2.2.2.1 ∈ zT := zT_of (i := 481) rfl rfl
theorem pdX3_step : xX3_step.1.cls ≠ "java/lang/invoke/MethodHandle" ∧ xX3_step.1.cls ≠ "java/lang/invoke/VarHandle" ∧ (parseMethodDescriptor xX3_step.1.desc).map (fun d => d.parameters.length) = some 0 := by decide +kernel
theorem ivX3_step : Cond.instanceMethod xX3_step.1 ∈ zT ∧ Cond.selects xX3_step.1.cls xX3_step.1 xX3_step.1 ∈ zT := have h : zChk [480, 8] [Cond.instanceMethod xX3_step.1, Cond.selects xX3_step.1.cls xX3_step.1 xX3_step.1] = true := by decide +kernel
  ⟨zChk_ok h _ (.head _), zChk_ok h _ (.tail _ (.head _))⟩
theorem lkX3_35 : zLk RX3 35 xX3_step 0 := zLk_of [478, 75] (by decide +kernel) wcX3_step pdX3_step
set_option maxRecDepth 100000 in
theorem wcX4_address : Cond.code xX4_address.1 xX4_address.2.1 xX4_address.2.2.1 xX4_address.2.2.2.1 ∈ zT := zT_of (i := 668) rfl rfl
theorem pdX4_address : xX4_address.1.cls ≠ "java/lang/invoke/MethodHandle" ∧ xX4_address.1.cls ≠ "java/lang/invoke/VarHandle" ∧ (parseMethodDescriptor xX4_address.1.desc).map (fun d => d.parameters.length) = some 2 := by decide +kernel
theorem ivX4_address : Cond.instanceMethod xX4_address.1 ∈ zT ∧ Cond.selects xX4_address.1.cls xX4_address.1 xX4_address.1 ∈ zT := have h : zChk [666, 667] [Cond.instanceMethod xX4_address.1, Cond.selects xX4_address.1.cls xX4_address.1 xX4_address.1] = true := by decide +kernel
  ⟨zChk_ok h _ (.head _), zChk_ok h _ (.tail _ (.head _))⟩
theorem lkL_133 : zLk RL 133 xX4_address 2 := zLk_of [665, 71] (by decide +kernel) wcX4_address pdX4_address
set_option maxRecDepth 100000 in
theorem wcX4_alike : Cond.code xX4_alike.1 xX4_alike.2.1 xX4_alike.2.2.1 xX4_alike.2.2.2.1 ∈ zT := zT_of (i := 894) rfl rfl
theorem pdX4_alike : xX4_alike.1.cls ≠ "java/lang/invoke/MethodHandle" ∧ xX4_alike.1.cls ≠ "java/lang/invoke/VarHandle" ∧ (parseMethodDescriptor xX4_alike.1.desc).map (fun d => d.parameters.length) = some 2 := by decide +kernel
theorem ivX4_alike : Cond.instanceMethod xX4_alike.1 ∈ zT ∧ Cond.selects xX4_alike.1.cls xX4_alike.1 xX4_alike.1 ∈ zT := have h : zChk [892, 893] [Cond.instanceMethod xX4_alike.1, Cond.selects xX4_alike.1.cls xX4_alike.1 xX4_alike.1] = true := by decide +kernel
  ⟨zChk_ok h _ (.head _), zChk_ok h _ (.tail _ (.head _))⟩
theorem lkL_217 : zLk RL 217 xX4_alike 2 := zLk_of [891, 71] (by decide +kernel) wcX4_alike pdX4_alike
set_option maxRecDepth 100000 in
theorem wcX4_answer : Cond.code xX4_answer.1 xX4_answer.2.1 xX4_answer.2.2.1 xX4_answer.2.2.2.1 ∈ zT := zT_of (i := 805) rfl rfl
theorem pdX4_answer : xX4_answer.1.cls ≠ "java/lang/invoke/MethodHandle" ∧ xX4_answer.1.cls ≠ "java/lang/invoke/VarHandle" ∧ (parseMethodDescriptor xX4_answer.1.desc).map (fun d => d.parameters.length) = some 5 := by decide +kernel
theorem ivX4_answer : Cond.instanceMethod xX4_answer.1 ∈ zT ∧ Cond.selects xX4_answer.1.cls xX4_answer.1 xX4_answer.1 ∈ zT := have h : zChk [803, 804] [Cond.instanceMethod xX4_answer.1, Cond.selects xX4_answer.1.cls xX4_answer.1 xX4_answer.1] = true := by decide +kernel
  ⟨zChk_ok h _ (.head _), zChk_ok h _ (.tail _ (.head _))⟩
theorem lkL_169 : zLk RL 169 xX4_answer 5 := zLk_of [802, 71] (by decide +kernel) wcX4_answer pdX4_answer
set_option maxRecDepth 100000 in
theorem wcX4_asNumber : Cond.code xX4_asNumber.1 xX4_asNumber.2.1 xX4_asNumber.2.2.1 xX4_asNumber.2.2.2.1 ∈ zT := zT_of (i := 439) rfl rfl
theorem pdX4_asNumber : xX4_asNumber.1.cls ≠ "java/lang/invoke/MethodHandle" ∧ xX4_asNumber.1.cls ≠ "java/lang/invoke/VarHandle" ∧ (parseMethodDescriptor xX4_asNumber.1.desc).map (fun d => d.parameters.length) = some 1 := by decide +kernel
theorem isX4_asNumber : Cond.static xX4_asNumber.1 ∈ zT := have h : zChk [438] [Cond.static xX4_asNumber.1] = true := by decide +kernel
  zChk_ok h _ (.head _)
theorem lkX4_166 : zLk RX4 166 xX4_asNumber 1 := zLk_of [437, 71] (by decide +kernel) wcX4_asNumber pdX4_asNumber
theorem lkX0_79 : zLn RX0 79 xX4_asNumber 1 := ⟨⟨"ReadOutAlongTheWay", by decide +kernel⟩, zChk_ok (ps := [71]) (ws := [Cond.initialized xX4_asNumber.1.cls]) (by decide +kernel) _ (.head _), wcX4_asNumber, pdX4_asNumber⟩
set_option maxRecDepth 100000 in
theorem wcX4_ask : Cond.code xX4_ask.1 xX4_ask.2.1 xX4_ask.2.2.1 xX4_ask.2.2.2.1 ∈ zT := zT_of (i := 757) rfl rfl
theorem pdX4_ask : xX4_ask.1.cls ≠ "java/lang/invoke/MethodHandle" ∧ xX4_ask.1.cls ≠ "java/lang/invoke/VarHandle" ∧ (parseMethodDescriptor xX4_ask.1.desc).map (fun d => d.parameters.length) = some 3 := by decide +kernel
theorem ivX4_ask : Cond.instanceMethod xX4_ask.1 ∈ zT ∧ Cond.selects xX4_ask.1.cls xX4_ask.1 xX4_ask.1 ∈ zT := have h : zChk [755, 756] [Cond.instanceMethod xX4_ask.1, Cond.selects xX4_ask.1.cls xX4_ask.1 xX4_ask.1] = true := by decide +kernel
  ⟨zChk_ok h _ (.head _), zChk_ok h _ (.tail _ (.head _))⟩
theorem lkL_157 : zLk RL 157 xX4_ask 3 := zLk_of [754, 71] (by decide +kernel) wcX4_ask pdX4_ask
set_option maxRecDepth 100000 in
theorem wcX4_back : Cond.code xX4_back.1 xX4_back.2.1 xX4_back.2.2.1 xX4_back.2.2.2.1 ∈ zT := zT_of (i := 1000) rfl rfl
theorem pdX4_back : xX4_back.1.cls ≠ "java/lang/invoke/MethodHandle" ∧ xX4_back.1.cls ≠ "java/lang/invoke/VarHandle" ∧ (parseMethodDescriptor xX4_back.1.desc).map (fun d => d.parameters.length) = some 0 := by decide +kernel
theorem ivX4_back : Cond.instanceMethod xX4_back.1 ∈ zT ∧ Cond.selects xX4_back.1.cls xX4_back.1 xX4_back.1 ∈ zT := have h : zChk [998, 999] [Cond.instanceMethod xX4_back.1, Cond.selects xX4_back.1.cls xX4_back.1 xX4_back.1] = true := by decide +kernel
  ⟨zChk_ok h _ (.head _), zChk_ok h _ (.tail _ (.head _))⟩
theorem lkL_273 : zLk RL 273 xX4_back 0 := zLk_of [997, 71] (by decide +kernel) wcX4_back pdX4_back
set_option maxRecDepth 100000 in
theorem wcX4_best : Cond.code xX4_best.1 xX4_best.2.1 xX4_best.2.2.1 xX4_best.2.2.2.1 ∈ zT := zT_of (i := 655) rfl rfl
theorem pdX4_best : xX4_best.1.cls ≠ "java/lang/invoke/MethodHandle" ∧ xX4_best.1.cls ≠ "java/lang/invoke/VarHandle" ∧ (parseMethodDescriptor xX4_best.1.desc).map (fun d => d.parameters.length) = some 1 := by decide +kernel
theorem ivX4_best : Cond.instanceMethod xX4_best.1 ∈ zT ∧ Cond.selects xX4_best.1.cls xX4_best.1 xX4_best.1 ∈ zT := have h : zChk [653, 654] [Cond.instanceMethod xX4_best.1, Cond.selects xX4_best.1.cls xX4_best.1 xX4_best.1] = true := by decide +kernel
  ⟨zChk_ok h _ (.head _), zChk_ok h _ (.tail _ (.head _))⟩
theorem lkL_129 : zLk RL 129 xX4_best 1 := zLk_of [652, 71] (by decide +kernel) wcX4_best pdX4_best
set_option maxRecDepth 100000 in
theorem wcX4_chance : Cond.code xX4_chance.1 xX4_chance.2.1 xX4_chance.2.2.1 xX4_chance.2.2.2.1 ∈ zT := zT_of (i := 810) rfl rfl
theorem pdX4_chance : xX4_chance.1.cls ≠ "java/lang/invoke/MethodHandle" ∧ xX4_chance.1.cls ≠ "java/lang/invoke/VarHandle" ∧ (parseMethodDescriptor xX4_chance.1.desc).map (fun d => d.parameters.length) = some 2 := by decide +kernel
theorem ivX4_chance : Cond.instanceMethod xX4_chance.1 ∈ zT ∧ Cond.selects xX4_chance.1.cls xX4_chance.1 xX4_chance.1 ∈ zT := have h : zChk [808, 809] [Cond.instanceMethod xX4_chance.1, Cond.selects xX4_chance.1.cls xX4_chance.1 xX4_chance.1] = true := by decide +kernel
  ⟨zChk_ok h _ (.head _), zChk_ok h _ (.tail _ (.head _))⟩
theorem lkL_173 : zLk RL 173 xX4_chance 2 := zLk_of [807, 71] (by decide +kernel) wcX4_chance pdX4_chance
set_option maxRecDepth 100000 in
theorem wcX4_code : Cond.code xX4_code.1 xX4_code.2.1 xX4_code.2.2.1 xX4_code.2.2.2.1 ∈ zT := zT_of (i := 424) rfl rfl
theorem pdX4_code : xX4_code.1.cls ≠ "java/lang/invoke/MethodHandle" ∧ xX4_code.1.cls ≠ "java/lang/invoke/VarHandle" ∧ (parseMethodDescriptor xX4_code.1.desc).map (fun d => d.parameters.length) = some 3 := by decide +kernel
theorem ivX4_code : Cond.instanceMethod xX4_code.1 ∈ zT ∧ Cond.selects xX4_code.1.cls xX4_code.1 xX4_code.1 ∈ zT := have h : zChk [422, 423] [Cond.instanceMethod xX4_code.1, Cond.selects xX4_code.1.cls xX4_code.1 xX4_code.1] = true := by decide +kernel
  ⟨zChk_ok h _ (.head _), zChk_ok h _ (.tail _ (.head _))⟩
theorem lkL_66 : zLk RL 66 xX4_code 3 := zLk_of [421, 71] (by decide +kernel) wcX4_code pdX4_code
set_option maxRecDepth 100000 in
theorem wcX4_cold : Cond.code xX4_cold.1 xX4_cold.2.1 xX4_cold.2.2.1 xX4_cold.2.2.2.1 ∈ zT := zT_of (i := 432) rfl rfl
theorem pdX4_cold : xX4_cold.1.cls ≠ "java/lang/invoke/MethodHandle" ∧ xX4_cold.1.cls ≠ "java/lang/invoke/VarHandle" ∧ (parseMethodDescriptor xX4_cold.1.desc).map (fun d => d.parameters.length) = some 1 := by decide +kernel
theorem ivX4_cold : Cond.instanceMethod xX4_cold.1 ∈ zT ∧ Cond.selects xX4_cold.1.cls xX4_cold.1 xX4_cold.1 ∈ zT := have h : zChk [430, 431] [Cond.instanceMethod xX4_cold.1, Cond.selects xX4_cold.1.cls xX4_cold.1 xX4_cold.1] = true := by decide +kernel
  ⟨zChk_ok h _ (.head _), zChk_ok h _ (.tail _ (.head _))⟩
theorem lkL_71 : zLk RL 71 xX4_cold 1 := zLk_of [429, 71] (by decide +kernel) wcX4_cold pdX4_cold
set_option maxRecDepth 100000 in
theorem wcX4_colds : Cond.code xX4_colds.1 xX4_colds.2.1 xX4_colds.2.2.1 xX4_colds.2.2.2.1 ∈ zT := zT_of (i := 847) rfl rfl
theorem pdX4_colds : xX4_colds.1.cls ≠ "java/lang/invoke/MethodHandle" ∧ xX4_colds.1.cls ≠ "java/lang/invoke/VarHandle" ∧ (parseMethodDescriptor xX4_colds.1.desc).map (fun d => d.parameters.length) = some 2 := by decide +kernel
theorem ivX4_colds : Cond.instanceMethod xX4_colds.1 ∈ zT ∧ Cond.selects xX4_colds.1.cls xX4_colds.1 xX4_colds.1 ∈ zT := have h : zChk [845, 846] [Cond.instanceMethod xX4_colds.1, Cond.selects xX4_colds.1.cls xX4_colds.1 xX4_colds.1] = true := by decide +kernel
  ⟨zChk_ok h _ (.head _), zChk_ok h _ (.tail _ (.head _))⟩
theorem lkL_189 : zLk RL 189 xX4_colds 2 := zLk_of [844, 71] (by decide +kernel) wcX4_colds pdX4_colds
set_option maxRecDepth 100000 in
theorem wcX4_common : Cond.code xX4_common.1 xX4_common.2.1 xX4_common.2.2.1 xX4_common.2.2.2.1 ∈ zT := zT_of (i := 946) rfl rfl
theorem pdX4_common : xX4_common.1.cls ≠ "java/lang/invoke/MethodHandle" ∧ xX4_common.1.cls ≠ "java/lang/invoke/VarHandle" ∧ (parseMethodDescriptor xX4_common.1.desc).map (fun d => d.parameters.length) = some 2 := by decide +kernel
theorem ivX4_common : Cond.instanceMethod xX4_common.1 ∈ zT ∧ Cond.selects xX4_common.1.cls xX4_common.1 xX4_common.1 ∈ zT := have h : zChk [944, 945] [Cond.instanceMethod xX4_common.1, Cond.selects xX4_common.1.cls xX4_common.1 xX4_common.1] = true := by decide +kernel
  ⟨zChk_ok h _ (.head _), zChk_ok h _ (.tail _ (.head _))⟩
theorem lkL_241 : zLk RL 241 xX4_common 2 := zLk_of [943, 71] (by decide +kernel) wcX4_common pdX4_common
set_option maxRecDepth 100000 in
theorem wcX4_copy : Cond.code xX4_copy.1 xX4_copy.2.1 xX4_copy.2.2.1 xX4_copy.2.2.2.1 ∈ zT := zT_of (i := 308) rfl rfl
theorem pdX4_copy : xX4_copy.1.cls ≠ "java/lang/invoke/MethodHandle" ∧ xX4_copy.1.cls ≠ "java/lang/invoke/VarHandle" ∧ (parseMethodDescriptor xX4_copy.1.desc).map (fun d => d.parameters.length) = some 5 := by decide +kernel
theorem ivX4_copy : Cond.instanceMethod xX4_copy.1 ∈ zT ∧ Cond.selects xX4_copy.1.cls xX4_copy.1 xX4_copy.1 ∈ zT := have h : zChk [306, 307] [Cond.instanceMethod xX4_copy.1, Cond.selects xX4_copy.1.cls xX4_copy.1 xX4_copy.1] = true := by decide +kernel
  ⟨zChk_ok h _ (.head _), zChk_ok h _ (.tail _ (.head _))⟩
theorem lkL_25 : zLk RL 25 xX4_copy 5 := zLk_of [305, 71] (by decide +kernel) wcX4_copy pdX4_copy
set_option maxRecDepth 100000 in
theorem wcX4_days : Cond.code xX4_days.1 xX4_days.2.1 xX4_days.2.2.1 xX4_days.2.2.2.1 ∈ zT := zT_of (i := 978) rfl rfl
theorem pdX4_days : xX4_days.1.cls ≠ "java/lang/invoke/MethodHandle" ∧ xX4_days.1.cls ≠ "java/lang/invoke/VarHandle" ∧ (parseMethodDescriptor xX4_days.1.desc).map (fun d => d.parameters.length) = some 1 := by decide +kernel
theorem ivX4_days : Cond.instanceMethod xX4_days.1 ∈ zT ∧ Cond.selects xX4_days.1.cls xX4_days.1 xX4_days.1 ∈ zT := have h : zChk [976, 977] [Cond.instanceMethod xX4_days.1, Cond.selects xX4_days.1.cls xX4_days.1 xX4_days.1] = true := by decide +kernel
  ⟨zChk_ok h _ (.head _), zChk_ok h _ (.tail _ (.head _))⟩
theorem lkL_261 : zLk RL 261 xX4_days 1 := zLk_of [975, 71] (by decide +kernel) wcX4_days pdX4_days
set_option maxRecDepth 100000 in
theorem wcX4_doubt : Cond.code xX4_doubt.1 xX4_doubt.2.1 xX4_doubt.2.2.1 xX4_doubt.2.2.2.1 ∈ zT := zT_of (i := 950) rfl rfl
theorem pdX4_doubt : xX4_doubt.1.cls ≠ "java/lang/invoke/MethodHandle" ∧ xX4_doubt.1.cls ≠ "java/lang/invoke/VarHandle" ∧ (parseMethodDescriptor xX4_doubt.1.desc).map (fun d => d.parameters.length) = some 1 := by decide +kernel
theorem ivX4_doubt : Cond.instanceMethod xX4_doubt.1 ∈ zT ∧ Cond.selects xX4_doubt.1.cls xX4_doubt.1 xX4_doubt.1 ∈ zT := have h : zChk [948, 949] [Cond.instanceMethod xX4_doubt.1, Cond.selects xX4_doubt.1.cls xX4_doubt.1 xX4_doubt.1] = true := by decide +kernel
  ⟨zChk_ok h _ (.head _), zChk_ok h _ (.tail _ (.head _))⟩
theorem lkL_245 : zLk RL 245 xX4_doubt 1 := zLk_of [947, 71] (by decide +kernel) wcX4_doubt pdX4_doubt
set_option maxRecDepth 100000 in
theorem wcX4_dropMissingLetters : Cond.code xX4_dropMissingLetters.1 xX4_dropMissingLetters.2.1 xX4_dropMissingLetters.2.2.1 xX4_dropMissingLetters.2.2.2.1 ∈ zT := zT_of (i := 970) rfl rfl
theorem pdX4_dropMissingLetters : xX4_dropMissingLetters.1.cls ≠ "java/lang/invoke/MethodHandle" ∧ xX4_dropMissingLetters.1.cls ≠ "java/lang/invoke/VarHandle" ∧ (parseMethodDescriptor xX4_dropMissingLetters.1.desc).map (fun d => d.parameters.length) = some 0 := by decide +kernel
theorem ivX4_dropMissingLetters : Cond.instanceMethod xX4_dropMissingLetters.1 ∈ zT ∧ Cond.selects xX4_dropMissingLetters.1.cls xX4_dropMissingLetters.1 xX4_dropMissingLetters.1 ∈ zT := have h : zChk [969, 26] [Cond.instanceMethod xX4_dropMissingLetters.1, Cond.selects xX4_dropMissingLetters.1.cls xX4_dropMissingLetters.1 xX4_dropMissingLetters.1] = true := by decide +kernel
  ⟨zChk_ok h _ (.head _), zChk_ok h _ (.tail _ (.head _))⟩
theorem lkX4_351 : zLk RX4 351 xX4_dropMissingLetters 0 := zLk_of [967, 71] (by decide +kernel) wcX4_dropMissingLetters pdX4_dropMissingLetters
set_option maxRecDepth 100000 in
theorem wcX4_element : Cond.code xX4_element.1 xX4_element.2.1 xX4_element.2.2.1 xX4_element.2.2.2.1 ∈ zT := zT_of (i := 321) rfl rfl
theorem pdX4_element : xX4_element.1.cls ≠ "java/lang/invoke/MethodHandle" ∧ xX4_element.1.cls ≠ "java/lang/invoke/VarHandle" ∧ (parseMethodDescriptor xX4_element.1.desc).map (fun d => d.parameters.length) = some 2 := by decide +kernel
theorem ivX4_element : Cond.instanceMethod xX4_element.1 ∈ zT ∧ Cond.selects xX4_element.1.cls xX4_element.1 xX4_element.1 ∈ zT := have h : zChk [319, 320] [Cond.instanceMethod xX4_element.1, Cond.selects xX4_element.1.cls xX4_element.1 xX4_element.1] = true := by decide +kernel
  ⟨zChk_ok h _ (.head _), zChk_ok h _ (.tail _ (.head _))⟩
theorem lkL_30 : zLk RL 30 xX4_element 2 := zLk_of [318, 71] (by decide +kernel) wcX4_element pdX4_element
set_option maxRecDepth 100000 in
theorem wcX4_feed : Cond.code xX4_feed.1 xX4_feed.2.1 xX4_feed.2.2.1 xX4_feed.2.2.2.1 ∈ zT := zT_of (i := 443) rfl rfl
theorem pdX4_feed : xX4_feed.1.cls ≠ "java/lang/invoke/MethodHandle" ∧ xX4_feed.1.cls ≠ "java/lang/invoke/VarHandle" ∧ (parseMethodDescriptor xX4_feed.1.desc).map (fun d => d.parameters.length) = some 1 := by decide +kernel
theorem ivX4_feed : Cond.instanceMethod xX4_feed.1 ∈ zT ∧ Cond.selects xX4_feed.1.cls xX4_feed.1 xX4_feed.1 ∈ zT := have h : zChk [441, 442] [Cond.instanceMethod xX4_feed.1, Cond.selects xX4_feed.1.cls xX4_feed.1 xX4_feed.1] = true := by decide +kernel
  ⟨zChk_ok h _ (.head _), zChk_ok h _ (.tail _ (.head _))⟩
theorem lkL_80 : zLk RL 80 xX4_feed 1 := zLk_of [440, 71] (by decide +kernel) wcX4_feed pdX4_feed
set_option maxRecDepth 100000 in
theorem wcX4_first : Cond.code xX4_first.1 xX4_first.2.1 xX4_first.2.2.1 xX4_first.2.2.2.1 ∈ zT := zT_of (i := 629) rfl rfl
theorem pdX4_first : xX4_first.1.cls ≠ "java/lang/invoke/MethodHandle" ∧ xX4_first.1.cls ≠ "java/lang/invoke/VarHandle" ∧ (parseMethodDescriptor xX4_first.1.desc).map (fun d => d.parameters.length) = some 2 := by decide +kernel
theorem ivX4_first : Cond.instanceMethod xX4_first.1 ∈ zT ∧ Cond.selects xX4_first.1.cls xX4_first.1 xX4_first.1 ∈ zT := have h : zChk [627, 628] [Cond.instanceMethod xX4_first.1, Cond.selects xX4_first.1.cls xX4_first.1 xX4_first.1] = true := by decide +kernel
  ⟨zChk_ok h _ (.head _), zChk_ok h _ (.tail _ (.head _))⟩
theorem lkL_117 : zLk RL 117 xX4_first 2 := zLk_of [626, 71] (by decide +kernel) wcX4_first pdX4_first
set_option maxRecDepth 100000 in
theorem wcX4_fits : Cond.code xX4_fits.1 xX4_fits.2.1 xX4_fits.2.2.1 xX4_fits.2.2.2.1 ∈ zT := zT_of (i := 745) rfl rfl
theorem pdX4_fits : xX4_fits.1.cls ≠ "java/lang/invoke/MethodHandle" ∧ xX4_fits.1.cls ≠ "java/lang/invoke/VarHandle" ∧ (parseMethodDescriptor xX4_fits.1.desc).map (fun d => d.parameters.length) = some 4 := by decide +kernel
theorem ivX4_fits : Cond.instanceMethod xX4_fits.1 ∈ zT ∧ Cond.selects xX4_fits.1.cls xX4_fits.1 xX4_fits.1 ∈ zT := have h : zChk [743, 744] [Cond.instanceMethod xX4_fits.1, Cond.selects xX4_fits.1.cls xX4_fits.1 xX4_fits.1] = true := by decide +kernel
  ⟨zChk_ok h _ (.head _), zChk_ok h _ (.tail _ (.head _))⟩
theorem lkL_153 : zLk RL 153 xX4_fits 4 := zLk_of [742, 71] (by decide +kernel) wcX4_fits pdX4_fits
set_option maxRecDepth 100000 in
theorem wcX4_gossips : Cond.code xX4_gossips.1 xX4_gossips.2.1 xX4_gossips.2.2.1 xX4_gossips.2.2.2.1 ∈ zT := zT_of (i := 842) rfl rfl
theorem pdX4_gossips : xX4_gossips.1.cls ≠ "java/lang/invoke/MethodHandle" ∧ xX4_gossips.1.cls ≠ "java/lang/invoke/VarHandle" ∧ (parseMethodDescriptor xX4_gossips.1.desc).map (fun d => d.parameters.length) = some 0 := by decide +kernel
theorem ivX4_gossips : Cond.instanceMethod xX4_gossips.1 ∈ zT ∧ Cond.selects xX4_gossips.1.cls xX4_gossips.1 xX4_gossips.1 ∈ zT := have h : zChk [840, 841] [Cond.instanceMethod xX4_gossips.1, Cond.selects xX4_gossips.1.cls xX4_gossips.1 xX4_gossips.1] = true := by decide +kernel
  ⟨zChk_ok h _ (.head _), zChk_ok h _ (.tail _ (.head _))⟩
theorem lkL_185 : zLk RL 185 xX4_gossips 0 := zLk_of [839, 71] (by decide +kernel) wcX4_gossips pdX4_gossips
set_option maxRecDepth 100000 in
theorem wcX4_heard : Cond.code xX4_heard.1 xX4_heard.2.1 xX4_heard.2.2.1 xX4_heard.2.2.2.1 ∈ zT := zT_of (i := 600) rfl rfl
theorem pdX4_heard : xX4_heard.1.cls ≠ "java/lang/invoke/MethodHandle" ∧ xX4_heard.1.cls ≠ "java/lang/invoke/VarHandle" ∧ (parseMethodDescriptor xX4_heard.1.desc).map (fun d => d.parameters.length) = some 2 := by decide +kernel
theorem ivX4_heard : Cond.instanceMethod xX4_heard.1 ∈ zT ∧ Cond.selects xX4_heard.1.cls xX4_heard.1 xX4_heard.1 ∈ zT := have h : zChk [598, 599] [Cond.instanceMethod xX4_heard.1, Cond.selects xX4_heard.1.cls xX4_heard.1 xX4_heard.1] = true := by decide +kernel
  ⟨zChk_ok h _ (.head _), zChk_ok h _ (.tail _ (.head _))⟩
theorem lkL_101 : zLk RL 101 xX4_heard 2 := zLk_of [597, 71] (by decide +kernel) wcX4_heard pdX4_heard
set_option maxRecDepth 100000 in
theorem wcX4_holds : Cond.code xX4_holds.1 xX4_holds.2.1 xX4_holds.2.2.1 xX4_holds.2.2.2.1 ∈ zT := zT_of (i := 325) rfl rfl
theorem pdX4_holds : xX4_holds.1.cls ≠ "java/lang/invoke/MethodHandle" ∧ xX4_holds.1.cls ≠ "java/lang/invoke/VarHandle" ∧ (parseMethodDescriptor xX4_holds.1.desc).map (fun d => d.parameters.length) = some 1 := by decide +kernel
theorem ivX4_holds : Cond.instanceMethod xX4_holds.1 ∈ zT ∧ Cond.selects xX4_holds.1.cls xX4_holds.1 xX4_holds.1 ∈ zT := have h : zChk [323, 324] [Cond.instanceMethod xX4_holds.1, Cond.selects xX4_holds.1.cls xX4_holds.1 xX4_holds.1] = true := by decide +kernel
  ⟨zChk_ok h _ (.head _), zChk_ok h _ (.tail _ (.head _))⟩
theorem lkL_35 : zLk RL 35 xX4_holds 1 := zLk_of [322, 71] (by decide +kernel) wcX4_holds pdX4_holds
set_option maxRecDepth 100000 in
theorem wcX4_houseOf : Cond.code xX4_houseOf.1 xX4_houseOf.2.1 xX4_houseOf.2.2.1 xX4_houseOf.2.2.2.1 ∈ zT := zT_of (i := 594) rfl rfl
theorem pdX4_houseOf : xX4_houseOf.1.cls ≠ "java/lang/invoke/MethodHandle" ∧ xX4_houseOf.1.cls ≠ "java/lang/invoke/VarHandle" ∧ (parseMethodDescriptor xX4_houseOf.1.desc).map (fun d => d.parameters.length) = some 2 := by decide +kernel
theorem ivX4_houseOf : Cond.instanceMethod xX4_houseOf.1 ∈ zT ∧ Cond.selects xX4_houseOf.1.cls xX4_houseOf.1 xX4_houseOf.1 ∈ zT := have h : zChk [592, 593] [Cond.instanceMethod xX4_houseOf.1, Cond.selects xX4_houseOf.1.cls xX4_houseOf.1 xX4_houseOf.1] = true := by decide +kernel
  ⟨zChk_ok h _ (.head _), zChk_ok h _ (.tail _ (.head _))⟩
theorem lkL_97 : zLk RL 97 xX4_houseOf 2 := zLk_of [591, 71] (by decide +kernel) wcX4_houseOf pdX4_houseOf
set_option maxRecDepth 100000 in
theorem wcX4_houses : Cond.code xX4_houses.1 xX4_houses.2.1 xX4_houses.2.2.1 xX4_houses.2.2.2.1 ∈ zT := zT_of (i := 395) rfl rfl
theorem pdX4_houses : xX4_houses.1.cls ≠ "java/lang/invoke/MethodHandle" ∧ xX4_houses.1.cls ≠ "java/lang/invoke/VarHandle" ∧ (parseMethodDescriptor xX4_houses.1.desc).map (fun d => d.parameters.length) = some 1 := by decide +kernel
theorem ivX4_houses : Cond.instanceMethod xX4_houses.1 ∈ zT ∧ Cond.selects xX4_houses.1.cls xX4_houses.1 xX4_houses.1 ∈ zT := have h : zChk [393, 394] [Cond.instanceMethod xX4_houses.1, Cond.selects xX4_houses.1.cls xX4_houses.1 xX4_houses.1] = true := by decide +kernel
  ⟨zChk_ok h _ (.head _), zChk_ok h _ (.tail _ (.head _))⟩
theorem lkL_49 : zLk RL 49 xX4_houses 1 := zLk_of [392, 71] (by decide +kernel) wcX4_houses pdX4_houses
set_option maxRecDepth 100000 in
theorem wcX4_hush : Cond.code xX4_hush.1 xX4_hush.2.1 xX4_hush.2.2.1 xX4_hush.2.2.2.1 ∈ zT := zT_of (i := 682) rfl rfl
theorem pdX4_hush : xX4_hush.1.cls ≠ "java/lang/invoke/MethodHandle" ∧ xX4_hush.1.cls ≠ "java/lang/invoke/VarHandle" ∧ (parseMethodDescriptor xX4_hush.1.desc).map (fun d => d.parameters.length) = some 3 := by decide +kernel
theorem ivX4_hush : Cond.instanceMethod xX4_hush.1 ∈ zT ∧ Cond.selects xX4_hush.1.cls xX4_hush.1 xX4_hush.1 ∈ zT := have h : zChk [680, 681] [Cond.instanceMethod xX4_hush.1, Cond.selects xX4_hush.1.cls xX4_hush.1 xX4_hush.1] = true := by decide +kernel
  ⟨zChk_ok h _ (.head _), zChk_ok h _ (.tail _ (.head _))⟩
theorem lkL_137 : zLk RL 137 xX4_hush 3 := zLk_of [679, 71] (by decide +kernel) wcX4_hush pdX4_hush
set_option maxRecDepth 100000 in
theorem wcX4_image : Cond.code xX4_image.1 xX4_image.2.1 xX4_image.2.2.1 xX4_image.2.2.2.1 ∈ zT := zT_of (i := 996) rfl rfl
theorem pdX4_image : xX4_image.1.cls ≠ "java/lang/invoke/MethodHandle" ∧ xX4_image.1.cls ≠ "java/lang/invoke/VarHandle" ∧ (parseMethodDescriptor xX4_image.1.desc).map (fun d => d.parameters.length) = some 0 := by decide +kernel
theorem ivX4_image : Cond.instanceMethod xX4_image.1 ∈ zT ∧ Cond.selects xX4_image.1.cls xX4_image.1 xX4_image.1 ∈ zT := have h : zChk [994, 995] [Cond.instanceMethod xX4_image.1, Cond.selects xX4_image.1.cls xX4_image.1 xX4_image.1] = true := by decide +kernel
  ⟨zChk_ok h _ (.head _), zChk_ok h _ (.tail _ (.head _))⟩
theorem lkL_269 : zLk RL 269 xX4_image 0 := zLk_of [993, 71] (by decide +kernel) wcX4_image pdX4_image
set_option maxRecDepth 100000 in
theorem wcX4_init : Cond.code xX4_init.1 xX4_init.2.1 xX4_init.2.2.1 xX4_init.2.2.2.1 ∈ zT := zT_of (i := 88) rfl rfl
theorem pdX4_init : xX4_init.1.cls ≠ "java/lang/invoke/MethodHandle" ∧ xX4_init.1.cls ≠ "java/lang/invoke/VarHandle" ∧ (parseMethodDescriptor xX4_init.1.desc).map (fun d => d.parameters.length) = some 0 := by decide +kernel
theorem iiX4_init : Cond.instanceMethod xX4_init.1 ∈ zT ∧ xX4_init.1.name = "<init>" ∧ xX4_init.2.2.2.1 = none := have h : zChk [87] [Cond.instanceMethod xX4_init.1] = true := by decide +kernel
  ⟨zChk_ok h _ (.head _), rfl, rfl⟩
theorem lkL_9 : zLk RL 9 xX4_init 0 := zLk_of [86, 71] (by decide +kernel) wcX4_init pdX4_init
set_option maxRecDepth 100000 in
theorem wcX4_isOrStandsUnder : Cond.code xX4_isOrStandsUnder.1 xX4_isOrStandsUnder.2.1 xX4_isOrStandsUnder.2.2.1 xX4_isOrStandsUnder.2.2.2.1 ∈ zT := zT_of (i := 355) rfl rfl
theorem pdX4_isOrStandsUnder : xX4_isOrStandsUnder.1.cls ≠ "java/lang/invoke/MethodHandle" ∧ xX4_isOrStandsUnder.1.cls ≠ "java/lang/invoke/VarHandle" ∧ (parseMethodDescriptor xX4_isOrStandsUnder.1.desc).map (fun d => d.parameters.length) = some 2 := by decide +kernel
theorem isX4_isOrStandsUnder : Cond.static xX4_isOrStandsUnder.1 ∈ zT := have h : zChk [354] [Cond.static xX4_isOrStandsUnder.1] = true := by decide +kernel
  zChk_ok h _ (.head _)
theorem lkX4_119 : zLk RX4 119 xX4_isOrStandsUnder 2 := zLk_of [353, 71] (by decide +kernel) wcX4_isOrStandsUnder pdX4_isOrStandsUnder
set_option maxRecDepth 100000 in
theorem wcX4_isRead : Cond.code xX4_isRead.1 xX4_isRead.2.1 xX4_isRead.2.2.1 xX4_isRead.2.2.2.1 ∈ zT := zT_of (i := 604) rfl rfl
theorem pdX4_isRead : xX4_isRead.1.cls ≠ "java/lang/invoke/MethodHandle" ∧ xX4_isRead.1.cls ≠ "java/lang/invoke/VarHandle" ∧ (parseMethodDescriptor xX4_isRead.1.desc).map (fun d => d.parameters.length) = some 2 := by decide +kernel
theorem ivX4_isRead : Cond.instanceMethod xX4_isRead.1 ∈ zT ∧ Cond.selects xX4_isRead.1.cls xX4_isRead.1 xX4_isRead.1 ∈ zT := have h : zChk [602, 603] [Cond.instanceMethod xX4_isRead.1, Cond.selects xX4_isRead.1.cls xX4_isRead.1 xX4_isRead.1] = true := by decide +kernel
  ⟨zChk_ok h _ (.head _), zChk_ok h _ (.tail _ (.head _))⟩
theorem lkL_105 : zLk RL 105 xX4_isRead 2 := zLk_of [601, 71] (by decide +kernel) wcX4_isRead pdX4_isRead
set_option maxRecDepth 100000 in
theorem wcX4_judge : Cond.code xX4_judge.1 xX4_judge.2.1 xX4_judge.2.2.1 xX4_judge.2.2.2.1 ∈ zT := zT_of (i := 958) rfl rfl
theorem pdX4_judge : xX4_judge.1.cls ≠ "java/lang/invoke/MethodHandle" ∧ xX4_judge.1.cls ≠ "java/lang/invoke/VarHandle" ∧ (parseMethodDescriptor xX4_judge.1.desc).map (fun d => d.parameters.length) = some 2 := by decide +kernel
theorem ivX4_judge : Cond.instanceMethod xX4_judge.1 ∈ zT ∧ Cond.selects xX4_judge.1.cls xX4_judge.1 xX4_judge.1 ∈ zT := have h : zChk [956, 957] [Cond.instanceMethod xX4_judge.1, Cond.selects xX4_judge.1.cls xX4_judge.1 xX4_judge.1] = true := by decide +kernel
  ⟨zChk_ok h _ (.head _), zChk_ok h _ (.tail _ (.head _))⟩
theorem lkL_253 : zLk RL 253 xX4_judge 2 := zLk_of [955, 71] (by decide +kernel) wcX4_judge pdX4_judge
set_option maxRecDepth 100000 in
theorem wcX4_knows : Cond.code xX4_knows.1 xX4_knows.2.1 xX4_knows.2.2.1 xX4_knows.2.2.2.1 ∈ zT := zT_of (i := 621) rfl rfl
theorem pdX4_knows : xX4_knows.1.cls ≠ "java/lang/invoke/MethodHandle" ∧ xX4_knows.1.cls ≠ "java/lang/invoke/VarHandle" ∧ (parseMethodDescriptor xX4_knows.1.desc).map (fun d => d.parameters.length) = some 1 := by decide +kernel
theorem ivX4_knows : Cond.instanceMethod xX4_knows.1 ∈ zT ∧ Cond.selects xX4_knows.1.cls xX4_knows.1 xX4_knows.1 ∈ zT := have h : zChk [619, 620] [Cond.instanceMethod xX4_knows.1, Cond.selects xX4_knows.1.cls xX4_knows.1 xX4_knows.1] = true := by decide +kernel
  ⟨zChk_ok h _ (.head _), zChk_ok h _ (.tail _ (.head _))⟩
theorem lkL_113 : zLk RL 113 xX4_knows 1 := zLk_of [618, 71] (by decide +kernel) wcX4_knows pdX4_knows
set_option maxRecDepth 100000 in
theorem wcX4_lacks : Cond.code xX4_lacks.1 xX4_lacks.2.1 xX4_lacks.2.2.1 xX4_lacks.2.2.2.1 ∈ zT := zT_of (i := 889) rfl rfl
theorem pdX4_lacks : xX4_lacks.1.cls ≠ "java/lang/invoke/MethodHandle" ∧ xX4_lacks.1.cls ≠ "java/lang/invoke/VarHandle" ∧ (parseMethodDescriptor xX4_lacks.1.desc).map (fun d => d.parameters.length) = some 2 := by decide +kernel
theorem ivX4_lacks : Cond.instanceMethod xX4_lacks.1 ∈ zT ∧ Cond.selects xX4_lacks.1.cls xX4_lacks.1 xX4_lacks.1 ∈ zT := have h : zChk [887, 888] [Cond.instanceMethod xX4_lacks.1, Cond.selects xX4_lacks.1.cls xX4_lacks.1 xX4_lacks.1] = true := by decide +kernel
  ⟨zChk_ok h _ (.head _), zChk_ok h _ (.tail _ (.head _))⟩
theorem lkL_213 : zLk RL 213 xX4_lacks 2 := zLk_of [886, 71] (by decide +kernel) wcX4_lacks pdX4_lacks
set_option maxRecDepth 100000 in
theorem wcX4_lane : Cond.code xX4_lane.1 xX4_lane.2.1 xX4_lane.2.2.1 xX4_lane.2.2.2.1 ∈ zT := zT_of (i := 464) rfl rfl
theorem pdX4_lane : xX4_lane.1.cls ≠ "java/lang/invoke/MethodHandle" ∧ xX4_lane.1.cls ≠ "java/lang/invoke/VarHandle" ∧ (parseMethodDescriptor xX4_lane.1.desc).map (fun d => d.parameters.length) = some 0 := by decide +kernel
theorem ivX4_lane : Cond.instanceMethod xX4_lane.1 ∈ zT ∧ Cond.selects xX4_lane.1.cls xX4_lane.1 xX4_lane.1 ∈ zT := have h : zChk [462, 463] [Cond.instanceMethod xX4_lane.1, Cond.selects xX4_lane.1.cls xX4_lane.1 xX4_lane.1] = true := by decide +kernel
  ⟨zChk_ok h _ (.head _), zChk_ok h _ (.tail _ (.head _))⟩
theorem lkL_89 : zLk RL 89 xX4_lane 0 := zLk_of [461, 71] (by decide +kernel) wcX4_lane pdX4_lane
set_option maxRecDepth 100000 in
theorem wcX4_lengths : Cond.code xX4_lengths.1 xX4_lengths.2.1 xX4_lengths.2.2.1 xX4_lengths.2.2.2.1 ∈ zT := zT_of (i := 719) rfl rfl
theorem pdX4_lengths : xX4_lengths.1.cls ≠ "java/lang/invoke/MethodHandle" ∧ xX4_lengths.1.cls ≠ "java/lang/invoke/VarHandle" ∧ (parseMethodDescriptor xX4_lengths.1.desc).map (fun d => d.parameters.length) = some 4 := by decide +kernel
theorem ivX4_lengths : Cond.instanceMethod xX4_lengths.1 ∈ zT ∧ Cond.selects xX4_lengths.1.cls xX4_lengths.1 xX4_lengths.1 ∈ zT := have h : zChk [717, 718] [Cond.instanceMethod xX4_lengths.1, Cond.selects xX4_lengths.1.cls xX4_lengths.1 xX4_lengths.1] = true := by decide +kernel
  ⟨zChk_ok h _ (.head _), zChk_ok h _ (.tail _ (.head _))⟩
theorem lkL_149 : zLk RL 149 xX4_lengths 4 := zLk_of [716, 71] (by decide +kernel) wcX4_lengths pdX4_lengths
set_option maxRecDepth 100000 in
theorem wcX4_letter : Cond.code xX4_letter.1 xX4_letter.2.1 xX4_letter.2.2.1 xX4_letter.2.2.2.1 ∈ zT := zT_of (i := 399) rfl rfl
theorem pdX4_letter : xX4_letter.1.cls ≠ "java/lang/invoke/MethodHandle" ∧ xX4_letter.1.cls ≠ "java/lang/invoke/VarHandle" ∧ (parseMethodDescriptor xX4_letter.1.desc).map (fun d => d.parameters.length) = some 4 := by decide +kernel
theorem ivX4_letter : Cond.instanceMethod xX4_letter.1 ∈ zT ∧ Cond.selects xX4_letter.1.cls xX4_letter.1 xX4_letter.1 ∈ zT := have h : zChk [397, 398] [Cond.instanceMethod xX4_letter.1, Cond.selects xX4_letter.1.cls xX4_letter.1 xX4_letter.1] = true := by decide +kernel
  ⟨zChk_ok h _ (.head _), zChk_ok h _ (.tail _ (.head _))⟩
theorem lkL_53 : zLk RL 53 xX4_letter 4 := zLk_of [396, 71] (by decide +kernel) wcX4_letter pdX4_letter
set_option maxRecDepth 100000 in
theorem wcX4_letterOf : Cond.code xX4_letterOf.1 xX4_letterOf.2.1 xX4_letterOf.2.2.1 xX4_letterOf.2.2.2.1 ∈ zT := zT_of (i := 590) rfl rfl
theorem pdX4_letterOf : xX4_letterOf.1.cls ≠ "java/lang/invoke/MethodHandle" ∧ xX4_letterOf.1.cls ≠ "java/lang/invoke/VarHandle" ∧ (parseMethodDescriptor xX4_letterOf.1.desc).map (fun d => d.parameters.length) = some 2 := by decide +kernel
theorem ivX4_letterOf : Cond.instanceMethod xX4_letterOf.1 ∈ zT ∧ Cond.selects xX4_letterOf.1.cls xX4_letterOf.1 xX4_letterOf.1 ∈ zT := have h : zChk [588, 589] [Cond.instanceMethod xX4_letterOf.1, Cond.selects xX4_letterOf.1.cls xX4_letterOf.1 xX4_letterOf.1] = true := by decide +kernel
  ⟨zChk_ok h _ (.head _), zChk_ok h _ (.tail _ (.head _))⟩
theorem lkL_93 : zLk RL 93 xX4_letterOf 2 := zLk_of [587, 71] (by decide +kernel) wcX4_letterOf pdX4_letterOf
set_option maxRecDepth 100000 in
theorem wcX4_lost : Cond.code xX4_lost.1 xX4_lost.2.1 xX4_lost.2.2.1 xX4_lost.2.2.2.1 ∈ zT := zT_of (i := 880) rfl rfl
theorem pdX4_lost : xX4_lost.1.cls ≠ "java/lang/invoke/MethodHandle" ∧ xX4_lost.1.cls ≠ "java/lang/invoke/VarHandle" ∧ (parseMethodDescriptor xX4_lost.1.desc).map (fun d => d.parameters.length) = some 0 := by decide +kernel
theorem ivX4_lost : Cond.instanceMethod xX4_lost.1 ∈ zT ∧ Cond.selects xX4_lost.1.cls xX4_lost.1 xX4_lost.1 ∈ zT := have h : zChk [878, 879] [Cond.instanceMethod xX4_lost.1, Cond.selects xX4_lost.1.cls xX4_lost.1 xX4_lost.1] = true := by decide +kernel
  ⟨zChk_ok h _ (.head _), zChk_ok h _ (.tail _ (.head _))⟩
theorem lkL_205 : zLk RL 205 xX4_lost 0 := zLk_of [877, 71] (by decide +kernel) wcX4_lost pdX4_lost
set_option maxRecDepth 100000 in
theorem wcX4_loudest : Cond.code xX4_loudest.1 xX4_loudest.2.1 xX4_loudest.2.2.1 xX4_loudest.2.2.2.1 ∈ zT := zT_of (i := 638) rfl rfl
theorem pdX4_loudest : xX4_loudest.1.cls ≠ "java/lang/invoke/MethodHandle" ∧ xX4_loudest.1.cls ≠ "java/lang/invoke/VarHandle" ∧ (parseMethodDescriptor xX4_loudest.1.desc).map (fun d => d.parameters.length) = some 1 := by decide +kernel
theorem ivX4_loudest : Cond.instanceMethod xX4_loudest.1 ∈ zT ∧ Cond.selects xX4_loudest.1.cls xX4_loudest.1 xX4_loudest.1 ∈ zT := have h : zChk [636, 637] [Cond.instanceMethod xX4_loudest.1, Cond.selects xX4_loudest.1.cls xX4_loudest.1 xX4_loudest.1] = true := by decide +kernel
  ⟨zChk_ok h _ (.head _), zChk_ok h _ (.tail _ (.head _))⟩
theorem lkL_121 : zLk RL 121 xX4_loudest 1 := zLk_of [635, 71] (by decide +kernel) wcX4_loudest pdX4_loudest
set_option maxRecDepth 100000 in
theorem wcX4_mend : Cond.code xX4_mend.1 xX4_mend.2.1 xX4_mend.2.2.1 xX4_mend.2.2.2.1 ∈ zT := zT_of (i := 416) rfl rfl
theorem pdX4_mend : xX4_mend.1.cls ≠ "java/lang/invoke/MethodHandle" ∧ xX4_mend.1.cls ≠ "java/lang/invoke/VarHandle" ∧ (parseMethodDescriptor xX4_mend.1.desc).map (fun d => d.parameters.length) = some 3 := by decide +kernel
theorem ivX4_mend : Cond.instanceMethod xX4_mend.1 ∈ zT ∧ Cond.selects xX4_mend.1.cls xX4_mend.1 xX4_mend.1 ∈ zT := have h : zChk [414, 415] [Cond.instanceMethod xX4_mend.1, Cond.selects xX4_mend.1.cls xX4_mend.1 xX4_mend.1] = true := by decide +kernel
  ⟨zChk_ok h _ (.head _), zChk_ok h _ (.tail _ (.head _))⟩
theorem lkL_58 : zLk RL 58 xX4_mend 3 := zLk_of [413, 71] (by decide +kernel) wcX4_mend pdX4_mend
set_option maxRecDepth 100000 in
theorem wcX4_merry : Cond.code xX4_merry.1 xX4_merry.2.1 xX4_merry.2.2.1 xX4_merry.2.2.2.1 ∈ zT := zT_of (i := 938) rfl rfl
theorem pdX4_merry : xX4_merry.1.cls ≠ "java/lang/invoke/MethodHandle" ∧ xX4_merry.1.cls ≠ "java/lang/invoke/VarHandle" ∧ (parseMethodDescriptor xX4_merry.1.desc).map (fun d => d.parameters.length) = some 1 := by decide +kernel
theorem ivX4_merry : Cond.instanceMethod xX4_merry.1 ∈ zT ∧ Cond.selects xX4_merry.1.cls xX4_merry.1 xX4_merry.1 ∈ zT := have h : zChk [936, 937] [Cond.instanceMethod xX4_merry.1, Cond.selects xX4_merry.1.cls xX4_merry.1 xX4_merry.1] = true := by decide +kernel
  ⟨zChk_ok h _ (.head _), zChk_ok h _ (.tail _ (.head _))⟩
theorem lkL_237 : zLk RL 237 xX4_merry 1 := zLk_of [935, 71] (by decide +kernel) wcX4_merry pdX4_merry
set_option maxRecDepth 100000 in
theorem wcX4_noHouse : Cond.code xX4_noHouse.1 xX4_noHouse.2.1 xX4_noHouse.2.2.1 xX4_noHouse.2.2.2.1 ∈ zT := zT_of (i := 403) rfl rfl
theorem pdX4_noHouse : xX4_noHouse.1.cls ≠ "java/lang/invoke/MethodHandle" ∧ xX4_noHouse.1.cls ≠ "java/lang/invoke/VarHandle" ∧ (parseMethodDescriptor xX4_noHouse.1.desc).map (fun d => d.parameters.length) = some 1 := by decide +kernel
theorem ivX4_noHouse : Cond.instanceMethod xX4_noHouse.1 ∈ zT ∧ Cond.selects xX4_noHouse.1.cls xX4_noHouse.1 xX4_noHouse.1 ∈ zT := have h : zChk [402, 7] [Cond.instanceMethod xX4_noHouse.1, Cond.selects xX4_noHouse.1.cls xX4_noHouse.1 xX4_noHouse.1] = true := by decide +kernel
  ⟨zChk_ok h _ (.head _), zChk_ok h _ (.tail _ (.head _))⟩
theorem lkX4_132 : zLk RX4 132 xX4_noHouse 1 := zLk_of [400, 71] (by decide +kernel) wcX4_noHouse pdX4_noHouse
set_option maxRecDepth 100000 in
theorem wcX4_noKind : Cond.code xX4_noKind.1 xX4_noKind.2.1 xX4_noKind.2.2.1 xX4_noKind.2.2.2.1 ∈ zT := zT_of (i := 348) rfl rfl
theorem pdX4_noKind : xX4_noKind.1.cls ≠ "java/lang/invoke/MethodHandle" ∧ xX4_noKind.1.cls ≠ "java/lang/invoke/VarHandle" ∧ (parseMethodDescriptor xX4_noKind.1.desc).map (fun d => d.parameters.length) = some 1 := by decide +kernel
theorem isX4_noKind : Cond.static xX4_noKind.1 ∈ zT := have h : zChk [347] [Cond.static xX4_noKind.1] = true := by decide +kernel
  zChk_ok h _ (.head _)
theorem lkX4_109 : zLk RX4 109 xX4_noKind 1 := zLk_of [346, 71] (by decide +kernel) wcX4_noKind pdX4_noKind
set_option maxRecDepth 100000 in
theorem wcX4_noLetter : Cond.code xX4_noLetter.1 xX4_noLetter.2.1 xX4_noLetter.2.2.1 xX4_noLetter.2.2.2.1 ∈ zT := zT_of (i := 333) rfl rfl
theorem pdX4_noLetter : xX4_noLetter.1.cls ≠ "java/lang/invoke/MethodHandle" ∧ xX4_noLetter.1.cls ≠ "java/lang/invoke/VarHandle" ∧ (parseMethodDescriptor xX4_noLetter.1.desc).map (fun d => d.parameters.length) = some 1 := by decide +kernel
theorem ivX4_noLetter : Cond.instanceMethod xX4_noLetter.1 ∈ zT ∧ Cond.selects xX4_noLetter.1.cls xX4_noLetter.1 xX4_noLetter.1 ∈ zT := have h : zChk [332, 3] [Cond.instanceMethod xX4_noLetter.1, Cond.selects xX4_noLetter.1.cls xX4_noLetter.1 xX4_noLetter.1] = true := by decide +kernel
  ⟨zChk_ok h _ (.head _), zChk_ok h _ (.tail _ (.head _))⟩
theorem lkX4_99 : zLk RX4 99 xX4_noLetter 1 := zLk_of [330, 71] (by decide +kernel) wcX4_noLetter pdX4_noLetter
set_option maxRecDepth 100000 in
theorem wcX4_noPouring : Cond.code xX4_noPouring.1 xX4_noPouring.2.1 xX4_noPouring.2.2.1 xX4_noPouring.2.2.2.1 ∈ zT := zT_of (i := 788) rfl rfl
theorem pdX4_noPouring : xX4_noPouring.1.cls ≠ "java/lang/invoke/MethodHandle" ∧ xX4_noPouring.1.cls ≠ "java/lang/invoke/VarHandle" ∧ (parseMethodDescriptor xX4_noPouring.1.desc).map (fun d => d.parameters.length) = some 4 := by decide +kernel
theorem ivX4_noPouring : Cond.instanceMethod xX4_noPouring.1 ∈ zT ∧ Cond.selects xX4_noPouring.1.cls xX4_noPouring.1 xX4_noPouring.1 ∈ zT := have h : zChk [787, 25] [Cond.instanceMethod xX4_noPouring.1, Cond.selects xX4_noPouring.1.cls xX4_noPouring.1 xX4_noPouring.1] = true := by decide +kernel
  ⟨zChk_ok h _ (.head _), zChk_ok h _ (.tail _ (.head _))⟩
theorem lkX4_278 : zLk RX4 278 xX4_noPouring 4 := zLk_of [785, 71] (by decide +kernel) wcX4_noPouring pdX4_noPouring
set_option maxRecDepth 100000 in
theorem wcX4_noSet : Cond.code xX4_noSet.1 xX4_noSet.2.1 xX4_noSet.2.2.1 xX4_noSet.2.2.2.1 ∈ zT := zT_of (i := 672) rfl rfl
theorem pdX4_noSet : xX4_noSet.1.cls ≠ "java/lang/invoke/MethodHandle" ∧ xX4_noSet.1.cls ≠ "java/lang/invoke/VarHandle" ∧ (parseMethodDescriptor xX4_noSet.1.desc).map (fun d => d.parameters.length) = some 1 := by decide +kernel
theorem ivX4_noSet : Cond.instanceMethod xX4_noSet.1 ∈ zT ∧ Cond.selects xX4_noSet.1.cls xX4_noSet.1 xX4_noSet.1 ∈ zT := have h : zChk [671, 19] [Cond.instanceMethod xX4_noSet.1, Cond.selects xX4_noSet.1.cls xX4_noSet.1 xX4_noSet.1] = true := by decide +kernel
  ⟨zChk_ok h _ (.head _), zChk_ok h _ (.tail _ (.head _))⟩
theorem lkX4_229 : zLk RX4 229 xX4_noSet 1 := zLk_of [669, 71] (by decide +kernel) wcX4_noSet pdX4_noSet
set_option maxRecDepth 100000 in
theorem wcX4_noShelf : Cond.code xX4_noShelf.1 xX4_noShelf.2.1 xX4_noShelf.2.2.1 xX4_noShelf.2.2.2.1 ∈ zT := zT_of (i := 265) rfl rfl
theorem pdX4_noShelf : xX4_noShelf.1.cls ≠ "java/lang/invoke/MethodHandle" ∧ xX4_noShelf.1.cls ≠ "java/lang/invoke/VarHandle" ∧ (parseMethodDescriptor xX4_noShelf.1.desc).map (fun d => d.parameters.length) = some 1 := by decide +kernel
theorem ivX4_noShelf : Cond.instanceMethod xX4_noShelf.1 ∈ zT ∧ Cond.selects xX4_noShelf.1.cls xX4_noShelf.1 xX4_noShelf.1 ∈ zT := have h : zChk [264, 0] [Cond.instanceMethod xX4_noShelf.1, Cond.selects xX4_noShelf.1.cls xX4_noShelf.1 xX4_noShelf.1] = true := by decide +kernel
  ⟨zChk_ok h _ (.head _), zChk_ok h _ (.tail _ (.head _))⟩
theorem lkX4_48 : zLk RX4 48 xX4_noShelf 1 := zLk_of [262, 71] (by decide +kernel) wcX4_noShelf pdX4_noShelf
set_option maxRecDepth 100000 in
theorem wcX4_ofKind : Cond.code xX4_ofKind.1 xX4_ofKind.2.1 xX4_ofKind.2.2.1 xX4_ofKind.2.2.2.1 ∈ zT := zT_of (i := 954) rfl rfl
theorem pdX4_ofKind : xX4_ofKind.1.cls ≠ "java/lang/invoke/MethodHandle" ∧ xX4_ofKind.1.cls ≠ "java/lang/invoke/VarHandle" ∧ (parseMethodDescriptor xX4_ofKind.1.desc).map (fun d => d.parameters.length) = some 1 := by decide +kernel
theorem ivX4_ofKind : Cond.instanceMethod xX4_ofKind.1 ∈ zT ∧ Cond.selects xX4_ofKind.1.cls xX4_ofKind.1 xX4_ofKind.1 ∈ zT := have h : zChk [952, 953] [Cond.instanceMethod xX4_ofKind.1, Cond.selects xX4_ofKind.1.cls xX4_ofKind.1 xX4_ofKind.1] = true := by decide +kernel
  ⟨zChk_ok h _ (.head _), zChk_ok h _ (.tail _ (.head _))⟩
theorem lkL_249 : zLk RL 249 xX4_ofKind 1 := zLk_of [951, 71] (by decide +kernel) wcX4_ofKind pdX4_ofKind
set_option maxRecDepth 100000 in
theorem wcX4_outside : Cond.code xX4_outside.1 xX4_outside.2.1 xX4_outside.2.2.1 xX4_outside.2.2.2.1 ∈ zT := zT_of (i := 268) rfl rfl
theorem pdX4_outside : xX4_outside.1.cls ≠ "java/lang/invoke/MethodHandle" ∧ xX4_outside.1.cls ≠ "java/lang/invoke/VarHandle" ∧ (parseMethodDescriptor xX4_outside.1.desc).map (fun d => d.parameters.length) = some 3 := by decide +kernel
theorem isX4_outside : Cond.static xX4_outside.1 ∈ zT := have h : zChk [267] [Cond.static xX4_outside.1] = true := by decide +kernel
  zChk_ok h _ (.head _)
theorem lkX4_52 : zLk RX4 52 xX4_outside 3 := zLk_of [266, 71] (by decide +kernel) wcX4_outside pdX4_outside
set_option maxRecDepth 100000 in
theorem wcX4_pour : Cond.code xX4_pour.1 xX4_pour.2.1 xX4_pour.2.2.1 xX4_pour.2.2.2.1 ∈ zT := zT_of (i := 784) rfl rfl
theorem pdX4_pour : xX4_pour.1.cls ≠ "java/lang/invoke/MethodHandle" ∧ xX4_pour.1.cls ≠ "java/lang/invoke/VarHandle" ∧ (parseMethodDescriptor xX4_pour.1.desc).map (fun d => d.parameters.length) = some 5 := by decide +kernel
theorem ivX4_pour : Cond.instanceMethod xX4_pour.1 ∈ zT ∧ Cond.selects xX4_pour.1.cls xX4_pour.1 xX4_pour.1 ∈ zT := have h : zChk [782, 783] [Cond.instanceMethod xX4_pour.1, Cond.selects xX4_pour.1.cls xX4_pour.1 xX4_pour.1] = true := by decide +kernel
  ⟨zChk_ok h _ (.head _), zChk_ok h _ (.tail _ (.head _))⟩
theorem lkL_165 : zLk RL 165 xX4_pour 5 := zLk_of [781, 71] (by decide +kernel) wcX4_pour pdX4_pour
set_option maxRecDepth 100000 in
theorem wcX4_quiet : Cond.code xX4_quiet.1 xX4_quiet.2.1 xX4_quiet.2.2.1 xX4_quiet.2.2.2.1 ∈ zT := zT_of (i := 898) rfl rfl
theorem pdX4_quiet : xX4_quiet.1.cls ≠ "java/lang/invoke/MethodHandle" ∧ xX4_quiet.1.cls ≠ "java/lang/invoke/VarHandle" ∧ (parseMethodDescriptor xX4_quiet.1.desc).map (fun d => d.parameters.length) = some 1 := by decide +kernel
theorem ivX4_quiet : Cond.instanceMethod xX4_quiet.1 ∈ zT ∧ Cond.selects xX4_quiet.1.cls xX4_quiet.1 xX4_quiet.1 ∈ zT := have h : zChk [896, 897] [Cond.instanceMethod xX4_quiet.1, Cond.selects xX4_quiet.1.cls xX4_quiet.1 xX4_quiet.1] = true := by decide +kernel
  ⟨zChk_ok h _ (.head _), zChk_ok h _ (.tail _ (.head _))⟩
theorem lkL_221 : zLk RL 221 xX4_quiet 1 := zLk_of [895, 71] (by decide +kernel) wcX4_quiet pdX4_quiet
set_option maxRecDepth 100000 in
theorem wcX4_reach : Cond.code xX4_reach.1 xX4_reach.2.1 xX4_reach.2.2.1 xX4_reach.2.2.2.1 ∈ zT := zT_of (i := 885) rfl rfl
theorem pdX4_reach : xX4_reach.1.cls ≠ "java/lang/invoke/MethodHandle" ∧ xX4_reach.1.cls ≠ "java/lang/invoke/VarHandle" ∧ (parseMethodDescriptor xX4_reach.1.desc).map (fun d => d.parameters.length) = some 2 := by decide +kernel
theorem ivX4_reach : Cond.instanceMethod xX4_reach.1 ∈ zT ∧ Cond.selects xX4_reach.1.cls xX4_reach.1 xX4_reach.1 ∈ zT := have h : zChk [883, 884] [Cond.instanceMethod xX4_reach.1, Cond.selects xX4_reach.1.cls xX4_reach.1 xX4_reach.1] = true := by decide +kernel
  ⟨zChk_ok h _ (.head _), zChk_ok h _ (.tail _ (.head _))⟩
theorem lkL_209 : zLk RL 209 xX4_reach 2 := zLk_of [882, 71] (by decide +kernel) wcX4_reach pdX4_reach
set_option maxRecDepth 100000 in
theorem wcX4_refuse : Cond.code xX4_refuse.1 xX4_refuse.2.1 xX4_refuse.2.2.1 xX4_refuse.2.2.2.1 ∈ zT := zT_of (i := 272) rfl rfl
theorem pdX4_refuse : xX4_refuse.1.cls ≠ "java/lang/invoke/MethodHandle" ∧ xX4_refuse.1.cls ≠ "java/lang/invoke/VarHandle" ∧ (parseMethodDescriptor xX4_refuse.1.desc).map (fun d => d.parameters.length) = some 1 := by decide +kernel
theorem ivX4_refuse : Cond.instanceMethod xX4_refuse.1 ∈ zT ∧ Cond.selects xX4_refuse.1.cls xX4_refuse.1 xX4_refuse.1 ∈ zT := have h : zChk [271, 1] [Cond.instanceMethod xX4_refuse.1, Cond.selects xX4_refuse.1.cls xX4_refuse.1 xX4_refuse.1] = true := by decide +kernel
  ⟨zChk_ok h _ (.head _), zChk_ok h _ (.tail _ (.head _))⟩
theorem lkX4_56 : zLk RX4 56 xX4_refuse 1 := zLk_of [269, 71] (by decide +kernel) wcX4_refuse pdX4_refuse
set_option maxRecDepth 100000 in
theorem wcX4_round : Cond.code xX4_round.1 xX4_round.2.1 xX4_round.2.2.1 xX4_round.2.2.2.1 ∈ zT := zT_of (i := 962) rfl rfl
theorem pdX4_round : xX4_round.1.cls ≠ "java/lang/invoke/MethodHandle" ∧ xX4_round.1.cls ≠ "java/lang/invoke/VarHandle" ∧ (parseMethodDescriptor xX4_round.1.desc).map (fun d => d.parameters.length) = some 1 := by decide +kernel
theorem ivX4_round : Cond.instanceMethod xX4_round.1 ∈ zT ∧ Cond.selects xX4_round.1.cls xX4_round.1 xX4_round.1 ∈ zT := have h : zChk [960, 961] [Cond.instanceMethod xX4_round.1, Cond.selects xX4_round.1.cls xX4_round.1 xX4_round.1] = true := by decide +kernel
  ⟨zChk_ok h _ (.head _), zChk_ok h _ (.tail _ (.head _))⟩
theorem lkL_257 : zLk RL 257 xX4_round 1 := zLk_of [959, 71] (by decide +kernel) wcX4_round pdX4_round
set_option maxRecDepth 100000 in
theorem wcX4_row : Cond.code xX4_row.1 xX4_row.2.1 xX4_row.2.2.1 xX4_row.2.2.2.1 ∈ zT := zT_of (i := 261) rfl rfl
theorem pdX4_row : xX4_row.1.cls ≠ "java/lang/invoke/MethodHandle" ∧ xX4_row.1.cls ≠ "java/lang/invoke/VarHandle" ∧ (parseMethodDescriptor xX4_row.1.desc).map (fun d => d.parameters.length) = some 3 := by decide +kernel
theorem ivX4_row : Cond.instanceMethod xX4_row.1 ∈ zT ∧ Cond.selects xX4_row.1.cls xX4_row.1 xX4_row.1 ∈ zT := have h : zChk [259, 260] [Cond.instanceMethod xX4_row.1, Cond.selects xX4_row.1.cls xX4_row.1 xX4_row.1] = true := by decide +kernel
  ⟨zChk_ok h _ (.head _), zChk_ok h _ (.tail _ (.head _))⟩
theorem lkL_13 : zLk RL 13 xX4_row 3 := zLk_of [258, 71] (by decide +kernel) wcX4_row pdX4_row
set_option maxRecDepth 100000 in
theorem wcX4_says : Cond.code xX4_says.1 xX4_says.2.1 xX4_says.2.2.1 xX4_says.2.2.2.1 ∈ zT := zT_of (i := 345) rfl rfl
theorem pdX4_says : xX4_says.1.cls ≠ "java/lang/invoke/MethodHandle" ∧ xX4_says.1.cls ≠ "java/lang/invoke/VarHandle" ∧ (parseMethodDescriptor xX4_says.1.desc).map (fun d => d.parameters.length) = some 2 := by decide +kernel
theorem ivX4_says : Cond.instanceMethod xX4_says.1 ∈ zT ∧ Cond.selects xX4_says.1.cls xX4_says.1 xX4_says.1 ∈ zT := have h : zChk [343, 344] [Cond.instanceMethod xX4_says.1, Cond.selects xX4_says.1.cls xX4_says.1 xX4_says.1] = true := by decide +kernel
  ⟨zChk_ok h _ (.head _), zChk_ok h _ (.tail _ (.head _))⟩
theorem lkL_45 : zLk RL 45 xX4_says 2 := zLk_of [342, 71] (by decide +kernel) wcX4_says pdX4_says
set_option maxRecDepth 100000 in
theorem wcX4_seal : Cond.code xX4_seal.1 xX4_seal.2.1 xX4_seal.2.2.1 xX4_seal.2.2.2.1 ∈ zT := zT_of (i := 699) rfl rfl
theorem pdX4_seal : xX4_seal.1.cls ≠ "java/lang/invoke/MethodHandle" ∧ xX4_seal.1.cls ≠ "java/lang/invoke/VarHandle" ∧ (parseMethodDescriptor xX4_seal.1.desc).map (fun d => d.parameters.length) = some 2 := by decide +kernel
theorem ivX4_seal : Cond.instanceMethod xX4_seal.1 ∈ zT ∧ Cond.selects xX4_seal.1.cls xX4_seal.1 xX4_seal.1 ∈ zT := have h : zChk [697, 698] [Cond.instanceMethod xX4_seal.1, Cond.selects xX4_seal.1.cls xX4_seal.1 xX4_seal.1] = true := by decide +kernel
  ⟨zChk_ok h _ (.head _), zChk_ok h _ (.tail _ (.head _))⟩
theorem lkL_141 : zLk RL 141 xX4_seal 2 := zLk_of [696, 71] (by decide +kernel) wcX4_seal pdX4_seal
set_option maxRecDepth 100000 in
theorem wcX4_secret : Cond.code xX4_secret.1 xX4_secret.2.1 xX4_secret.2.2.1 xX4_secret.2.2.2.1 ∈ zT := zT_of (i := 876) rfl rfl
theorem pdX4_secret : xX4_secret.1.cls ≠ "java/lang/invoke/MethodHandle" ∧ xX4_secret.1.cls ≠ "java/lang/invoke/VarHandle" ∧ (parseMethodDescriptor xX4_secret.1.desc).map (fun d => d.parameters.length) = some 0 := by decide +kernel
theorem ivX4_secret : Cond.instanceMethod xX4_secret.1 ∈ zT ∧ Cond.selects xX4_secret.1.cls xX4_secret.1 xX4_secret.1 ∈ zT := have h : zChk [874, 875] [Cond.instanceMethod xX4_secret.1, Cond.selects xX4_secret.1.cls xX4_secret.1 xX4_secret.1] = true := by decide +kernel
  ⟨zChk_ok h _ (.head _), zChk_ok h _ (.tail _ (.head _))⟩
theorem lkL_201 : zLk RL 201 xX4_secret 0 := zLk_of [873, 71] (by decide +kernel) wcX4_secret pdX4_secret
set_option maxRecDepth 100000 in
theorem wcX4_seed : Cond.code xX4_seed.1 xX4_seed.2.1 xX4_seed.2.2.1 xX4_seed.2.2.2.1 ∈ zT := zT_of (i := 992) rfl rfl
theorem pdX4_seed : xX4_seed.1.cls ≠ "java/lang/invoke/MethodHandle" ∧ xX4_seed.1.cls ≠ "java/lang/invoke/VarHandle" ∧ (parseMethodDescriptor xX4_seed.1.desc).map (fun d => d.parameters.length) = some 1 := by decide +kernel
theorem ivX4_seed : Cond.instanceMethod xX4_seed.1 ∈ zT ∧ Cond.selects xX4_seed.1.cls xX4_seed.1 xX4_seed.1 ∈ zT := have h : zChk [990, 991] [Cond.instanceMethod xX4_seed.1, Cond.selects xX4_seed.1.cls xX4_seed.1 xX4_seed.1] = true := by decide +kernel
  ⟨zChk_ok h _ (.head _), zChk_ok h _ (.tail _ (.head _))⟩
theorem lkL_265 : zLk RL 265 xX4_seed 1 := zLk_of [989, 71] (by decide +kernel) wcX4_seed pdX4_seed
set_option maxRecDepth 100000 in
theorem wcX4_set : Cond.code xX4_set.1 xX4_set.2.1 xX4_set.2.2.1 xX4_set.2.2.2.1 ∈ zT := zT_of (i := 280) rfl rfl
theorem pdX4_set : xX4_set.1.cls ≠ "java/lang/invoke/MethodHandle" ∧ xX4_set.1.cls ≠ "java/lang/invoke/VarHandle" ∧ (parseMethodDescriptor xX4_set.1.desc).map (fun d => d.parameters.length) = some 3 := by decide +kernel
theorem ivX4_set : Cond.instanceMethod xX4_set.1 ∈ zT ∧ Cond.selects xX4_set.1.cls xX4_set.1 xX4_set.1 ∈ zT := have h : zChk [278, 279] [Cond.instanceMethod xX4_set.1, Cond.selects xX4_set.1.cls xX4_set.1 xX4_set.1] = true := by decide +kernel
  ⟨zChk_ok h _ (.head _), zChk_ok h _ (.tail _ (.head _))⟩
theorem lkL_20 : zLk RL 20 xX4_set 3 := zLk_of [277, 71] (by decide +kernel) wcX4_set pdX4_set
set_option maxRecDepth 100000 in
theorem wcX4_shelvesInUse : Cond.code xX4_shelvesInUse.1 xX4_shelvesInUse.2.1 xX4_shelvesInUse.2.2.1 xX4_shelvesInUse.2.2.2.1 ∈ zT := zT_of (i := 1016) rfl rfl
theorem pdX4_shelvesInUse : xX4_shelvesInUse.1.cls ≠ "java/lang/invoke/MethodHandle" ∧ xX4_shelvesInUse.1.cls ≠ "java/lang/invoke/VarHandle" ∧ (parseMethodDescriptor xX4_shelvesInUse.1.desc).map (fun d => d.parameters.length) = some 0 := by decide +kernel
theorem ivX4_shelvesInUse : Cond.instanceMethod xX4_shelvesInUse.1 ∈ zT ∧ Cond.selects xX4_shelvesInUse.1.cls xX4_shelvesInUse.1 xX4_shelvesInUse.1 ∈ zT := have h : zChk [1015, 28] [Cond.instanceMethod xX4_shelvesInUse.1, Cond.selects xX4_shelvesInUse.1.cls xX4_shelvesInUse.1 xX4_shelvesInUse.1] = true := by decide +kernel
  ⟨zChk_ok h _ (.head _), zChk_ok h _ (.tail _ (.head _))⟩
theorem lkX4_372 : zLk RX4 372 xX4_shelvesInUse 0 := zLk_of [1013, 71] (by decide +kernel) wcX4_shelvesInUse pdX4_shelvesInUse
set_option maxRecDepth 100000 in
theorem wcX4_shout : Cond.code xX4_shout.1 xX4_shout.2.1 xX4_shout.2.2.1 xX4_shout.2.2.2.1 ∈ zT := zT_of (i := 707) rfl rfl
theorem pdX4_shout : xX4_shout.1.cls ≠ "java/lang/invoke/MethodHandle" ∧ xX4_shout.1.cls ≠ "java/lang/invoke/VarHandle" ∧ (parseMethodDescriptor xX4_shout.1.desc).map (fun d => d.parameters.length) = some 2 := by decide +kernel
theorem ivX4_shout : Cond.instanceMethod xX4_shout.1 ∈ zT ∧ Cond.selects xX4_shout.1.cls xX4_shout.1 xX4_shout.1 ∈ zT := have h : zChk [705, 706] [Cond.instanceMethod xX4_shout.1, Cond.selects xX4_shout.1.cls xX4_shout.1 xX4_shout.1] = true := by decide +kernel
  ⟨zChk_ok h _ (.head _), zChk_ok h _ (.tail _ (.head _))⟩
theorem lkL_145 : zLk RL 145 xX4_shout 2 := zLk_of [704, 71] (by decide +kernel) wcX4_shout pdX4_shout
set_option maxRecDepth 100000 in
theorem wcX4_show : Cond.code xX4_show.1 xX4_show.2.1 xX4_show.2.2.1 xX4_show.2.2.2.1 ∈ zT := zT_of (i := 329) rfl rfl
theorem pdX4_show : xX4_show.1.cls ≠ "java/lang/invoke/MethodHandle" ∧ xX4_show.1.cls ≠ "java/lang/invoke/VarHandle" ∧ (parseMethodDescriptor xX4_show.1.desc).map (fun d => d.parameters.length) = some 2 := by decide +kernel
theorem ivX4_show : Cond.instanceMethod xX4_show.1 ∈ zT ∧ Cond.selects xX4_show.1.cls xX4_show.1 xX4_show.1 ∈ zT := have h : zChk [327, 328] [Cond.instanceMethod xX4_show.1, Cond.selects xX4_show.1.cls xX4_show.1 xX4_show.1] = true := by decide +kernel
  ⟨zChk_ok h _ (.head _), zChk_ok h _ (.tail _ (.head _))⟩
theorem lkL_40 : zLk RL 40 xX4_show 2 := zLk_of [326, 71] (by decide +kernel) wcX4_show pdX4_show
set_option maxRecDepth 100000 in
theorem wcX4_sober : Cond.code xX4_sober.1 xX4_sober.2.1 xX4_sober.2.2.1 xX4_sober.2.2.2.1 ∈ zT := zT_of (i := 907) rfl rfl
theorem pdX4_sober : xX4_sober.1.cls ≠ "java/lang/invoke/MethodHandle" ∧ xX4_sober.1.cls ≠ "java/lang/invoke/VarHandle" ∧ (parseMethodDescriptor xX4_sober.1.desc).map (fun d => d.parameters.length) = some 1 := by decide +kernel
theorem ivX4_sober : Cond.instanceMethod xX4_sober.1 ∈ zT ∧ Cond.selects xX4_sober.1.cls xX4_sober.1 xX4_sober.1 ∈ zT := have h : zChk [905, 906] [Cond.instanceMethod xX4_sober.1, Cond.selects xX4_sober.1.cls xX4_sober.1 xX4_sober.1] = true := by decide +kernel
  ⟨zChk_ok h _ (.head _), zChk_ok h _ (.tail _ (.head _))⟩
theorem lkL_225 : zLk RL 225 xX4_sober 1 := zLk_of [904, 71] (by decide +kernel) wcX4_sober pdX4_sober
set_option maxRecDepth 100000 in
theorem wcX4_status : Cond.code xX4_status.1 xX4_status.2.1 xX4_status.2.2.1 xX4_status.2.2.2.1 ∈ zT := zT_of (i := 1004) rfl rfl
theorem pdX4_status : xX4_status.1.cls ≠ "java/lang/invoke/MethodHandle" ∧ xX4_status.1.cls ≠ "java/lang/invoke/VarHandle" ∧ (parseMethodDescriptor xX4_status.1.desc).map (fun d => d.parameters.length) = some 1 := by decide +kernel
theorem ivX4_status : Cond.instanceMethod xX4_status.1 ∈ zT ∧ Cond.selects xX4_status.1.cls xX4_status.1 xX4_status.1 ∈ zT := have h : zChk [1002, 1003] [Cond.instanceMethod xX4_status.1, Cond.selects xX4_status.1.cls xX4_status.1 xX4_status.1] = true := by decide +kernel
  ⟨zChk_ok h _ (.head _), zChk_ok h _ (.tail _ (.head _))⟩
theorem lkL_277 : zLk RL 277 xX4_status 1 := zLk_of [1001, 71] (by decide +kernel) wcX4_status pdX4_status
set_option maxRecDepth 100000 in
theorem wcX4_sure : Cond.code xX4_sure.1 xX4_sure.2.1 xX4_sure.2.2.1 xX4_sure.2.2.2.1 ∈ zT := zT_of (i := 819) rfl rfl
theorem pdX4_sure : xX4_sure.1.cls ≠ "java/lang/invoke/MethodHandle" ∧ xX4_sure.1.cls ≠ "java/lang/invoke/VarHandle" ∧ (parseMethodDescriptor xX4_sure.1.desc).map (fun d => d.parameters.length) = some 1 := by decide +kernel
theorem ivX4_sure : Cond.instanceMethod xX4_sure.1 ∈ zT ∧ Cond.selects xX4_sure.1.cls xX4_sure.1 xX4_sure.1 ∈ zT := have h : zChk [817, 818] [Cond.instanceMethod xX4_sure.1, Cond.selects xX4_sure.1.cls xX4_sure.1 xX4_sure.1] = true := by decide +kernel
  ⟨zChk_ok h _ (.head _), zChk_ok h _ (.tail _ (.head _))⟩
theorem lkL_177 : zLk RL 177 xX4_sure 1 := zLk_of [816, 71] (by decide +kernel) wcX4_sure pdX4_sure
set_option maxRecDepth 100000 in
theorem wcX4_taught : Cond.code xX4_taught.1 xX4_taught.2.1 xX4_taught.2.2.1 xX4_taught.2.2.2.1 ∈ zT := zT_of (i := 929) rfl rfl
theorem pdX4_taught : xX4_taught.1.cls ≠ "java/lang/invoke/MethodHandle" ∧ xX4_taught.1.cls ≠ "java/lang/invoke/VarHandle" ∧ (parseMethodDescriptor xX4_taught.1.desc).map (fun d => d.parameters.length) = some 2 := by decide +kernel
theorem ivX4_taught : Cond.instanceMethod xX4_taught.1 ∈ zT ∧ Cond.selects xX4_taught.1.cls xX4_taught.1 xX4_taught.1 ∈ zT := have h : zChk [927, 928] [Cond.instanceMethod xX4_taught.1, Cond.selects xX4_taught.1.cls xX4_taught.1 xX4_taught.1] = true := by decide +kernel
  ⟨zChk_ok h _ (.head _), zChk_ok h _ (.tail _ (.head _))⟩
theorem lkL_233 : zLk RL 233 xX4_taught 2 := zLk_of [926, 71] (by decide +kernel) wcX4_taught pdX4_taught
set_option maxRecDepth 100000 in
theorem wcX4_tell : Cond.code xX4_tell.1 xX4_tell.2.1 xX4_tell.2.2.1 xX4_tell.2.2.2.1 ∈ zT := zT_of (i := 420) rfl rfl
theorem pdX4_tell : xX4_tell.1.cls ≠ "java/lang/invoke/MethodHandle" ∧ xX4_tell.1.cls ≠ "java/lang/invoke/VarHandle" ∧ (parseMethodDescriptor xX4_tell.1.desc).map (fun d => d.parameters.length) = some 3 := by decide +kernel
theorem ivX4_tell : Cond.instanceMethod xX4_tell.1 ∈ zT ∧ Cond.selects xX4_tell.1.cls xX4_tell.1 xX4_tell.1 ∈ zT := have h : zChk [418, 419] [Cond.instanceMethod xX4_tell.1, Cond.selects xX4_tell.1.cls xX4_tell.1 xX4_tell.1] = true := by decide +kernel
  ⟨zChk_ok h _ (.head _), zChk_ok h _ (.tail _ (.head _))⟩
theorem lkL_62 : zLk RL 62 xX4_tell 3 := zLk_of [417, 71] (by decide +kernel) wcX4_tell pdX4_tell
set_option maxRecDepth 100000 in
theorem wcX4_thirst : Cond.code xX4_thirst.1 xX4_thirst.2.1 xX4_thirst.2.2.1 xX4_thirst.2.2.2.1 ∈ zT := zT_of (i := 915) rfl rfl
theorem pdX4_thirst : xX4_thirst.1.cls ≠ "java/lang/invoke/MethodHandle" ∧ xX4_thirst.1.cls ≠ "java/lang/invoke/VarHandle" ∧ (parseMethodDescriptor xX4_thirst.1.desc).map (fun d => d.parameters.length) = some 1 := by decide +kernel
theorem ivX4_thirst : Cond.instanceMethod xX4_thirst.1 ∈ zT ∧ Cond.selects xX4_thirst.1.cls xX4_thirst.1 xX4_thirst.1 ∈ zT := have h : zChk [913, 914] [Cond.instanceMethod xX4_thirst.1, Cond.selects xX4_thirst.1.cls xX4_thirst.1 xX4_thirst.1] = true := by decide +kernel
  ⟨zChk_ok h _ (.head _), zChk_ok h _ (.tail _ (.head _))⟩
theorem lkL_229 : zLk RL 229 xX4_thirst 1 := zLk_of [912, 71] (by decide +kernel) wcX4_thirst pdX4_thirst
set_option maxRecDepth 100000 in
theorem wcX4_toldFault : Cond.code xX4_toldFault.1 xX4_toldFault.2.1 xX4_toldFault.2.2.1 xX4_toldFault.2.2.2.1 ∈ zT := zT_of (i := 723) rfl rfl
theorem pdX4_toldFault : xX4_toldFault.1.cls ≠ "java/lang/invoke/MethodHandle" ∧ xX4_toldFault.1.cls ≠ "java/lang/invoke/VarHandle" ∧ (parseMethodDescriptor xX4_toldFault.1.desc).map (fun d => d.parameters.length) = some 4 := by decide +kernel
theorem ivX4_toldFault : Cond.instanceMethod xX4_toldFault.1 ∈ zT ∧ Cond.selects xX4_toldFault.1.cls xX4_toldFault.1 xX4_toldFault.1 ∈ zT := have h : zChk [722, 21] [Cond.instanceMethod xX4_toldFault.1, Cond.selects xX4_toldFault.1.cls xX4_toldFault.1 xX4_toldFault.1] = true := by decide +kernel
  ⟨zChk_ok h _ (.head _), zChk_ok h _ (.tail _ (.head _))⟩
theorem lkX4_249 : zLk RX4 249 xX4_toldFault 4 := zLk_of [720, 71] (by decide +kernel) wcX4_toldFault pdX4_toldFault
set_option maxRecDepth 100000 in
theorem wcX4_turned : Cond.code xX4_turned.1 xX4_turned.2.1 xX4_turned.2.2.1 xX4_turned.2.2.2.1 ∈ zT := zT_of (i := 828) rfl rfl
theorem pdX4_turned : xX4_turned.1.cls ≠ "java/lang/invoke/MethodHandle" ∧ xX4_turned.1.cls ≠ "java/lang/invoke/VarHandle" ∧ (parseMethodDescriptor xX4_turned.1.desc).map (fun d => d.parameters.length) = some 1 := by decide +kernel
theorem ivX4_turned : Cond.instanceMethod xX4_turned.1 ∈ zT ∧ Cond.selects xX4_turned.1.cls xX4_turned.1 xX4_turned.1 ∈ zT := have h : zChk [826, 827] [Cond.instanceMethod xX4_turned.1, Cond.selects xX4_turned.1.cls xX4_turned.1 xX4_turned.1] = true := by decide +kernel
  ⟨zChk_ok h _ (.head _), zChk_ok h _ (.tail _ (.head _))⟩
theorem lkL_181 : zLk RL 181 xX4_turned 1 := zLk_of [825, 71] (by decide +kernel) wcX4_turned pdX4_turned
set_option maxRecDepth 100000 in
theorem wcX4_way : Cond.code xX4_way.1 xX4_way.2.1 xX4_way.2.2.1 xX4_way.2.2.2.1 ∈ zT := zT_of (i := 436) rfl rfl
theorem pdX4_way : xX4_way.1.cls ≠ "java/lang/invoke/MethodHandle" ∧ xX4_way.1.cls ≠ "java/lang/invoke/VarHandle" ∧ (parseMethodDescriptor xX4_way.1.desc).map (fun d => d.parameters.length) = some 1 := by decide +kernel
theorem ivX4_way : Cond.instanceMethod xX4_way.1 ∈ zT ∧ Cond.selects xX4_way.1.cls xX4_way.1 xX4_way.1 ∈ zT := have h : zChk [434, 435] [Cond.instanceMethod xX4_way.1, Cond.selects xX4_way.1.cls xX4_way.1 xX4_way.1] = true := by decide +kernel
  ⟨zChk_ok h _ (.head _), zChk_ok h _ (.tail _ (.head _))⟩
theorem lkL_75 : zLk RL 75 xX4_way 1 := zLk_of [433, 71] (by decide +kernel) wcX4_way pdX4_way
set_option maxRecDepth 100000 in
theorem wcX4_whoKnows : Cond.code xX4_whoKnows.1 xX4_whoKnows.2.1 xX4_whoKnows.2.2.1 xX4_whoKnows.2.2.2.1 ∈ zT := zT_of (i := 609) rfl rfl
theorem pdX4_whoKnows : xX4_whoKnows.1.cls ≠ "java/lang/invoke/MethodHandle" ∧ xX4_whoKnows.1.cls ≠ "java/lang/invoke/VarHandle" ∧ (parseMethodDescriptor xX4_whoKnows.1.desc).map (fun d => d.parameters.length) = some 1 := by decide +kernel
theorem ivX4_whoKnows : Cond.instanceMethod xX4_whoKnows.1 ∈ zT ∧ Cond.selects xX4_whoKnows.1.cls xX4_whoKnows.1 xX4_whoKnows.1 ∈ zT := have h : zChk [607, 608] [Cond.instanceMethod xX4_whoKnows.1, Cond.selects xX4_whoKnows.1.cls xX4_whoKnows.1 xX4_whoKnows.1] = true := by decide +kernel
  ⟨zChk_ok h _ (.head _), zChk_ok h _ (.tail _ (.head _))⟩
theorem lkL_109 : zLk RL 109 xX4_whoKnows 1 := zLk_of [606, 71] (by decide +kernel) wcX4_whoKnows pdX4_whoKnows
set_option maxRecDepth 100000 in
theorem wcX4_widest : Cond.code xX4_widest.1 xX4_widest.2.1 xX4_widest.2.2.1 xX4_widest.2.2.2.1 ∈ zT := zT_of (i := 855) rfl rfl
theorem pdX4_widest : xX4_widest.1.cls ≠ "java/lang/invoke/MethodHandle" ∧ xX4_widest.1.cls ≠ "java/lang/invoke/VarHandle" ∧ (parseMethodDescriptor xX4_widest.1.desc).map (fun d => d.parameters.length) = some 2 := by decide +kernel
theorem ivX4_widest : Cond.instanceMethod xX4_widest.1 ∈ zT ∧ Cond.selects xX4_widest.1.cls xX4_widest.1 xX4_widest.1 ∈ zT := have h : zChk [853, 854] [Cond.instanceMethod xX4_widest.1, Cond.selects xX4_widest.1.cls xX4_widest.1 xX4_widest.1] = true := by decide +kernel
  ⟨zChk_ok h _ (.head _), zChk_ok h _ (.tail _ (.head _))⟩
theorem lkL_193 : zLk RL 193 xX4_widest 2 := zLk_of [852, 71] (by decide +kernel) wcX4_widest pdX4_widest
set_option maxRecDepth 100000 in
theorem wcX4_winds : Cond.code xX4_winds.1 xX4_winds.2.1 xX4_winds.2.2.1 xX4_winds.2.2.2.1 ∈ zT := zT_of (i := 772) rfl rfl
theorem pdX4_winds : xX4_winds.1.cls ≠ "java/lang/invoke/MethodHandle" ∧ xX4_winds.1.cls ≠ "java/lang/invoke/VarHandle" ∧ (parseMethodDescriptor xX4_winds.1.desc).map (fun d => d.parameters.length) = some 3 := by decide +kernel
theorem ivX4_winds : Cond.instanceMethod xX4_winds.1 ∈ zT ∧ Cond.selects xX4_winds.1.cls xX4_winds.1 xX4_winds.1 ∈ zT := have h : zChk [770, 771] [Cond.instanceMethod xX4_winds.1, Cond.selects xX4_winds.1.cls xX4_winds.1 xX4_winds.1] = true := by decide +kernel
  ⟨zChk_ok h _ (.head _), zChk_ok h _ (.tail _ (.head _))⟩
theorem lkL_161 : zLk RL 161 xX4_winds 3 := zLk_of [769, 71] (by decide +kernel) wcX4_winds pdX4_winds
set_option maxRecDepth 100000 in
theorem wcX4_wipe : Cond.code xX4_wipe.1 xX4_wipe.2.1 xX4_wipe.2.2.1 xX4_wipe.2.2.2.1 ∈ zT := zT_of (i := 456) rfl rfl
theorem pdX4_wipe : xX4_wipe.1.cls ≠ "java/lang/invoke/MethodHandle" ∧ xX4_wipe.1.cls ≠ "java/lang/invoke/VarHandle" ∧ (parseMethodDescriptor xX4_wipe.1.desc).map (fun d => d.parameters.length) = some 0 := by decide +kernel
theorem ivX4_wipe : Cond.instanceMethod xX4_wipe.1 ∈ zT ∧ Cond.selects xX4_wipe.1.cls xX4_wipe.1 xX4_wipe.1 ∈ zT := have h : zChk [454, 455] [Cond.instanceMethod xX4_wipe.1, Cond.selects xX4_wipe.1.cls xX4_wipe.1 xX4_wipe.1] = true := by decide +kernel
  ⟨zChk_ok h _ (.head _), zChk_ok h _ (.tail _ (.head _))⟩
theorem lkL_84 : zLk RL 84 xX4_wipe 0 := zLk_of [453, 71] (by decide +kernel) wcX4_wipe pdX4_wipe
set_option maxRecDepth 100000 in
theorem wcX4_wise : Cond.code xX4_wise.1 xX4_wise.2.1 xX4_wise.2.2.1 xX4_wise.2.2.2.1 ∈ zT := zT_of (i := 868) rfl rfl
theorem pdX4_wise : xX4_wise.1.cls ≠ "java/lang/invoke/MethodHandle" ∧ xX4_wise.1.cls ≠ "java/lang/invoke/VarHandle" ∧ (parseMethodDescriptor xX4_wise.1.desc).map (fun d => d.parameters.length) = some 0 := by decide +kernel
theorem ivX4_wise : Cond.instanceMethod xX4_wise.1 ∈ zT ∧ Cond.selects xX4_wise.1.cls xX4_wise.1 xX4_wise.1 ∈ zT := have h : zChk [866, 867] [Cond.instanceMethod xX4_wise.1, Cond.selects xX4_wise.1.cls xX4_wise.1 xX4_wise.1] = true := by decide +kernel
  ⟨zChk_ok h _ (.head _), zChk_ok h _ (.tail _ (.head _))⟩
theorem lkL_197 : zLk RL 197 xX4_wise 0 := zLk_of [865, 71] (by decide +kernel) wcX4_wise pdX4_wise
set_option maxRecDepth 100000 in
theorem wcX4_words : Cond.code xX4_words.1 xX4_words.2.1 xX4_words.2.2.1 xX4_words.2.2.2.1 ∈ zT := zT_of (i := 647) rfl rfl
theorem pdX4_words : xX4_words.1.cls ≠ "java/lang/invoke/MethodHandle" ∧ xX4_words.1.cls ≠ "java/lang/invoke/VarHandle" ∧ (parseMethodDescriptor xX4_words.1.desc).map (fun d => d.parameters.length) = some 1 := by decide +kernel
theorem ivX4_words : Cond.instanceMethod xX4_words.1 ∈ zT ∧ Cond.selects xX4_words.1.cls xX4_words.1 xX4_words.1 ∈ zT := have h : zChk [645, 646] [Cond.instanceMethod xX4_words.1, Cond.selects xX4_words.1.cls xX4_words.1 xX4_words.1] = true := by decide +kernel
  ⟨zChk_ok h _ (.head _), zChk_ok h _ (.tail _ (.head _))⟩
theorem lkL_125 : zLk RL 125 xX4_words 1 := zLk_of [644, 71] (by decide +kernel) wcX4_words pdX4_words
set_option maxRecDepth 100000 in
theorem wcX5_addLetter : Cond.code xX5_addLetter.1 xX5_addLetter.2.1 xX5_addLetter.2.2.1 xX5_addLetter.2.2.2.1 ∈ zT := zT_of (i := 1239) rfl rfl
theorem pdX5_addLetter : xX5_addLetter.1.cls ≠ "java/lang/invoke/MethodHandle" ∧ xX5_addLetter.1.cls ≠ "java/lang/invoke/VarHandle" ∧ (parseMethodDescriptor xX5_addLetter.1.desc).map (fun d => d.parameters.length) = some 4 := by decide +kernel
theorem ivX5_addLetter : Cond.instanceMethod xX5_addLetter.1 ∈ zT ∧ Cond.selects xX5_addLetter.1.cls xX5_addLetter.1 xX5_addLetter.1 ∈ zT := have h : zChk [1238, 38] [Cond.instanceMethod xX5_addLetter.1, Cond.selects xX5_addLetter.1.cls xX5_addLetter.1 xX5_addLetter.1] = true := by decide +kernel
  ⟨zChk_ok h _ (.head _), zChk_ok h _ (.tail _ (.head _))⟩
theorem lkX5_127 : zLk RX5 127 xX5_addLetter 4 := zLk_of [1236, 76] (by decide +kernel) wcX5_addLetter pdX5_addLetter
set_option maxRecDepth 100000 in
theorem wcX5_address : Cond.code xX5_address.1 xX5_address.2.1 xX5_address.2.2.1 xX5_address.2.2.2.1 ∈ zT := zT_of (i := 1446) rfl rfl
theorem pdX5_address : xX5_address.1.cls ≠ "java/lang/invoke/MethodHandle" ∧ xX5_address.1.cls ≠ "java/lang/invoke/VarHandle" ∧ (parseMethodDescriptor xX5_address.1.desc).map (fun d => d.parameters.length) = some 2 := by decide +kernel
theorem ivX5_address : Cond.instanceMethod xX5_address.1 ∈ zT ∧ Cond.selects xX5_address.1.cls xX5_address.1 xX5_address.1 ∈ zT := have h : zChk [1444, 1445] [Cond.instanceMethod xX5_address.1, Cond.selects xX5_address.1.cls xX5_address.1 xX5_address.1] = true := by decide +kernel
  ⟨zChk_ok h _ (.head _), zChk_ok h _ (.tail _ (.head _))⟩
theorem lkL_136 : zLk RL 136 xX5_address 2 := zLk_of [1443, 76] (by decide +kernel) wcX5_address pdX5_address
set_option maxRecDepth 100000 in
theorem wcX5_alike : Cond.code xX5_alike.1 xX5_alike.2.1 xX5_alike.2.2.1 xX5_alike.2.2.2.1 ∈ zT := zT_of (i := 1394) rfl rfl
theorem pdX5_alike : xX5_alike.1.cls ≠ "java/lang/invoke/MethodHandle" ∧ xX5_alike.1.cls ≠ "java/lang/invoke/VarHandle" ∧ (parseMethodDescriptor xX5_alike.1.desc).map (fun d => d.parameters.length) = some 2 := by decide +kernel
theorem ivX5_alike : Cond.instanceMethod xX5_alike.1 ∈ zT ∧ Cond.selects xX5_alike.1.cls xX5_alike.1 xX5_alike.1 ∈ zT := have h : zChk [1392, 1393] [Cond.instanceMethod xX5_alike.1, Cond.selects xX5_alike.1.cls xX5_alike.1 xX5_alike.1] = true := by decide +kernel
  ⟨zChk_ok h _ (.head _), zChk_ok h _ (.tail _ (.head _))⟩
theorem lkL_220 : zLk RL 220 xX5_alike 2 := zLk_of [1391, 76] (by decide +kernel) wcX5_alike pdX5_alike
set_option maxRecDepth 100000 in
theorem wcX5_answer : Cond.code xX5_answer.1 xX5_answer.2.1 xX5_answer.2.2.1 xX5_answer.2.2.2.1 ∈ zT := zT_of (i := 1554) rfl rfl
theorem pdX5_answer : xX5_answer.1.cls ≠ "java/lang/invoke/MethodHandle" ∧ xX5_answer.1.cls ≠ "java/lang/invoke/VarHandle" ∧ (parseMethodDescriptor xX5_answer.1.desc).map (fun d => d.parameters.length) = some 5 := by decide +kernel
theorem ivX5_answer : Cond.instanceMethod xX5_answer.1 ∈ zT ∧ Cond.selects xX5_answer.1.cls xX5_answer.1 xX5_answer.1 ∈ zT := have h : zChk [1552, 1553] [Cond.instanceMethod xX5_answer.1, Cond.selects xX5_answer.1.cls xX5_answer.1 xX5_answer.1] = true := by decide +kernel
  ⟨zChk_ok h _ (.head _), zChk_ok h _ (.tail _ (.head _))⟩
theorem lkL_172 : zLk RL 172 xX5_answer 5 := zLk_of [1551, 76] (by decide +kernel) wcX5_answer pdX5_answer
set_option maxRecDepth 100000 in
theorem wcX5_areBoth : Cond.code xX5_areBoth.1 xX5_areBoth.2.1 xX5_areBoth.2.2.1 xX5_areBoth.2.2.2.1 ∈ zT := zT_of (i := 1354) rfl rfl
theorem pdX5_areBoth : xX5_areBoth.1.cls ≠ "java/lang/invoke/MethodHandle" ∧ xX5_areBoth.1.cls ≠ "java/lang/invoke/VarHandle" ∧ (parseMethodDescriptor xX5_areBoth.1.desc).map (fun d => d.parameters.length) = some 2 := by decide +kernel
theorem ivX5_areBoth : Cond.instanceMethod xX5_areBoth.1 ∈ zT ∧ Cond.selects xX5_areBoth.1.cls xX5_areBoth.1 xX5_areBoth.1 ∈ zT := have h : zChk [1353, 50] [Cond.instanceMethod xX5_areBoth.1, Cond.selects xX5_areBoth.1.cls xX5_areBoth.1 xX5_areBoth.1] = true := by decide +kernel
  ⟨zChk_ok h _ (.head _), zChk_ok h _ (.tail _ (.head _))⟩
theorem lkX5_248 : zLk RX5 248 xX5_areBoth 2 := zLk_of [1351, 76] (by decide +kernel) wcX5_areBoth pdX5_areBoth
set_option maxRecDepth 100000 in
theorem wcX5_ask : Cond.code xX5_ask.1 xX5_ask.2.1 xX5_ask.2.2.1 xX5_ask.2.2.2.1 ∈ zT := zT_of (i := 1530) rfl rfl
theorem pdX5_ask : xX5_ask.1.cls ≠ "java/lang/invoke/MethodHandle" ∧ xX5_ask.1.cls ≠ "java/lang/invoke/VarHandle" ∧ (parseMethodDescriptor xX5_ask.1.desc).map (fun d => d.parameters.length) = some 3 := by decide +kernel
theorem ivX5_ask : Cond.instanceMethod xX5_ask.1 ∈ zT ∧ Cond.selects xX5_ask.1.cls xX5_ask.1 xX5_ask.1 ∈ zT := have h : zChk [1528, 1529] [Cond.instanceMethod xX5_ask.1, Cond.selects xX5_ask.1.cls xX5_ask.1 xX5_ask.1] = true := by decide +kernel
  ⟨zChk_ok h _ (.head _), zChk_ok h _ (.tail _ (.head _))⟩
theorem lkL_160 : zLk RL 160 xX5_ask 3 := zLk_of [1527, 76] (by decide +kernel) wcX5_ask pdX5_ask
set_option maxRecDepth 100000 in
theorem wcX5_back : Cond.code xX5_back.1 xX5_back.2.1 xX5_back.2.2.1 xX5_back.2.2.2.1 ∈ zT := zT_of (i := 1609) rfl rfl
theorem pdX5_back : xX5_back.1.cls ≠ "java/lang/invoke/MethodHandle" ∧ xX5_back.1.cls ≠ "java/lang/invoke/VarHandle" ∧ (parseMethodDescriptor xX5_back.1.desc).map (fun d => d.parameters.length) = some 0 := by decide +kernel
theorem ivX5_back : Cond.instanceMethod xX5_back.1 ∈ zT ∧ Cond.selects xX5_back.1.cls xX5_back.1 xX5_back.1 ∈ zT := have h : zChk [1607, 1608] [Cond.instanceMethod xX5_back.1, Cond.selects xX5_back.1.cls xX5_back.1 xX5_back.1] = true := by decide +kernel
  ⟨zChk_ok h _ (.head _), zChk_ok h _ (.tail _ (.head _))⟩
theorem lkL_276 : zLk RL 276 xX5_back 0 := zLk_of [1606, 76] (by decide +kernel) wcX5_back pdX5_back
set_option maxRecDepth 100000 in
theorem wcX5_below : Cond.code xX5_below.1 xX5_below.2.1 xX5_below.2.2.1 xX5_below.2.2.2.1 ∈ zT := zT_of (i := 1596) rfl rfl
theorem pdX5_below : xX5_below.1.cls ≠ "java/lang/invoke/MethodHandle" ∧ xX5_below.1.cls ≠ "java/lang/invoke/VarHandle" ∧ (parseMethodDescriptor xX5_below.1.desc).map (fun d => d.parameters.length) = some 1 := by decide +kernel
theorem ivX5_below : Cond.instanceMethod xX5_below.1 ∈ zT ∧ Cond.selects xX5_below.1.cls xX5_below.1 xX5_below.1 ∈ zT := have h : zChk [1595, 69] [Cond.instanceMethod xX5_below.1, Cond.selects xX5_below.1.cls xX5_below.1 xX5_below.1] = true := by decide +kernel
  ⟨zChk_ok h _ (.head _), zChk_ok h _ (.tail _ (.head _))⟩
theorem lkX5_337 : zLk RX5 337 xX5_below 1 := zLk_of [1593, 76] (by decide +kernel) wcX5_below pdX5_below
set_option maxRecDepth 100000 in
theorem wcX5_best : Cond.code xX5_best.1 xX5_best.2.1 xX5_best.2.2.1 xX5_best.2.2.2.1 ∈ zT := zT_of (i := 1422) rfl rfl
theorem pdX5_best : xX5_best.1.cls ≠ "java/lang/invoke/MethodHandle" ∧ xX5_best.1.cls ≠ "java/lang/invoke/VarHandle" ∧ (parseMethodDescriptor xX5_best.1.desc).map (fun d => d.parameters.length) = some 1 := by decide +kernel
theorem ivX5_best : Cond.instanceMethod xX5_best.1 ∈ zT ∧ Cond.selects xX5_best.1.cls xX5_best.1 xX5_best.1 ∈ zT := have h : zChk [1420, 1421] [Cond.instanceMethod xX5_best.1, Cond.selects xX5_best.1.cls xX5_best.1 xX5_best.1] = true := by decide +kernel
  ⟨zChk_ok h _ (.head _), zChk_ok h _ (.tail _ (.head _))⟩
theorem lkL_132 : zLk RL 132 xX5_best 1 := zLk_of [1419, 76] (by decide +kernel) wcX5_best pdX5_best
set_option maxRecDepth 100000 in
theorem wcX5_bits : Cond.code xX5_bits.1 xX5_bits.2.1 xX5_bits.2.2.1 xX5_bits.2.2.2.1 ∈ zT := zT_of (i := 1442) rfl rfl
theorem pdX5_bits : xX5_bits.1.cls ≠ "java/lang/invoke/MethodHandle" ∧ xX5_bits.1.cls ≠ "java/lang/invoke/VarHandle" ∧ (parseMethodDescriptor xX5_bits.1.desc).map (fun d => d.parameters.length) = some 1 := by decide +kernel
theorem isX5_bits : Cond.static xX5_bits.1 ∈ zT := have h : zChk [1441] [Cond.static xX5_bits.1] = true := by decide +kernel
  zChk_ok h _ (.head _)
theorem lkX5_262 : zLk RX5 262 xX5_bits 1 := zLk_of [1440, 76] (by decide +kernel) wcX5_bits pdX5_bits
set_option maxRecDepth 100000 in
theorem wcX5_chance : Cond.code xX5_chance.1 xX5_chance.2.1 xX5_chance.2.2.1 xX5_chance.2.2.2.1 ∈ zT := zT_of (i := 1558) rfl rfl
theorem pdX5_chance : xX5_chance.1.cls ≠ "java/lang/invoke/MethodHandle" ∧ xX5_chance.1.cls ≠ "java/lang/invoke/VarHandle" ∧ (parseMethodDescriptor xX5_chance.1.desc).map (fun d => d.parameters.length) = some 2 := by decide +kernel
theorem ivX5_chance : Cond.instanceMethod xX5_chance.1 ∈ zT ∧ Cond.selects xX5_chance.1.cls xX5_chance.1 xX5_chance.1 ∈ zT := have h : zChk [1556, 1557] [Cond.instanceMethod xX5_chance.1, Cond.selects xX5_chance.1.cls xX5_chance.1 xX5_chance.1] = true := by decide +kernel
  ⟨zChk_ok h _ (.head _), zChk_ok h _ (.tail _ (.head _))⟩
theorem lkL_176 : zLk RL 176 xX5_chance 2 := zLk_of [1555, 76] (by decide +kernel) wcX5_chance pdX5_chance
set_option maxRecDepth 100000 in
theorem wcX5_code : Cond.code xX5_code.1 xX5_code.2.1 xX5_code.2.2.1 xX5_code.2.2.2.1 ∈ zT := zT_of (i := 1251) rfl rfl
theorem pdX5_code : xX5_code.1.cls ≠ "java/lang/invoke/MethodHandle" ∧ xX5_code.1.cls ≠ "java/lang/invoke/VarHandle" ∧ (parseMethodDescriptor xX5_code.1.desc).map (fun d => d.parameters.length) = some 3 := by decide +kernel
theorem ivX5_code : Cond.instanceMethod xX5_code.1 ∈ zT ∧ Cond.selects xX5_code.1.cls xX5_code.1 xX5_code.1 ∈ zT := have h : zChk [1249, 1250] [Cond.instanceMethod xX5_code.1, Cond.selects xX5_code.1.cls xX5_code.1 xX5_code.1] = true := by decide +kernel
  ⟨zChk_ok h _ (.head _), zChk_ok h _ (.tail _ (.head _))⟩
theorem lkL_70 : zLk RL 70 xX5_code 3 := zLk_of [1248, 76] (by decide +kernel) wcX5_code pdX5_code
set_option maxRecDepth 100000 in
theorem wcX5_cold : Cond.code xX5_cold.1 xX5_cold.2.1 xX5_cold.2.2.1 xX5_cold.2.2.2.1 ∈ zT := zT_of (i := 1259) rfl rfl
theorem pdX5_cold : xX5_cold.1.cls ≠ "java/lang/invoke/MethodHandle" ∧ xX5_cold.1.cls ≠ "java/lang/invoke/VarHandle" ∧ (parseMethodDescriptor xX5_cold.1.desc).map (fun d => d.parameters.length) = some 1 := by decide +kernel
theorem ivX5_cold : Cond.instanceMethod xX5_cold.1 ∈ zT ∧ Cond.selects xX5_cold.1.cls xX5_cold.1 xX5_cold.1 ∈ zT := have h : zChk [1257, 1258] [Cond.instanceMethod xX5_cold.1, Cond.selects xX5_cold.1.cls xX5_cold.1 xX5_cold.1] = true := by decide +kernel
  ⟨zChk_ok h _ (.head _), zChk_ok h _ (.tail _ (.head _))⟩
theorem lkL_74 : zLk RL 74 xX5_cold 1 := zLk_of [1256, 76] (by decide +kernel) wcX5_cold pdX5_cold
set_option maxRecDepth 100000 in
theorem wcX5_colds : Cond.code xX5_colds.1 xX5_colds.2.1 xX5_colds.2.2.1 xX5_colds.2.2.2.1 ∈ zT := zT_of (i := 1482) rfl rfl
theorem pdX5_colds : xX5_colds.1.cls ≠ "java/lang/invoke/MethodHandle" ∧ xX5_colds.1.cls ≠ "java/lang/invoke/VarHandle" ∧ (parseMethodDescriptor xX5_colds.1.desc).map (fun d => d.parameters.length) = some 2 := by decide +kernel
theorem ivX5_colds : Cond.instanceMethod xX5_colds.1 ∈ zT ∧ Cond.selects xX5_colds.1.cls xX5_colds.1 xX5_colds.1 ∈ zT := have h : zChk [1480, 1481] [Cond.instanceMethod xX5_colds.1, Cond.selects xX5_colds.1.cls xX5_colds.1 xX5_colds.1] = true := by decide +kernel
  ⟨zChk_ok h _ (.head _), zChk_ok h _ (.tail _ (.head _))⟩
theorem lkL_192 : zLk RL 192 xX5_colds 2 := zLk_of [1479, 76] (by decide +kernel) wcX5_colds pdX5_colds
set_option maxRecDepth 100000 in
theorem wcX5_common : Cond.code xX5_common.1 xX5_common.2.1 xX5_common.2.2.1 xX5_common.2.2.2.1 ∈ zT := zT_of (i := 1390) rfl rfl
theorem pdX5_common : xX5_common.1.cls ≠ "java/lang/invoke/MethodHandle" ∧ xX5_common.1.cls ≠ "java/lang/invoke/VarHandle" ∧ (parseMethodDescriptor xX5_common.1.desc).map (fun d => d.parameters.length) = some 2 := by decide +kernel
theorem ivX5_common : Cond.instanceMethod xX5_common.1 ∈ zT ∧ Cond.selects xX5_common.1.cls xX5_common.1 xX5_common.1 ∈ zT := have h : zChk [1388, 1389] [Cond.instanceMethod xX5_common.1, Cond.selects xX5_common.1.cls xX5_common.1 xX5_common.1] = true := by decide +kernel
  ⟨zChk_ok h _ (.head _), zChk_ok h _ (.tail _ (.head _))⟩
theorem lkL_244 : zLk RL 244 xX5_common 2 := zLk_of [1387, 76] (by decide +kernel) wcX5_common pdX5_common
set_option maxRecDepth 100000 in
theorem wcX5_copied : Cond.code xX5_copied.1 xX5_copied.2.1 xX5_copied.2.2.1 xX5_copied.2.2.2.1 ∈ zT := zT_of (i := 1285) rfl rfl
theorem pdX5_copied : xX5_copied.1.cls ≠ "java/lang/invoke/MethodHandle" ∧ xX5_copied.1.cls ≠ "java/lang/invoke/VarHandle" ∧ (parseMethodDescriptor xX5_copied.1.desc).map (fun d => d.parameters.length) = some 2 := by decide +kernel
theorem isX5_copied : Cond.static xX5_copied.1 ∈ zT := have h : zChk [1284] [Cond.static xX5_copied.1] = true := by decide +kernel
  zChk_ok h _ (.head _)
theorem lkX5_340 : zLk RX5 340 xX5_copied 2 := zLk_of [1283, 76] (by decide +kernel) wcX5_copied pdX5_copied
set_option maxRecDepth 100000 in
theorem wcX5_copy : Cond.code xX5_copy.1 xX5_copy.2.1 xX5_copy.2.2.1 xX5_copy.2.2.2.1 ∈ zT := zT_of (i := 1177) rfl rfl
theorem pdX5_copy : xX5_copy.1.cls ≠ "java/lang/invoke/MethodHandle" ∧ xX5_copy.1.cls ≠ "java/lang/invoke/VarHandle" ∧ (parseMethodDescriptor xX5_copy.1.desc).map (fun d => d.parameters.length) = some 5 := by decide +kernel
theorem ivX5_copy : Cond.instanceMethod xX5_copy.1 ∈ zT ∧ Cond.selects xX5_copy.1.cls xX5_copy.1 xX5_copy.1 ∈ zT := have h : zChk [1175, 1176] [Cond.instanceMethod xX5_copy.1, Cond.selects xX5_copy.1.cls xX5_copy.1 xX5_copy.1] = true := by decide +kernel
  ⟨zChk_ok h _ (.head _), zChk_ok h _ (.tail _ (.head _))⟩
theorem lkL_29 : zLk RL 29 xX5_copy 5 := zLk_of [1174, 76] (by decide +kernel) wcX5_copy pdX5_copy
set_option maxRecDepth 100000 in
theorem wcX5_days : Cond.code xX5_days.1 xX5_days.2.1 xX5_days.2.2.1 xX5_days.2.2.2.1 ∈ zT := zT_of (i := 1591) rfl rfl
theorem pdX5_days : xX5_days.1.cls ≠ "java/lang/invoke/MethodHandle" ∧ xX5_days.1.cls ≠ "java/lang/invoke/VarHandle" ∧ (parseMethodDescriptor xX5_days.1.desc).map (fun d => d.parameters.length) = some 1 := by decide +kernel
theorem ivX5_days : Cond.instanceMethod xX5_days.1 ∈ zT ∧ Cond.selects xX5_days.1.cls xX5_days.1 xX5_days.1 ∈ zT := have h : zChk [1589, 1590] [Cond.instanceMethod xX5_days.1, Cond.selects xX5_days.1.cls xX5_days.1 xX5_days.1] = true := by decide +kernel
  ⟨zChk_ok h _ (.head _), zChk_ok h _ (.tail _ (.head _))⟩
theorem lkL_264 : zLk RL 264 xX5_days 1 := zLk_of [1588, 76] (by decide +kernel) wcX5_days pdX5_days
set_option maxRecDepth 100000 in
theorem wcX5_doubt : Cond.code xX5_doubt.1 xX5_doubt.2.1 xX5_doubt.2.2.1 xX5_doubt.2.2.2.1 ∈ zT := zT_of (i := 1406) rfl rfl
theorem pdX5_doubt : xX5_doubt.1.cls ≠ "java/lang/invoke/MethodHandle" ∧ xX5_doubt.1.cls ≠ "java/lang/invoke/VarHandle" ∧ (parseMethodDescriptor xX5_doubt.1.desc).map (fun d => d.parameters.length) = some 1 := by decide +kernel
theorem ivX5_doubt : Cond.instanceMethod xX5_doubt.1 ∈ zT ∧ Cond.selects xX5_doubt.1.cls xX5_doubt.1 xX5_doubt.1 ∈ zT := have h : zChk [1404, 1405] [Cond.instanceMethod xX5_doubt.1, Cond.selects xX5_doubt.1.cls xX5_doubt.1 xX5_doubt.1] = true := by decide +kernel
  ⟨zChk_ok h _ (.head _), zChk_ok h _ (.tail _ (.head _))⟩
theorem lkL_248 : zLk RL 248 xX5_doubt 1 := zLk_of [1403, 76] (by decide +kernel) wcX5_doubt pdX5_doubt
set_option maxRecDepth 100000 in
theorem wcX5_earsTogether : Cond.code xX5_earsTogether.1 xX5_earsTogether.2.1 xX5_earsTogether.2.2.1 xX5_earsTogether.2.2.2.1 ∈ zT := zT_of (i := 1587) rfl rfl
theorem pdX5_earsTogether : xX5_earsTogether.1.cls ≠ "java/lang/invoke/MethodHandle" ∧ xX5_earsTogether.1.cls ≠ "java/lang/invoke/VarHandle" ∧ (parseMethodDescriptor xX5_earsTogether.1.desc).map (fun d => d.parameters.length) = some 0 := by decide +kernel
theorem ivX5_earsTogether : Cond.instanceMethod xX5_earsTogether.1 ∈ zT ∧ Cond.selects xX5_earsTogether.1.cls xX5_earsTogether.1 xX5_earsTogether.1 ∈ zT := have h : zChk [1586, 68] [Cond.instanceMethod xX5_earsTogether.1, Cond.selects xX5_earsTogether.1.cls xX5_earsTogether.1 xX5_earsTogether.1] = true := by decide +kernel
  ⟨zChk_ok h _ (.head _), zChk_ok h _ (.tail _ (.head _))⟩
theorem lkX5_331 : zLk RX5 331 xX5_earsTogether 0 := zLk_of [1584, 76] (by decide +kernel) wcX5_earsTogether pdX5_earsTogether
set_option maxRecDepth 100000 in
theorem wcX5_element : Cond.code xX5_element.1 xX5_element.2.1 xX5_element.2.2.1 xX5_element.2.2.2.1 ∈ zT := zT_of (i := 1181) rfl rfl
theorem pdX5_element : xX5_element.1.cls ≠ "java/lang/invoke/MethodHandle" ∧ xX5_element.1.cls ≠ "java/lang/invoke/VarHandle" ∧ (parseMethodDescriptor xX5_element.1.desc).map (fun d => d.parameters.length) = some 2 := by decide +kernel
theorem ivX5_element : Cond.instanceMethod xX5_element.1 ∈ zT ∧ Cond.selects xX5_element.1.cls xX5_element.1 xX5_element.1 ∈ zT := have h : zChk [1179, 1180] [Cond.instanceMethod xX5_element.1, Cond.selects xX5_element.1.cls xX5_element.1 xX5_element.1] = true := by decide +kernel
  ⟨zChk_ok h _ (.head _), zChk_ok h _ (.tail _ (.head _))⟩
theorem lkL_34 : zLk RL 34 xX5_element 2 := zLk_of [1178, 76] (by decide +kernel) wcX5_element pdX5_element
set_option maxRecDepth 100000 in
theorem wcX5_feed : Cond.code xX5_feed.1 xX5_feed.2.1 xX5_feed.2.2.1 xX5_feed.2.2.2.1 ∈ zT := zT_of (i := 1267) rfl rfl
theorem pdX5_feed : xX5_feed.1.cls ≠ "java/lang/invoke/MethodHandle" ∧ xX5_feed.1.cls ≠ "java/lang/invoke/VarHandle" ∧ (parseMethodDescriptor xX5_feed.1.desc).map (fun d => d.parameters.length) = some 1 := by decide +kernel
theorem ivX5_feed : Cond.instanceMethod xX5_feed.1 ∈ zT ∧ Cond.selects xX5_feed.1.cls xX5_feed.1 xX5_feed.1 ∈ zT := have h : zChk [1265, 1266] [Cond.instanceMethod xX5_feed.1, Cond.selects xX5_feed.1.cls xX5_feed.1 xX5_feed.1] = true := by decide +kernel
  ⟨zChk_ok h _ (.head _), zChk_ok h _ (.tail _ (.head _))⟩
theorem lkL_83 : zLk RL 83 xX5_feed 1 := zLk_of [1264, 76] (by decide +kernel) wcX5_feed pdX5_feed
set_option maxRecDepth 100000 in
theorem wcX5_findHush : Cond.code xX5_findHush.1 xX5_findHush.2.1 xX5_findHush.2.2.1 xX5_findHush.2.2.2.1 ∈ zT := zT_of (i := 1470) rfl rfl
theorem pdX5_findHush : xX5_findHush.1.cls ≠ "java/lang/invoke/MethodHandle" ∧ xX5_findHush.1.cls ≠ "java/lang/invoke/VarHandle" ∧ (parseMethodDescriptor xX5_findHush.1.desc).map (fun d => d.parameters.length) = some 2 := by decide +kernel
theorem ivX5_findHush : Cond.instanceMethod xX5_findHush.1 ∈ zT ∧ Cond.selects xX5_findHush.1.cls xX5_findHush.1 xX5_findHush.1 ∈ zT := have h : zChk [1469, 56] [Cond.instanceMethod xX5_findHush.1, Cond.selects xX5_findHush.1.cls xX5_findHush.1 xX5_findHush.1] = true := by decide +kernel
  ⟨zChk_ok h _ (.head _), zChk_ok h _ (.tail _ (.head _))⟩
theorem lkX5_277 : zLk RX5 277 xX5_findHush 2 := zLk_of [1467, 76] (by decide +kernel) wcX5_findHush pdX5_findHush
set_option maxRecDepth 100000 in
theorem wcX5_findLengths : Cond.code xX5_findLengths.1 xX5_findLengths.2.1 xX5_findLengths.2.2.1 xX5_findLengths.2.2.2.1 ∈ zT := zT_of (i := 1518) rfl rfl
theorem pdX5_findLengths : xX5_findLengths.1.cls ≠ "java/lang/invoke/MethodHandle" ∧ xX5_findLengths.1.cls ≠ "java/lang/invoke/VarHandle" ∧ (parseMethodDescriptor xX5_findLengths.1.desc).map (fun d => d.parameters.length) = some 3 := by decide +kernel
theorem ivX5_findLengths : Cond.instanceMethod xX5_findLengths.1 ∈ zT ∧ Cond.selects xX5_findLengths.1.cls xX5_findLengths.1 xX5_findLengths.1 ∈ zT := have h : zChk [1517, 60] [Cond.instanceMethod xX5_findLengths.1, Cond.selects xX5_findLengths.1.cls xX5_findLengths.1 xX5_findLengths.1] = true := by decide +kernel
  ⟨zChk_ok h _ (.head _), zChk_ok h _ (.tail _ (.head _))⟩
theorem lkX5_300 : zLk RX5 300 xX5_findLengths 3 := zLk_of [1515, 76] (by decide +kernel) wcX5_findLengths pdX5_findLengths
set_option maxRecDepth 100000 in
theorem wcX5_first : Cond.code xX5_first.1 xX5_first.2.1 xX5_first.2.2.1 xX5_first.2.2.2.1 ∈ zT := zT_of (i := 1414) rfl rfl
theorem pdX5_first : xX5_first.1.cls ≠ "java/lang/invoke/MethodHandle" ∧ xX5_first.1.cls ≠ "java/lang/invoke/VarHandle" ∧ (parseMethodDescriptor xX5_first.1.desc).map (fun d => d.parameters.length) = some 2 := by decide +kernel
theorem ivX5_first : Cond.instanceMethod xX5_first.1 ∈ zT ∧ Cond.selects xX5_first.1.cls xX5_first.1 xX5_first.1 ∈ zT := have h : zChk [1412, 1413] [Cond.instanceMethod xX5_first.1, Cond.selects xX5_first.1.cls xX5_first.1 xX5_first.1] = true := by decide +kernel
  ⟨zChk_ok h _ (.head _), zChk_ok h _ (.tail _ (.head _))⟩
theorem lkL_120 : zLk RL 120 xX5_first 2 := zLk_of [1411, 76] (by decide +kernel) wcX5_first pdX5_first
set_option maxRecDepth 100000 in
theorem wcX5_fit : Cond.code xX5_fit.1 xX5_fit.2.1 xX5_fit.2.2.1 xX5_fit.2.2.2.1 ∈ zT := zT_of (i := 1173) rfl rfl
theorem pdX5_fit : xX5_fit.1.cls ≠ "java/lang/invoke/MethodHandle" ∧ xX5_fit.1.cls ≠ "java/lang/invoke/VarHandle" ∧ (parseMethodDescriptor xX5_fit.1.desc).map (fun d => d.parameters.length) = some 2 := by decide +kernel
theorem isX5_fit : Cond.static xX5_fit.1 ∈ zT := have h : zChk [1172] [Cond.static xX5_fit.1] = true := by decide +kernel
  zChk_ok h _ (.head _)
theorem lkX5_101 : zLk RX5 101 xX5_fit 2 := zLk_of [1171, 76] (by decide +kernel) wcX5_fit pdX5_fit
set_option maxRecDepth 100000 in
theorem wcX5_fits : Cond.code xX5_fits.1 xX5_fits.2.1 xX5_fits.2.2.1 xX5_fits.2.2.2.1 ∈ zT := zT_of (i := 1526) rfl rfl
theorem pdX5_fits : xX5_fits.1.cls ≠ "java/lang/invoke/MethodHandle" ∧ xX5_fits.1.cls ≠ "java/lang/invoke/VarHandle" ∧ (parseMethodDescriptor xX5_fits.1.desc).map (fun d => d.parameters.length) = some 4 := by decide +kernel
theorem ivX5_fits : Cond.instanceMethod xX5_fits.1 ∈ zT ∧ Cond.selects xX5_fits.1.cls xX5_fits.1 xX5_fits.1 ∈ zT := have h : zChk [1524, 1525] [Cond.instanceMethod xX5_fits.1, Cond.selects xX5_fits.1.cls xX5_fits.1 xX5_fits.1] = true := by decide +kernel
  ⟨zChk_ok h _ (.head _), zChk_ok h _ (.tail _ (.head _))⟩
theorem lkL_156 : zLk RL 156 xX5_fits 4 := zLk_of [1523, 76] (by decide +kernel) wcX5_fits pdX5_fits
set_option maxRecDepth 100000 in
theorem wcX5_goesRound : Cond.code xX5_goesRound.1 xX5_goesRound.2.1 xX5_goesRound.2.2.1 xX5_goesRound.2.2.2.1 ∈ zT := zT_of (i := 1579) rfl rfl
theorem pdX5_goesRound : xX5_goesRound.1.cls ≠ "java/lang/invoke/MethodHandle" ∧ xX5_goesRound.1.cls ≠ "java/lang/invoke/VarHandle" ∧ (parseMethodDescriptor xX5_goesRound.1.desc).map (fun d => d.parameters.length) = some 0 := by decide +kernel
theorem ivX5_goesRound : Cond.instanceMethod xX5_goesRound.1 ∈ zT ∧ Cond.selects xX5_goesRound.1.cls xX5_goesRound.1 xX5_goesRound.1 ∈ zT := have h : zChk [1578, 66] [Cond.instanceMethod xX5_goesRound.1, Cond.selects xX5_goesRound.1.cls xX5_goesRound.1 xX5_goesRound.1] = true := by decide +kernel
  ⟨zChk_ok h _ (.head _), zChk_ok h _ (.tail _ (.head _))⟩
theorem lkX5_325 : zLk RX5 325 xX5_goesRound 0 := zLk_of [1576, 76] (by decide +kernel) wcX5_goesRound pdX5_goesRound
set_option maxRecDepth 100000 in
theorem wcX5_gossips : Cond.code xX5_gossips.1 xX5_gossips.2.1 xX5_gossips.2.2.1 xX5_gossips.2.2.2.1 ∈ zT := zT_of (i := 1439) rfl rfl
theorem pdX5_gossips : xX5_gossips.1.cls ≠ "java/lang/invoke/MethodHandle" ∧ xX5_gossips.1.cls ≠ "java/lang/invoke/VarHandle" ∧ (parseMethodDescriptor xX5_gossips.1.desc).map (fun d => d.parameters.length) = some 0 := by decide +kernel
theorem ivX5_gossips : Cond.instanceMethod xX5_gossips.1 ∈ zT ∧ Cond.selects xX5_gossips.1.cls xX5_gossips.1 xX5_gossips.1 ∈ zT := have h : zChk [1437, 1438] [Cond.instanceMethod xX5_gossips.1, Cond.selects xX5_gossips.1.cls xX5_gossips.1 xX5_gossips.1] = true := by decide +kernel
  ⟨zChk_ok h _ (.head _), zChk_ok h _ (.tail _ (.head _))⟩
theorem lkL_188 : zLk RL 188 xX5_gossips 0 := zLk_of [1436, 76] (by decide +kernel) wcX5_gossips pdX5_gossips
set_option maxRecDepth 100000 in
theorem wcX5_heard : Cond.code xX5_heard.1 xX5_heard.2.1 xX5_heard.2.2.1 xX5_heard.2.2.2.1 ∈ zT := zT_of (i := 1350) rfl rfl
theorem pdX5_heard : xX5_heard.1.cls ≠ "java/lang/invoke/MethodHandle" ∧ xX5_heard.1.cls ≠ "java/lang/invoke/VarHandle" ∧ (parseMethodDescriptor xX5_heard.1.desc).map (fun d => d.parameters.length) = some 2 := by decide +kernel
theorem ivX5_heard : Cond.instanceMethod xX5_heard.1 ∈ zT ∧ Cond.selects xX5_heard.1.cls xX5_heard.1 xX5_heard.1 ∈ zT := have h : zChk [1348, 1349] [Cond.instanceMethod xX5_heard.1, Cond.selects xX5_heard.1.cls xX5_heard.1 xX5_heard.1] = true := by decide +kernel
  ⟨zChk_ok h _ (.head _), zChk_ok h _ (.tail _ (.head _))⟩
theorem lkL_104 : zLk RL 104 xX5_heard 2 := zLk_of [1347, 76] (by decide +kernel) wcX5_heard pdX5_heard
set_option maxRecDepth 100000 in
theorem wcX5_heardAt : Cond.code xX5_heardAt.1 xX5_heardAt.2.1 xX5_heardAt.2.2.1 xX5_heardAt.2.2.2.1 ∈ zT := zT_of (i := 1205) rfl rfl
theorem pdX5_heardAt : xX5_heardAt.1.cls ≠ "java/lang/invoke/MethodHandle" ∧ xX5_heardAt.1.cls ≠ "java/lang/invoke/VarHandle" ∧ (parseMethodDescriptor xX5_heardAt.1.desc).map (fun d => d.parameters.length) = some 2 := by decide +kernel
theorem ivX5_heardAt : Cond.instanceMethod xX5_heardAt.1 ∈ zT ∧ Cond.selects xX5_heardAt.1.cls xX5_heardAt.1 xX5_heardAt.1 ∈ zT := have h : zChk [1204, 32] [Cond.instanceMethod xX5_heardAt.1, Cond.selects xX5_heardAt.1.cls xX5_heardAt.1 xX5_heardAt.1] = true := by decide +kernel
  ⟨zChk_ok h _ (.head _), zChk_ok h _ (.tail _ (.head _))⟩
theorem lkX5_115 : zLk RX5 115 xX5_heardAt 2 := zLk_of [1202, 76] (by decide +kernel) wcX5_heardAt pdX5_heardAt
set_option maxRecDepth 100000 in
theorem wcX5_held : Cond.code xX5_held.1 xX5_held.2.1 xX5_held.2.2.1 xX5_held.2.2.2.1 ∈ zT := zT_of (i := 1221) rfl rfl
theorem pdX5_held : xX5_held.1.cls ≠ "java/lang/invoke/MethodHandle" ∧ xX5_held.1.cls ≠ "java/lang/invoke/VarHandle" ∧ (parseMethodDescriptor xX5_held.1.desc).map (fun d => d.parameters.length) = some 2 := by decide +kernel
theorem ivX5_held : Cond.instanceMethod xX5_held.1 ∈ zT ∧ Cond.selects xX5_held.1.cls xX5_held.1 xX5_held.1 ∈ zT := have h : zChk [1220, 36] [Cond.instanceMethod xX5_held.1, Cond.selects xX5_held.1.cls xX5_held.1 xX5_held.1] = true := by decide +kernel
  ⟨zChk_ok h _ (.head _), zChk_ok h _ (.tail _ (.head _))⟩
theorem lkX5_242 : zLk RX5 242 xX5_held 2 := zLk_of [1218, 76] (by decide +kernel) wcX5_held pdX5_held
set_option maxRecDepth 100000 in
theorem wcX5_holds : Cond.code xX5_holds.1 xX5_holds.2.1 xX5_holds.2.2.1 xX5_holds.2.2.2.1 ∈ zT := zT_of (i := 1185) rfl rfl
theorem pdX5_holds : xX5_holds.1.cls ≠ "java/lang/invoke/MethodHandle" ∧ xX5_holds.1.cls ≠ "java/lang/invoke/VarHandle" ∧ (parseMethodDescriptor xX5_holds.1.desc).map (fun d => d.parameters.length) = some 1 := by decide +kernel
theorem ivX5_holds : Cond.instanceMethod xX5_holds.1 ∈ zT ∧ Cond.selects xX5_holds.1.cls xX5_holds.1 xX5_holds.1 ∈ zT := have h : zChk [1183, 1184] [Cond.instanceMethod xX5_holds.1, Cond.selects xX5_holds.1.cls xX5_holds.1 xX5_holds.1] = true := by decide +kernel
  ⟨zChk_ok h _ (.head _), zChk_ok h _ (.tail _ (.head _))⟩
theorem lkL_39 : zLk RL 39 xX5_holds 1 := zLk_of [1182, 76] (by decide +kernel) wcX5_holds pdX5_holds
set_option maxRecDepth 100000 in
theorem wcX5_houseOf : Cond.code xX5_houseOf.1 xX5_houseOf.2.1 xX5_houseOf.2.2.1 xX5_houseOf.2.2.2.1 ∈ zT := zT_of (i := 1346) rfl rfl
theorem pdX5_houseOf : xX5_houseOf.1.cls ≠ "java/lang/invoke/MethodHandle" ∧ xX5_houseOf.1.cls ≠ "java/lang/invoke/VarHandle" ∧ (parseMethodDescriptor xX5_houseOf.1.desc).map (fun d => d.parameters.length) = some 2 := by decide +kernel
theorem ivX5_houseOf : Cond.instanceMethod xX5_houseOf.1 ∈ zT ∧ Cond.selects xX5_houseOf.1.cls xX5_houseOf.1 xX5_houseOf.1 ∈ zT := have h : zChk [1344, 1345] [Cond.instanceMethod xX5_houseOf.1, Cond.selects xX5_houseOf.1.cls xX5_houseOf.1 xX5_houseOf.1] = true := by decide +kernel
  ⟨zChk_ok h _ (.head _), zChk_ok h _ (.tail _ (.head _))⟩
theorem lkL_100 : zLk RL 100 xX5_houseOf 2 := zLk_of [1343, 76] (by decide +kernel) wcX5_houseOf pdX5_houseOf
set_option maxRecDepth 100000 in
theorem wcX5_houses : Cond.code xX5_houses.1 xX5_houses.2.1 xX5_houses.2.2.1 xX5_houses.2.2.2.1 ∈ zT := zT_of (i := 1225) rfl rfl
theorem pdX5_houses : xX5_houses.1.cls ≠ "java/lang/invoke/MethodHandle" ∧ xX5_houses.1.cls ≠ "java/lang/invoke/VarHandle" ∧ (parseMethodDescriptor xX5_houses.1.desc).map (fun d => d.parameters.length) = some 1 := by decide +kernel
theorem ivX5_houses : Cond.instanceMethod xX5_houses.1 ∈ zT ∧ Cond.selects xX5_houses.1.cls xX5_houses.1 xX5_houses.1 ∈ zT := have h : zChk [1223, 1224] [Cond.instanceMethod xX5_houses.1, Cond.selects xX5_houses.1.cls xX5_houses.1 xX5_houses.1] = true := by decide +kernel
  ⟨zChk_ok h _ (.head _), zChk_ok h _ (.tail _ (.head _))⟩
theorem lkL_52 : zLk RL 52 xX5_houses 1 := zLk_of [1222, 76] (by decide +kernel) wcX5_houses pdX5_houses
set_option maxRecDepth 100000 in
theorem wcX5_hush : Cond.code xX5_hush.1 xX5_hush.2.1 xX5_hush.2.2.1 xX5_hush.2.2.2.1 ∈ zT := zT_of (i := 1466) rfl rfl
theorem pdX5_hush : xX5_hush.1.cls ≠ "java/lang/invoke/MethodHandle" ∧ xX5_hush.1.cls ≠ "java/lang/invoke/VarHandle" ∧ (parseMethodDescriptor xX5_hush.1.desc).map (fun d => d.parameters.length) = some 3 := by decide +kernel
theorem ivX5_hush : Cond.instanceMethod xX5_hush.1 ∈ zT ∧ Cond.selects xX5_hush.1.cls xX5_hush.1 xX5_hush.1 ∈ zT := have h : zChk [1464, 1465] [Cond.instanceMethod xX5_hush.1, Cond.selects xX5_hush.1.cls xX5_hush.1 xX5_hush.1] = true := by decide +kernel
  ⟨zChk_ok h _ (.head _), zChk_ok h _ (.tail _ (.head _))⟩
theorem lkL_140 : zLk RL 140 xX5_hush 3 := zLk_of [1463, 76] (by decide +kernel) wcX5_hush pdX5_hush
set_option maxRecDepth 100000 in
theorem wcX5_image : Cond.code xX5_image.1 xX5_image.2.1 xX5_image.2.2.1 xX5_image.2.2.2.1 ∈ zT := zT_of (i := 1605) rfl rfl
theorem pdX5_image : xX5_image.1.cls ≠ "java/lang/invoke/MethodHandle" ∧ xX5_image.1.cls ≠ "java/lang/invoke/VarHandle" ∧ (parseMethodDescriptor xX5_image.1.desc).map (fun d => d.parameters.length) = some 0 := by decide +kernel
theorem ivX5_image : Cond.instanceMethod xX5_image.1 ∈ zT ∧ Cond.selects xX5_image.1.cls xX5_image.1 xX5_image.1 ∈ zT := have h : zChk [1603, 1604] [Cond.instanceMethod xX5_image.1, Cond.selects xX5_image.1.cls xX5_image.1 xX5_image.1] = true := by decide +kernel
  ⟨zChk_ok h _ (.head _), zChk_ok h _ (.tail _ (.head _))⟩
theorem lkL_272 : zLk RL 272 xX5_image 0 := zLk_of [1602, 76] (by decide +kernel) wcX5_image pdX5_image
set_option maxRecDepth 100000 in
theorem wcX5_in : Cond.code xX5_in.1 xX5_in.2.1 xX5_in.2.2.1 xX5_in.2.2.2.1 ∈ zT := zT_of (i := 1156) rfl rfl
theorem pdX5_in : xX5_in.1.cls ≠ "java/lang/invoke/MethodHandle" ∧ xX5_in.1.cls ≠ "java/lang/invoke/VarHandle" ∧ (parseMethodDescriptor xX5_in.1.desc).map (fun d => d.parameters.length) = some 3 := by decide +kernel
theorem isX5_in : Cond.static xX5_in.1 ∈ zT := have h : zChk [1155] [Cond.static xX5_in.1] = true := by decide +kernel
  zChk_ok h _ (.head _)
theorem lkX5_81 : zLk RX5 81 xX5_in 3 := zLk_of [1154, 76] (by decide +kernel) wcX5_in pdX5_in
set_option maxRecDepth 100000 in
theorem wcX5_init : Cond.code xX5_init.1 xX5_init.2.1 xX5_init.2.2.1 xX5_init.2.2.2.1 ∈ zT := zT_of (i := 1021) rfl rfl
theorem pdX5_init : xX5_init.1.cls ≠ "java/lang/invoke/MethodHandle" ∧ xX5_init.1.cls ≠ "java/lang/invoke/VarHandle" ∧ (parseMethodDescriptor xX5_init.1.desc).map (fun d => d.parameters.length) = some 0 := by decide +kernel
theorem iiX5_init : Cond.instanceMethod xX5_init.1 ∈ zT ∧ xX5_init.1.name = "<init>" ∧ xX5_init.2.2.2.1 = none := have h : zChk [1020] [Cond.instanceMethod xX5_init.1] = true := by decide +kernel
  ⟨zChk_ok h _ (.head _), rfl, rfl⟩
theorem lkL_12 : zLk RL 12 xX5_init 0 := zLk_of [1019, 76] (by decide +kernel) wcX5_init pdX5_init
theorem lkX5_223 : zLk RX5 223 xX5_init 0 := zLk_of [1278, 76] (by decide +kernel) wcX5_init pdX5_init
set_option maxRecDepth 100000 in
theorem wcX5_isDigit : Cond.code xX5_isDigit.1 xX5_isDigit.2.1 xX5_isDigit.2.2.1 xX5_isDigit.2.2.2.1 ∈ zT := zT_of (i := 1299) rfl rfl
theorem pdX5_isDigit : xX5_isDigit.1.cls ≠ "java/lang/invoke/MethodHandle" ∧ xX5_isDigit.1.cls ≠ "java/lang/invoke/VarHandle" ∧ (parseMethodDescriptor xX5_isDigit.1.desc).map (fun d => d.parameters.length) = some 1 := by decide +kernel
theorem isX5_isDigit : Cond.static xX5_isDigit.1 ∈ zT := have h : zChk [1298] [Cond.static xX5_isDigit.1] = true := by decide +kernel
  zChk_ok h _ (.head _)
theorem lkX5_162 : zLk RX5 162 xX5_isDigit 1 := zLk_of [1297, 76] (by decide +kernel) wcX5_isDigit pdX5_isDigit
set_option maxRecDepth 100000 in
theorem wcX5_isHouse : Cond.code xX5_isHouse.1 xX5_isHouse.2.1 xX5_isHouse.2.2.1 xX5_isHouse.2.2.2.1 ∈ zT := zT_of (i := 1235) rfl rfl
theorem pdX5_isHouse : xX5_isHouse.1.cls ≠ "java/lang/invoke/MethodHandle" ∧ xX5_isHouse.1.cls ≠ "java/lang/invoke/VarHandle" ∧ (parseMethodDescriptor xX5_isHouse.1.desc).map (fun d => d.parameters.length) = some 1 := by decide +kernel
theorem ivX5_isHouse : Cond.instanceMethod xX5_isHouse.1 ∈ zT ∧ Cond.selects xX5_isHouse.1.cls xX5_isHouse.1 xX5_isHouse.1 ∈ zT := have h : zChk [1234, 37] [Cond.instanceMethod xX5_isHouse.1, Cond.selects xX5_isHouse.1.cls xX5_isHouse.1 xX5_isHouse.1] = true := by decide +kernel
  ⟨zChk_ok h _ (.head _), zChk_ok h _ (.tail _ (.head _))⟩
theorem lkX5_123 : zLk RX5 123 xX5_isHouse 1 := zLk_of [1232, 76] (by decide +kernel) wcX5_isHouse pdX5_isHouse
set_option maxRecDepth 100000 in
theorem wcX5_isHushed : Cond.code xX5_isHushed.1 xX5_isHushed.2.1 xX5_isHushed.2.2.1 xX5_isHushed.2.2.2.1 ∈ zT := zT_of (i := 1474) rfl rfl
theorem pdX5_isHushed : xX5_isHushed.1.cls ≠ "java/lang/invoke/MethodHandle" ∧ xX5_isHushed.1.cls ≠ "java/lang/invoke/VarHandle" ∧ (parseMethodDescriptor xX5_isHushed.1.desc).map (fun d => d.parameters.length) = some 2 := by decide +kernel
theorem ivX5_isHushed : Cond.instanceMethod xX5_isHushed.1 ∈ zT ∧ Cond.selects xX5_isHushed.1.cls xX5_isHushed.1 xX5_isHushed.1 ∈ zT := have h : zChk [1473, 57] [Cond.instanceMethod xX5_isHushed.1, Cond.selects xX5_isHushed.1.cls xX5_isHushed.1 xX5_isHushed.1] = true := by decide +kernel
  ⟨zChk_ok h _ (.head _), zChk_ok h _ (.tail _ (.head _))⟩
theorem lkX5_268 : zLk RX5 268 xX5_isHushed 2 := zLk_of [1471, 76] (by decide +kernel) wcX5_isHushed pdX5_isHushed
set_option maxRecDepth 100000 in
theorem wcX5_isLetter : Cond.code xX5_isLetter.1 xX5_isLetter.2.1 xX5_isLetter.2.2.1 xX5_isLetter.2.2.2.1 ∈ zT := zT_of (i := 1193) rfl rfl
theorem pdX5_isLetter : xX5_isLetter.1.cls ≠ "java/lang/invoke/MethodHandle" ∧ xX5_isLetter.1.cls ≠ "java/lang/invoke/VarHandle" ∧ (parseMethodDescriptor xX5_isLetter.1.desc).map (fun d => d.parameters.length) = some 1 := by decide +kernel
theorem ivX5_isLetter : Cond.instanceMethod xX5_isLetter.1 ∈ zT ∧ Cond.selects xX5_isLetter.1.cls xX5_isLetter.1 xX5_isLetter.1 ∈ zT := have h : zChk [1192, 31] [Cond.instanceMethod xX5_isLetter.1, Cond.selects xX5_isLetter.1.cls xX5_isLetter.1 xX5_isLetter.1] = true := by decide +kernel
  ⟨zChk_ok h _ (.head _), zChk_ok h _ (.tail _ (.head _))⟩
theorem lkX5_105 : zLk RX5 105 xX5_isLetter 1 := zLk_of [1190, 76] (by decide +kernel) wcX5_isLetter pdX5_isLetter
set_option maxRecDepth 100000 in
theorem wcX5_isLower : Cond.code xX5_isLower.1 xX5_isLower.2.1 xX5_isLower.2.2.1 xX5_isLower.2.2.2.1 ∈ zT := zT_of (i := 1296) rfl rfl
theorem pdX5_isLower : xX5_isLower.1.cls ≠ "java/lang/invoke/MethodHandle" ∧ xX5_isLower.1.cls ≠ "java/lang/invoke/VarHandle" ∧ (parseMethodDescriptor xX5_isLower.1.desc).map (fun d => d.parameters.length) = some 1 := by decide +kernel
theorem isX5_isLower : Cond.static xX5_isLower.1 ∈ zT := have h : zChk [1295] [Cond.static xX5_isLower.1] = true := by decide +kernel
  zChk_ok h _ (.head _)
theorem lkX5_159 : zLk RX5 159 xX5_isLower 1 := zLk_of [1294, 76] (by decide +kernel) wcX5_isLower pdX5_isLower
set_option maxRecDepth 100000 in
theorem wcX5_isRead : Cond.code xX5_isRead.1 xX5_isRead.2.1 xX5_isRead.2.2.1 xX5_isRead.2.2.2.1 ∈ zT := zT_of (i := 1358) rfl rfl
theorem pdX5_isRead : xX5_isRead.1.cls ≠ "java/lang/invoke/MethodHandle" ∧ xX5_isRead.1.cls ≠ "java/lang/invoke/VarHandle" ∧ (parseMethodDescriptor xX5_isRead.1.desc).map (fun d => d.parameters.length) = some 2 := by decide +kernel
theorem ivX5_isRead : Cond.instanceMethod xX5_isRead.1 ∈ zT ∧ Cond.selects xX5_isRead.1.cls xX5_isRead.1 xX5_isRead.1 ∈ zT := have h : zChk [1356, 1357] [Cond.instanceMethod xX5_isRead.1, Cond.selects xX5_isRead.1.cls xX5_isRead.1 xX5_isRead.1] = true := by decide +kernel
  ⟨zChk_ok h _ (.head _), zChk_ok h _ (.tail _ (.head _))⟩
theorem lkL_108 : zLk RL 108 xX5_isRead 2 := zLk_of [1355, 76] (by decide +kernel) wcX5_isRead pdX5_isRead
set_option maxRecDepth 100000 in
theorem wcX5_isSet : Cond.code xX5_isSet.1 xX5_isSet.2.1 xX5_isSet.2.2.1 xX5_isSet.2.2.2.1 ∈ zT := zT_of (i := 1450) rfl rfl
theorem pdX5_isSet : xX5_isSet.1.cls ≠ "java/lang/invoke/MethodHandle" ∧ xX5_isSet.1.cls ≠ "java/lang/invoke/VarHandle" ∧ (parseMethodDescriptor xX5_isSet.1.desc).map (fun d => d.parameters.length) = some 1 := by decide +kernel
theorem ivX5_isSet : Cond.instanceMethod xX5_isSet.1 ∈ zT ∧ Cond.selects xX5_isSet.1.cls xX5_isSet.1 xX5_isSet.1 ∈ zT := have h : zChk [1449, 55] [Cond.instanceMethod xX5_isSet.1, Cond.selects xX5_isSet.1.cls xX5_isSet.1 xX5_isSet.1] = true := by decide +kernel
  ⟨zChk_ok h _ (.head _), zChk_ok h _ (.tail _ (.head _))⟩
theorem lkX5_265 : zLk RX5 265 xX5_isSet 1 := zLk_of [1447, 76] (by decide +kernel) wcX5_isSet pdX5_isSet
set_option maxRecDepth 100000 in
theorem wcX5_isUnder : Cond.code xX5_isUnder.1 xX5_isUnder.2.1 xX5_isUnder.2.2.1 xX5_isUnder.2.2.2.1 ∈ zT := zT_of (i := 1201) rfl rfl
theorem pdX5_isUnder : xX5_isUnder.1.cls ≠ "java/lang/invoke/MethodHandle" ∧ xX5_isUnder.1.cls ≠ "java/lang/invoke/VarHandle" ∧ (parseMethodDescriptor xX5_isUnder.1.desc).map (fun d => d.parameters.length) = some 2 := by decide +kernel
theorem isX5_isUnder : Cond.static xX5_isUnder.1 ∈ zT := have h : zChk [1200] [Cond.static xX5_isUnder.1] = true := by decide +kernel
  zChk_ok h _ (.head _)
theorem lkX5_111 : zLk RX5 111 xX5_isUnder 2 := zLk_of [1199, 76] (by decide +kernel) wcX5_isUnder pdX5_isUnder
set_option maxRecDepth 100000 in
theorem wcX5_isWord : Cond.code xX5_isWord.1 xX5_isWord.2.1 xX5_isWord.2.2.1 xX5_isWord.2.2.2.1 ∈ zT := zT_of (i := 1308) rfl rfl
theorem pdX5_isWord : xX5_isWord.1.cls ≠ "java/lang/invoke/MethodHandle" ∧ xX5_isWord.1.cls ≠ "java/lang/invoke/VarHandle" ∧ (parseMethodDescriptor xX5_isWord.1.desc).map (fun d => d.parameters.length) = some 1 := by decide +kernel
theorem ivX5_isWord : Cond.instanceMethod xX5_isWord.1 ∈ zT ∧ Cond.selects xX5_isWord.1.cls xX5_isWord.1 xX5_isWord.1 ∈ zT := have h : zChk [1307, 44] [Cond.instanceMethod xX5_isWord.1, Cond.selects xX5_isWord.1.cls xX5_isWord.1 xX5_isWord.1] = true := by decide +kernel
  ⟨zChk_ok h _ (.head _), zChk_ok h _ (.tail _ (.head _))⟩
theorem lkX5_192 : zLk RX5 192 xX5_isWord 1 := zLk_of [1305, 76] (by decide +kernel) wcX5_isWord pdX5_isWord
set_option maxRecDepth 100000 in
theorem wcX5_judge : Cond.code xX5_judge.1 xX5_judge.2.1 xX5_judge.2.2.1 xX5_judge.2.2.2.1 ∈ zT := zT_of (i := 1571) rfl rfl
theorem pdX5_judge : xX5_judge.1.cls ≠ "java/lang/invoke/MethodHandle" ∧ xX5_judge.1.cls ≠ "java/lang/invoke/VarHandle" ∧ (parseMethodDescriptor xX5_judge.1.desc).map (fun d => d.parameters.length) = some 2 := by decide +kernel
theorem ivX5_judge : Cond.instanceMethod xX5_judge.1 ∈ zT ∧ Cond.selects xX5_judge.1.cls xX5_judge.1 xX5_judge.1 ∈ zT := have h : zChk [1569, 1570] [Cond.instanceMethod xX5_judge.1, Cond.selects xX5_judge.1.cls xX5_judge.1 xX5_judge.1] = true := by decide +kernel
  ⟨zChk_ok h _ (.head _), zChk_ok h _ (.tail _ (.head _))⟩
theorem lkL_256 : zLk RL 256 xX5_judge 2 := zLk_of [1568, 76] (by decide +kernel) wcX5_judge pdX5_judge
set_option maxRecDepth 100000 in
theorem wcX5_knowers : Cond.code xX5_knowers.1 xX5_knowers.2.1 xX5_knowers.2.2.1 xX5_knowers.2.2.2.1 ∈ zT := zT_of (i := 1366) rfl rfl
theorem pdX5_knowers : xX5_knowers.1.cls ≠ "java/lang/invoke/MethodHandle" ∧ xX5_knowers.1.cls ≠ "java/lang/invoke/VarHandle" ∧ (parseMethodDescriptor xX5_knowers.1.desc).map (fun d => d.parameters.length) = some 1 := by decide +kernel
theorem ivX5_knowers : Cond.instanceMethod xX5_knowers.1 ∈ zT ∧ Cond.selects xX5_knowers.1.cls xX5_knowers.1 xX5_knowers.1 ∈ zT := have h : zChk [1365, 51] [Cond.instanceMethod xX5_knowers.1, Cond.selects xX5_knowers.1.cls xX5_knowers.1 xX5_knowers.1] = true := by decide +kernel
  ⟨zChk_ok h _ (.head _), zChk_ok h _ (.tail _ (.head _))⟩
theorem lkX5_251 : zLk RX5 251 xX5_knowers 1 := zLk_of [1363, 76] (by decide +kernel) wcX5_knowers pdX5_knowers
set_option maxRecDepth 100000 in
theorem wcX5_knowersTogether : Cond.code xX5_knowersTogether.1 xX5_knowersTogether.2.1 xX5_knowersTogether.2.2.1 xX5_knowersTogether.2.2.2.1 ∈ zT := zT_of (i := 1498) rfl rfl
theorem pdX5_knowersTogether : xX5_knowersTogether.1.cls ≠ "java/lang/invoke/MethodHandle" ∧ xX5_knowersTogether.1.cls ≠ "java/lang/invoke/VarHandle" ∧ (parseMethodDescriptor xX5_knowersTogether.1.desc).map (fun d => d.parameters.length) = some 0 := by decide +kernel
theorem ivX5_knowersTogether : Cond.instanceMethod xX5_knowersTogether.1 ∈ zT ∧ Cond.selects xX5_knowersTogether.1.cls xX5_knowersTogether.1 xX5_knowersTogether.1 ∈ zT := have h : zChk [1497, 58] [Cond.instanceMethod xX5_knowersTogether.1, Cond.selects xX5_knowersTogether.1.cls xX5_knowersTogether.1 xX5_knowersTogether.1] = true := by decide +kernel
  ⟨zChk_ok h _ (.head _), zChk_ok h _ (.tail _ (.head _))⟩
theorem lkX5_281 : zLk RX5 281 xX5_knowersTogether 0 := zLk_of [1495, 76] (by decide +kernel) wcX5_knowersTogether pdX5_knowersTogether
set_option maxRecDepth 100000 in
theorem wcX5_knownAt : Cond.code xX5_knownAt.1 xX5_knownAt.2.1 xX5_knownAt.2.2.1 xX5_knownAt.2.2.2.1 ∈ zT := zT_of (i := 1378) rfl rfl
theorem pdX5_knownAt : xX5_knownAt.1.cls ≠ "java/lang/invoke/MethodHandle" ∧ xX5_knownAt.1.cls ≠ "java/lang/invoke/VarHandle" ∧ (parseMethodDescriptor xX5_knownAt.1.desc).map (fun d => d.parameters.length) = some 1 := by decide +kernel
theorem ivX5_knownAt : Cond.instanceMethod xX5_knownAt.1 ∈ zT ∧ Cond.selects xX5_knownAt.1.cls xX5_knownAt.1 xX5_knownAt.1 ∈ zT := have h : zChk [1377, 53] [Cond.instanceMethod xX5_knownAt.1, Cond.selects xX5_knownAt.1.cls xX5_knownAt.1 xX5_knownAt.1] = true := by decide +kernel
  ⟨zChk_ok h _ (.head _), zChk_ok h _ (.tail _ (.head _))⟩
theorem lkX5_254 : zLk RX5 254 xX5_knownAt 1 := zLk_of [1375, 76] (by decide +kernel) wcX5_knownAt pdX5_knownAt
set_option maxRecDepth 100000 in
theorem wcX5_knows : Cond.code xX5_knows.1 xX5_knows.2.1 xX5_knows.2.2.1 xX5_knows.2.2.2.1 ∈ zT := zT_of (i := 1374) rfl rfl
theorem pdX5_knows : xX5_knows.1.cls ≠ "java/lang/invoke/MethodHandle" ∧ xX5_knows.1.cls ≠ "java/lang/invoke/VarHandle" ∧ (parseMethodDescriptor xX5_knows.1.desc).map (fun d => d.parameters.length) = some 1 := by decide +kernel
theorem ivX5_knows : Cond.instanceMethod xX5_knows.1 ∈ zT ∧ Cond.selects xX5_knows.1.cls xX5_knows.1 xX5_knows.1 ∈ zT := have h : zChk [1372, 1373] [Cond.instanceMethod xX5_knows.1, Cond.selects xX5_knows.1.cls xX5_knows.1 xX5_knows.1] = true := by decide +kernel
  ⟨zChk_ok h _ (.head _), zChk_ok h _ (.tail _ (.head _))⟩
theorem lkL_116 : zLk RL 116 xX5_knows 1 := zLk_of [1371, 76] (by decide +kernel) wcX5_knows pdX5_knows
set_option maxRecDepth 100000 in
theorem wcX5_knowsBy : Cond.code xX5_knowsBy.1 xX5_knowsBy.2.1 xX5_knowsBy.2.2.1 xX5_knowsBy.2.2.2.1 ∈ zT := zT_of (i := 1563) rfl rfl
theorem pdX5_knowsBy : xX5_knowsBy.1.cls ≠ "java/lang/invoke/MethodHandle" ∧ xX5_knowsBy.1.cls ≠ "java/lang/invoke/VarHandle" ∧ (parseMethodDescriptor xX5_knowsBy.1.desc).map (fun d => d.parameters.length) = some 2 := by decide +kernel
theorem ivX5_knowsBy : Cond.instanceMethod xX5_knowsBy.1 ∈ zT ∧ Cond.selects xX5_knowsBy.1.cls xX5_knowsBy.1 xX5_knowsBy.1 ∈ zT := have h : zChk [1562, 65] [Cond.instanceMethod xX5_knowsBy.1, Cond.selects xX5_knowsBy.1.cls xX5_knowsBy.1 xX5_knowsBy.1] = true := by decide +kernel
  ⟨zChk_ok h _ (.head _), zChk_ok h _ (.tail _ (.head _))⟩
theorem lkX5_319 : zLk RX5 319 xX5_knowsBy 2 := zLk_of [1560, 76] (by decide +kernel) wcX5_knowsBy pdX5_knowsBy
set_option maxRecDepth 100000 in
theorem wcX5_knowsOf : Cond.code xX5_knowsOf.1 xX5_knowsOf.2.1 xX5_knowsOf.2.2.1 xX5_knowsOf.2.2.2.1 ∈ zT := zT_of (i := 1370) rfl rfl
theorem pdX5_knowsOf : xX5_knowsOf.1.cls ≠ "java/lang/invoke/MethodHandle" ∧ xX5_knowsOf.1.cls ≠ "java/lang/invoke/VarHandle" ∧ (parseMethodDescriptor xX5_knowsOf.1.desc).map (fun d => d.parameters.length) = some 2 := by decide +kernel
theorem ivX5_knowsOf : Cond.instanceMethod xX5_knowsOf.1 ∈ zT ∧ Cond.selects xX5_knowsOf.1.cls xX5_knowsOf.1 xX5_knowsOf.1 ∈ zT := have h : zChk [1369, 52] [Cond.instanceMethod xX5_knowsOf.1, Cond.selects xX5_knowsOf.1.cls xX5_knowsOf.1 xX5_knowsOf.1] = true := by decide +kernel
  ⟨zChk_ok h _ (.head _), zChk_ok h _ (.tail _ (.head _))⟩
theorem lkX5_245 : zLk RX5 245 xX5_knowsOf 2 := zLk_of [1367, 76] (by decide +kernel) wcX5_knowsOf pdX5_knowsOf
set_option maxRecDepth 100000 in
theorem wcX5_lacks : Cond.code xX5_lacks.1 xX5_lacks.2.1 xX5_lacks.2.2.1 xX5_lacks.2.2.2.1 ∈ zT := zT_of (i := 1402) rfl rfl
theorem pdX5_lacks : xX5_lacks.1.cls ≠ "java/lang/invoke/MethodHandle" ∧ xX5_lacks.1.cls ≠ "java/lang/invoke/VarHandle" ∧ (parseMethodDescriptor xX5_lacks.1.desc).map (fun d => d.parameters.length) = some 2 := by decide +kernel
theorem ivX5_lacks : Cond.instanceMethod xX5_lacks.1 ∈ zT ∧ Cond.selects xX5_lacks.1.cls xX5_lacks.1 xX5_lacks.1 ∈ zT := have h : zChk [1400, 1401] [Cond.instanceMethod xX5_lacks.1, Cond.selects xX5_lacks.1.cls xX5_lacks.1 xX5_lacks.1] = true := by decide +kernel
  ⟨zChk_ok h _ (.head _), zChk_ok h _ (.tail _ (.head _))⟩
theorem lkL_216 : zLk RL 216 xX5_lacks 2 := zLk_of [1399, 76] (by decide +kernel) wcX5_lacks pdX5_lacks
set_option maxRecDepth 100000 in
theorem wcX5_lane : Cond.code xX5_lane.1 xX5_lane.2.1 xX5_lane.2.2.1 xX5_lane.2.2.2.1 ∈ zT := zT_of (i := 1276) rfl rfl
theorem pdX5_lane : xX5_lane.1.cls ≠ "java/lang/invoke/MethodHandle" ∧ xX5_lane.1.cls ≠ "java/lang/invoke/VarHandle" ∧ (parseMethodDescriptor xX5_lane.1.desc).map (fun d => d.parameters.length) = some 0 := by decide +kernel
theorem ivX5_lane : Cond.instanceMethod xX5_lane.1 ∈ zT ∧ Cond.selects xX5_lane.1.cls xX5_lane.1 xX5_lane.1 ∈ zT := have h : zChk [1274, 1275] [Cond.instanceMethod xX5_lane.1, Cond.selects xX5_lane.1.cls xX5_lane.1 xX5_lane.1] = true := by decide +kernel
  ⟨zChk_ok h _ (.head _), zChk_ok h _ (.tail _ (.head _))⟩
theorem lkL_92 : zLk RL 92 xX5_lane 0 := zLk_of [1273, 76] (by decide +kernel) wcX5_lane pdX5_lane
set_option maxRecDepth 100000 in
theorem wcX5_leastHeard : Cond.code xX5_leastHeard.1 xX5_leastHeard.2.1 xX5_leastHeard.2.2.1 xX5_leastHeard.2.2.2.1 ∈ zT := zT_of (i := 1550) rfl rfl
theorem pdX5_leastHeard : xX5_leastHeard.1.cls ≠ "java/lang/invoke/MethodHandle" ∧ xX5_leastHeard.1.cls ≠ "java/lang/invoke/VarHandle" ∧ (parseMethodDescriptor xX5_leastHeard.1.desc).map (fun d => d.parameters.length) = some 3 := by decide +kernel
theorem ivX5_leastHeard : Cond.instanceMethod xX5_leastHeard.1 ∈ zT ∧ Cond.selects xX5_leastHeard.1.cls xX5_leastHeard.1 xX5_leastHeard.1 ∈ zT := have h : zChk [1549, 64] [Cond.instanceMethod xX5_leastHeard.1, Cond.selects xX5_leastHeard.1.cls xX5_leastHeard.1 xX5_leastHeard.1] = true := by decide +kernel
  ⟨zChk_ok h _ (.head _), zChk_ok h _ (.tail _ (.head _))⟩
theorem lkX5_314 : zLk RX5 314 xX5_leastHeard 3 := zLk_of [1547, 76] (by decide +kernel) wcX5_leastHeard pdX5_leastHeard
set_option maxRecDepth 100000 in
theorem wcX5_leftOut : Cond.code xX5_leftOut.1 xX5_leftOut.2.1 xX5_leftOut.2.2.1 xX5_leftOut.2.2.2.1 ∈ zT := zT_of (i := 1213) rfl rfl
theorem pdX5_leftOut : xX5_leftOut.1.cls ≠ "java/lang/invoke/MethodHandle" ∧ xX5_leftOut.1.cls ≠ "java/lang/invoke/VarHandle" ∧ (parseMethodDescriptor xX5_leftOut.1.desc).map (fun d => d.parameters.length) = some 1 := by decide +kernel
theorem ivX5_leftOut : Cond.instanceMethod xX5_leftOut.1 ∈ zT ∧ Cond.selects xX5_leftOut.1.cls xX5_leftOut.1 xX5_leftOut.1 ∈ zT := have h : zChk [1212, 34] [Cond.instanceMethod xX5_leftOut.1, Cond.selects xX5_leftOut.1.cls xX5_leftOut.1 xX5_leftOut.1] = true := by decide +kernel
  ⟨zChk_ok h _ (.head _), zChk_ok h _ (.tail _ (.head _))⟩
theorem lkX5_239 : zLk RX5 239 xX5_leftOut 1 := zLk_of [1210, 76] (by decide +kernel) wcX5_leftOut pdX5_leftOut
set_option maxRecDepth 100000 in
theorem wcX5_lengths : Cond.code xX5_lengths.1 xX5_lengths.2.1 xX5_lengths.2.2.1 xX5_lengths.2.2.2.1 ∈ zT := zT_of (i := 1510) rfl rfl
theorem pdX5_lengths : xX5_lengths.1.cls ≠ "java/lang/invoke/MethodHandle" ∧ xX5_lengths.1.cls ≠ "java/lang/invoke/VarHandle" ∧ (parseMethodDescriptor xX5_lengths.1.desc).map (fun d => d.parameters.length) = some 4 := by decide +kernel
theorem ivX5_lengths : Cond.instanceMethod xX5_lengths.1 ∈ zT ∧ Cond.selects xX5_lengths.1.cls xX5_lengths.1 xX5_lengths.1 ∈ zT := have h : zChk [1508, 1509] [Cond.instanceMethod xX5_lengths.1, Cond.selects xX5_lengths.1.cls xX5_lengths.1 xX5_lengths.1] = true := by decide +kernel
  ⟨zChk_ok h _ (.head _), zChk_ok h _ (.tail _ (.head _))⟩
theorem lkL_152 : zLk RL 152 xX5_lengths 4 := zLk_of [1507, 76] (by decide +kernel) wcX5_lengths pdX5_lengths
set_option maxRecDepth 100000 in
theorem wcX5_letter : Cond.code xX5_letter.1 xX5_letter.2.1 xX5_letter.2.2.1 xX5_letter.2.2.2.1 ∈ zT := zT_of (i := 1230) rfl rfl
theorem pdX5_letter : xX5_letter.1.cls ≠ "java/lang/invoke/MethodHandle" ∧ xX5_letter.1.cls ≠ "java/lang/invoke/VarHandle" ∧ (parseMethodDescriptor xX5_letter.1.desc).map (fun d => d.parameters.length) = some 4 := by decide +kernel
theorem ivX5_letter : Cond.instanceMethod xX5_letter.1 ∈ zT ∧ Cond.selects xX5_letter.1.cls xX5_letter.1 xX5_letter.1 ∈ zT := have h : zChk [1228, 1229] [Cond.instanceMethod xX5_letter.1, Cond.selects xX5_letter.1.cls xX5_letter.1 xX5_letter.1] = true := by decide +kernel
  ⟨zChk_ok h _ (.head _), zChk_ok h _ (.tail _ (.head _))⟩
theorem lkL_57 : zLk RL 57 xX5_letter 4 := zLk_of [1227, 76] (by decide +kernel) wcX5_letter pdX5_letter
set_option maxRecDepth 100000 in
theorem wcX5_letterOf : Cond.code xX5_letterOf.1 xX5_letterOf.2.1 xX5_letterOf.2.2.1 xX5_letterOf.2.2.2.1 ∈ zT := zT_of (i := 1341) rfl rfl
theorem pdX5_letterOf : xX5_letterOf.1.cls ≠ "java/lang/invoke/MethodHandle" ∧ xX5_letterOf.1.cls ≠ "java/lang/invoke/VarHandle" ∧ (parseMethodDescriptor xX5_letterOf.1.desc).map (fun d => d.parameters.length) = some 2 := by decide +kernel
theorem ivX5_letterOf : Cond.instanceMethod xX5_letterOf.1 ∈ zT ∧ Cond.selects xX5_letterOf.1.cls xX5_letterOf.1 xX5_letterOf.1 ∈ zT := have h : zChk [1339, 1340] [Cond.instanceMethod xX5_letterOf.1, Cond.selects xX5_letterOf.1.cls xX5_letterOf.1 xX5_letterOf.1] = true := by decide +kernel
  ⟨zChk_ok h _ (.head _), zChk_ok h _ (.tail _ (.head _))⟩
theorem lkL_96 : zLk RL 96 xX5_letterOf 2 := zLk_of [1338, 76] (by decide +kernel) wcX5_letterOf pdX5_letterOf
set_option maxRecDepth 100000 in
theorem wcX5_look : Cond.code xX5_look.1 xX5_look.2.1 xX5_look.2.2.1 xX5_look.2.2.2.1 ∈ zT := zT_of (i := 1293) rfl rfl
theorem pdX5_look : xX5_look.1.cls ≠ "java/lang/invoke/MethodHandle" ∧ xX5_look.1.cls ≠ "java/lang/invoke/VarHandle" ∧ (parseMethodDescriptor xX5_look.1.desc).map (fun d => d.parameters.length) = some 0 := by decide +kernel
theorem ivX5_look : Cond.instanceMethod xX5_look.1 ∈ zT ∧ Cond.selects xX5_look.1.cls xX5_look.1 xX5_look.1 ∈ zT := have h : zChk [1292, 42] [Cond.instanceMethod xX5_look.1, Cond.selects xX5_look.1.cls xX5_look.1 xX5_look.1] = true := by decide +kernel
  ⟨zChk_ok h _ (.head _), zChk_ok h _ (.tail _ (.head _))⟩
theorem lkX5_181 : zLk RX5 181 xX5_look 0 := zLk_of [1290, 76] (by decide +kernel) wcX5_look pdX5_look
set_option maxRecDepth 100000 in
theorem wcX5_lost : Cond.code xX5_lost.1 xX5_lost.2.1 xX5_lost.2.2.1 xX5_lost.2.2.2.1 ∈ zT := zT_of (i := 1435) rfl rfl
theorem pdX5_lost : xX5_lost.1.cls ≠ "java/lang/invoke/MethodHandle" ∧ xX5_lost.1.cls ≠ "java/lang/invoke/VarHandle" ∧ (parseMethodDescriptor xX5_lost.1.desc).map (fun d => d.parameters.length) = some 0 := by decide +kernel
theorem ivX5_lost : Cond.instanceMethod xX5_lost.1 ∈ zT ∧ Cond.selects xX5_lost.1.cls xX5_lost.1 xX5_lost.1 ∈ zT := have h : zChk [1433, 1434] [Cond.instanceMethod xX5_lost.1, Cond.selects xX5_lost.1.cls xX5_lost.1 xX5_lost.1] = true := by decide +kernel
  ⟨zChk_ok h _ (.head _), zChk_ok h _ (.tail _ (.head _))⟩
theorem lkL_208 : zLk RL 208 xX5_lost 0 := zLk_of [1432, 76] (by decide +kernel) wcX5_lost pdX5_lost
set_option maxRecDepth 100000 in
theorem wcX5_loudest : Cond.code xX5_loudest.1 xX5_loudest.2.1 xX5_loudest.2.2.1 xX5_loudest.2.2.2.1 ∈ zT := zT_of (i := 1418) rfl rfl
theorem pdX5_loudest : xX5_loudest.1.cls ≠ "java/lang/invoke/MethodHandle" ∧ xX5_loudest.1.cls ≠ "java/lang/invoke/VarHandle" ∧ (parseMethodDescriptor xX5_loudest.1.desc).map (fun d => d.parameters.length) = some 1 := by decide +kernel
theorem ivX5_loudest : Cond.instanceMethod xX5_loudest.1 ∈ zT ∧ Cond.selects xX5_loudest.1.cls xX5_loudest.1 xX5_loudest.1 ∈ zT := have h : zChk [1416, 1417] [Cond.instanceMethod xX5_loudest.1, Cond.selects xX5_loudest.1.cls xX5_loudest.1 xX5_loudest.1] = true := by decide +kernel
  ⟨zChk_ok h _ (.head _), zChk_ok h _ (.tail _ (.head _))⟩
theorem lkL_124 : zLk RL 124 xX5_loudest 1 := zLk_of [1415, 76] (by decide +kernel) wcX5_loudest pdX5_loudest
set_option maxRecDepth 100000 in
theorem wcX5_mayPour : Cond.code xX5_mayPour.1 xX5_mayPour.2.1 xX5_mayPour.2.2.1 xX5_mayPour.2.2.2.1 ∈ zT := zT_of (i := 1546) rfl rfl
theorem pdX5_mayPour : xX5_mayPour.1.cls ≠ "java/lang/invoke/MethodHandle" ∧ xX5_mayPour.1.cls ≠ "java/lang/invoke/VarHandle" ∧ (parseMethodDescriptor xX5_mayPour.1.desc).map (fun d => d.parameters.length) = some 4 := by decide +kernel
theorem ivX5_mayPour : Cond.instanceMethod xX5_mayPour.1 ∈ zT ∧ Cond.selects xX5_mayPour.1.cls xX5_mayPour.1 xX5_mayPour.1 ∈ zT := have h : zChk [1545, 63] [Cond.instanceMethod xX5_mayPour.1, Cond.selects xX5_mayPour.1.cls xX5_mayPour.1 xX5_mayPour.1] = true := by decide +kernel
  ⟨zChk_ok h _ (.head _), zChk_ok h _ (.tail _ (.head _))⟩
theorem lkX5_310 : zLk RX5 310 xX5_mayPour 4 := zLk_of [1543, 76] (by decide +kernel) wcX5_mayPour pdX5_mayPour
set_option maxRecDepth 100000 in
theorem wcX5_mend : Cond.code xX5_mend.1 xX5_mend.2.1 xX5_mend.2.2.1 xX5_mend.2.2.2.1 ∈ zT := zT_of (i := 1243) rfl rfl
theorem pdX5_mend : xX5_mend.1.cls ≠ "java/lang/invoke/MethodHandle" ∧ xX5_mend.1.cls ≠ "java/lang/invoke/VarHandle" ∧ (parseMethodDescriptor xX5_mend.1.desc).map (fun d => d.parameters.length) = some 3 := by decide +kernel
theorem ivX5_mend : Cond.instanceMethod xX5_mend.1 ∈ zT ∧ Cond.selects xX5_mend.1.cls xX5_mend.1 xX5_mend.1 ∈ zT := have h : zChk [1241, 1242] [Cond.instanceMethod xX5_mend.1, Cond.selects xX5_mend.1.cls xX5_mend.1 xX5_mend.1] = true := by decide +kernel
  ⟨zChk_ok h _ (.head _), zChk_ok h _ (.tail _ (.head _))⟩
theorem lkL_61 : zLk RL 61 xX5_mend 3 := zLk_of [1240, 76] (by decide +kernel) wcX5_mend pdX5_mend
set_option maxRecDepth 100000 in
theorem wcX5_merry : Cond.code xX5_merry.1 xX5_merry.2.1 xX5_merry.2.2.1 xX5_merry.2.2.2.1 ∈ zT := zT_of (i := 1506) rfl rfl
theorem pdX5_merry : xX5_merry.1.cls ≠ "java/lang/invoke/MethodHandle" ∧ xX5_merry.1.cls ≠ "java/lang/invoke/VarHandle" ∧ (parseMethodDescriptor xX5_merry.1.desc).map (fun d => d.parameters.length) = some 1 := by decide +kernel
theorem ivX5_merry : Cond.instanceMethod xX5_merry.1 ∈ zT ∧ Cond.selects xX5_merry.1.cls xX5_merry.1 xX5_merry.1 ∈ zT := have h : zChk [1504, 1505] [Cond.instanceMethod xX5_merry.1, Cond.selects xX5_merry.1.cls xX5_merry.1 xX5_merry.1] = true := by decide +kernel
  ⟨zChk_ok h _ (.head _), zChk_ok h _ (.tail _ (.head _))⟩
theorem lkL_240 : zLk RL 240 xX5_merry 1 := zLk_of [1503, 76] (by decide +kernel) wcX5_merry pdX5_merry
set_option maxRecDepth 100000 in
theorem wcX5_noRow : Cond.code xX5_noRow.1 xX5_noRow.2.1 xX5_noRow.2.2.1 xX5_noRow.2.2.2.1 ∈ zT := zT_of (i := 1170) rfl rfl
theorem pdX5_noRow : xX5_noRow.1.cls ≠ "java/lang/invoke/MethodHandle" ∧ xX5_noRow.1.cls ≠ "java/lang/invoke/VarHandle" ∧ (parseMethodDescriptor xX5_noRow.1.desc).map (fun d => d.parameters.length) = some 1 := by decide +kernel
theorem ivX5_noRow : Cond.instanceMethod xX5_noRow.1 ∈ zT ∧ Cond.selects xX5_noRow.1.cls xX5_noRow.1 xX5_noRow.1 ∈ zT := have h : zChk [1169, 30] [Cond.instanceMethod xX5_noRow.1, Cond.selects xX5_noRow.1.cls xX5_noRow.1 xX5_noRow.1] = true := by decide +kernel
  ⟨zChk_ok h _ (.head _), zChk_ok h _ (.tail _ (.head _))⟩
theorem lkX5_98 : zLk RX5 98 xX5_noRow 1 := zLk_of [1167, 76] (by decide +kernel) wcX5_noRow pdX5_noRow
set_option maxRecDepth 100000 in
theorem wcX5_noSounds : Cond.code xX5_noSounds.1 xX5_noSounds.2.1 xX5_noSounds.2.2.1 xX5_noSounds.2.2.2.1 ∈ zT := zT_of (i := 1514) rfl rfl
theorem pdX5_noSounds : xX5_noSounds.1.cls ≠ "java/lang/invoke/MethodHandle" ∧ xX5_noSounds.1.cls ≠ "java/lang/invoke/VarHandle" ∧ (parseMethodDescriptor xX5_noSounds.1.desc).map (fun d => d.parameters.length) = some 4 := by decide +kernel
theorem ivX5_noSounds : Cond.instanceMethod xX5_noSounds.1 ∈ zT ∧ Cond.selects xX5_noSounds.1.cls xX5_noSounds.1 xX5_noSounds.1 ∈ zT := have h : zChk [1513, 59] [Cond.instanceMethod xX5_noSounds.1, Cond.selects xX5_noSounds.1.cls xX5_noSounds.1 xX5_noSounds.1] = true := by decide +kernel
  ⟨zChk_ok h _ (.head _), zChk_ok h _ (.tail _ (.head _))⟩
theorem lkX5_296 : zLk RX5 296 xX5_noSounds 4 := zLk_of [1511, 76] (by decide +kernel) wcX5_noSounds pdX5_noSounds
set_option maxRecDepth 100000 in
theorem wcX5_number : Cond.code xX5_number.1 xX5_number.2.1 xX5_number.2.2.1 xX5_number.2.2.2.1 ∈ zT := zT_of (i := 1318) rfl rfl
theorem pdX5_number : xX5_number.1.cls ≠ "java/lang/invoke/MethodHandle" ∧ xX5_number.1.cls ≠ "java/lang/invoke/VarHandle" ∧ (parseMethodDescriptor xX5_number.1.desc).map (fun d => d.parameters.length) = some 3 := by decide +kernel
theorem ivX5_number : Cond.instanceMethod xX5_number.1 ∈ zT ∧ Cond.selects xX5_number.1.cls xX5_number.1 xX5_number.1 ∈ zT := have h : zChk [1317, 46] [Cond.instanceMethod xX5_number.1, Cond.selects xX5_number.1.cls xX5_number.1 xX5_number.1] = true := by decide +kernel
  ⟨zChk_ok h _ (.head _), zChk_ok h _ (.tail _ (.head _))⟩
theorem lkX5_184 : zLk RX5 184 xX5_number 3 := zLk_of [1315, 76] (by decide +kernel) wcX5_number pdX5_number
set_option maxRecDepth 100000 in
theorem wcX5_ofKind : Cond.code xX5_ofKind.1 xX5_ofKind.2.1 xX5_ofKind.2.2.1 xX5_ofKind.2.2.2.1 ∈ zT := zT_of (i := 1398) rfl rfl
theorem pdX5_ofKind : xX5_ofKind.1.cls ≠ "java/lang/invoke/MethodHandle" ∧ xX5_ofKind.1.cls ≠ "java/lang/invoke/VarHandle" ∧ (parseMethodDescriptor xX5_ofKind.1.desc).map (fun d => d.parameters.length) = some 1 := by decide +kernel
theorem ivX5_ofKind : Cond.instanceMethod xX5_ofKind.1 ∈ zT ∧ Cond.selects xX5_ofKind.1.cls xX5_ofKind.1 xX5_ofKind.1 ∈ zT := have h : zChk [1396, 1397] [Cond.instanceMethod xX5_ofKind.1, Cond.selects xX5_ofKind.1.cls xX5_ofKind.1 xX5_ofKind.1] = true := by decide +kernel
  ⟨zChk_ok h _ (.head _), zChk_ok h _ (.tail _ (.head _))⟩
theorem lkL_252 : zLk RL 252 xX5_ofKind 1 := zLk_of [1395, 76] (by decide +kernel) wcX5_ofKind pdX5_ofKind
set_option maxRecDepth 100000 in
theorem wcX5_pour : Cond.code xX5_pour.1 xX5_pour.2.1 xX5_pour.2.2.1 xX5_pour.2.2.2.1 ∈ zT := zT_of (i := 1542) rfl rfl
theorem pdX5_pour : xX5_pour.1.cls ≠ "java/lang/invoke/MethodHandle" ∧ xX5_pour.1.cls ≠ "java/lang/invoke/VarHandle" ∧ (parseMethodDescriptor xX5_pour.1.desc).map (fun d => d.parameters.length) = some 5 := by decide +kernel
theorem ivX5_pour : Cond.instanceMethod xX5_pour.1 ∈ zT ∧ Cond.selects xX5_pour.1.cls xX5_pour.1 xX5_pour.1 ∈ zT := have h : zChk [1540, 1541] [Cond.instanceMethod xX5_pour.1, Cond.selects xX5_pour.1.cls xX5_pour.1 xX5_pour.1] = true := by decide +kernel
  ⟨zChk_ok h _ (.head _), zChk_ok h _ (.tail _ (.head _))⟩
theorem lkL_168 : zLk RL 168 xX5_pour 5 := zLk_of [1539, 76] (by decide +kernel) wcX5_pour pdX5_pour
set_option maxRecDepth 100000 in
theorem wcX5_quiet : Cond.code xX5_quiet.1 xX5_quiet.2.1 xX5_quiet.2.2.1 xX5_quiet.2.2.2.1 ∈ zT := zT_of (i := 1486) rfl rfl
theorem pdX5_quiet : xX5_quiet.1.cls ≠ "java/lang/invoke/MethodHandle" ∧ xX5_quiet.1.cls ≠ "java/lang/invoke/VarHandle" ∧ (parseMethodDescriptor xX5_quiet.1.desc).map (fun d => d.parameters.length) = some 1 := by decide +kernel
theorem ivX5_quiet : Cond.instanceMethod xX5_quiet.1 ∈ zT ∧ Cond.selects xX5_quiet.1.cls xX5_quiet.1 xX5_quiet.1 ∈ zT := have h : zChk [1484, 1485] [Cond.instanceMethod xX5_quiet.1, Cond.selects xX5_quiet.1.cls xX5_quiet.1 xX5_quiet.1] = true := by decide +kernel
  ⟨zChk_ok h _ (.head _), zChk_ok h _ (.tail _ (.head _))⟩
theorem lkL_224 : zLk RL 224 xX5_quiet 1 := zLk_of [1483, 76] (by decide +kernel) wcX5_quiet pdX5_quiet
set_option maxRecDepth 100000 in
theorem wcX5_reach : Cond.code xX5_reach.1 xX5_reach.2.1 xX5_reach.2.2.1 xX5_reach.2.2.2.1 ∈ zT := zT_of (i := 1410) rfl rfl
theorem pdX5_reach : xX5_reach.1.cls ≠ "java/lang/invoke/MethodHandle" ∧ xX5_reach.1.cls ≠ "java/lang/invoke/VarHandle" ∧ (parseMethodDescriptor xX5_reach.1.desc).map (fun d => d.parameters.length) = some 2 := by decide +kernel
theorem ivX5_reach : Cond.instanceMethod xX5_reach.1 ∈ zT ∧ Cond.selects xX5_reach.1.cls xX5_reach.1 xX5_reach.1 ∈ zT := have h : zChk [1408, 1409] [Cond.instanceMethod xX5_reach.1, Cond.selects xX5_reach.1.cls xX5_reach.1 xX5_reach.1] = true := by decide +kernel
  ⟨zChk_ok h _ (.head _), zChk_ok h _ (.tail _ (.head _))⟩
theorem lkL_212 : zLk RL 212 xX5_reach 2 := zLk_of [1407, 76] (by decide +kernel) wcX5_reach pdX5_reach
set_option maxRecDepth 100000 in
theorem wcX5_readAll : Cond.code xX5_readAll.1 xX5_readAll.2.1 xX5_readAll.2.2.1 xX5_readAll.2.2.2.1 ∈ zT := zT_of (i := 1289) rfl rfl
theorem pdX5_readAll : xX5_readAll.1.cls ≠ "java/lang/invoke/MethodHandle" ∧ xX5_readAll.1.cls ≠ "java/lang/invoke/VarHandle" ∧ (parseMethodDescriptor xX5_readAll.1.desc).map (fun d => d.parameters.length) = some 0 := by decide +kernel
theorem ivX5_readAll : Cond.instanceMethod xX5_readAll.1 ∈ zT ∧ Cond.selects xX5_readAll.1.cls xX5_readAll.1 xX5_readAll.1 ∈ zT := have h : zChk [1288, 41] [Cond.instanceMethod xX5_readAll.1, Cond.selects xX5_readAll.1.cls xX5_readAll.1 xX5_readAll.1] = true := by decide +kernel
  ⟨zChk_ok h _ (.head _), zChk_ok h _ (.tail _ (.head _))⟩
theorem lkX5_228 : zLk RX5 228 xX5_readAll 0 := zLk_of [1286, 76] (by decide +kernel) wcX5_readAll pdX5_readAll
set_option maxRecDepth 100000 in
theorem wcX5_readAt : Cond.code xX5_readAt.1 xX5_readAt.2.1 xX5_readAt.2.2.1 xX5_readAt.2.2.2.1 ∈ zT := zT_of (i := 1209) rfl rfl
theorem pdX5_readAt : xX5_readAt.1.cls ≠ "java/lang/invoke/MethodHandle" ∧ xX5_readAt.1.cls ≠ "java/lang/invoke/VarHandle" ∧ (parseMethodDescriptor xX5_readAt.1.desc).map (fun d => d.parameters.length) = some 2 := by decide +kernel
theorem ivX5_readAt : Cond.instanceMethod xX5_readAt.1 ∈ zT ∧ Cond.selects xX5_readAt.1.cls xX5_readAt.1 xX5_readAt.1 ∈ zT := have h : zChk [1208, 33] [Cond.instanceMethod xX5_readAt.1, Cond.selects xX5_readAt.1.cls xX5_readAt.1 xX5_readAt.1] = true := by decide +kernel
  ⟨zChk_ok h _ (.head _), zChk_ok h _ (.tail _ (.head _))⟩
theorem lkX5_236 : zLk RX5 236 xX5_readAt 2 := zLk_of [1206, 76] (by decide +kernel) wcX5_readAt pdX5_readAt
set_option maxRecDepth 100000 in
theorem wcX5_refuse : Cond.code xX5_refuse.1 xX5_refuse.2.1 xX5_refuse.2.2.1 xX5_refuse.2.2.2.1 ∈ zT := zT_of (i := 1162) rfl rfl
theorem pdX5_refuse : xX5_refuse.1.cls ≠ "java/lang/invoke/MethodHandle" ∧ xX5_refuse.1.cls ≠ "java/lang/invoke/VarHandle" ∧ (parseMethodDescriptor xX5_refuse.1.desc).map (fun d => d.parameters.length) = some 1 := by decide +kernel
theorem ivX5_refuse : Cond.instanceMethod xX5_refuse.1 ∈ zT ∧ Cond.selects xX5_refuse.1.cls xX5_refuse.1 xX5_refuse.1 ∈ zT := have h : zChk [1161, 29] [Cond.instanceMethod xX5_refuse.1, Cond.selects xX5_refuse.1.cls xX5_refuse.1 xX5_refuse.1] = true := by decide +kernel
  ⟨zChk_ok h _ (.head _), zChk_ok h _ (.tail _ (.head _))⟩
theorem lkX5_94 : zLk RX5 94 xX5_refuse 1 := zLk_of [1159, 76] (by decide +kernel) wcX5_refuse pdX5_refuse
set_option maxRecDepth 100000 in
theorem wcX5_round : Cond.code xX5_round.1 xX5_round.2.1 xX5_round.2.2.1 xX5_round.2.2.2.1 ∈ zT := zT_of (i := 1575) rfl rfl
theorem pdX5_round : xX5_round.1.cls ≠ "java/lang/invoke/MethodHandle" ∧ xX5_round.1.cls ≠ "java/lang/invoke/VarHandle" ∧ (parseMethodDescriptor xX5_round.1.desc).map (fun d => d.parameters.length) = some 1 := by decide +kernel
theorem ivX5_round : Cond.instanceMethod xX5_round.1 ∈ zT ∧ Cond.selects xX5_round.1.cls xX5_round.1 xX5_round.1 ∈ zT := have h : zChk [1573, 1574] [Cond.instanceMethod xX5_round.1, Cond.selects xX5_round.1.cls xX5_round.1 xX5_round.1] = true := by decide +kernel
  ⟨zChk_ok h _ (.head _), zChk_ok h _ (.tail _ (.head _))⟩
theorem lkL_260 : zLk RL 260 xX5_round 1 := zLk_of [1572, 76] (by decide +kernel) wcX5_round pdX5_round
set_option maxRecDepth 100000 in
theorem wcX5_row : Cond.code xX5_row.1 xX5_row.2.1 xX5_row.2.2.1 xX5_row.2.2.2.1 ∈ zT := zT_of (i := 1152) rfl rfl
theorem pdX5_row : xX5_row.1.cls ≠ "java/lang/invoke/MethodHandle" ∧ xX5_row.1.cls ≠ "java/lang/invoke/VarHandle" ∧ (parseMethodDescriptor xX5_row.1.desc).map (fun d => d.parameters.length) = some 3 := by decide +kernel
theorem ivX5_row : Cond.instanceMethod xX5_row.1 ∈ zT ∧ Cond.selects xX5_row.1.cls xX5_row.1 xX5_row.1 ∈ zT := have h : zChk [1150, 1151] [Cond.instanceMethod xX5_row.1, Cond.selects xX5_row.1.cls xX5_row.1 xX5_row.1] = true := by decide +kernel
  ⟨zChk_ok h _ (.head _), zChk_ok h _ (.tail _ (.head _))⟩
theorem lkL_17 : zLk RL 17 xX5_row 3 := zLk_of [1149, 76] (by decide +kernel) wcX5_row pdX5_row
set_option maxRecDepth 100000 in
theorem wcX5_says : Cond.code xX5_says.1 xX5_says.2.1 xX5_says.2.2.1 xX5_says.2.2.2.1 ∈ zT := zT_of (i := 1197) rfl rfl
theorem pdX5_says : xX5_says.1.cls ≠ "java/lang/invoke/MethodHandle" ∧ xX5_says.1.cls ≠ "java/lang/invoke/VarHandle" ∧ (parseMethodDescriptor xX5_says.1.desc).map (fun d => d.parameters.length) = some 2 := by decide +kernel
theorem ivX5_says : Cond.instanceMethod xX5_says.1 ∈ zT ∧ Cond.selects xX5_says.1.cls xX5_says.1 xX5_says.1 ∈ zT := have h : zChk [1195, 1196] [Cond.instanceMethod xX5_says.1, Cond.selects xX5_says.1.cls xX5_says.1 xX5_says.1] = true := by decide +kernel
  ⟨zChk_ok h _ (.head _), zChk_ok h _ (.tail _ (.head _))⟩
theorem lkL_48 : zLk RL 48 xX5_says 2 := zLk_of [1194, 76] (by decide +kernel) wcX5_says pdX5_says
set_option maxRecDepth 100000 in
theorem wcX5_seal : Cond.code xX5_seal.1 xX5_seal.2.1 xX5_seal.2.2.1 xX5_seal.2.2.2.1 ∈ zT := zT_of (i := 1458) rfl rfl
theorem pdX5_seal : xX5_seal.1.cls ≠ "java/lang/invoke/MethodHandle" ∧ xX5_seal.1.cls ≠ "java/lang/invoke/VarHandle" ∧ (parseMethodDescriptor xX5_seal.1.desc).map (fun d => d.parameters.length) = some 2 := by decide +kernel
theorem ivX5_seal : Cond.instanceMethod xX5_seal.1 ∈ zT ∧ Cond.selects xX5_seal.1.cls xX5_seal.1 xX5_seal.1 ∈ zT := have h : zChk [1456, 1457] [Cond.instanceMethod xX5_seal.1, Cond.selects xX5_seal.1.cls xX5_seal.1 xX5_seal.1] = true := by decide +kernel
  ⟨zChk_ok h _ (.head _), zChk_ok h _ (.tail _ (.head _))⟩
theorem lkL_144 : zLk RL 144 xX5_seal 2 := zLk_of [1455, 76] (by decide +kernel) wcX5_seal pdX5_seal
set_option maxRecDepth 100000 in
theorem wcX5_secret : Cond.code xX5_secret.1 xX5_secret.2.1 xX5_secret.2.2.1 xX5_secret.2.2.2.1 ∈ zT := zT_of (i := 1431) rfl rfl
theorem pdX5_secret : xX5_secret.1.cls ≠ "java/lang/invoke/MethodHandle" ∧ xX5_secret.1.cls ≠ "java/lang/invoke/VarHandle" ∧ (parseMethodDescriptor xX5_secret.1.desc).map (fun d => d.parameters.length) = some 0 := by decide +kernel
theorem ivX5_secret : Cond.instanceMethod xX5_secret.1 ∈ zT ∧ Cond.selects xX5_secret.1.cls xX5_secret.1 xX5_secret.1 ∈ zT := have h : zChk [1429, 1430] [Cond.instanceMethod xX5_secret.1, Cond.selects xX5_secret.1.cls xX5_secret.1 xX5_secret.1] = true := by decide +kernel
  ⟨zChk_ok h _ (.head _), zChk_ok h _ (.tail _ (.head _))⟩
theorem lkL_204 : zLk RL 204 xX5_secret 0 := zLk_of [1428, 76] (by decide +kernel) wcX5_secret pdX5_secret
set_option maxRecDepth 100000 in
theorem wcX5_seed : Cond.code xX5_seed.1 xX5_seed.2.1 xX5_seed.2.2.1 xX5_seed.2.2.2.1 ∈ zT := zT_of (i := 1601) rfl rfl
theorem pdX5_seed : xX5_seed.1.cls ≠ "java/lang/invoke/MethodHandle" ∧ xX5_seed.1.cls ≠ "java/lang/invoke/VarHandle" ∧ (parseMethodDescriptor xX5_seed.1.desc).map (fun d => d.parameters.length) = some 1 := by decide +kernel
theorem ivX5_seed : Cond.instanceMethod xX5_seed.1 ∈ zT ∧ Cond.selects xX5_seed.1.cls xX5_seed.1 xX5_seed.1 ∈ zT := have h : zChk [1599, 1600] [Cond.instanceMethod xX5_seed.1, Cond.selects xX5_seed.1.cls xX5_seed.1 xX5_seed.1] = true := by decide +kernel
  ⟨zChk_ok h _ (.head _), zChk_ok h _ (.tail _ (.head _))⟩
theorem lkL_268 : zLk RL 268 xX5_seed 1 := zLk_of [1598, 76] (by decide +kernel) wcX5_seed pdX5_seed
set_option maxRecDepth 100000 in
theorem wcX5_set : Cond.code xX5_set.1 xX5_set.2.1 xX5_set.2.2.1 xX5_set.2.2.2.1 ∈ zT := zT_of (i := 1166) rfl rfl
theorem pdX5_set : xX5_set.1.cls ≠ "java/lang/invoke/MethodHandle" ∧ xX5_set.1.cls ≠ "java/lang/invoke/VarHandle" ∧ (parseMethodDescriptor xX5_set.1.desc).map (fun d => d.parameters.length) = some 3 := by decide +kernel
theorem ivX5_set : Cond.instanceMethod xX5_set.1 ∈ zT ∧ Cond.selects xX5_set.1.cls xX5_set.1 xX5_set.1 ∈ zT := have h : zChk [1164, 1165] [Cond.instanceMethod xX5_set.1, Cond.selects xX5_set.1.cls xX5_set.1 xX5_set.1] = true := by decide +kernel
  ⟨zChk_ok h _ (.head _), zChk_ok h _ (.tail _ (.head _))⟩
theorem lkL_24 : zLk RL 24 xX5_set 3 := zLk_of [1163, 76] (by decide +kernel) wcX5_set pdX5_set
set_option maxRecDepth 100000 in
theorem wcX5_setCode : Cond.code xX5_setCode.1 xX5_setCode.2.1 xX5_setCode.2.2.1 xX5_setCode.2.2.2.1 ∈ zT := zT_of (i := 1255) rfl rfl
theorem pdX5_setCode : xX5_setCode.1.cls ≠ "java/lang/invoke/MethodHandle" ∧ xX5_setCode.1.cls ≠ "java/lang/invoke/VarHandle" ∧ (parseMethodDescriptor xX5_setCode.1.desc).map (fun d => d.parameters.length) = some 3 := by decide +kernel
theorem ivX5_setCode : Cond.instanceMethod xX5_setCode.1 ∈ zT ∧ Cond.selects xX5_setCode.1.cls xX5_setCode.1 xX5_setCode.1 ∈ zT := have h : zChk [1254, 39] [Cond.instanceMethod xX5_setCode.1, Cond.selects xX5_setCode.1.cls xX5_setCode.1 xX5_setCode.1] = true := by decide +kernel
  ⟨zChk_ok h _ (.head _), zChk_ok h _ (.tail _ (.head _))⟩
theorem lkX5_131 : zLk RX5 131 xX5_setCode 3 := zLk_of [1252, 76] (by decide +kernel) wcX5_setCode pdX5_setCode
set_option maxRecDepth 100000 in
theorem wcX5_shelvesFollow : Cond.code xX5_shelvesFollow.1 xX5_shelvesFollow.2.1 xX5_shelvesFollow.2.2.1 xX5_shelvesFollow.2.2.2.1 ∈ zT := zT_of (i := 1583) rfl rfl
theorem pdX5_shelvesFollow : xX5_shelvesFollow.1.cls ≠ "java/lang/invoke/MethodHandle" ∧ xX5_shelvesFollow.1.cls ≠ "java/lang/invoke/VarHandle" ∧ (parseMethodDescriptor xX5_shelvesFollow.1.desc).map (fun d => d.parameters.length) = some 0 := by decide +kernel
theorem ivX5_shelvesFollow : Cond.instanceMethod xX5_shelvesFollow.1 ∈ zT ∧ Cond.selects xX5_shelvesFollow.1.cls xX5_shelvesFollow.1 xX5_shelvesFollow.1 ∈ zT := have h : zChk [1582, 67] [Cond.instanceMethod xX5_shelvesFollow.1, Cond.selects xX5_shelvesFollow.1.cls xX5_shelvesFollow.1 xX5_shelvesFollow.1] = true := by decide +kernel
  ⟨zChk_ok h _ (.head _), zChk_ok h _ (.tail _ (.head _))⟩
theorem lkX5_328 : zLk RX5 328 xX5_shelvesFollow 0 := zLk_of [1580, 76] (by decide +kernel) wcX5_shelvesFollow pdX5_shelvesFollow
set_option maxRecDepth 100000 in
theorem wcX5_shout : Cond.code xX5_shout.1 xX5_shout.2.1 xX5_shout.2.2.1 xX5_shout.2.2.2.1 ∈ zT := zT_of (i := 1462) rfl rfl
theorem pdX5_shout : xX5_shout.1.cls ≠ "java/lang/invoke/MethodHandle" ∧ xX5_shout.1.cls ≠ "java/lang/invoke/VarHandle" ∧ (parseMethodDescriptor xX5_shout.1.desc).map (fun d => d.parameters.length) = some 2 := by decide +kernel
theorem ivX5_shout : Cond.instanceMethod xX5_shout.1 ∈ zT ∧ Cond.selects xX5_shout.1.cls xX5_shout.1 xX5_shout.1 ∈ zT := have h : zChk [1460, 1461] [Cond.instanceMethod xX5_shout.1, Cond.selects xX5_shout.1.cls xX5_shout.1 xX5_shout.1] = true := by decide +kernel
  ⟨zChk_ok h _ (.head _), zChk_ok h _ (.tail _ (.head _))⟩
theorem lkL_148 : zLk RL 148 xX5_shout 2 := zLk_of [1459, 76] (by decide +kernel) wcX5_shout pdX5_shout
set_option maxRecDepth 100000 in
theorem wcX5_show : Cond.code xX5_show.1 xX5_show.2.1 xX5_show.2.2.1 xX5_show.2.2.2.1 ∈ zT := zT_of (i := 1189) rfl rfl
theorem pdX5_show : xX5_show.1.cls ≠ "java/lang/invoke/MethodHandle" ∧ xX5_show.1.cls ≠ "java/lang/invoke/VarHandle" ∧ (parseMethodDescriptor xX5_show.1.desc).map (fun d => d.parameters.length) = some 2 := by decide +kernel
theorem ivX5_show : Cond.instanceMethod xX5_show.1 ∈ zT ∧ Cond.selects xX5_show.1.cls xX5_show.1 xX5_show.1 ∈ zT := have h : zChk [1187, 1188] [Cond.instanceMethod xX5_show.1, Cond.selects xX5_show.1.cls xX5_show.1 xX5_show.1] = true := by decide +kernel
  ⟨zChk_ok h _ (.head _), zChk_ok h _ (.tail _ (.head _))⟩
theorem lkL_44 : zLk RL 44 xX5_show 2 := zLk_of [1186, 76] (by decide +kernel) wcX5_show pdX5_show
set_option maxRecDepth 100000 in
theorem wcX5_sober : Cond.code xX5_sober.1 xX5_sober.2.1 xX5_sober.2.2.1 xX5_sober.2.2.2.1 ∈ zT := zT_of (i := 1490) rfl rfl
theorem pdX5_sober : xX5_sober.1.cls ≠ "java/lang/invoke/MethodHandle" ∧ xX5_sober.1.cls ≠ "java/lang/invoke/VarHandle" ∧ (parseMethodDescriptor xX5_sober.1.desc).map (fun d => d.parameters.length) = some 1 := by decide +kernel
theorem ivX5_sober : Cond.instanceMethod xX5_sober.1 ∈ zT ∧ Cond.selects xX5_sober.1.cls xX5_sober.1 xX5_sober.1 ∈ zT := have h : zChk [1488, 1489] [Cond.instanceMethod xX5_sober.1, Cond.selects xX5_sober.1.cls xX5_sober.1 xX5_sober.1] = true := by decide +kernel
  ⟨zChk_ok h _ (.head _), zChk_ok h _ (.tail _ (.head _))⟩
theorem lkL_228 : zLk RL 228 xX5_sober 1 := zLk_of [1487, 76] (by decide +kernel) wcX5_sober pdX5_sober
set_option maxRecDepth 100000 in
theorem wcX5_sounds : Cond.code xX5_sounds.1 xX5_sounds.2.1 xX5_sounds.2.2.1 xX5_sounds.2.2.2.1 ∈ zT := zT_of (i := 1522) rfl rfl
theorem pdX5_sounds : xX5_sounds.1.cls ≠ "java/lang/invoke/MethodHandle" ∧ xX5_sounds.1.cls ≠ "java/lang/invoke/VarHandle" ∧ (parseMethodDescriptor xX5_sounds.1.desc).map (fun d => d.parameters.length) = some 3 := by decide +kernel
theorem ivX5_sounds : Cond.instanceMethod xX5_sounds.1 ∈ zT ∧ Cond.selects xX5_sounds.1.cls xX5_sounds.1 xX5_sounds.1 ∈ zT := have h : zChk [1521, 61] [Cond.instanceMethod xX5_sounds.1, Cond.selects xX5_sounds.1.cls xX5_sounds.1 xX5_sounds.1] = true := by decide +kernel
  ⟨zChk_ok h _ (.head _), zChk_ok h _ (.tail _ (.head _))⟩
theorem lkX5_293 : zLk RX5 293 xX5_sounds 3 := zLk_of [1519, 76] (by decide +kernel) wcX5_sounds pdX5_sounds
set_option maxRecDepth 100000 in
theorem wcX5_statement : Cond.code xX5_statement.1 xX5_statement.2.1 xX5_statement.2.2.1 xX5_statement.2.2.2.1 ∈ zT := zT_of (i := 1303) rfl rfl
theorem pdX5_statement : xX5_statement.1.cls ≠ "java/lang/invoke/MethodHandle" ∧ xX5_statement.1.cls ≠ "java/lang/invoke/VarHandle" ∧ (parseMethodDescriptor xX5_statement.1.desc).map (fun d => d.parameters.length) = some 0 := by decide +kernel
theorem ivX5_statement : Cond.instanceMethod xX5_statement.1 ∈ zT ∧ Cond.selects xX5_statement.1.cls xX5_statement.1 xX5_statement.1 ∈ zT := have h : zChk [1302, 43] [Cond.instanceMethod xX5_statement.1, Cond.selects xX5_statement.1.cls xX5_statement.1 xX5_statement.1] = true := by decide +kernel
  ⟨zChk_ok h _ (.head _), zChk_ok h _ (.tail _ (.head _))⟩
theorem lkX5_216 : zLk RX5 216 xX5_statement 0 := zLk_of [1300, 76] (by decide +kernel) wcX5_statement pdX5_statement
set_option maxRecDepth 100000 in
theorem wcX5_status : Cond.code xX5_status.1 xX5_status.2.1 xX5_status.2.2.1 xX5_status.2.2.2.1 ∈ zT := zT_of (i := 1613) rfl rfl
theorem pdX5_status : xX5_status.1.cls ≠ "java/lang/invoke/MethodHandle" ∧ xX5_status.1.cls ≠ "java/lang/invoke/VarHandle" ∧ (parseMethodDescriptor xX5_status.1.desc).map (fun d => d.parameters.length) = some 1 := by decide +kernel
theorem ivX5_status : Cond.instanceMethod xX5_status.1 ∈ zT ∧ Cond.selects xX5_status.1.cls xX5_status.1 xX5_status.1 ∈ zT := have h : zChk [1611, 1612] [Cond.instanceMethod xX5_status.1, Cond.selects xX5_status.1.cls xX5_status.1 xX5_status.1] = true := by decide +kernel
  ⟨zChk_ok h _ (.head _), zChk_ok h _ (.tail _ (.head _))⟩
theorem lkL_280 : zLk RL 280 xX5_status 1 := zLk_of [1610, 76] (by decide +kernel) wcX5_status pdX5_status
set_option maxRecDepth 100000 in
theorem wcX5_sure : Cond.code xX5_sure.1 xX5_sure.2.1 xX5_sure.2.2.1 xX5_sure.2.2.2.1 ∈ zT := zT_of (i := 1567) rfl rfl
theorem pdX5_sure : xX5_sure.1.cls ≠ "java/lang/invoke/MethodHandle" ∧ xX5_sure.1.cls ≠ "java/lang/invoke/VarHandle" ∧ (parseMethodDescriptor xX5_sure.1.desc).map (fun d => d.parameters.length) = some 1 := by decide +kernel
theorem ivX5_sure : Cond.instanceMethod xX5_sure.1 ∈ zT ∧ Cond.selects xX5_sure.1.cls xX5_sure.1 xX5_sure.1 ∈ zT := have h : zChk [1565, 1566] [Cond.instanceMethod xX5_sure.1, Cond.selects xX5_sure.1.cls xX5_sure.1 xX5_sure.1] = true := by decide +kernel
  ⟨zChk_ok h _ (.head _), zChk_ok h _ (.tail _ (.head _))⟩
theorem lkL_180 : zLk RL 180 xX5_sure 1 := zLk_of [1564, 76] (by decide +kernel) wcX5_sure pdX5_sure
set_option maxRecDepth 100000 in
theorem wcX5_takeFrom : Cond.code xX5_takeFrom.1 xX5_takeFrom.2.1 xX5_takeFrom.2.2.1 xX5_takeFrom.2.2.2.1 ∈ zT := zT_of (i := 1282) rfl rfl
theorem pdX5_takeFrom : xX5_takeFrom.1.cls ≠ "java/lang/invoke/MethodHandle" ∧ xX5_takeFrom.1.cls ≠ "java/lang/invoke/VarHandle" ∧ (parseMethodDescriptor xX5_takeFrom.1.desc).map (fun d => d.parameters.length) = some 1 := by decide +kernel
theorem ivX5_takeFrom : Cond.instanceMethod xX5_takeFrom.1 ∈ zT ∧ Cond.selects xX5_takeFrom.1.cls xX5_takeFrom.1 xX5_takeFrom.1 ∈ zT := have h : zChk [1281, 40] [Cond.instanceMethod xX5_takeFrom.1, Cond.selects xX5_takeFrom.1.cls xX5_takeFrom.1 xX5_takeFrom.1] = true := by decide +kernel
  ⟨zChk_ok h _ (.head _), zChk_ok h _ (.tail _ (.head _))⟩
theorem lkX5_224 : zLk RX5 224 xX5_takeFrom 1 := zLk_of [1279, 76] (by decide +kernel) wcX5_takeFrom pdX5_takeFrom
set_option maxRecDepth 100000 in
theorem wcX5_taught : Cond.code xX5_taught.1 xX5_taught.2.1 xX5_taught.2.2.1 xX5_taught.2.2.2.1 ∈ zT := zT_of (i := 1502) rfl rfl
theorem pdX5_taught : xX5_taught.1.cls ≠ "java/lang/invoke/MethodHandle" ∧ xX5_taught.1.cls ≠ "java/lang/invoke/VarHandle" ∧ (parseMethodDescriptor xX5_taught.1.desc).map (fun d => d.parameters.length) = some 2 := by decide +kernel
theorem ivX5_taught : Cond.instanceMethod xX5_taught.1 ∈ zT ∧ Cond.selects xX5_taught.1.cls xX5_taught.1 xX5_taught.1 ∈ zT := have h : zChk [1500, 1501] [Cond.instanceMethod xX5_taught.1, Cond.selects xX5_taught.1.cls xX5_taught.1 xX5_taught.1] = true := by decide +kernel
  ⟨zChk_ok h _ (.head _), zChk_ok h _ (.tail _ (.head _))⟩
theorem lkL_236 : zLk RL 236 xX5_taught 2 := zLk_of [1499, 76] (by decide +kernel) wcX5_taught pdX5_taught
set_option maxRecDepth 100000 in
theorem wcX5_tell : Cond.code xX5_tell.1 xX5_tell.2.1 xX5_tell.2.2.1 xX5_tell.2.2.2.1 ∈ zT := zT_of (i := 1247) rfl rfl
theorem pdX5_tell : xX5_tell.1.cls ≠ "java/lang/invoke/MethodHandle" ∧ xX5_tell.1.cls ≠ "java/lang/invoke/VarHandle" ∧ (parseMethodDescriptor xX5_tell.1.desc).map (fun d => d.parameters.length) = some 3 := by decide +kernel
theorem ivX5_tell : Cond.instanceMethod xX5_tell.1 ∈ zT ∧ Cond.selects xX5_tell.1.cls xX5_tell.1 xX5_tell.1 ∈ zT := have h : zChk [1245, 1246] [Cond.instanceMethod xX5_tell.1, Cond.selects xX5_tell.1.cls xX5_tell.1 xX5_tell.1] = true := by decide +kernel
  ⟨zChk_ok h _ (.head _), zChk_ok h _ (.tail _ (.head _))⟩
theorem lkL_65 : zLk RL 65 xX5_tell 3 := zLk_of [1244, 76] (by decide +kernel) wcX5_tell pdX5_tell
set_option maxRecDepth 100000 in
theorem wcX5_tells : Cond.code xX5_tells.1 xX5_tells.2.1 xX5_tells.2.2.1 xX5_tells.2.2.2.1 ∈ zT := zT_of (i := 1314) rfl rfl
theorem pdX5_tells : xX5_tells.1.cls ≠ "java/lang/invoke/MethodHandle" ∧ xX5_tells.1.cls ≠ "java/lang/invoke/VarHandle" ∧ (parseMethodDescriptor xX5_tells.1.desc).map (fun d => d.parameters.length) = some 2 := by decide +kernel
theorem ivX5_tells : Cond.instanceMethod xX5_tells.1 ∈ zT ∧ Cond.selects xX5_tells.1.cls xX5_tells.1 xX5_tells.1 ∈ zT := have h : zChk [1313, 45] [Cond.instanceMethod xX5_tells.1, Cond.selects xX5_tells.1.cls xX5_tells.1 xX5_tells.1] = true := by decide +kernel
  ⟨zChk_ok h _ (.head _), zChk_ok h _ (.tail _ (.head _))⟩
theorem lkX5_188 : zLk RX5 188 xX5_tells 2 := zLk_of [1311, 76] (by decide +kernel) wcX5_tells pdX5_tells
set_option maxRecDepth 100000 in
theorem wcX5_tellsHouse : Cond.code xX5_tellsHouse.1 xX5_tellsHouse.2.1 xX5_tellsHouse.2.2.1 xX5_tellsHouse.2.2.2.1 ∈ zT := zT_of (i := 1334) rfl rfl
theorem pdX5_tellsHouse : xX5_tellsHouse.1.cls ≠ "java/lang/invoke/MethodHandle" ∧ xX5_tellsHouse.1.cls ≠ "java/lang/invoke/VarHandle" ∧ (parseMethodDescriptor xX5_tellsHouse.1.desc).map (fun d => d.parameters.length) = some 0 := by decide +kernel
theorem ivX5_tellsHouse : Cond.instanceMethod xX5_tellsHouse.1 ∈ zT ∧ Cond.selects xX5_tellsHouse.1.cls xX5_tellsHouse.1 xX5_tellsHouse.1 ∈ zT := have h : zChk [1333, 49] [Cond.instanceMethod xX5_tellsHouse.1, Cond.selects xX5_tellsHouse.1.cls xX5_tellsHouse.1 xX5_tellsHouse.1] = true := by decide +kernel
  ⟨zChk_ok h _ (.head _), zChk_ok h _ (.tail _ (.head _))⟩
theorem lkX5_205 : zLk RX5 205 xX5_tellsHouse 0 := zLk_of [1331, 76] (by decide +kernel) wcX5_tellsHouse pdX5_tellsHouse
set_option maxRecDepth 100000 in
theorem wcX5_tellsLetter : Cond.code xX5_tellsLetter.1 xX5_tellsLetter.2.1 xX5_tellsLetter.2.2.1 xX5_tellsLetter.2.2.2.1 ∈ zT := zT_of (i := 1327) rfl rfl
theorem pdX5_tellsLetter : xX5_tellsLetter.1.cls ≠ "java/lang/invoke/MethodHandle" ∧ xX5_tellsLetter.1.cls ≠ "java/lang/invoke/VarHandle" ∧ (parseMethodDescriptor xX5_tellsLetter.1.desc).map (fun d => d.parameters.length) = some 0 := by decide +kernel
theorem ivX5_tellsLetter : Cond.instanceMethod xX5_tellsLetter.1 ∈ zT ∧ Cond.selects xX5_tellsLetter.1.cls xX5_tellsLetter.1 xX5_tellsLetter.1 ∈ zT := have h : zChk [1326, 48] [Cond.instanceMethod xX5_tellsLetter.1, Cond.selects xX5_tellsLetter.1.cls xX5_tellsLetter.1 xX5_tellsLetter.1] = true := by decide +kernel
  ⟨zChk_ok h _ (.head _), zChk_ok h _ (.tail _ (.head _))⟩
theorem lkX5_201 : zLk RX5 201 xX5_tellsLetter 0 := zLk_of [1324, 76] (by decide +kernel) wcX5_tellsLetter pdX5_tellsLetter
set_option maxRecDepth 100000 in
theorem wcX5_thirst : Cond.code xX5_thirst.1 xX5_thirst.2.1 xX5_thirst.2.2.1 xX5_thirst.2.2.2.1 ∈ zT := zT_of (i := 1494) rfl rfl
theorem pdX5_thirst : xX5_thirst.1.cls ≠ "java/lang/invoke/MethodHandle" ∧ xX5_thirst.1.cls ≠ "java/lang/invoke/VarHandle" ∧ (parseMethodDescriptor xX5_thirst.1.desc).map (fun d => d.parameters.length) = some 1 := by decide +kernel
theorem ivX5_thirst : Cond.instanceMethod xX5_thirst.1 ∈ zT ∧ Cond.selects xX5_thirst.1.cls xX5_thirst.1 xX5_thirst.1 ∈ zT := have h : zChk [1492, 1493] [Cond.instanceMethod xX5_thirst.1, Cond.selects xX5_thirst.1.cls xX5_thirst.1 xX5_thirst.1] = true := by decide +kernel
  ⟨zChk_ok h _ (.head _), zChk_ok h _ (.tail _ (.head _))⟩
theorem lkL_232 : zLk RL 232 xX5_thirst 1 := zLk_of [1491, 76] (by decide +kernel) wcX5_thirst pdX5_thirst
set_option maxRecDepth 100000 in
theorem wcX5_tipsy : Cond.code xX5_tipsy.1 xX5_tipsy.2.1 xX5_tipsy.2.2.1 xX5_tipsy.2.2.2.1 ∈ zT := zT_of (i := 1217) rfl rfl
theorem pdX5_tipsy : xX5_tipsy.1.cls ≠ "java/lang/invoke/MethodHandle" ∧ xX5_tipsy.1.cls ≠ "java/lang/invoke/VarHandle" ∧ (parseMethodDescriptor xX5_tipsy.1.desc).map (fun d => d.parameters.length) = some 1 := by decide +kernel
theorem ivX5_tipsy : Cond.instanceMethod xX5_tipsy.1 ∈ zT ∧ Cond.selects xX5_tipsy.1.cls xX5_tipsy.1 xX5_tipsy.1 ∈ zT := have h : zChk [1216, 35] [Cond.instanceMethod xX5_tipsy.1, Cond.selects xX5_tipsy.1.cls xX5_tipsy.1 xX5_tipsy.1] = true := by decide +kernel
  ⟨zChk_ok h _ (.head _), zChk_ok h _ (.tail _ (.head _))⟩
theorem lkX5_233 : zLk RX5 233 xX5_tipsy 1 := zLk_of [1214, 76] (by decide +kernel) wcX5_tipsy pdX5_tipsy
set_option maxRecDepth 100000 in
theorem wcX5_turned : Cond.code xX5_turned.1 xX5_turned.2.1 xX5_turned.2.2.1 xX5_turned.2.2.2.1 ∈ zT := zT_of (i := 1478) rfl rfl
theorem pdX5_turned : xX5_turned.1.cls ≠ "java/lang/invoke/MethodHandle" ∧ xX5_turned.1.cls ≠ "java/lang/invoke/VarHandle" ∧ (parseMethodDescriptor xX5_turned.1.desc).map (fun d => d.parameters.length) = some 1 := by decide +kernel
theorem ivX5_turned : Cond.instanceMethod xX5_turned.1 ∈ zT ∧ Cond.selects xX5_turned.1.cls xX5_turned.1 xX5_turned.1 ∈ zT := have h : zChk [1476, 1477] [Cond.instanceMethod xX5_turned.1, Cond.selects xX5_turned.1.cls xX5_turned.1 xX5_turned.1] = true := by decide +kernel
  ⟨zChk_ok h _ (.head _), zChk_ok h _ (.tail _ (.head _))⟩
theorem lkL_184 : zLk RL 184 xX5_turned 1 := zLk_of [1475, 76] (by decide +kernel) wcX5_turned pdX5_turned
set_option maxRecDepth 100000 in
theorem wcX5_way : Cond.code xX5_way.1 xX5_way.2.1 xX5_way.2.2.1 xX5_way.2.2.2.1 ∈ zT := zT_of (i := 1263) rfl rfl
theorem pdX5_way : xX5_way.1.cls ≠ "java/lang/invoke/MethodHandle" ∧ xX5_way.1.cls ≠ "java/lang/invoke/VarHandle" ∧ (parseMethodDescriptor xX5_way.1.desc).map (fun d => d.parameters.length) = some 1 := by decide +kernel
theorem ivX5_way : Cond.instanceMethod xX5_way.1 ∈ zT ∧ Cond.selects xX5_way.1.cls xX5_way.1 xX5_way.1 ∈ zT := have h : zChk [1261, 1262] [Cond.instanceMethod xX5_way.1, Cond.selects xX5_way.1.cls xX5_way.1 xX5_way.1] = true := by decide +kernel
  ⟨zChk_ok h _ (.head _), zChk_ok h _ (.tail _ (.head _))⟩
theorem lkL_79 : zLk RL 79 xX5_way 1 := zLk_of [1260, 76] (by decide +kernel) wcX5_way pdX5_way
set_option maxRecDepth 100000 in
theorem wcX5_whoKnows : Cond.code xX5_whoKnows.1 xX5_whoKnows.2.1 xX5_whoKnows.2.2.1 xX5_whoKnows.2.2.2.1 ∈ zT := zT_of (i := 1362) rfl rfl
theorem pdX5_whoKnows : xX5_whoKnows.1.cls ≠ "java/lang/invoke/MethodHandle" ∧ xX5_whoKnows.1.cls ≠ "java/lang/invoke/VarHandle" ∧ (parseMethodDescriptor xX5_whoKnows.1.desc).map (fun d => d.parameters.length) = some 1 := by decide +kernel
theorem ivX5_whoKnows : Cond.instanceMethod xX5_whoKnows.1 ∈ zT ∧ Cond.selects xX5_whoKnows.1.cls xX5_whoKnows.1 xX5_whoKnows.1 ∈ zT := have h : zChk [1360, 1361] [Cond.instanceMethod xX5_whoKnows.1, Cond.selects xX5_whoKnows.1.cls xX5_whoKnows.1 xX5_whoKnows.1] = true := by decide +kernel
  ⟨zChk_ok h _ (.head _), zChk_ok h _ (.tail _ (.head _))⟩
theorem lkL_112 : zLk RL 112 xX5_whoKnows 1 := zLk_of [1359, 76] (by decide +kernel) wcX5_whoKnows pdX5_whoKnows
set_option maxRecDepth 100000 in
theorem wcX5_widest : Cond.code xX5_widest.1 xX5_widest.2.1 xX5_widest.2.2.1 xX5_widest.2.2.2.1 ∈ zT := zT_of (i := 1454) rfl rfl
theorem pdX5_widest : xX5_widest.1.cls ≠ "java/lang/invoke/MethodHandle" ∧ xX5_widest.1.cls ≠ "java/lang/invoke/VarHandle" ∧ (parseMethodDescriptor xX5_widest.1.desc).map (fun d => d.parameters.length) = some 2 := by decide +kernel
theorem ivX5_widest : Cond.instanceMethod xX5_widest.1 ∈ zT ∧ Cond.selects xX5_widest.1.cls xX5_widest.1 xX5_widest.1 ∈ zT := have h : zChk [1452, 1453] [Cond.instanceMethod xX5_widest.1, Cond.selects xX5_widest.1.cls xX5_widest.1 xX5_widest.1] = true := by decide +kernel
  ⟨zChk_ok h _ (.head _), zChk_ok h _ (.tail _ (.head _))⟩
theorem lkL_196 : zLk RL 196 xX5_widest 2 := zLk_of [1451, 76] (by decide +kernel) wcX5_widest pdX5_widest
set_option maxRecDepth 100000 in
theorem wcX5_winds : Cond.code xX5_winds.1 xX5_winds.2.1 xX5_winds.2.2.1 xX5_winds.2.2.2.1 ∈ zT := zT_of (i := 1538) rfl rfl
theorem pdX5_winds : xX5_winds.1.cls ≠ "java/lang/invoke/MethodHandle" ∧ xX5_winds.1.cls ≠ "java/lang/invoke/VarHandle" ∧ (parseMethodDescriptor xX5_winds.1.desc).map (fun d => d.parameters.length) = some 3 := by decide +kernel
theorem ivX5_winds : Cond.instanceMethod xX5_winds.1 ∈ zT ∧ Cond.selects xX5_winds.1.cls xX5_winds.1 xX5_winds.1 ∈ zT := have h : zChk [1536, 1537] [Cond.instanceMethod xX5_winds.1, Cond.selects xX5_winds.1.cls xX5_winds.1 xX5_winds.1] = true := by decide +kernel
  ⟨zChk_ok h _ (.head _), zChk_ok h _ (.tail _ (.head _))⟩
theorem lkL_164 : zLk RL 164 xX5_winds 3 := zLk_of [1535, 76] (by decide +kernel) wcX5_winds pdX5_winds
set_option maxRecDepth 100000 in
theorem wcX5_wipe : Cond.code xX5_wipe.1 xX5_wipe.2.1 xX5_wipe.2.2.1 xX5_wipe.2.2.2.1 ∈ zT := zT_of (i := 1272) rfl rfl
theorem pdX5_wipe : xX5_wipe.1.cls ≠ "java/lang/invoke/MethodHandle" ∧ xX5_wipe.1.cls ≠ "java/lang/invoke/VarHandle" ∧ (parseMethodDescriptor xX5_wipe.1.desc).map (fun d => d.parameters.length) = some 0 := by decide +kernel
theorem ivX5_wipe : Cond.instanceMethod xX5_wipe.1 ∈ zT ∧ Cond.selects xX5_wipe.1.cls xX5_wipe.1 xX5_wipe.1 ∈ zT := have h : zChk [1270, 1271] [Cond.instanceMethod xX5_wipe.1, Cond.selects xX5_wipe.1.cls xX5_wipe.1 xX5_wipe.1] = true := by decide +kernel
  ⟨zChk_ok h _ (.head _), zChk_ok h _ (.tail _ (.head _))⟩
theorem lkL_88 : zLk RL 88 xX5_wipe 0 := zLk_of [1269, 76] (by decide +kernel) wcX5_wipe pdX5_wipe
set_option maxRecDepth 100000 in
theorem wcX5_wise : Cond.code xX5_wise.1 xX5_wise.2.1 xX5_wise.2.2.1 xX5_wise.2.2.2.1 ∈ zT := zT_of (i := 1427) rfl rfl
theorem pdX5_wise : xX5_wise.1.cls ≠ "java/lang/invoke/MethodHandle" ∧ xX5_wise.1.cls ≠ "java/lang/invoke/VarHandle" ∧ (parseMethodDescriptor xX5_wise.1.desc).map (fun d => d.parameters.length) = some 0 := by decide +kernel
theorem ivX5_wise : Cond.instanceMethod xX5_wise.1 ∈ zT ∧ Cond.selects xX5_wise.1.cls xX5_wise.1 xX5_wise.1 ∈ zT := have h : zChk [1425, 1426] [Cond.instanceMethod xX5_wise.1, Cond.selects xX5_wise.1.cls xX5_wise.1 xX5_wise.1] = true := by decide +kernel
  ⟨zChk_ok h _ (.head _), zChk_ok h _ (.tail _ (.head _))⟩
theorem lkL_200 : zLk RL 200 xX5_wise 0 := zLk_of [1424, 76] (by decide +kernel) wcX5_wise pdX5_wise
set_option maxRecDepth 100000 in
theorem wcX5_words : Cond.code xX5_words.1 xX5_words.2.1 xX5_words.2.2.1 xX5_words.2.2.2.1 ∈ zT := zT_of (i := 1382) rfl rfl
theorem pdX5_words : xX5_words.1.cls ≠ "java/lang/invoke/MethodHandle" ∧ xX5_words.1.cls ≠ "java/lang/invoke/VarHandle" ∧ (parseMethodDescriptor xX5_words.1.desc).map (fun d => d.parameters.length) = some 1 := by decide +kernel
theorem ivX5_words : Cond.instanceMethod xX5_words.1 ∈ zT ∧ Cond.selects xX5_words.1.cls xX5_words.1 xX5_words.1 ∈ zT := have h : zChk [1380, 1381] [Cond.instanceMethod xX5_words.1, Cond.selects xX5_words.1.cls xX5_words.1 xX5_words.1] = true := by decide +kernel
  ⟨zChk_ok h _ (.head _), zChk_ok h _ (.tail _ (.head _))⟩
theorem lkL_128 : zLk RL 128 xX5_words 1 := zLk_of [1379, 76] (by decide +kernel) wcX5_words pdX5_words
set_option maxRecDepth 100000 in
theorem wcX5_wordsAt : Cond.code xX5_wordsAt.1 xX5_wordsAt.2.1 xX5_wordsAt.2.2.1 xX5_wordsAt.2.2.2.1 ∈ zT := zT_of (i := 1386) rfl rfl
theorem pdX5_wordsAt : xX5_wordsAt.1.cls ≠ "java/lang/invoke/MethodHandle" ∧ xX5_wordsAt.1.cls ≠ "java/lang/invoke/VarHandle" ∧ (parseMethodDescriptor xX5_wordsAt.1.desc).map (fun d => d.parameters.length) = some 1 := by decide +kernel
theorem ivX5_wordsAt : Cond.instanceMethod xX5_wordsAt.1 ∈ zT ∧ Cond.selects xX5_wordsAt.1.cls xX5_wordsAt.1 xX5_wordsAt.1 ∈ zT := have h : zChk [1385, 54] [Cond.instanceMethod xX5_wordsAt.1, Cond.selects xX5_wordsAt.1.cls xX5_wordsAt.1 xX5_wordsAt.1] = true := by decide +kernel
  ⟨zChk_ok h _ (.head _), zChk_ok h _ (.tail _ (.head _))⟩
theorem lkX5_257 : zLk RX5 257 xX5_wordsAt 1 := zLk_of [1383, 76] (by decide +kernel) wcX5_wordsAt pdX5_wordsAt
set_option maxRecDepth 100000 in
theorem wcX5_worstAt : Cond.code xX5_worstAt.1 xX5_worstAt.2.1 xX5_worstAt.2.2.1 xX5_worstAt.2.2.2.1 ∈ zT := zT_of (i := 1534) rfl rfl
theorem pdX5_worstAt : xX5_worstAt.1.cls ≠ "java/lang/invoke/MethodHandle" ∧ xX5_worstAt.1.cls ≠ "java/lang/invoke/VarHandle" ∧ (parseMethodDescriptor xX5_worstAt.1.desc).map (fun d => d.parameters.length) = some 2 := by decide +kernel
theorem ivX5_worstAt : Cond.instanceMethod xX5_worstAt.1 ∈ zT ∧ Cond.selects xX5_worstAt.1.cls xX5_worstAt.1 xX5_worstAt.1 ∈ zT := have h : zChk [1533, 62] [Cond.instanceMethod xX5_worstAt.1, Cond.selects xX5_worstAt.1.cls xX5_worstAt.1 xX5_worstAt.1] = true := by decide +kernel
  ⟨zChk_ok h _ (.head _), zChk_ok h _ (.tail _ (.head _))⟩
theorem lkX5_304 : zLk RX5 304 xX5_worstAt 2 := zLk_of [1531, 76] (by decide +kernel) wcX5_worstAt pdX5_worstAt
set_option maxRecDepth 100000 in
theorem wcX5_wrong : Cond.code xX5_wrong.1 xX5_wrong.2.1 xX5_wrong.2.2.1 xX5_wrong.2.2.2.1 ∈ zT := zT_of (i := 1322) rfl rfl
theorem pdX5_wrong : xX5_wrong.1.cls ≠ "java/lang/invoke/MethodHandle" ∧ xX5_wrong.1.cls ≠ "java/lang/invoke/VarHandle" ∧ (parseMethodDescriptor xX5_wrong.1.desc).map (fun d => d.parameters.length) = some 0 := by decide +kernel
theorem ivX5_wrong : Cond.instanceMethod xX5_wrong.1 ∈ zT ∧ Cond.selects xX5_wrong.1.cls xX5_wrong.1 xX5_wrong.1 ∈ zT := have h : zChk [1321, 47] [Cond.instanceMethod xX5_wrong.1, Cond.selects xX5_wrong.1.cls xX5_wrong.1 xX5_wrong.1] = true := by decide +kernel
  ⟨zChk_ok h _ (.head _), zChk_ok h _ (.tail _ (.head _))⟩
theorem lkX5_177 : zLk RX5 177 xX5_wrong 0 := zLk_of [1319, 76] (by decide +kernel) wcX5_wrong pdX5_wrong
theorem flX4_10 : zFl RX4 10 4 0 true := ⟨(RX4, TX4, 7), rfl, by decide, zChk_ok (ps := [236]) (ws := [Cond.fieldLink RX4 10 "ReadOutAlongTheWay" "now" "LReadOutAlongTheWay$Lane;"]) (by decide +kernel) _ (.head _), rfl, rfl⟩
theorem flX4_16 : zFl RX4 16 4 1 true := ⟨(RX4, TX4, 7), rfl, by decide, zChk_ok (ps := [237]) (ws := [Cond.fieldLink RX4 16 "ReadOutAlongTheWay" "kept" "LReadOutAlongTheWay$Lane;"]) (by decide +kernel) _ (.head _), rfl, rfl⟩
theorem flX4_22 : zFl RX4 22 4 2 true := ⟨(RX4, TX4, 7), rfl, by decide, zChk_ok (ps := [238]) (ws := [Cond.fieldLink RX4 22 "ReadOutAlongTheWay" "guess" "LReadOutAlongTheWay$Guess;"]) (by decide +kernel) _ (.head _), rfl, rfl⟩
theorem flX4_28 : zFl RX4 28 4 3 true := ⟨(RX4, TX4, 7), rfl, by decide, zChk_ok (ps := [239]) (ws := [Cond.fieldLink RX4 28 "ReadOutAlongTheWay" "shelves" "[LReadOutAlongTheWay$Shelf;"]) (by decide +kernel) _ (.head _), rfl, rfl⟩
theorem flX4_36 : zFl RX4 36 4 4 true := ⟨(RX4, TX4, 7), rfl, by decide, zChk_ok (ps := [240]) (ws := [Cond.fieldLink RX4 36 "ReadOutAlongTheWay" "tape" "LReadOutAlongTheWay$Tape;"]) (by decide +kernel) _ (.head _), rfl, rfl⟩
theorem flX4_40 : zFl RX4 40 4 5 true := ⟨(RX4, TX4, 7), rfl, by decide, zChk_ok (ps := [241]) (ws := [Cond.fieldLink RX4 40 "ReadOutAlongTheWay" "refusals" "[I"]) (by decide +kernel) _ (.head _), rfl, rfl⟩
theorem flX4_44 : zFl RX4 44 4 6 false := ⟨(RX4, TX4, 7), rfl, by decide, zChk_ok (ps := [242]) (ws := [Cond.fieldLink RX4 44 "ReadOutAlongTheWay" "isKept" "Z"]) (by decide +kernel) _ (.head _), rfl, rfl⟩
theorem flX4_81 : zFl RX4 81 2 0 false := ⟨(RX2, TX2, 3), rfl, by decide, zChk_ok (ps := [198]) (ws := [Cond.fieldLink RX4 81 "ReadOutAlongTheWay$Shelf" "held" "I"]) (by decide +kernel) _ (.head _), rfl, rfl⟩
theorem flX4_89 : zFl RX4 89 2 2 true := ⟨(RX2, TX2, 3), rfl, by decide, zChk_ok (ps := [201]) (ws := [Cond.fieldLink RX4 89 "ReadOutAlongTheWay$Shelf" "elements" "[J"]) (by decide +kernel) _ (.head _), rfl, rfl⟩
theorem flX4_116 : zFl RX4 116 1 10 true := ⟨(RX1, TX1, 14), rfl, by decide, zChk_ok (ps := [130]) (ws := [Cond.fieldLink RX4 116 "ReadOutAlongTheWay$Lane" "kind" "[I"]) (by decide +kernel) _ (.head _), rfl, rfl⟩
theorem flX4_122 : zFl RX4 122 1 11 true := ⟨(RX1, TX1, 14), rfl, by decide, zChk_ok (ps := [132]) (ws := [Cond.fieldLink RX4 122 "ReadOutAlongTheWay$Lane" "a" "[I"]) (by decide +kernel) _ (.head _), rfl, rfl⟩
theorem flX4_129 : zFl RX4 129 1 0 false := ⟨(RX1, TX1, 14), rfl, by decide, zChk_ok (ps := [100]) (ws := [Cond.fieldLink RX4 129 "ReadOutAlongTheWay$Lane" "houses" "I"]) (by decide +kernel) _ (.head _), rfl, rfl⟩
theorem flX4_142 : zFl RX4 142 1 12 true := ⟨(RX1, TX1, 14), rfl, by decide, zChk_ok (ps := [136]) (ws := [Cond.fieldLink RX4 142 "ReadOutAlongTheWay$Lane" "to" "[I"]) (by decide +kernel) _ (.head _), rfl, rfl⟩
theorem flX4_145 : zFl RX4 145 1 13 true := ⟨(RX1, TX1, 14), rfl, by decide, zChk_ok (ps := [139]) (ws := [Cond.fieldLink RX4 145 "ReadOutAlongTheWay$Lane" "length" "[I"]) (by decide +kernel) _ (.head _), rfl, rfl⟩
theorem flX4_148 : zFl RX4 148 1 1 true := ⟨(RX1, TX1, 14), rfl, by decide, zChk_ok (ps := [104]) (ws := [Cond.fieldLink RX4 148 "ReadOutAlongTheWay$Lane" "wind" "[I"]) (by decide +kernel) _ (.head _), rfl, rfl⟩
theorem flX4_151 : zFl RX4 151 1 2 true := ⟨(RX1, TX1, 14), rfl, by decide, zChk_ok (ps := [109]) (ws := [Cond.fieldLink RX4 151 "ReadOutAlongTheWay$Lane" "drink" "[I"]) (by decide +kernel) _ (.head _), rfl, rfl⟩
theorem flX4_154 : zFl RX4 154 1 3 true := ⟨(RX1, TX1, 14), rfl, by decide, zChk_ok (ps := [111]) (ws := [Cond.fieldLink RX4 154 "ReadOutAlongTheWay$Lane" "codes" "[I"]) (by decide +kernel) _ (.head _), rfl, rfl⟩
theorem flX4_160 : zFl RX4 160 1 5 false := ⟨(RX1, TX1, 14), rfl, by decide, zChk_ok (ps := [116]) (ws := [Cond.fieldLink RX4 160 "ReadOutAlongTheWay$Lane" "cold" "I"]) (by decide +kernel) _ (.head _), rfl, rfl⟩
theorem flX4_163 : zFl RX4 163 1 6 false := ⟨(RX1, TX1, 14), rfl, by decide, zChk_ok (ps := [120]) (ws := [Cond.fieldLink RX4 163 "ReadOutAlongTheWay$Lane" "back" "Z"]) (by decide +kernel) _ (.head _), rfl, rfl⟩
theorem flX4_188 : zFl RX4 188 0 0 true := ⟨(RX0, TX0, 3), rfl, by decide, zChk_ok (ps := [179]) (ws := [Cond.fieldLink RX4 188 "ReadOutAlongTheWay$Guess" "lane" "LReadOutAlongTheWay$Lane;"]) (by decide +kernel) _ (.head _), rfl, rfl⟩
theorem flX4_195 : zFl RX4 195 1 4 true := ⟨(RX1, TX1, 14), rfl, by decide, zChk_ok (ps := [113]) (ws := [Cond.fieldLink RX4 195 "ReadOutAlongTheWay$Lane" "ears" "[I"]) (by decide +kernel) _ (.head _), rfl, rfl⟩
theorem flX4_272 : zFl RX4 272 1 9 false := ⟨(RX1, TX1, 14), rfl, by decide, zChk_ok (ps := [127]) (ws := [Cond.fieldLink RX4 272 "ReadOutAlongTheWay$Lane" "letters" "I"]) (by decide +kernel) _ (.head _), rfl, rfl⟩
theorem flX4_360 : zFl RX4 360 1 8 false := ⟨(RX1, TX1, 14), rfl, by decide, zChk_ok (ps := [125]) (ws := [Cond.fieldLink RX4 360 "ReadOutAlongTheWay$Lane" "seed" "I"]) (by decide +kernel) _ (.head _), rfl, rfl⟩
theorem flX4_366 : zFl RX4 366 1 7 false := ⟨(RX1, TX1, 14), rfl, by decide, zChk_ok (ps := [123]) (ws := [Cond.fieldLink RX4 366 "ReadOutAlongTheWay$Lane" "days" "I"]) (by decide +kernel) _ (.head _), rfl, rfl⟩
theorem fsX4_375 : Cond.fieldLink RX4 375 "ReadOutAlongTheWay" "UNDER" "[I" ∈ zT := zChk_ok (ps := [356]) (ws := [Cond.fieldLink RX4 375 "ReadOutAlongTheWay" "UNDER" "[I"]) (by decide +kernel) _ (.head _)
theorem flX0_12 : zFl RX0 12 0 0 true := ⟨(RX0, TX0, 3), rfl, by decide, zChk_ok (ps := [178]) (ws := [Cond.fieldLink RX0 12 "ReadOutAlongTheWay$Guess" "lane" "LReadOutAlongTheWay$Lane;"]) (by decide +kernel) _ (.head _), rfl, rfl⟩
theorem flX0_18 : zFl RX0 18 0 1 true := ⟨(RX0, TX0, 3), rfl, by decide, zChk_ok (ps := [180]) (ws := [Cond.fieldLink RX0 18 "ReadOutAlongTheWay$Guess" "marked" "[Z"]) (by decide +kernel) _ (.head _), rfl, rfl⟩
theorem flX0_22 : zFl RX0 22 0 2 true := ⟨(RX0, TX0, 3), rfl, by decide, zChk_ok (ps := [181]) (ws := [Cond.fieldLink RX0 22 "ReadOutAlongTheWay$Guess" "tally" "[I"]) (by decide +kernel) _ (.head _), rfl, rfl⟩
theorem flX0_34 : zFl RX0 34 1 0 false := ⟨(RX1, TX1, 14), rfl, by decide, zChk_ok (ps := [99]) (ws := [Cond.fieldLink RX0 34 "ReadOutAlongTheWay$Lane" "houses" "I"]) (by decide +kernel) _ (.head _), rfl, rfl⟩
theorem flX0_38 : zFl RX0 38 1 12 true := ⟨(RX1, TX1, 14), rfl, by decide, zChk_ok (ps := [135]) (ws := [Cond.fieldLink RX0 38 "ReadOutAlongTheWay$Lane" "to" "[I"]) (by decide +kernel) _ (.head _), rfl, rfl⟩
theorem flX0_53 : zFl RX0 53 1 2 true := ⟨(RX1, TX1, 14), rfl, by decide, zChk_ok (ps := [107]) (ws := [Cond.fieldLink RX0 53 "ReadOutAlongTheWay$Lane" "drink" "[I"]) (by decide +kernel) _ (.head _), rfl, rfl⟩
theorem flX0_56 : zFl RX0 56 1 10 true := ⟨(RX1, TX1, 14), rfl, by decide, zChk_ok (ps := [129]) (ws := [Cond.fieldLink RX0 56 "ReadOutAlongTheWay$Lane" "kind" "[I"]) (by decide +kernel) _ (.head _), rfl, rfl⟩
theorem flX0_59 : zFl RX0 59 1 13 true := ⟨(RX1, TX1, 14), rfl, by decide, zChk_ok (ps := [138]) (ws := [Cond.fieldLink RX0 59 "ReadOutAlongTheWay$Lane" "length" "[I"]) (by decide +kernel) _ (.head _), rfl, rfl⟩
theorem flX0_69 : zFl RX0 69 2 2 true := ⟨(RX2, TX2, 3), rfl, by decide, zChk_ok (ps := [202]) (ws := [Cond.fieldLink RX0 69 "ReadOutAlongTheWay$Shelf" "elements" "[J"]) (by decide +kernel) _ (.head _), rfl, rfl⟩
theorem flX0_91 : zFl RX0 91 1 1 true := ⟨(RX1, TX1, 14), rfl, by decide, zChk_ok (ps := [105]) (ws := [Cond.fieldLink RX0 91 "ReadOutAlongTheWay$Lane" "wind" "[I"]) (by decide +kernel) _ (.head _), rfl, rfl⟩
theorem flX0_108 : zFl RX0 108 1 6 false := ⟨(RX1, TX1, 14), rfl, by decide, zChk_ok (ps := [121]) (ws := [Cond.fieldLink RX0 108 "ReadOutAlongTheWay$Lane" "back" "Z"]) (by decide +kernel) _ (.head _), rfl, rfl⟩
theorem flX0_117 : zFl RX0 117 1 5 false := ⟨(RX1, TX1, 14), rfl, by decide, zChk_ok (ps := [117]) (ws := [Cond.fieldLink RX0 117 "ReadOutAlongTheWay$Lane" "cold" "I"]) (by decide +kernel) _ (.head _), rfl, rfl⟩
theorem flX0_130 : zFl RX0 130 1 11 true := ⟨(RX1, TX1, 14), rfl, by decide, zChk_ok (ps := [133]) (ws := [Cond.fieldLink RX0 130 "ReadOutAlongTheWay$Lane" "a" "[I"]) (by decide +kernel) _ (.head _), rfl, rfl⟩
theorem flX1_9 : zFl RX1 9 1 0 false := ⟨(RX1, TX1, 14), rfl, by decide, zChk_ok (ps := [98]) (ws := [Cond.fieldLink RX1 9 "ReadOutAlongTheWay$Lane" "houses" "I"]) (by decide +kernel) _ (.head _), rfl, rfl⟩
theorem flX1_15 : zFl RX1 15 1 1 true := ⟨(RX1, TX1, 14), rfl, by decide, zChk_ok (ps := [102]) (ws := [Cond.fieldLink RX1 15 "ReadOutAlongTheWay$Lane" "wind" "[I"]) (by decide +kernel) _ (.head _), rfl, rfl⟩
theorem flX1_19 : zFl RX1 19 1 2 true := ⟨(RX1, TX1, 14), rfl, by decide, zChk_ok (ps := [106]) (ws := [Cond.fieldLink RX1 19 "ReadOutAlongTheWay$Lane" "drink" "[I"]) (by decide +kernel) _ (.head _), rfl, rfl⟩
theorem flX1_22 : zFl RX1 22 1 3 true := ⟨(RX1, TX1, 14), rfl, by decide, zChk_ok (ps := [110]) (ws := [Cond.fieldLink RX1 22 "ReadOutAlongTheWay$Lane" "codes" "[I"]) (by decide +kernel) _ (.head _), rfl, rfl⟩
theorem flX1_25 : zFl RX1 25 1 4 true := ⟨(RX1, TX1, 14), rfl, by decide, zChk_ok (ps := [112]) (ws := [Cond.fieldLink RX1 25 "ReadOutAlongTheWay$Lane" "ears" "[I"]) (by decide +kernel) _ (.head _), rfl, rfl⟩
theorem flX1_28 : zFl RX1 28 1 5 false := ⟨(RX1, TX1, 14), rfl, by decide, zChk_ok (ps := [114]) (ws := [Cond.fieldLink RX1 28 "ReadOutAlongTheWay$Lane" "cold" "I"]) (by decide +kernel) _ (.head _), rfl, rfl⟩
theorem flX1_31 : zFl RX1 31 1 6 false := ⟨(RX1, TX1, 14), rfl, by decide, zChk_ok (ps := [118]) (ws := [Cond.fieldLink RX1 31 "ReadOutAlongTheWay$Lane" "back" "Z"]) (by decide +kernel) _ (.head _), rfl, rfl⟩
theorem flX1_35 : zFl RX1 35 1 7 false := ⟨(RX1, TX1, 14), rfl, by decide, zChk_ok (ps := [122]) (ws := [Cond.fieldLink RX1 35 "ReadOutAlongTheWay$Lane" "days" "I"]) (by decide +kernel) _ (.head _), rfl, rfl⟩
theorem flX1_38 : zFl RX1 38 1 8 false := ⟨(RX1, TX1, 14), rfl, by decide, zChk_ok (ps := [124]) (ws := [Cond.fieldLink RX1 38 "ReadOutAlongTheWay$Lane" "seed" "I"]) (by decide +kernel) _ (.head _), rfl, rfl⟩
theorem flX1_41 : zFl RX1 41 1 9 false := ⟨(RX1, TX1, 14), rfl, by decide, zChk_ok (ps := [126]) (ws := [Cond.fieldLink RX1 41 "ReadOutAlongTheWay$Lane" "letters" "I"]) (by decide +kernel) _ (.head _), rfl, rfl⟩
theorem flX1_44 : zFl RX1 44 1 10 true := ⟨(RX1, TX1, 14), rfl, by decide, zChk_ok (ps := [128]) (ws := [Cond.fieldLink RX1 44 "ReadOutAlongTheWay$Lane" "kind" "[I"]) (by decide +kernel) _ (.head _), rfl, rfl⟩
theorem flX1_47 : zFl RX1 47 1 11 true := ⟨(RX1, TX1, 14), rfl, by decide, zChk_ok (ps := [131]) (ws := [Cond.fieldLink RX1 47 "ReadOutAlongTheWay$Lane" "a" "[I"]) (by decide +kernel) _ (.head _), rfl, rfl⟩
theorem flX1_50 : zFl RX1 50 1 12 true := ⟨(RX1, TX1, 14), rfl, by decide, zChk_ok (ps := [134]) (ws := [Cond.fieldLink RX1 50 "ReadOutAlongTheWay$Lane" "to" "[I"]) (by decide +kernel) _ (.head _), rfl, rfl⟩
theorem flX1_53 : zFl RX1 53 1 13 true := ⟨(RX1, TX1, 14), rfl, by decide, zChk_ok (ps := [137]) (ws := [Cond.fieldLink RX1 53 "ReadOutAlongTheWay$Lane" "length" "[I"]) (by decide +kernel) _ (.head _), rfl, rfl⟩
theorem flX2_9 : zFl RX2 9 2 0 false := ⟨(RX2, TX2, 3), rfl, by decide, zChk_ok (ps := [197]) (ws := [Cond.fieldLink RX2 9 "ReadOutAlongTheWay$Shelf" "held" "I"]) (by decide +kernel) _ (.head _), rfl, rfl⟩
theorem flX2_15 : zFl RX2 15 2 1 false := ⟨(RX2, TX2, 3), rfl, by decide, zChk_ok (ps := [199]) (ws := [Cond.fieldLink RX2 15 "ReadOutAlongTheWay$Shelf" "size" "I"]) (by decide +kernel) _ (.head _), rfl, rfl⟩
theorem flX2_18 : zFl RX2 18 2 2 true := ⟨(RX2, TX2, 3), rfl, by decide, zChk_ok (ps := [200]) (ws := [Cond.fieldLink RX2 18 "ReadOutAlongTheWay$Shelf" "elements" "[J"]) (by decide +kernel) _ (.head _), rfl, rfl⟩
theorem flX3_9 : zFl RX3 9 3 0 true := ⟨(RX3, TX3, 6), rfl, by decide, zChk_ok (ps := [217]) (ws := [Cond.fieldLink RX3 9 "ReadOutAlongTheWay$Tape" "bytes" "[I"]) (by decide +kernel) _ (.head _), rfl, rfl⟩
theorem flX3_15 : zFl RX3 15 3 1 false := ⟨(RX3, TX3, 6), rfl, by decide, zChk_ok (ps := [218]) (ws := [Cond.fieldLink RX3 15 "ReadOutAlongTheWay$Tape" "size" "I"]) (by decide +kernel) _ (.head _), rfl, rfl⟩
theorem flX3_19 : zFl RX3 19 3 2 false := ⟨(RX3, TX3, 6), rfl, by decide, zChk_ok (ps := [219]) (ws := [Cond.fieldLink RX3 19 "ReadOutAlongTheWay$Tape" "token" "I"]) (by decide +kernel) _ (.head _), rfl, rfl⟩
theorem flX3_22 : zFl RX3 22 3 3 false := ⟨(RX3, TX3, 6), rfl, by decide, zChk_ok (ps := [220]) (ws := [Cond.fieldLink RX3 22 "ReadOutAlongTheWay$Tape" "start" "I"]) (by decide +kernel) _ (.head _), rfl, rfl⟩
theorem flX3_25 : zFl RX3 25 3 4 false := ⟨(RX3, TX3, 6), rfl, by decide, zChk_ok (ps := [221]) (ws := [Cond.fieldLink RX3 25 "ReadOutAlongTheWay$Tape" "end" "I"]) (by decide +kernel) _ (.head _), rfl, rfl⟩
theorem flX3_28 : zFl RX3 28 3 5 false := ⟨(RX3, TX3, 6), rfl, by decide, zChk_ok (ps := [222]) (ws := [Cond.fieldLink RX3 28 "ReadOutAlongTheWay$Tape" "fault" "I"]) (by decide +kernel) _ (.head _), rfl, rfl⟩
theorem flX3_62 : zFl RX3 62 1 1 true := ⟨(RX1, TX1, 14), rfl, by decide, zChk_ok (ps := [103]) (ws := [Cond.fieldLink RX3 62 "ReadOutAlongTheWay$Lane" "wind" "[I"]) (by decide +kernel) _ (.head _), rfl, rfl⟩
theorem flX3_72 : zFl RX3 72 1 2 true := ⟨(RX1, TX1, 14), rfl, by decide, zChk_ok (ps := [108]) (ws := [Cond.fieldLink RX3 72 "ReadOutAlongTheWay$Lane" "drink" "[I"]) (by decide +kernel) _ (.head _), rfl, rfl⟩
theorem flX3_86 : zFl RX3 86 1 6 false := ⟨(RX1, TX1, 14), rfl, by decide, zChk_ok (ps := [119]) (ws := [Cond.fieldLink RX3 86 "ReadOutAlongTheWay$Lane" "back" "Z"]) (by decide +kernel) _ (.head _), rfl, rfl⟩
theorem flX3_91 : zFl RX3 91 1 0 false := ⟨(RX1, TX1, 14), rfl, by decide, zChk_ok (ps := [101]) (ws := [Cond.fieldLink RX3 91 "ReadOutAlongTheWay$Lane" "houses" "I"]) (by decide +kernel) _ (.head _), rfl, rfl⟩
theorem flX3_106 : zFl RX3 106 1 5 false := ⟨(RX1, TX1, 14), rfl, by decide, zChk_ok (ps := [115]) (ws := [Cond.fieldLink RX3 106 "ReadOutAlongTheWay$Lane" "cold" "I"]) (by decide +kernel) _ (.head _), rfl, rfl⟩
theorem flX5_7 : zFl RX5 7 5 0 true := ⟨(RX5, TX5, 41), rfl, by decide, zChk_ok (ps := [1025]) (ws := [Cond.fieldLink RX5 7 "ReadOutAlongTheWayModel" "shelf" "[I"]) (by decide +kernel) _ (.head _), rfl, rfl⟩
theorem flX5_13 : zFl RX5 13 5 1 true := ⟨(RX5, TX5, 41), rfl, by decide, zChk_ok (ps := [1026]) (ws := [Cond.fieldLink RX5 13 "ReadOutAlongTheWayModel" "rowSort" "[I"]) (by decide +kernel) _ (.head _), rfl, rfl⟩
theorem flX5_16 : zFl RX5 16 5 2 true := ⟨(RX5, TX5, 41), rfl, by decide, zChk_ok (ps := [1027]) (ws := [Cond.fieldLink RX5 16 "ReadOutAlongTheWayModel" "rowSize" "[I"]) (by decide +kernel) _ (.head _), rfl, rfl⟩
theorem flX5_21 : zFl RX5 21 5 3 true := ⟨(RX5, TX5, 41), rfl, by decide, zChk_ok (ps := [1028]) (ws := [Cond.fieldLink RX5 21 "ReadOutAlongTheWayModel" "rows" "[[J"]) (by decide +kernel) _ (.head _), rfl, rfl⟩
theorem flX5_24 : zFl RX5 24 5 4 true := ⟨(RX5, TX5, 41), rfl, by decide, zChk_ok (ps := [1029]) (ws := [Cond.fieldLink RX5 24 "ReadOutAlongTheWayModel" "moved" "[J"]) (by decide +kernel) _ (.head _), rfl, rfl⟩
theorem flX5_28 : zFl RX5 28 5 5 true := ⟨(RX5, TX5, 41), rfl, by decide, zChk_ok (ps := [1030]) (ws := [Cond.fieldLink RX5 28 "ReadOutAlongTheWayModel" "shown" "[I"]) (by decide +kernel) _ (.head _), rfl, rfl⟩
theorem flX5_31 : zFl RX5 31 5 6 true := ⟨(RX5, TX5, 41), rfl, by decide, zChk_ok (ps := [1031]) (ws := [Cond.fieldLink RX5 31 "ReadOutAlongTheWayModel" "tape" "[I"]) (by decide +kernel) _ (.head _), rfl, rfl⟩
theorem flX5_34 : zFl RX5 34 5 8 true := ⟨(RX5, TX5, 41), rfl, by decide, zChk_ok (ps := [1033]) (ws := [Cond.fieldLink RX5 34 "ReadOutAlongTheWayModel" "refused" "[I"]) (by decide +kernel) _ (.head _), rfl, rfl⟩
theorem flX5_37 : zFl RX5 37 5 9 false := ⟨(RX5, TX5, 41), rfl, by decide, zChk_ok (ps := [1034]) (ws := [Cond.fieldLink RX5 37 "ReadOutAlongTheWayModel" "houses" "I"]) (by decide +kernel) _ (.head _), rfl, rfl⟩
theorem flX5_41 : zFl RX5 41 5 10 true := ⟨(RX5, TX5, 41), rfl, by decide, zChk_ok (ps := [1035]) (ws := [Cond.fieldLink RX5 41 "ReadOutAlongTheWayModel" "wind" "[I"]) (by decide +kernel) _ (.head _), rfl, rfl⟩
theorem flX5_44 : zFl RX5 44 5 11 true := ⟨(RX5, TX5, 41), rfl, by decide, zChk_ok (ps := [1036]) (ws := [Cond.fieldLink RX5 44 "ReadOutAlongTheWayModel" "drink" "[I"]) (by decide +kernel) _ (.head _), rfl, rfl⟩
theorem flX5_47 : zFl RX5 47 5 12 true := ⟨(RX5, TX5, 41), rfl, by decide, zChk_ok (ps := [1037]) (ws := [Cond.fieldLink RX5 47 "ReadOutAlongTheWayModel" "codes" "[I"]) (by decide +kernel) _ (.head _), rfl, rfl⟩
theorem flX5_50 : zFl RX5 50 5 13 true := ⟨(RX5, TX5, 41), rfl, by decide, zChk_ok (ps := [1038]) (ws := [Cond.fieldLink RX5 50 "ReadOutAlongTheWayModel" "ears" "[I"]) (by decide +kernel) _ (.head _), rfl, rfl⟩
theorem flX5_53 : zFl RX5 53 5 18 true := ⟨(RX5, TX5, 41), rfl, by decide, zChk_ok (ps := [1043]) (ws := [Cond.fieldLink RX5 53 "ReadOutAlongTheWayModel" "kind" "[I"]) (by decide +kernel) _ (.head _), rfl, rfl⟩
theorem flX5_56 : zFl RX5 56 5 19 true := ⟨(RX5, TX5, 41), rfl, by decide, zChk_ok (ps := [1044]) (ws := [Cond.fieldLink RX5 56 "ReadOutAlongTheWayModel" "by" "[I"]) (by decide +kernel) _ (.head _), rfl, rfl⟩
theorem flX5_59 : zFl RX5 59 5 20 true := ⟨(RX5, TX5, 41), rfl, by decide, zChk_ok (ps := [1045]) (ws := [Cond.fieldLink RX5 59 "ReadOutAlongTheWayModel" "to" "[I"]) (by decide +kernel) _ (.head _), rfl, rfl⟩
theorem flX5_62 : zFl RX5 62 5 21 true := ⟨(RX5, TX5, 41), rfl, by decide, zChk_ok (ps := [1046]) (ws := [Cond.fieldLink RX5 62 "ReadOutAlongTheWayModel" "length" "[I"]) (by decide +kernel) _ (.head _), rfl, rfl⟩
theorem flX5_65 : zFl RX5 65 5 22 false := ⟨(RX5, TX5, 41), rfl, by decide, zChk_ok (ps := [1047]) (ws := [Cond.fieldLink RX5 65 "ReadOutAlongTheWayModel" "seed" "I"]) (by decide +kernel) _ (.head _), rfl, rfl⟩
theorem flX5_68 : zFl RX5 68 5 30 true := ⟨(RX5, TX5, 41), rfl, by decide, zChk_ok (ps := [1055]) (ws := [Cond.fieldLink RX5 68 "ReadOutAlongTheWayModel" "told" "[I"]) (by decide +kernel) _ (.head _), rfl, rfl⟩
theorem flX5_71 : zFl RX5 71 5 34 true := ⟨(RX5, TX5, 41), rfl, by decide, zChk_ok (ps := [1059]) (ws := [Cond.fieldLink RX5 71 "ReadOutAlongTheWayModel" "poured" "[I"]) (by decide +kernel) _ (.head _), rfl, rfl⟩
theorem flX5_74 : zFl RX5 74 5 35 true := ⟨(RX5, TX5, 41), rfl, by decide, zChk_ok (ps := [1060]) (ws := [Cond.fieldLink RX5 74 "ReadOutAlongTheWayModel" "may" "[Z"]) (by decide +kernel) _ (.head _), rfl, rfl⟩
theorem flX5_78 : zFl RX5 78 5 39 true := ⟨(RX5, TX5, 41), rfl, by decide, zChk_ok (ps := [1064]) (ws := [Cond.fieldLink RX5 78 "ReadOutAlongTheWayModel" "heardBy" "[I"]) (by decide +kernel) _ (.head _), rfl, rfl⟩
theorem flX5_85 : zFl RX5 85 5 17 false := ⟨(RX5, TX5, 41), rfl, by decide, zChk_ok (ps := [1042]) (ws := [Cond.fieldLink RX5 85 "ReadOutAlongTheWayModel" "letters" "I"]) (by decide +kernel) _ (.head _), rfl, rfl⟩
theorem flX5_135 : zFl RX5 135 5 14 false := ⟨(RX5, TX5, 41), rfl, by decide, zChk_ok (ps := [1039]) (ws := [Cond.fieldLink RX5 135 "ReadOutAlongTheWayModel" "cold" "I"]) (by decide +kernel) _ (.head _), rfl, rfl⟩
theorem flX5_138 : zFl RX5 138 5 15 false := ⟨(RX5, TX5, 41), rfl, by decide, zChk_ok (ps := [1040]) (ws := [Cond.fieldLink RX5 138 "ReadOutAlongTheWayModel" "backward" "Z"]) (by decide +kernel) _ (.head _), rfl, rfl⟩
theorem flX5_144 : zFl RX5 144 5 7 false := ⟨(RX5, TX5, 41), rfl, by decide, zChk_ok (ps := [1032]) (ws := [Cond.fieldLink RX5 144 "ReadOutAlongTheWayModel" "tapeSize" "I"]) (by decide +kernel) _ (.head _), rfl, rfl⟩
theorem flX5_147 : zFl RX5 147 5 25 false := ⟨(RX5, TX5, 41), rfl, by decide, zChk_ok (ps := [1050]) (ws := [Cond.fieldLink RX5 147 "ReadOutAlongTheWayModel" "at" "I"]) (by decide +kernel) _ (.head _), rfl, rfl⟩
theorem flX5_150 : zFl RX5 150 5 27 false := ⟨(RX5, TX5, 41), rfl, by decide, zChk_ok (ps := [1052]) (ws := [Cond.fieldLink RX5 150 "ReadOutAlongTheWayModel" "from" "I"]) (by decide +kernel) _ (.head _), rfl, rfl⟩
theorem flX5_153 : zFl RX5 153 5 28 false := ⟨(RX5, TX5, 41), rfl, by decide, zChk_ok (ps := [1053]) (ws := [Cond.fieldLink RX5 153 "ReadOutAlongTheWayModel" "figures" "I"]) (by decide +kernel) _ (.head _), rfl, rfl⟩
theorem flX5_156 : zFl RX5 156 5 26 false := ⟨(RX5, TX5, 41), rfl, by decide, zChk_ok (ps := [1051]) (ws := [Cond.fieldLink RX5 156 "ReadOutAlongTheWayModel" "token" "I"]) (by decide +kernel) _ (.head _), rfl, rfl⟩
theorem flX5_165 : zFl RX5 165 5 29 false := ⟨(RX5, TX5, 41), rfl, by decide, zChk_ok (ps := [1054]) (ws := [Cond.fieldLink RX5 165 "ReadOutAlongTheWayModel" "fault" "I"]) (by decide +kernel) _ (.head _), rfl, rfl⟩
theorem flX5_213 : zFl RX5 213 5 31 false := ⟨(RX5, TX5, 41), rfl, by decide, zChk_ok (ps := [1056]) (ws := [Cond.fieldLink RX5 213 "ReadOutAlongTheWayModel" "statements" "I"]) (by decide +kernel) _ (.head _), rfl, rfl⟩
theorem flX5_219 : zFl RX5 219 5 24 false := ⟨(RX5, TX5, 41), rfl, by decide, zChk_ok (ps := [1049]) (ws := [Cond.fieldLink RX5 219 "ReadOutAlongTheWayModel" "tried" "LReadOutAlongTheWayModel;"]) (by decide +kernel) _ (.head _), rfl, rfl⟩
theorem flX5_271 : zFl RX5 271 5 32 false := ⟨(RX5, TX5, 41), rfl, by decide, zChk_ok (ps := [1057]) (ws := [Cond.fieldLink RX5 271 "ReadOutAlongTheWayModel" "hushMore" "I"]) (by decide +kernel) _ (.head _), rfl, rfl⟩
theorem flX5_274 : zFl RX5 274 5 33 false := ⟨(RX5, TX5, 41), rfl, by decide, zChk_ok (ps := [1058]) (ws := [Cond.fieldLink RX5 274 "ReadOutAlongTheWayModel" "hushWhere" "I"]) (by decide +kernel) _ (.head _), rfl, rfl⟩
theorem flX5_284 : zFl RX5 284 5 36 false := ⟨(RX5, TX5, 41), rfl, by decide, zChk_ok (ps := [1061]) (ws := [Cond.fieldLink RX5 284 "ReadOutAlongTheWayModel" "mayBe" "I"]) (by decide +kernel) _ (.head _), rfl, rfl⟩
theorem flX5_287 : zFl RX5 287 5 37 false := ⟨(RX5, TX5, 41), rfl, by decide, zChk_ok (ps := [1062]) (ws := [Cond.fieldLink RX5 287 "ReadOutAlongTheWayModel" "least" "I"]) (by decide +kernel) _ (.head _), rfl, rfl⟩
theorem flX5_290 : zFl RX5 290 5 38 false := ⟨(RX5, TX5, 41), rfl, by decide, zChk_ok (ps := [1063]) (ws := [Cond.fieldLink RX5 290 "ReadOutAlongTheWayModel" "greatest" "I"]) (by decide +kernel) _ (.head _), rfl, rfl⟩
theorem flX5_307 : zFl RX5 307 5 40 false := ⟨(RX5, TX5, 41), rfl, by decide, zChk_ok (ps := [1065]) (ws := [Cond.fieldLink RX5 307 "ReadOutAlongTheWayModel" "answered" "I"]) (by decide +kernel) _ (.head _), rfl, rfl⟩
theorem flX5_322 : zFl RX5 322 5 16 false := ⟨(RX5, TX5, 41), rfl, by decide, zChk_ok (ps := [1041]) (ws := [Cond.fieldLink RX5 322 "ReadOutAlongTheWayModel" "gone" "I"]) (by decide +kernel) _ (.head _), rfl, rfl⟩
theorem flX5_344 : zFl RX5 344 5 23 false := ⟨(RX5, TX5, 41), rfl, by decide, zChk_ok (ps := [1048]) (ws := [Cond.fieldLink RX5 344 "ReadOutAlongTheWayModel" "kept" "LReadOutAlongTheWayModel;"]) (by decide +kernel) _ (.head _), rfl, rfl⟩
theorem fsJ0_9 : Cond.fieldLink RJ0 9 "java/lang/String" "value" "[B" ∈ zT := zChk_ok (ps := [1616]) (ws := [Cond.fieldLink RJ0 9 "java/lang/String" "value" "[B"]) (by decide +kernel) _ (.head _)
theorem fsJ0_15 : Cond.fieldLink RJ0 15 "java/lang/String" "coder" "B" ∈ zT := zChk_ok (ps := [1617]) (ws := [Cond.fieldLink RJ0 15 "java/lang/String" "coder" "B"]) (by decide +kernel) _ (.head _)
theorem fsJ0_38 : Cond.fieldLink RJ0 38 "java/lang/String" "COMPACT_STRINGS" "Z" ∈ zT := zChk_ok (ps := [507]) (ws := [Cond.fieldLink RJ0 38 "java/lang/String" "COMPACT_STRINGS" "Z"]) (by decide +kernel) _ (.head _)
theorem fsJ0_1053 : Cond.fieldLink RJ0 1053 "jdk/internal/util/Preconditions" "SIOOBE_FORMATTER" "Ljava/util/function/BiFunction;" ∈ zT := zChk_ok (ps := [523]) (ws := [Cond.fieldLink RJ0 1053 "jdk/internal/util/Preconditions" "SIOOBE_FORMATTER" "Ljava/util/function/BiFunction;"]) (by decide +kernel) _ (.head _)
theorem fsJ2_44 : Cond.fieldLink RJ2 44 "java/lang/StringUTF16" "$assertionsDisabled" "Z" ∈ zT := zChk_ok (ps := [541]) (ws := [Cond.fieldLink RJ2 44 "java/lang/StringUTF16" "$assertionsDisabled" "Z"]) (by decide +kernel) _ (.head _)
theorem fsJ2_59 : Cond.fieldLink RJ2 59 "java/lang/StringUTF16" "HI_BYTE_SHIFT" "I" ∈ zT := zChk_ok (ps := [543]) (ws := [Cond.fieldLink RJ2 59 "java/lang/StringUTF16" "HI_BYTE_SHIFT" "I"]) (by decide +kernel) _ (.head _)
theorem fsJ2_63 : Cond.fieldLink RJ2 63 "java/lang/StringUTF16" "LO_BYTE_SHIFT" "I" ∈ zT := zChk_ok (ps := [545]) (ws := [Cond.fieldLink RJ2 63 "java/lang/StringUTF16" "LO_BYTE_SHIFT" "I"]) (by decide +kernel) _ (.head _)
theorem kcX4_296 : Cond.constant RX4 296 100000 ∈ zT := zChk_ok (ps := [815]) (ws := [Cond.constant RX4 296 100000]) (by decide +kernel) _ (.head _)
theorem kcX1_119 : Cond.constant RX1 119 1103515245 ∈ zT := zChk_ok (ps := [987]) (ws := [Cond.constant RX1 119 1103515245]) (by decide +kernel) _ (.head _)
theorem kcX5_318 : Cond.constant RX5 318 100000 ∈ zT := zChk_ok (ps := [1559]) (ws := [Cond.constant RX5 318 100000]) (by decide +kernel) _ (.head _)
theorem kcX5_334 : Cond.constant RX5 334 1103515245 ∈ zT := zChk_ok (ps := [1597]) (ws := [Cond.constant RX5 334 1103515245]) (by decide +kernel) _ (.head _)
theorem kcJ6_265 : Cond.constant RJ6 265 1431655765 ∈ zT := zChk_ok (ps := [836]) (ws := [Cond.constant RJ6 265 1431655765]) (by decide +kernel) _ (.head _)
theorem kcJ6_266 : Cond.constant RJ6 266 858993459 ∈ zT := zChk_ok (ps := [837]) (ws := [Cond.constant RJ6 266 858993459]) (by decide +kernel) _ (.head _)
theorem kcJ6_267 : Cond.constant RJ6 267 252645135 ∈ zT := zChk_ok (ps := [838]) (ws := [Cond.constant RJ6 267 252645135]) (by decide +kernel) _ (.head _)
theorem klL_18 : Cond.constantLong RL 18 4294967295 ∈ zT := zChk_ok (ps := [1615]) (ws := [Cond.constantLong RL 18 4294967295]) (by decide +kernel) _ (.head _)
theorem klX5_88 : Cond.constantLong RX5 88 7 ∈ zT := zChk_ok (ps := [1153]) (ws := [Cond.constantLong RX5 88 7]) (by decide +kernel) _ (.head _)
theorem klX5_90 : Cond.constantLong RX5 90 4 ∈ zT := zChk_ok (ps := [1157]) (ws := [Cond.constantLong RX5 90 4]) (by decide +kernel) _ (.head _)
theorem klX5_92 : Cond.constantLong RX5 92 40 ∈ zT := zChk_ok (ps := [1158]) (ws := [Cond.constantLong RX5 92 40]) (by decide +kernel) _ (.head _)
theorem klX5_109 : Cond.constantLong RX5 109 5 ∈ zT := zChk_ok (ps := [1198]) (ws := [Cond.constantLong RX5 109 5]) (by decide +kernel) _ (.head _)
theorem klX5_119 : Cond.constantLong RX5 119 12 ∈ zT := zChk_ok (ps := [1226]) (ws := [Cond.constantLong RX5 119 12]) (by decide +kernel) _ (.head _)
theorem klX5_121 : Cond.constantLong RX5 121 9 ∈ zT := zChk_ok (ps := [1231]) (ws := [Cond.constantLong RX5 121 9]) (by decide +kernel) _ (.head _)
theorem klX5_142 : Cond.constantLong RX5 142 255 ∈ zT := zChk_ok (ps := [1268]) (ws := [Cond.constantLong RX5 142 255]) (by decide +kernel) _ (.head _)
theorem klX5_231 : Cond.constantLong RX5 231 3 ∈ zT := zChk_ok (ps := [1342]) (ws := [Cond.constantLong RX5 231 3]) (by decide +kernel) _ (.head _)
theorem klX5_260 : Cond.constantLong RX5 260 2 ∈ zT := zChk_ok (ps := [1423]) (ws := [Cond.constantLong RX5 260 2]) (by decide +kernel) _ (.head _)
theorem klX5_335 : Cond.constantLong RX5 335 60 ∈ zT := zChk_ok (ps := [1592]) (ws := [Cond.constantLong RX5 335 60]) (by decide +kernel) _ (.head _)
theorem klX5_347 : Cond.constantLong RX5 347 16 ∈ zT := zChk_ok (ps := [1614]) (ws := [Cond.constantLong RX5 347 16]) (by decide +kernel) _ (.head _)
end
section
abbrev Ln : Type := Nat → Nat → Int32
abbrev El : Type := Nat → Nat → Int64
def up2 (σ : Ln) (f j : Nat) (v : Int32) : Ln := fun a => if a = f then upd (σ f) j v else σ a
def upE (ε : El) (s j : Nat) (v : Int64) : El := fun a => if a = s then vp_updL (ε s) j v else ε a
/-- the heap is the same outside n cells from lo on -/
def Upd (h h1 : zH) (lo n : Nat) : Prop := ∀ a, (a < lo ∨ lo + n ≤ a) → h1 a = h a
theorem Upd.rf {h : zH} {lo n : Nat} : Upd h h lo n := fun _ _ => rfl
theorem Upd.tr {h0 h h1 : zH} {lo n lo1 n1 : Nat} (a : Upd h0 h lo n) (b : Upd h h1 lo1 n1) (c : lo ≤ lo1) (d : lo1 + n1 ≤ lo + n) : Upd h0 h1 lo n := fun q hq => (b q (by omega)).trans (a q hq)
theorem Upd.wd {h h1 : zH} {lo n lo1 n1 : Nat} (b : Upd h h1 lo1 n1) (c : lo ≤ lo1) (d : lo1 + n1 ≤ lo + n) : Upd h h1 lo n := fun q hq => b q (by omega)
theorem Upd.one {h : zH} {a : Nat} {e : zE} : Upd h (zup h a e) a 1 := fun q hq => zup_n (by omega)
section ZR6
variable {D : zD} {B : Nat} {X : zX} {cs ss : Nat} {Q : zQ} {pc : Nat} {L : List (Option Value)} {st : List Value} {h : zH} {sz : Nat}
theorem z_ialdN {a n j : Nat} {f : Nat → Int32} (hd : zdec X pc = .ok (.iaload, 1)) (ha : h a = some (zI n f)) (hj : j < n) (h31 : Nat.ble n 1000 = true) (kk : Z D B X cs ss Q (pc + 1) L (.int (f j) :: st) h sz) : Z D B X cs ss Q pc L (.int (nI j) :: .ref a :: st) h sz := by
  have h31 := Nat.le_of_ble_eq_true h31
  refine z_iald hd ha (vp_in_nI hj (by omega)) ?_
  rw [nI_clamp (by omega)]
  exact kk
theorem z_zaldN {a n j : Nat} {f : Nat → Int32} (hd : zdec X pc = .ok (.baload, 1)) (ha : h a = some (zBo n f)) (hj : j < n) (h31 : Nat.ble n 1000 = true) (kk : Z D B X cs ss Q (pc + 1) L (.int (f j) :: st) h sz) : Z D B X cs ss Q pc L (.int (nI j) :: .ref a :: st) h sz := by
  have h31 := Nat.le_of_ble_eq_true h31
  refine z_zald hd ha (vp_in_nI hj (by omega)) ?_
  rw [nI_clamp (by omega)]
  exact kk
theorem z_laldN {a n j : Nat} {f : Nat → Int64} (hd : zdec X pc = .ok (.laload, 1)) (ha : h a = some (zJ n f)) (hj : j < n) (h31 : Nat.ble n 1000 = true) (kk : Z D B X cs ss Q (pc + 1) L (.long (f j) :: st) h sz) : Z D B X cs ss Q pc L (.int (nI j) :: .ref a :: st) h sz := by
  have h31 := Nat.le_of_ble_eq_true h31
  refine z_lald hd ha (vp_in_nI hj (by omega)) ?_
  rw [nI_clamp (by omega)]
  exact kk
theorem z_aald3N {a n j b : Nat} {f : Nat → Option Nat} (hd : zdec X pc = .ok (.aaload, 1)) (ha : h a = some (zRf 3 n f)) (hj : j < n) (h31 : Nat.ble n 1000 = true) (hb : f j = some b) (kk : Z D B X cs ss Q (pc + 1) L (.ref b :: st) h sz) : Z D B X cs ss Q pc L (.int (nI j) :: .ref a :: st) h sz := by
  have h31 := Nat.le_of_ble_eq_true h31
  refine z_aald3 hd ha (vp_in_nI hj (by omega)) ?_
  rw [nI_clamp (by omega), hb]
  exact kk
theorem z_aald4N {a n j b : Nat} {f : Nat → Option Nat} (hd : zdec X pc = .ok (.aaload, 1)) (ha : h a = some (zRf 4 n f)) (hj : j < n) (h31 : Nat.ble n 1000 = true) (hb : f j = some b) (kk : Z D B X cs ss Q (pc + 1) L (.ref b :: st) h sz) : Z D B X cs ss Q pc L (.int (nI j) :: .ref a :: st) h sz := by
  have h31 := Nat.le_of_ble_eq_true h31
  refine z_aald4 hd ha (vp_in_nI hj (by omega)) ?_
  rw [nI_clamp (by omega), hb]
  exact kk
theorem zinc {i : Nat} : nI i + Int32.ofInt 1 = nI (i + 1) := nI_1 i
theorem zNar {x : Int32} (h : x = 0 ∨ x = 1) : narrow .boolean (.int x) = .int x ∧ fits .boolean (.int x) = true := by rcases h with rfl | rfl <;> decide
/-- the same arrays, said otherwise -/
theorem z_altI {a n : Nat} {f g : Nat → Int32} (ha : h a = some (zI n f)) (hfg : ∀ j, j < n → f j = g j) (kk : Z D B X cs ss Q pc L st (zup h a (zI n g)) sz) : Z D B X cs ss Q pc L st h sz := by
  intro p l e s m args below meth c H locs ls C hL hV hz hS
  refine kk p l e s m args below meth c H locs ls C hL (hV.set (e := zI n g) ?_ (fun _ _ => rfl)) hz hS
  have h1 := hV a _ ha
  show H[a]? = some (vp_cell _ _)
  rw [show H[a]? = some (vp_cell (D.2.2.1 0) (n, .inl f)) from h1, vp_cell_i, vp_cell_i]
  refine congrArg some ?_
  unfold arrV
  congr 2
  funext j
  show Value.int (f j.val) = Value.int (g j.val)
  rw [hfg j.val j.isLt]
end ZR6
/-! ===== Ln ===== -/
def fsLn (p : Nat) (σ : Ln) : List Value := [.int (σ 0 0), .ref (p + 1), .ref (p + 2), .ref (p + 3), .ref (p + 4), .int (σ 5 0), .int (σ 6 0), .int (σ 7 0), .int (σ 8 0), .int (σ 9 0), .ref (p + 5), .ref (p + 6), .ref (p + 7), .ref (p + 8)]
def LnAt (h : zH) (p : Nat) (σ : Ln) : Prop := h p = some (zO 1 (fsLn p σ)) ∧ h (p + 1) = some (zI 12 (σ 1)) ∧ h (p + 2) = some (zI 12 (σ 2)) ∧ h (p + 3) = some (zI 12 (σ 3)) ∧ h (p + 4) = some (zI 12 (σ 4)) ∧ h (p + 5) = some (zI 8 (σ 10)) ∧ h (p + 6) = some (zI 8 (σ 11)) ∧ h (p + 7) = some (zI 8 (σ 12)) ∧ h (p + 8) = some (zI 8 (σ 13))
theorem LnAt.fr {h h1 : zH} {p lo n : Nat} {σ : Ln} (H : LnAt h p σ) (hU : Upd h h1 lo n) (hd : lo + n ≤ p ∨ p + 9 ≤ lo) : LnAt h1 p σ := ⟨(hU _ (by omega)).trans H.1, (hU _ (by omega)).trans H.2.1, (hU _ (by omega)).trans H.2.2.1, (hU _ (by omega)).trans H.2.2.2.1, (hU _ (by omega)).trans H.2.2.2.2.1, (hU _ (by omega)).trans H.2.2.2.2.2.1, (hU _ (by omega)).trans H.2.2.2.2.2.2.1, (hU _ (by omega)).trans H.2.2.2.2.2.2.2.1, (hU _ (by omega)).trans H.2.2.2.2.2.2.2.2⟩
section ZULn
variable {D : zD} {B : Nat} {X : zX} {cs ss : Nat} {Q : zQ} {pc : Nat} {L : List (Option Value)} {st : List Value} {h : zH} {sz0 : Nat}
theorem LnAt.w0 {h : zH} {p : Nat} {v : Int32} {σ : Ln} (H : LnAt h p σ) : LnAt (zup h p (zO 1 ((fsLn p σ).set 0 (.int v)))) p (up2 σ 0 0 v) := ⟨zup_s, (zup_n (by omega)).trans H.2.1, (zup_n (by omega)).trans H.2.2.1, (zup_n (by omega)).trans H.2.2.2.1, (zup_n (by omega)).trans H.2.2.2.2.1, (zup_n (by omega)).trans H.2.2.2.2.2.1, (zup_n (by omega)).trans H.2.2.2.2.2.2.1, (zup_n (by omega)).trans H.2.2.2.2.2.2.2.1, (zup_n (by omega)).trans H.2.2.2.2.2.2.2.2⟩
theorem z_Ln_w0 {p : Nat} {v : Int32} {idx : Nat} {σ : Ln} (hd : zdec X pc = .ok (.putfield idx, 3)) (hf : zFl X.1.cls idx 1 0 false) (H : LnAt h p σ) (hB : B ≤ p) (kk : ∀ h1, LnAt h1 p (up2 σ 0 0 v) → Upd h h1 p 1 → Z D B X cs ss Q (pc + 3) L st h1 sz0) : Z D B X cs ss Q pc L (.int v :: .ref p :: st) h sz0 := z_putf hd hf H.1 hB rfl rfl (Nat.le_of_ble_eq_true rfl) (kk _ (LnAt.w0 H) Upd.one)
theorem LnAt.w5 {h : zH} {p : Nat} {v : Int32} {σ : Ln} (H : LnAt h p σ) : LnAt (zup h p (zO 1 ((fsLn p σ).set 5 (.int v)))) p (up2 σ 5 0 v) := ⟨zup_s, (zup_n (by omega)).trans H.2.1, (zup_n (by omega)).trans H.2.2.1, (zup_n (by omega)).trans H.2.2.2.1, (zup_n (by omega)).trans H.2.2.2.2.1, (zup_n (by omega)).trans H.2.2.2.2.2.1, (zup_n (by omega)).trans H.2.2.2.2.2.2.1, (zup_n (by omega)).trans H.2.2.2.2.2.2.2.1, (zup_n (by omega)).trans H.2.2.2.2.2.2.2.2⟩
theorem z_Ln_w5 {p : Nat} {v : Int32} {idx : Nat} {σ : Ln} (hd : zdec X pc = .ok (.putfield idx, 3)) (hf : zFl X.1.cls idx 1 5 false) (H : LnAt h p σ) (hB : B ≤ p) (kk : ∀ h1, LnAt h1 p (up2 σ 5 0 v) → Upd h h1 p 1 → Z D B X cs ss Q (pc + 3) L st h1 sz0) : Z D B X cs ss Q pc L (.int v :: .ref p :: st) h sz0 := z_putf hd hf H.1 hB rfl rfl (Nat.le_of_ble_eq_true rfl) (kk _ (LnAt.w5 H) Upd.one)
theorem LnAt.w6 {h : zH} {p : Nat} {v : Int32} {σ : Ln} (H : LnAt h p σ) : LnAt (zup h p (zO 1 ((fsLn p σ).set 6 (.int v)))) p (up2 σ 6 0 v) := ⟨zup_s, (zup_n (by omega)).trans H.2.1, (zup_n (by omega)).trans H.2.2.1, (zup_n (by omega)).trans H.2.2.2.1, (zup_n (by omega)).trans H.2.2.2.2.1, (zup_n (by omega)).trans H.2.2.2.2.2.1, (zup_n (by omega)).trans H.2.2.2.2.2.2.1, (zup_n (by omega)).trans H.2.2.2.2.2.2.2.1, (zup_n (by omega)).trans H.2.2.2.2.2.2.2.2⟩
theorem z_Ln_w6 {p : Nat} {v : Int32} {idx : Nat} {σ : Ln} (hd : zdec X pc = .ok (.putfield idx, 3)) (hf : zFl X.1.cls idx 1 6 false) (H : LnAt h p σ) (hB : B ≤ p) (hv : v = 0 ∨ v = 1) (kk : ∀ h1, LnAt h1 p (up2 σ 6 0 v) → Upd h h1 p 1 → Z D B X cs ss Q (pc + 3) L st h1 sz0) : Z D B X cs ss Q pc L (.int v :: .ref p :: st) h sz0 := z_putf hd hf H.1 hB (zNar hv).1 (zNar hv).2 (Nat.le_of_ble_eq_true rfl) (kk _ (LnAt.w6 H) Upd.one)
theorem LnAt.w7 {h : zH} {p : Nat} {v : Int32} {σ : Ln} (H : LnAt h p σ) : LnAt (zup h p (zO 1 ((fsLn p σ).set 7 (.int v)))) p (up2 σ 7 0 v) := ⟨zup_s, (zup_n (by omega)).trans H.2.1, (zup_n (by omega)).trans H.2.2.1, (zup_n (by omega)).trans H.2.2.2.1, (zup_n (by omega)).trans H.2.2.2.2.1, (zup_n (by omega)).trans H.2.2.2.2.2.1, (zup_n (by omega)).trans H.2.2.2.2.2.2.1, (zup_n (by omega)).trans H.2.2.2.2.2.2.2.1, (zup_n (by omega)).trans H.2.2.2.2.2.2.2.2⟩
theorem z_Ln_w7 {p : Nat} {v : Int32} {idx : Nat} {σ : Ln} (hd : zdec X pc = .ok (.putfield idx, 3)) (hf : zFl X.1.cls idx 1 7 false) (H : LnAt h p σ) (hB : B ≤ p) (kk : ∀ h1, LnAt h1 p (up2 σ 7 0 v) → Upd h h1 p 1 → Z D B X cs ss Q (pc + 3) L st h1 sz0) : Z D B X cs ss Q pc L (.int v :: .ref p :: st) h sz0 := z_putf hd hf H.1 hB rfl rfl (Nat.le_of_ble_eq_true rfl) (kk _ (LnAt.w7 H) Upd.one)
theorem LnAt.w8 {h : zH} {p : Nat} {v : Int32} {σ : Ln} (H : LnAt h p σ) : LnAt (zup h p (zO 1 ((fsLn p σ).set 8 (.int v)))) p (up2 σ 8 0 v) := ⟨zup_s, (zup_n (by omega)).trans H.2.1, (zup_n (by omega)).trans H.2.2.1, (zup_n (by omega)).trans H.2.2.2.1, (zup_n (by omega)).trans H.2.2.2.2.1, (zup_n (by omega)).trans H.2.2.2.2.2.1, (zup_n (by omega)).trans H.2.2.2.2.2.2.1, (zup_n (by omega)).trans H.2.2.2.2.2.2.2.1, (zup_n (by omega)).trans H.2.2.2.2.2.2.2.2⟩
theorem z_Ln_w8 {p : Nat} {v : Int32} {idx : Nat} {σ : Ln} (hd : zdec X pc = .ok (.putfield idx, 3)) (hf : zFl X.1.cls idx 1 8 false) (H : LnAt h p σ) (hB : B ≤ p) (kk : ∀ h1, LnAt h1 p (up2 σ 8 0 v) → Upd h h1 p 1 → Z D B X cs ss Q (pc + 3) L st h1 sz0) : Z D B X cs ss Q pc L (.int v :: .ref p :: st) h sz0 := z_putf hd hf H.1 hB rfl rfl (Nat.le_of_ble_eq_true rfl) (kk _ (LnAt.w8 H) Upd.one)
theorem LnAt.w9 {h : zH} {p : Nat} {v : Int32} {σ : Ln} (H : LnAt h p σ) : LnAt (zup h p (zO 1 ((fsLn p σ).set 9 (.int v)))) p (up2 σ 9 0 v) := ⟨zup_s, (zup_n (by omega)).trans H.2.1, (zup_n (by omega)).trans H.2.2.1, (zup_n (by omega)).trans H.2.2.2.1, (zup_n (by omega)).trans H.2.2.2.2.1, (zup_n (by omega)).trans H.2.2.2.2.2.1, (zup_n (by omega)).trans H.2.2.2.2.2.2.1, (zup_n (by omega)).trans H.2.2.2.2.2.2.2.1, (zup_n (by omega)).trans H.2.2.2.2.2.2.2.2⟩
theorem z_Ln_w9 {p : Nat} {v : Int32} {idx : Nat} {σ : Ln} (hd : zdec X pc = .ok (.putfield idx, 3)) (hf : zFl X.1.cls idx 1 9 false) (H : LnAt h p σ) (hB : B ≤ p) (kk : ∀ h1, LnAt h1 p (up2 σ 9 0 v) → Upd h h1 p 1 → Z D B X cs ss Q (pc + 3) L st h1 sz0) : Z D B X cs ss Q pc L (.int v :: .ref p :: st) h sz0 := z_putf hd hf H.1 hB rfl rfl (Nat.le_of_ble_eq_true rfl) (kk _ (LnAt.w9 H) Upd.one)
theorem gLn_0 {p : Nat} {σ : Ln} : (fsLn p σ)[0]? = some (.int (σ 0 0)) := rfl
theorem gLn_1 {p : Nat} {σ : Ln} : (fsLn p σ)[1]? = some (.ref (p + 1)) := rfl
theorem gLn_2 {p : Nat} {σ : Ln} : (fsLn p σ)[2]? = some (.ref (p + 2)) := rfl
theorem gLn_3 {p : Nat} {σ : Ln} : (fsLn p σ)[3]? = some (.ref (p + 3)) := rfl
theorem gLn_4 {p : Nat} {σ : Ln} : (fsLn p σ)[4]? = some (.ref (p + 4)) := rfl
theorem gLn_5 {p : Nat} {σ : Ln} : (fsLn p σ)[5]? = some (.int (σ 5 0)) := rfl
theorem gLn_6 {p : Nat} {σ : Ln} : (fsLn p σ)[6]? = some (.int (σ 6 0)) := rfl
theorem gLn_7 {p : Nat} {σ : Ln} : (fsLn p σ)[7]? = some (.int (σ 7 0)) := rfl
theorem gLn_8 {p : Nat} {σ : Ln} : (fsLn p σ)[8]? = some (.int (σ 8 0)) := rfl
theorem gLn_9 {p : Nat} {σ : Ln} : (fsLn p σ)[9]? = some (.int (σ 9 0)) := rfl
theorem gLn_10 {p : Nat} {σ : Ln} : (fsLn p σ)[10]? = some (.ref (p + 5)) := rfl
theorem gLn_11 {p : Nat} {σ : Ln} : (fsLn p σ)[11]? = some (.ref (p + 6)) := rfl
theorem gLn_12 {p : Nat} {σ : Ln} : (fsLn p σ)[12]? = some (.ref (p + 7)) := rfl
theorem gLn_13 {p : Nat} {σ : Ln} : (fsLn p σ)[13]? = some (.ref (p + 8)) := rfl
theorem LnAt.u1 {h : zH} {p j : Nat} {v : Int32} {σ : Ln} (H : LnAt h p σ) : LnAt (zup h (p + 1) (zI 12 (upd (σ 1) j v))) p (up2 σ 1 j v) := ⟨(zup_n (by omega)).trans H.1, zup_s, (zup_n (by omega)).trans H.2.2.1, (zup_n (by omega)).trans H.2.2.2.1, (zup_n (by omega)).trans H.2.2.2.2.1, (zup_n (by omega)).trans H.2.2.2.2.2.1, (zup_n (by omega)).trans H.2.2.2.2.2.2.1, (zup_n (by omega)).trans H.2.2.2.2.2.2.2.1, (zup_n (by omega)).trans H.2.2.2.2.2.2.2.2⟩
theorem z_Ln_s1 {p j : Nat} {v : Int32} {σ : Ln} (hd : zdec X pc = .ok (.iastore, 1)) (H : LnAt h p σ) (hB : B ≤ p) (hj : j < 12) (kk : ∀ h1, LnAt h1 p (up2 σ 1 j v) → Upd h h1 (p + 1) 1 → Z D B X cs ss Q (pc + 1) L st h1 sz0) : Z D B X cs ss Q pc L (.int v :: .int (nI j) :: .ref (p + 1) :: st) h sz0 := by
  refine z_iast hd H.2.1 (by omega) (vp_in_nI hj (by decide)) ?_
  rw [nI_clamp (by omega)]
  exact kk _ (LnAt.u1 H) Upd.one
theorem LnAt.u2 {h : zH} {p j : Nat} {v : Int32} {σ : Ln} (H : LnAt h p σ) : LnAt (zup h (p + 2) (zI 12 (upd (σ 2) j v))) p (up2 σ 2 j v) := ⟨(zup_n (by omega)).trans H.1, (zup_n (by omega)).trans H.2.1, zup_s, (zup_n (by omega)).trans H.2.2.2.1, (zup_n (by omega)).trans H.2.2.2.2.1, (zup_n (by omega)).trans H.2.2.2.2.2.1, (zup_n (by omega)).trans H.2.2.2.2.2.2.1, (zup_n (by omega)).trans H.2.2.2.2.2.2.2.1, (zup_n (by omega)).trans H.2.2.2.2.2.2.2.2⟩
theorem z_Ln_s2 {p j : Nat} {v : Int32} {σ : Ln} (hd : zdec X pc = .ok (.iastore, 1)) (H : LnAt h p σ) (hB : B ≤ p) (hj : j < 12) (kk : ∀ h1, LnAt h1 p (up2 σ 2 j v) → Upd h h1 (p + 2) 1 → Z D B X cs ss Q (pc + 1) L st h1 sz0) : Z D B X cs ss Q pc L (.int v :: .int (nI j) :: .ref (p + 2) :: st) h sz0 := by
  refine z_iast hd H.2.2.1 (by omega) (vp_in_nI hj (by decide)) ?_
  rw [nI_clamp (by omega)]
  exact kk _ (LnAt.u2 H) Upd.one
theorem LnAt.u3 {h : zH} {p j : Nat} {v : Int32} {σ : Ln} (H : LnAt h p σ) : LnAt (zup h (p + 3) (zI 12 (upd (σ 3) j v))) p (up2 σ 3 j v) := ⟨(zup_n (by omega)).trans H.1, (zup_n (by omega)).trans H.2.1, (zup_n (by omega)).trans H.2.2.1, zup_s, (zup_n (by omega)).trans H.2.2.2.2.1, (zup_n (by omega)).trans H.2.2.2.2.2.1, (zup_n (by omega)).trans H.2.2.2.2.2.2.1, (zup_n (by omega)).trans H.2.2.2.2.2.2.2.1, (zup_n (by omega)).trans H.2.2.2.2.2.2.2.2⟩
theorem z_Ln_s3 {p j : Nat} {v : Int32} {σ : Ln} (hd : zdec X pc = .ok (.iastore, 1)) (H : LnAt h p σ) (hB : B ≤ p) (hj : j < 12) (kk : ∀ h1, LnAt h1 p (up2 σ 3 j v) → Upd h h1 (p + 3) 1 → Z D B X cs ss Q (pc + 1) L st h1 sz0) : Z D B X cs ss Q pc L (.int v :: .int (nI j) :: .ref (p + 3) :: st) h sz0 := by
  refine z_iast hd H.2.2.2.1 (by omega) (vp_in_nI hj (by decide)) ?_
  rw [nI_clamp (by omega)]
  exact kk _ (LnAt.u3 H) Upd.one
theorem LnAt.u4 {h : zH} {p j : Nat} {v : Int32} {σ : Ln} (H : LnAt h p σ) : LnAt (zup h (p + 4) (zI 12 (upd (σ 4) j v))) p (up2 σ 4 j v) := ⟨(zup_n (by omega)).trans H.1, (zup_n (by omega)).trans H.2.1, (zup_n (by omega)).trans H.2.2.1, (zup_n (by omega)).trans H.2.2.2.1, zup_s, (zup_n (by omega)).trans H.2.2.2.2.2.1, (zup_n (by omega)).trans H.2.2.2.2.2.2.1, (zup_n (by omega)).trans H.2.2.2.2.2.2.2.1, (zup_n (by omega)).trans H.2.2.2.2.2.2.2.2⟩
theorem z_Ln_s4 {p j : Nat} {v : Int32} {σ : Ln} (hd : zdec X pc = .ok (.iastore, 1)) (H : LnAt h p σ) (hB : B ≤ p) (hj : j < 12) (kk : ∀ h1, LnAt h1 p (up2 σ 4 j v) → Upd h h1 (p + 4) 1 → Z D B X cs ss Q (pc + 1) L st h1 sz0) : Z D B X cs ss Q pc L (.int v :: .int (nI j) :: .ref (p + 4) :: st) h sz0 := by
  refine z_iast hd H.2.2.2.2.1 (by omega) (vp_in_nI hj (by decide)) ?_
  rw [nI_clamp (by omega)]
  exact kk _ (LnAt.u4 H) Upd.one
theorem LnAt.u5 {h : zH} {p j : Nat} {v : Int32} {σ : Ln} (H : LnAt h p σ) : LnAt (zup h (p + 5) (zI 8 (upd (σ 10) j v))) p (up2 σ 10 j v) := ⟨(zup_n (by omega)).trans H.1, (zup_n (by omega)).trans H.2.1, (zup_n (by omega)).trans H.2.2.1, (zup_n (by omega)).trans H.2.2.2.1, (zup_n (by omega)).trans H.2.2.2.2.1, zup_s, (zup_n (by omega)).trans H.2.2.2.2.2.2.1, (zup_n (by omega)).trans H.2.2.2.2.2.2.2.1, (zup_n (by omega)).trans H.2.2.2.2.2.2.2.2⟩
theorem z_Ln_s5 {p j : Nat} {v : Int32} {σ : Ln} (hd : zdec X pc = .ok (.iastore, 1)) (H : LnAt h p σ) (hB : B ≤ p) (hj : j < 8) (kk : ∀ h1, LnAt h1 p (up2 σ 10 j v) → Upd h h1 (p + 5) 1 → Z D B X cs ss Q (pc + 1) L st h1 sz0) : Z D B X cs ss Q pc L (.int v :: .int (nI j) :: .ref (p + 5) :: st) h sz0 := by
  refine z_iast hd H.2.2.2.2.2.1 (by omega) (vp_in_nI hj (by decide)) ?_
  rw [nI_clamp (by omega)]
  exact kk _ (LnAt.u5 H) Upd.one
theorem LnAt.u6 {h : zH} {p j : Nat} {v : Int32} {σ : Ln} (H : LnAt h p σ) : LnAt (zup h (p + 6) (zI 8 (upd (σ 11) j v))) p (up2 σ 11 j v) := ⟨(zup_n (by omega)).trans H.1, (zup_n (by omega)).trans H.2.1, (zup_n (by omega)).trans H.2.2.1, (zup_n (by omega)).trans H.2.2.2.1, (zup_n (by omega)).trans H.2.2.2.2.1, (zup_n (by omega)).trans H.2.2.2.2.2.1, zup_s, (zup_n (by omega)).trans H.2.2.2.2.2.2.2.1, (zup_n (by omega)).trans H.2.2.2.2.2.2.2.2⟩
theorem z_Ln_s6 {p j : Nat} {v : Int32} {σ : Ln} (hd : zdec X pc = .ok (.iastore, 1)) (H : LnAt h p σ) (hB : B ≤ p) (hj : j < 8) (kk : ∀ h1, LnAt h1 p (up2 σ 11 j v) → Upd h h1 (p + 6) 1 → Z D B X cs ss Q (pc + 1) L st h1 sz0) : Z D B X cs ss Q pc L (.int v :: .int (nI j) :: .ref (p + 6) :: st) h sz0 := by
  refine z_iast hd H.2.2.2.2.2.2.1 (by omega) (vp_in_nI hj (by decide)) ?_
  rw [nI_clamp (by omega)]
  exact kk _ (LnAt.u6 H) Upd.one
theorem LnAt.u7 {h : zH} {p j : Nat} {v : Int32} {σ : Ln} (H : LnAt h p σ) : LnAt (zup h (p + 7) (zI 8 (upd (σ 12) j v))) p (up2 σ 12 j v) := ⟨(zup_n (by omega)).trans H.1, (zup_n (by omega)).trans H.2.1, (zup_n (by omega)).trans H.2.2.1, (zup_n (by omega)).trans H.2.2.2.1, (zup_n (by omega)).trans H.2.2.2.2.1, (zup_n (by omega)).trans H.2.2.2.2.2.1, (zup_n (by omega)).trans H.2.2.2.2.2.2.1, zup_s, (zup_n (by omega)).trans H.2.2.2.2.2.2.2.2⟩
theorem z_Ln_s7 {p j : Nat} {v : Int32} {σ : Ln} (hd : zdec X pc = .ok (.iastore, 1)) (H : LnAt h p σ) (hB : B ≤ p) (hj : j < 8) (kk : ∀ h1, LnAt h1 p (up2 σ 12 j v) → Upd h h1 (p + 7) 1 → Z D B X cs ss Q (pc + 1) L st h1 sz0) : Z D B X cs ss Q pc L (.int v :: .int (nI j) :: .ref (p + 7) :: st) h sz0 := by
  refine z_iast hd H.2.2.2.2.2.2.2.1 (by omega) (vp_in_nI hj (by decide)) ?_
  rw [nI_clamp (by omega)]
  exact kk _ (LnAt.u7 H) Upd.one
theorem LnAt.u8 {h : zH} {p j : Nat} {v : Int32} {σ : Ln} (H : LnAt h p σ) : LnAt (zup h (p + 8) (zI 8 (upd (σ 13) j v))) p (up2 σ 13 j v) := ⟨(zup_n (by omega)).trans H.1, (zup_n (by omega)).trans H.2.1, (zup_n (by omega)).trans H.2.2.1, (zup_n (by omega)).trans H.2.2.2.1, (zup_n (by omega)).trans H.2.2.2.2.1, (zup_n (by omega)).trans H.2.2.2.2.2.1, (zup_n (by omega)).trans H.2.2.2.2.2.2.1, (zup_n (by omega)).trans H.2.2.2.2.2.2.2.1, zup_s⟩
theorem z_Ln_s8 {p j : Nat} {v : Int32} {σ : Ln} (hd : zdec X pc = .ok (.iastore, 1)) (H : LnAt h p σ) (hB : B ≤ p) (hj : j < 8) (kk : ∀ h1, LnAt h1 p (up2 σ 13 j v) → Upd h h1 (p + 8) 1 → Z D B X cs ss Q (pc + 1) L st h1 sz0) : Z D B X cs ss Q pc L (.int v :: .int (nI j) :: .ref (p + 8) :: st) h sz0 := by
  refine z_iast hd H.2.2.2.2.2.2.2.2 (by omega) (vp_in_nI hj (by decide)) ?_
  rw [nI_clamp (by omega)]
  exact kk _ (LnAt.u8 H) Upd.one
end ZULn
/-! ===== Gu ===== -/
def fsGu (p : Nat) (mk : Nat → Int32) (tl : Nat → Int32) : List Value := [.ref (p + 1), .ref (p + 10), .ref (p + 11)]
def GuAt (h : zH) (p : Nat) (mk : Nat → Int32) (tl : Nat → Int32) : Prop := h p = some (zO 0 (fsGu p mk tl)) ∧ h (p + 10) = some (zBo 41 (mk)) ∧ h (p + 11) = some (zI 41 (tl))
theorem GuAt.fr {h h1 : zH} {p lo n : Nat} {mk : Nat → Int32} {tl : Nat → Int32} (H : GuAt h p mk tl) (hU : Upd h h1 lo n) (hd : (lo + n ≤ p ∨ p < lo) ∧ (lo + n ≤ p + 10 ∨ p + 11 < lo)) : GuAt h1 p mk tl := ⟨(hU _ (by omega)).trans H.1, (hU _ (by omega)).trans H.2.1, (hU _ (by omega)).trans H.2.2⟩
section ZUGu
variable {D : zD} {B : Nat} {X : zX} {cs ss : Nat} {Q : zQ} {pc : Nat} {L : List (Option Value)} {st : List Value} {h : zH} {sz0 : Nat}
theorem gGu_0 {p : Nat} {mk : Nat → Int32} {tl : Nat → Int32} : (fsGu p mk tl)[0]? = some (.ref (p + 1)) := rfl
theorem gGu_1 {p : Nat} {mk : Nat → Int32} {tl : Nat → Int32} : (fsGu p mk tl)[1]? = some (.ref (p + 10)) := rfl
theorem gGu_2 {p : Nat} {mk : Nat → Int32} {tl : Nat → Int32} : (fsGu p mk tl)[2]? = some (.ref (p + 11)) := rfl
theorem GuAt.u10 {h : zH} {p j : Nat} {v : Int32} {mk : Nat → Int32} {tl : Nat → Int32} (H : GuAt h p mk tl) : GuAt (zup h (p + 10) (zBo 41 (upd (mk) j v))) p (upd mk j v) tl := ⟨(zup_n (by omega)).trans H.1, zup_s, (zup_n (by omega)).trans H.2.2⟩
theorem z_Gu_s10 {p j : Nat} {v : Int32} {mk : Nat → Int32} {tl : Nat → Int32} (hd : zdec X pc = .ok (.bastore, 1)) (H : GuAt h p mk tl) (hB : B ≤ p) (hj : j < 41) (hv : v = 0 ∨ v = 1) (kk : ∀ h1, GuAt h1 p (upd mk j v) tl → Upd h h1 (p + 10) 1 → Z D B X cs ss Q (pc + 1) L st h1 sz0) : Z D B X cs ss Q pc L (.int v :: .int (nI j) :: .ref (p + 10) :: st) h sz0 := by
  refine z_zast hd H.2.1 (by omega) (vp_in_nI hj (by decide)) ?_
  rw [nI_clamp (by omega)]
  rw [show vp_nar .boolean v = v by rcases hv with rfl | rfl <;> decide]
  exact kk _ (GuAt.u10 H) Upd.one
theorem GuAt.u11 {h : zH} {p j : Nat} {v : Int32} {mk : Nat → Int32} {tl : Nat → Int32} (H : GuAt h p mk tl) : GuAt (zup h (p + 11) (zI 41 (upd (tl) j v))) p mk (upd tl j v) := ⟨(zup_n (by omega)).trans H.1, (zup_n (by omega)).trans H.2.1, zup_s⟩
theorem z_Gu_s11 {p j : Nat} {v : Int32} {mk : Nat → Int32} {tl : Nat → Int32} (hd : zdec X pc = .ok (.iastore, 1)) (H : GuAt h p mk tl) (hB : B ≤ p) (hj : j < 41) (kk : ∀ h1, GuAt h1 p mk (upd tl j v) → Upd h h1 (p + 11) 1 → Z D B X cs ss Q (pc + 1) L st h1 sz0) : Z D B X cs ss Q pc L (.int v :: .int (nI j) :: .ref (p + 11) :: st) h sz0 := by
  refine z_iast hd H.2.2 (by omega) (vp_in_nI hj (by decide)) ?_
  rw [nI_clamp (by omega)]
  exact kk _ (GuAt.u11 H) Upd.one
end ZUGu
/-! ===== Sh ===== -/
def fsSh (p : Nat) (he : Int32) (sn : Int32) (el : Nat → Int64) : List Value := [.int he, .int sn, .ref (p + 1)]
def ShAt (h : zH) (p : Nat) (he : Int32) (sn : Int32) (el : Nat → Int64) : Prop := h p = some (zO 2 (fsSh p he sn el)) ∧ h (p + 1) = some (zJ 40 el)
theorem ShAt.fr {h h1 : zH} {p lo n : Nat} {he : Int32} {sn : Int32} {el : Nat → Int64} (H : ShAt h p he sn el) (hU : Upd h h1 lo n) (hd : lo + n ≤ p ∨ p + 2 ≤ lo) : ShAt h1 p he sn el := ⟨(hU _ (by omega)).trans H.1, (hU _ (by omega)).trans H.2⟩
section ZUSh
variable {D : zD} {B : Nat} {X : zX} {cs ss : Nat} {Q : zQ} {pc : Nat} {L : List (Option Value)} {st : List Value} {h : zH} {sz0 : Nat}
theorem ShAt.w0 {h : zH} {p : Nat} {v : Int32} {he : Int32} {sn : Int32} {el : Nat → Int64} (H : ShAt h p he sn el) : ShAt (zup h p (zO 2 ((fsSh p he sn el).set 0 (.int v)))) p v sn el := ⟨zup_s, (zup_n (by omega)).trans H.2⟩
theorem z_Sh_w0 {p : Nat} {v : Int32} {idx : Nat} {he : Int32} {sn : Int32} {el : Nat → Int64} (hd : zdec X pc = .ok (.putfield idx, 3)) (hf : zFl X.1.cls idx 2 0 false) (H : ShAt h p he sn el) (hB : B ≤ p) (kk : ∀ h1, ShAt h1 p v sn el → Upd h h1 p 1 → Z D B X cs ss Q (pc + 3) L st h1 sz0) : Z D B X cs ss Q pc L (.int v :: .ref p :: st) h sz0 := z_putf hd hf H.1 hB rfl rfl (Nat.le_of_ble_eq_true rfl) (kk _ (ShAt.w0 H) Upd.one)
theorem ShAt.w1 {h : zH} {p : Nat} {v : Int32} {he : Int32} {sn : Int32} {el : Nat → Int64} (H : ShAt h p he sn el) : ShAt (zup h p (zO 2 ((fsSh p he sn el).set 1 (.int v)))) p he v el := ⟨zup_s, (zup_n (by omega)).trans H.2⟩
theorem z_Sh_w1 {p : Nat} {v : Int32} {idx : Nat} {he : Int32} {sn : Int32} {el : Nat → Int64} (hd : zdec X pc = .ok (.putfield idx, 3)) (hf : zFl X.1.cls idx 2 1 false) (H : ShAt h p he sn el) (hB : B ≤ p) (kk : ∀ h1, ShAt h1 p he v el → Upd h h1 p 1 → Z D B X cs ss Q (pc + 3) L st h1 sz0) : Z D B X cs ss Q pc L (.int v :: .ref p :: st) h sz0 := z_putf hd hf H.1 hB rfl rfl (Nat.le_of_ble_eq_true rfl) (kk _ (ShAt.w1 H) Upd.one)
theorem gSh_0 {p : Nat} {he : Int32} {sn : Int32} {el : Nat → Int64} : (fsSh p he sn el)[0]? = some (.int he) := rfl
theorem gSh_1 {p : Nat} {he : Int32} {sn : Int32} {el : Nat → Int64} : (fsSh p he sn el)[1]? = some (.int sn) := rfl
theorem gSh_2 {p : Nat} {he : Int32} {sn : Int32} {el : Nat → Int64} : (fsSh p he sn el)[2]? = some (.ref (p + 1)) := rfl
theorem ShAt.u1 {h : zH} {p j : Nat} {v : Int64} {he : Int32} {sn : Int32} {el : Nat → Int64} (H : ShAt h p he sn el) : ShAt (zup h (p + 1) (zJ 40 (vp_updL el j v))) p he sn (vp_updL el j v) := ⟨(zup_n (by omega)).trans H.1, zup_s⟩
theorem z_Sh_s1 {p j : Nat} {v : Int64} {he : Int32} {sn : Int32} {el : Nat → Int64} (hd : zdec X pc = .ok (.lastore, 1)) (H : ShAt h p he sn el) (hB : B ≤ p) (hj : j < 40) (kk : ∀ h1, ShAt h1 p he sn (vp_updL el j v) → Upd h h1 (p + 1) 1 → Z D B X cs ss Q (pc + 1) L st h1 sz0) : Z D B X cs ss Q pc L (.long v :: .int (nI j) :: .ref (p + 1) :: st) h sz0 := by
  refine z_last hd H.2 (by omega) (vp_in_nI hj (by decide)) ?_
  rw [nI_clamp (by omega)]
  exact kk _ (ShAt.u1 H) Upd.one
end ZUSh
/-! ===== Ta ===== -/
def fsTa (p : Nat) (τ : Ln) (ω : Ln) : List Value := [.ref (p + 1), .int (τ 6 0), .int (ω 8 0), .int (ω 9 0), .int (ω 10 0), .int (ω 12 0)]
def TaAt (h : zH) (p : Nat) (τ : Ln) (ω : Ln) : Prop := h p = some (zO 3 (fsTa p τ ω)) ∧ h (p + 1) = some (zI 250 (τ 5))
theorem TaAt.fr {h h1 : zH} {p lo n : Nat} {τ : Ln} {ω : Ln} (H : TaAt h p τ ω) (hU : Upd h h1 lo n) (hd : lo + n ≤ p ∨ p + 2 ≤ lo) : TaAt h1 p τ ω := ⟨(hU _ (by omega)).trans H.1, (hU _ (by omega)).trans H.2⟩
section ZUTa
variable {D : zD} {B : Nat} {X : zX} {cs ss : Nat} {Q : zQ} {pc : Nat} {L : List (Option Value)} {st : List Value} {h : zH} {sz0 : Nat}
theorem TaAt.w1 {h : zH} {p : Nat} {v : Int32} {τ : Ln} {ω : Ln} (H : TaAt h p τ ω) : TaAt (zup h p (zO 3 ((fsTa p τ ω).set 1 (.int v)))) p (up2 τ 6 0 v) ω := ⟨zup_s, (zup_n (by omega)).trans H.2⟩
theorem z_Ta_w1 {p : Nat} {v : Int32} {idx : Nat} {τ : Ln} {ω : Ln} (hd : zdec X pc = .ok (.putfield idx, 3)) (hf : zFl X.1.cls idx 3 1 false) (H : TaAt h p τ ω) (hB : B ≤ p) (kk : ∀ h1, TaAt h1 p (up2 τ 6 0 v) ω → Upd h h1 p 1 → Z D B X cs ss Q (pc + 3) L st h1 sz0) : Z D B X cs ss Q pc L (.int v :: .ref p :: st) h sz0 := z_putf hd hf H.1 hB rfl rfl (Nat.le_of_ble_eq_true rfl) (kk _ (TaAt.w1 H) Upd.one)
theorem TaAt.w2 {h : zH} {p : Nat} {v : Int32} {τ : Ln} {ω : Ln} (H : TaAt h p τ ω) : TaAt (zup h p (zO 3 ((fsTa p τ ω).set 2 (.int v)))) p τ (up2 ω 8 0 v) := ⟨zup_s, (zup_n (by omega)).trans H.2⟩
theorem z_Ta_w2 {p : Nat} {v : Int32} {idx : Nat} {τ : Ln} {ω : Ln} (hd : zdec X pc = .ok (.putfield idx, 3)) (hf : zFl X.1.cls idx 3 2 false) (H : TaAt h p τ ω) (hB : B ≤ p) (kk : ∀ h1, TaAt h1 p τ (up2 ω 8 0 v) → Upd h h1 p 1 → Z D B X cs ss Q (pc + 3) L st h1 sz0) : Z D B X cs ss Q pc L (.int v :: .ref p :: st) h sz0 := z_putf hd hf H.1 hB rfl rfl (Nat.le_of_ble_eq_true rfl) (kk _ (TaAt.w2 H) Upd.one)
theorem TaAt.w3 {h : zH} {p : Nat} {v : Int32} {τ : Ln} {ω : Ln} (H : TaAt h p τ ω) : TaAt (zup h p (zO 3 ((fsTa p τ ω).set 3 (.int v)))) p τ (up2 ω 9 0 v) := ⟨zup_s, (zup_n (by omega)).trans H.2⟩
theorem z_Ta_w3 {p : Nat} {v : Int32} {idx : Nat} {τ : Ln} {ω : Ln} (hd : zdec X pc = .ok (.putfield idx, 3)) (hf : zFl X.1.cls idx 3 3 false) (H : TaAt h p τ ω) (hB : B ≤ p) (kk : ∀ h1, TaAt h1 p τ (up2 ω 9 0 v) → Upd h h1 p 1 → Z D B X cs ss Q (pc + 3) L st h1 sz0) : Z D B X cs ss Q pc L (.int v :: .ref p :: st) h sz0 := z_putf hd hf H.1 hB rfl rfl (Nat.le_of_ble_eq_true rfl) (kk _ (TaAt.w3 H) Upd.one)
theorem TaAt.w4 {h : zH} {p : Nat} {v : Int32} {τ : Ln} {ω : Ln} (H : TaAt h p τ ω) : TaAt (zup h p (zO 3 ((fsTa p τ ω).set 4 (.int v)))) p τ (up2 ω 10 0 v) := ⟨zup_s, (zup_n (by omega)).trans H.2⟩
theorem z_Ta_w4 {p : Nat} {v : Int32} {idx : Nat} {τ : Ln} {ω : Ln} (hd : zdec X pc = .ok (.putfield idx, 3)) (hf : zFl X.1.cls idx 3 4 false) (H : TaAt h p τ ω) (hB : B ≤ p) (kk : ∀ h1, TaAt h1 p τ (up2 ω 10 0 v) → Upd h h1 p 1 → Z D B X cs ss Q (pc + 3) L st h1 sz0) : Z D B X cs ss Q pc L (.int v :: .ref p :: st) h sz0 := z_putf hd hf H.1 hB rfl rfl (Nat.le_of_ble_eq_true rfl) (kk _ (TaAt.w4 H) Upd.one)
theorem TaAt.w5 {h : zH} {p : Nat} {v : Int32} {τ : Ln} {ω : Ln} (H : TaAt h p τ ω) : TaAt (zup h p (zO 3 ((fsTa p τ ω).set 5 (.int v)))) p τ (up2 ω 12 0 v) := ⟨zup_s, (zup_n (by omega)).trans H.2⟩
theorem z_Ta_w5 {p : Nat} {v : Int32} {idx : Nat} {τ : Ln} {ω : Ln} (hd : zdec X pc = .ok (.putfield idx, 3)) (hf : zFl X.1.cls idx 3 5 false) (H : TaAt h p τ ω) (hB : B ≤ p) (kk : ∀ h1, TaAt h1 p τ (up2 ω 12 0 v) → Upd h h1 p 1 → Z D B X cs ss Q (pc + 3) L st h1 sz0) : Z D B X cs ss Q pc L (.int v :: .ref p :: st) h sz0 := z_putf hd hf H.1 hB rfl rfl (Nat.le_of_ble_eq_true rfl) (kk _ (TaAt.w5 H) Upd.one)
theorem gTa_0 {p : Nat} {τ : Ln} {ω : Ln} : (fsTa p τ ω)[0]? = some (.ref (p + 1)) := rfl
theorem gTa_1 {p : Nat} {τ : Ln} {ω : Ln} : (fsTa p τ ω)[1]? = some (.int (τ 6 0)) := rfl
theorem gTa_2 {p : Nat} {τ : Ln} {ω : Ln} : (fsTa p τ ω)[2]? = some (.int (ω 8 0)) := rfl
theorem gTa_3 {p : Nat} {τ : Ln} {ω : Ln} : (fsTa p τ ω)[3]? = some (.int (ω 9 0)) := rfl
theorem gTa_4 {p : Nat} {τ : Ln} {ω : Ln} : (fsTa p τ ω)[4]? = some (.int (ω 10 0)) := rfl
theorem gTa_5 {p : Nat} {τ : Ln} {ω : Ln} : (fsTa p τ ω)[5]? = some (.int (ω 12 0)) := rfl
theorem TaAt.u1 {h : zH} {p j : Nat} {v : Int32} {τ : Ln} {ω : Ln} (H : TaAt h p τ ω) : TaAt (zup h (p + 1) (zI 250 (upd (τ 5) j v))) p (up2 τ 5 j v) ω := ⟨(zup_n (by omega)).trans H.1, zup_s⟩
theorem z_Ta_s1 {p j : Nat} {v : Int32} {τ : Ln} {ω : Ln} (hd : zdec X pc = .ok (.iastore, 1)) (H : TaAt h p τ ω) (hB : B ≤ p) (hj : j < 250) (kk : ∀ h1, TaAt h1 p (up2 τ 5 j v) ω → Upd h h1 (p + 1) 1 → Z D B X cs ss Q (pc + 1) L st h1 sz0) : Z D B X cs ss Q pc L (.int v :: .int (nI j) :: .ref (p + 1) :: st) h sz0 := by
  refine z_iast hd H.2 (by omega) (vp_in_nI hj (by decide)) ?_
  rw [nI_clamp (by omega)]
  exact kk _ (TaAt.u1 H) Upd.one
end ZUTa
/-! ===== Xo ===== -/
def fsXo (p : Nat) (ik : Int32) (rf : Nat → Int32) : List Value := [.ref (p + 1), .ref (p + 10), .ref (p + 19), .ref (p + 31), .ref (p + 48), .ref (p + 50), .int ik]
def XoAt (h : zH) (p : Nat) (ik : Int32) (rf : Nat → Int32) : Prop := h p = some (zO 4 (fsXo p ik rf)) ∧ h (p + 31) = some (zRf 3 8 (fun i => if i < 8 then some (p + 32 + 2 * i) else none)) ∧ h (p + 50) = some (zI 5 (rf))
theorem XoAt.fr {h h1 : zH} {p lo n : Nat} {ik : Int32} {rf : Nat → Int32} (H : XoAt h p ik rf) (hU : Upd h h1 lo n) (hd : (lo + n ≤ p ∨ p < lo) ∧ (lo + n ≤ p + 31 ∨ p + 31 < lo) ∧ (lo + n ≤ p + 50 ∨ p + 50 < lo)) : XoAt h1 p ik rf := ⟨(hU _ (by omega)).trans H.1, (hU _ (by omega)).trans H.2.1, (hU _ (by omega)).trans H.2.2⟩
section ZUXo
variable {D : zD} {B : Nat} {X : zX} {cs ss : Nat} {Q : zQ} {pc : Nat} {L : List (Option Value)} {st : List Value} {h : zH} {sz0 : Nat}
theorem XoAt.w6 {h : zH} {p : Nat} {v : Int32} {ik : Int32} {rf : Nat → Int32} (H : XoAt h p ik rf) : XoAt (zup h p (zO 4 ((fsXo p ik rf).set 6 (.int v)))) p v rf := ⟨zup_s, (zup_n (by omega)).trans H.2.1, (zup_n (by omega)).trans H.2.2⟩
theorem z_Xo_w6 {p : Nat} {v : Int32} {idx : Nat} {ik : Int32} {rf : Nat → Int32} (hd : zdec X pc = .ok (.putfield idx, 3)) (hf : zFl X.1.cls idx 4 6 false) (H : XoAt h p ik rf) (hB : B ≤ p) (hv : v = 0 ∨ v = 1) (kk : ∀ h1, XoAt h1 p v rf → Upd h h1 p 1 → Z D B X cs ss Q (pc + 3) L st h1 sz0) : Z D B X cs ss Q pc L (.int v :: .ref p :: st) h sz0 := z_putf hd hf H.1 hB (zNar hv).1 (zNar hv).2 (Nat.le_of_ble_eq_true rfl) (kk _ (XoAt.w6 H) Upd.one)
theorem gXo_0 {p : Nat} {ik : Int32} {rf : Nat → Int32} : (fsXo p ik rf)[0]? = some (.ref (p + 1)) := rfl
theorem gXo_1 {p : Nat} {ik : Int32} {rf : Nat → Int32} : (fsXo p ik rf)[1]? = some (.ref (p + 10)) := rfl
theorem gXo_2 {p : Nat} {ik : Int32} {rf : Nat → Int32} : (fsXo p ik rf)[2]? = some (.ref (p + 19)) := rfl
theorem gXo_3 {p : Nat} {ik : Int32} {rf : Nat → Int32} : (fsXo p ik rf)[3]? = some (.ref (p + 31)) := rfl
theorem gXo_4 {p : Nat} {ik : Int32} {rf : Nat → Int32} : (fsXo p ik rf)[4]? = some (.ref (p + 48)) := rfl
theorem gXo_5 {p : Nat} {ik : Int32} {rf : Nat → Int32} : (fsXo p ik rf)[5]? = some (.ref (p + 50)) := rfl
theorem gXo_6 {p : Nat} {ik : Int32} {rf : Nat → Int32} : (fsXo p ik rf)[6]? = some (.int ik) := rfl
theorem XoAt.u50 {h : zH} {p j : Nat} {v : Int32} {ik : Int32} {rf : Nat → Int32} (H : XoAt h p ik rf) : XoAt (zup h (p + 50) (zI 5 (upd (rf) j v))) p ik (upd rf j v) := ⟨(zup_n (by omega)).trans H.1, (zup_n (by omega)).trans H.2.1, zup_s⟩
theorem z_Xo_s50 {p j : Nat} {v : Int32} {ik : Int32} {rf : Nat → Int32} (hd : zdec X pc = .ok (.iastore, 1)) (H : XoAt h p ik rf) (hB : B ≤ p) (hj : j < 5) (kk : ∀ h1, XoAt h1 p ik (upd rf j v) → Upd h h1 (p + 50) 1 → Z D B X cs ss Q (pc + 1) L st h1 sz0) : Z D B X cs ss Q pc L (.int v :: .int (nI j) :: .ref (p + 50) :: st) h sz0 := by
  refine z_iast hd H.2.2 (by omega) (vp_in_nI hj (by decide)) ?_
  rw [nI_clamp (by omega)]
  exact kk _ (XoAt.u50 H) Upd.one
end ZUXo
/-! ===== Mo ===== -/
def fsMo (p : Nat) (σ : Ln) (τ : Ln) (ω : Ln) (ε : El) (mv : Nat → Int64) (kp : Option Nat) (tr : Option Nat) : List Value := [.ref (p + 1), .ref (p + 2), .ref (p + 3), .ref (p + 4), .ref (p + 13), .ref (p + 14), .ref (p + 15), .int (τ 6 0), .ref (p + 16), .int (σ 0 0), .ref (p + 17), .ref (p + 18), .ref (p + 19), .ref (p + 20), .int (σ 5 0), .int (σ 6 0), .int (σ 7 0), .int (σ 9 0), .ref (p + 21), .ref (p + 22), .ref (p + 23), .ref (p + 24), .int (σ 8 0), va_rf kp, va_rf tr, .int (ω 8 0), .int (ω 9 0), .int (ω 10 0), .int (ω 11 0), .int (ω 12 0), .ref (p + 25), .int (ω 14 0), .int (ω 15 0), .int (ω 16 0), .ref (p + 26), .ref (p + 27), .int (ω 19 0), .int (ω 20 0), .int (ω 21 0), .ref (p + 28), .int (ω 23 0)]
def MoAt (h : zH) (p : Nat) (σ : Ln) (τ : Ln) (ω : Ln) (ε : El) (mv : Nat → Int64) (kp : Option Nat) (tr : Option Nat) : Prop := h p = some (zO 5 (fsMo p σ τ ω ε mv kp tr)) ∧ h (p + 1) = some (zI 8 (τ 1)) ∧ h (p + 2) = some (zI 8 (τ 2)) ∧ h (p + 3) = some (zI 8 (τ 3)) ∧ h (p + 4) = some (zRf 4 8 (fun i => if i < 8 then some (p + 4 + 1 + i) else none)) ∧ (∀ s, s < 8 → h (p + 4 + 1 + s) = some (zJ 40 (ε s))) ∧ h (p + 13) = some (zJ 40 mv) ∧ h (p + 14) = some (zI 8 (τ 4)) ∧ h (p + 15) = some (zI 250 (τ 5)) ∧ h (p + 16) = some (zI 8 (τ 7)) ∧ h (p + 17) = some (zI 12 (σ 1)) ∧ h (p + 18) = some (zI 12 (σ 2)) ∧ h (p + 19) = some (zI 12 (σ 3)) ∧ h (p + 20) = some (zI 12 (σ 4)) ∧ h (p + 21) = some (zI 8 (σ 10)) ∧ h (p + 22) = some (zI 8 (σ 11)) ∧ h (p + 23) = some (zI 8 (σ 12)) ∧ h (p + 24) = some (zI 8 (σ 13)) ∧ h (p + 25) = some (zI 4 (ω 13)) ∧ h (p + 26) = some (zI 12 (ω 17)) ∧ h (p + 27) = some (zBo 41 (ω 18)) ∧ h (p + 28) = some (zI 41 (ω 22))
theorem MoAt.fr {h h1 : zH} {p lo n : Nat} {σ : Ln} {τ : Ln} {ω : Ln} {ε : El} {mv : Nat → Int64} {kp : Option Nat} {tr : Option Nat} (H : MoAt h p σ τ ω ε mv kp tr) (hU : Upd h h1 lo n) (hd : lo + n ≤ p ∨ p + 29 ≤ lo) : MoAt h1 p σ τ ω ε mv kp tr := ⟨(hU _ (by omega)).trans H.1, (hU _ (by omega)).trans H.2.1, (hU _ (by omega)).trans H.2.2.1, (hU _ (by omega)).trans H.2.2.2.1, (hU _ (by omega)).trans H.2.2.2.2.1, fun s hs => (hU _ (by omega)).trans (H.2.2.2.2.2.1 s hs), (hU _ (by omega)).trans H.2.2.2.2.2.2.1, (hU _ (by omega)).trans H.2.2.2.2.2.2.2.1, (hU _ (by omega)).trans H.2.2.2.2.2.2.2.2.1, (hU _ (by omega)).trans H.2.2.2.2.2.2.2.2.2.1, (hU _ (by omega)).trans H.2.2.2.2.2.2.2.2.2.2.1, (hU _ (by omega)).trans H.2.2.2.2.2.2.2.2.2.2.2.1, (hU _ (by omega)).trans H.2.2.2.2.2.2.2.2.2.2.2.2.1, (hU _ (by omega)).trans H.2.2.2.2.2.2.2.2.2.2.2.2.2.1, (hU _ (by omega)).trans H.2.2.2.2.2.2.2.2.2.2.2.2.2.2.1, (hU _ (by omega)).trans H.2.2.2.2.2.2.2.2.2.2.2.2.2.2.2.1, (hU _ (by omega)).trans H.2.2.2.2.2.2.2.2.2.2.2.2.2.2.2.2.1, (hU _ (by omega)).trans H.2.2.2.2.2.2.2.2.2.2.2.2.2.2.2.2.2.1, (hU _ (by omega)).trans H.2.2.2.2.2.2.2.2.2.2.2.2.2.2.2.2.2.2.1, (hU _ (by omega)).trans H.2.2.2.2.2.2.2.2.2.2.2.2.2.2.2.2.2.2.2.1, (hU _ (by omega)).trans H.2.2.2.2.2.2.2.2.2.2.2.2.2.2.2.2.2.2.2.2.1, (hU _ (by omega)).trans H.2.2.2.2.2.2.2.2.2.2.2.2.2.2.2.2.2.2.2.2.2⟩
section ZUMo
variable {D : zD} {B : Nat} {X : zX} {cs ss : Nat} {Q : zQ} {pc : Nat} {L : List (Option Value)} {st : List Value} {h : zH} {sz0 : Nat}
theorem MoAt.w7 {h : zH} {p : Nat} {v : Int32} {σ : Ln} {τ : Ln} {ω : Ln} {ε : El} {mv : Nat → Int64} {kp : Option Nat} {tr : Option Nat} (H : MoAt h p σ τ ω ε mv kp tr) : MoAt (zup h p (zO 5 ((fsMo p σ τ ω ε mv kp tr).set 7 (.int v)))) p σ (up2 τ 6 0 v) ω ε mv kp tr := ⟨zup_s, (zup_n (by omega)).trans H.2.1, (zup_n (by omega)).trans H.2.2.1, (zup_n (by omega)).trans H.2.2.2.1, (zup_n (by omega)).trans H.2.2.2.2.1, fun s hs => (zup_n (by omega)).trans (H.2.2.2.2.2.1 s hs), (zup_n (by omega)).trans H.2.2.2.2.2.2.1, (zup_n (by omega)).trans H.2.2.2.2.2.2.2.1, (zup_n (by omega)).trans H.2.2.2.2.2.2.2.2.1, (zup_n (by omega)).trans H.2.2.2.2.2.2.2.2.2.1, (zup_n (by omega)).trans H.2.2.2.2.2.2.2.2.2.2.1, (zup_n (by omega)).trans H.2.2.2.2.2.2.2.2.2.2.2.1, (zup_n (by omega)).trans H.2.2.2.2.2.2.2.2.2.2.2.2.1, (zup_n (by omega)).trans H.2.2.2.2.2.2.2.2.2.2.2.2.2.1, (zup_n (by omega)).trans H.2.2.2.2.2.2.2.2.2.2.2.2.2.2.1, (zup_n (by omega)).trans H.2.2.2.2.2.2.2.2.2.2.2.2.2.2.2.1, (zup_n (by omega)).trans H.2.2.2.2.2.2.2.2.2.2.2.2.2.2.2.2.1, (zup_n (by omega)).trans H.2.2.2.2.2.2.2.2.2.2.2.2.2.2.2.2.2.1, (zup_n (by omega)).trans H.2.2.2.2.2.2.2.2.2.2.2.2.2.2.2.2.2.2.1, (zup_n (by omega)).trans H.2.2.2.2.2.2.2.2.2.2.2.2.2.2.2.2.2.2.2.1, (zup_n (by omega)).trans H.2.2.2.2.2.2.2.2.2.2.2.2.2.2.2.2.2.2.2.2.1, (zup_n (by omega)).trans H.2.2.2.2.2.2.2.2.2.2.2.2.2.2.2.2.2.2.2.2.2⟩
theorem z_Mo_w7 {p : Nat} {v : Int32} {idx : Nat} {σ : Ln} {τ : Ln} {ω : Ln} {ε : El} {mv : Nat → Int64} {kp : Option Nat} {tr : Option Nat} (hd : zdec X pc = .ok (.putfield idx, 3)) (hf : zFl X.1.cls idx 5 7 false) (H : MoAt h p σ τ ω ε mv kp tr) (hB : B ≤ p) (kk : ∀ h1, MoAt h1 p σ (up2 τ 6 0 v) ω ε mv kp tr → Upd h h1 p 1 → Z D B X cs ss Q (pc + 3) L st h1 sz0) : Z D B X cs ss Q pc L (.int v :: .ref p :: st) h sz0 := z_putf hd hf H.1 hB rfl rfl (Nat.le_of_ble_eq_true rfl) (kk _ (MoAt.w7 H) Upd.one)
theorem MoAt.w9 {h : zH} {p : Nat} {v : Int32} {σ : Ln} {τ : Ln} {ω : Ln} {ε : El} {mv : Nat → Int64} {kp : Option Nat} {tr : Option Nat} (H : MoAt h p σ τ ω ε mv kp tr) : MoAt (zup h p (zO 5 ((fsMo p σ τ ω ε mv kp tr).set 9 (.int v)))) p (up2 σ 0 0 v) τ ω ε mv kp tr := ⟨zup_s, (zup_n (by omega)).trans H.2.1, (zup_n (by omega)).trans H.2.2.1, (zup_n (by omega)).trans H.2.2.2.1, (zup_n (by omega)).trans H.2.2.2.2.1, fun s hs => (zup_n (by omega)).trans (H.2.2.2.2.2.1 s hs), (zup_n (by omega)).trans H.2.2.2.2.2.2.1, (zup_n (by omega)).trans H.2.2.2.2.2.2.2.1, (zup_n (by omega)).trans H.2.2.2.2.2.2.2.2.1, (zup_n (by omega)).trans H.2.2.2.2.2.2.2.2.2.1, (zup_n (by omega)).trans H.2.2.2.2.2.2.2.2.2.2.1, (zup_n (by omega)).trans H.2.2.2.2.2.2.2.2.2.2.2.1, (zup_n (by omega)).trans H.2.2.2.2.2.2.2.2.2.2.2.2.1, (zup_n (by omega)).trans H.2.2.2.2.2.2.2.2.2.2.2.2.2.1, (zup_n (by omega)).trans H.2.2.2.2.2.2.2.2.2.2.2.2.2.2.1, (zup_n (by omega)).trans H.2.2.2.2.2.2.2.2.2.2.2.2.2.2.2.1, (zup_n (by omega)).trans H.2.2.2.2.2.2.2.2.2.2.2.2.2.2.2.2.1, (zup_n (by omega)).trans H.2.2.2.2.2.2.2.2.2.2.2.2.2.2.2.2.2.1, (zup_n (by omega)).trans H.2.2.2.2.2.2.2.2.2.2.2.2.2.2.2.2.2.2.1, (zup_n (by omega)).trans H.2.2.2.2.2.2.2.2.2.2.2.2.2.2.2.2.2.2.2.1, (zup_n (by omega)).trans H.2.2.2.2.2.2.2.2.2.2.2.2.2.2.2.2.2.2.2.2.1, (zup_n (by omega)).trans H.2.2.2.2.2.2.2.2.2.2.2.2.2.2.2.2.2.2.2.2.2⟩
theorem z_Mo_w9 {p : Nat} {v : Int32} {idx : Nat} {σ : Ln} {τ : Ln} {ω : Ln} {ε : El} {mv : Nat → Int64} {kp : Option Nat} {tr : Option Nat} (hd : zdec X pc = .ok (.putfield idx, 3)) (hf : zFl X.1.cls idx 5 9 false) (H : MoAt h p σ τ ω ε mv kp tr) (hB : B ≤ p) (kk : ∀ h1, MoAt h1 p (up2 σ 0 0 v) τ ω ε mv kp tr → Upd h h1 p 1 → Z D B X cs ss Q (pc + 3) L st h1 sz0) : Z D B X cs ss Q pc L (.int v :: .ref p :: st) h sz0 := z_putf hd hf H.1 hB rfl rfl (Nat.le_of_ble_eq_true rfl) (kk _ (MoAt.w9 H) Upd.one)
theorem MoAt.w14 {h : zH} {p : Nat} {v : Int32} {σ : Ln} {τ : Ln} {ω : Ln} {ε : El} {mv : Nat → Int64} {kp : Option Nat} {tr : Option Nat} (H : MoAt h p σ τ ω ε mv kp tr) : MoAt (zup h p (zO 5 ((fsMo p σ τ ω ε mv kp tr).set 14 (.int v)))) p (up2 σ 5 0 v) τ ω ε mv kp tr := ⟨zup_s, (zup_n (by omega)).trans H.2.1, (zup_n (by omega)).trans H.2.2.1, (zup_n (by omega)).trans H.2.2.2.1, (zup_n (by omega)).trans H.2.2.2.2.1, fun s hs => (zup_n (by omega)).trans (H.2.2.2.2.2.1 s hs), (zup_n (by omega)).trans H.2.2.2.2.2.2.1, (zup_n (by omega)).trans H.2.2.2.2.2.2.2.1, (zup_n (by omega)).trans H.2.2.2.2.2.2.2.2.1, (zup_n (by omega)).trans H.2.2.2.2.2.2.2.2.2.1, (zup_n (by omega)).trans H.2.2.2.2.2.2.2.2.2.2.1, (zup_n (by omega)).trans H.2.2.2.2.2.2.2.2.2.2.2.1, (zup_n (by omega)).trans H.2.2.2.2.2.2.2.2.2.2.2.2.1, (zup_n (by omega)).trans H.2.2.2.2.2.2.2.2.2.2.2.2.2.1, (zup_n (by omega)).trans H.2.2.2.2.2.2.2.2.2.2.2.2.2.2.1, (zup_n (by omega)).trans H.2.2.2.2.2.2.2.2.2.2.2.2.2.2.2.1, (zup_n (by omega)).trans H.2.2.2.2.2.2.2.2.2.2.2.2.2.2.2.2.1, (zup_n (by omega)).trans H.2.2.2.2.2.2.2.2.2.2.2.2.2.2.2.2.2.1, (zup_n (by omega)).trans H.2.2.2.2.2.2.2.2.2.2.2.2.2.2.2.2.2.2.1, (zup_n (by omega)).trans H.2.2.2.2.2.2.2.2.2.2.2.2.2.2.2.2.2.2.2.1, (zup_n (by omega)).trans H.2.2.2.2.2.2.2.2.2.2.2.2.2.2.2.2.2.2.2.2.1, (zup_n (by omega)).trans H.2.2.2.2.2.2.2.2.2.2.2.2.2.2.2.2.2.2.2.2.2⟩
theorem z_Mo_w14 {p : Nat} {v : Int32} {idx : Nat} {σ : Ln} {τ : Ln} {ω : Ln} {ε : El} {mv : Nat → Int64} {kp : Option Nat} {tr : Option Nat} (hd : zdec X pc = .ok (.putfield idx, 3)) (hf : zFl X.1.cls idx 5 14 false) (H : MoAt h p σ τ ω ε mv kp tr) (hB : B ≤ p) (kk : ∀ h1, MoAt h1 p (up2 σ 5 0 v) τ ω ε mv kp tr → Upd h h1 p 1 → Z D B X cs ss Q (pc + 3) L st h1 sz0) : Z D B X cs ss Q pc L (.int v :: .ref p :: st) h sz0 := z_putf hd hf H.1 hB rfl rfl (Nat.le_of_ble_eq_true rfl) (kk _ (MoAt.w14 H) Upd.one)
theorem MoAt.w15 {h : zH} {p : Nat} {v : Int32} {σ : Ln} {τ : Ln} {ω : Ln} {ε : El} {mv : Nat → Int64} {kp : Option Nat} {tr : Option Nat} (H : MoAt h p σ τ ω ε mv kp tr) : MoAt (zup h p (zO 5 ((fsMo p σ τ ω ε mv kp tr).set 15 (.int v)))) p (up2 σ 6 0 v) τ ω ε mv kp tr := ⟨zup_s, (zup_n (by omega)).trans H.2.1, (zup_n (by omega)).trans H.2.2.1, (zup_n (by omega)).trans H.2.2.2.1, (zup_n (by omega)).trans H.2.2.2.2.1, fun s hs => (zup_n (by omega)).trans (H.2.2.2.2.2.1 s hs), (zup_n (by omega)).trans H.2.2.2.2.2.2.1, (zup_n (by omega)).trans H.2.2.2.2.2.2.2.1, (zup_n (by omega)).trans H.2.2.2.2.2.2.2.2.1, (zup_n (by omega)).trans H.2.2.2.2.2.2.2.2.2.1, (zup_n (by omega)).trans H.2.2.2.2.2.2.2.2.2.2.1, (zup_n (by omega)).trans H.2.2.2.2.2.2.2.2.2.2.2.1, (zup_n (by omega)).trans H.2.2.2.2.2.2.2.2.2.2.2.2.1, (zup_n (by omega)).trans H.2.2.2.2.2.2.2.2.2.2.2.2.2.1, (zup_n (by omega)).trans H.2.2.2.2.2.2.2.2.2.2.2.2.2.2.1, (zup_n (by omega)).trans H.2.2.2.2.2.2.2.2.2.2.2.2.2.2.2.1, (zup_n (by omega)).trans H.2.2.2.2.2.2.2.2.2.2.2.2.2.2.2.2.1, (zup_n (by omega)).trans H.2.2.2.2.2.2.2.2.2.2.2.2.2.2.2.2.2.1, (zup_n (by omega)).trans H.2.2.2.2.2.2.2.2.2.2.2.2.2.2.2.2.2.2.1, (zup_n (by omega)).trans H.2.2.2.2.2.2.2.2.2.2.2.2.2.2.2.2.2.2.2.1, (zup_n (by omega)).trans H.2.2.2.2.2.2.2.2.2.2.2.2.2.2.2.2.2.2.2.2.1, (zup_n (by omega)).trans H.2.2.2.2.2.2.2.2.2.2.2.2.2.2.2.2.2.2.2.2.2⟩
theorem z_Mo_w15 {p : Nat} {v : Int32} {idx : Nat} {σ : Ln} {τ : Ln} {ω : Ln} {ε : El} {mv : Nat → Int64} {kp : Option Nat} {tr : Option Nat} (hd : zdec X pc = .ok (.putfield idx, 3)) (hf : zFl X.1.cls idx 5 15 false) (H : MoAt h p σ τ ω ε mv kp tr) (hB : B ≤ p) (hv : v = 0 ∨ v = 1) (kk : ∀ h1, MoAt h1 p (up2 σ 6 0 v) τ ω ε mv kp tr → Upd h h1 p 1 → Z D B X cs ss Q (pc + 3) L st h1 sz0) : Z D B X cs ss Q pc L (.int v :: .ref p :: st) h sz0 := z_putf hd hf H.1 hB (zNar hv).1 (zNar hv).2 (Nat.le_of_ble_eq_true rfl) (kk _ (MoAt.w15 H) Upd.one)
theorem MoAt.w16 {h : zH} {p : Nat} {v : Int32} {σ : Ln} {τ : Ln} {ω : Ln} {ε : El} {mv : Nat → Int64} {kp : Option Nat} {tr : Option Nat} (H : MoAt h p σ τ ω ε mv kp tr) : MoAt (zup h p (zO 5 ((fsMo p σ τ ω ε mv kp tr).set 16 (.int v)))) p (up2 σ 7 0 v) τ ω ε mv kp tr := ⟨zup_s, (zup_n (by omega)).trans H.2.1, (zup_n (by omega)).trans H.2.2.1, (zup_n (by omega)).trans H.2.2.2.1, (zup_n (by omega)).trans H.2.2.2.2.1, fun s hs => (zup_n (by omega)).trans (H.2.2.2.2.2.1 s hs), (zup_n (by omega)).trans H.2.2.2.2.2.2.1, (zup_n (by omega)).trans H.2.2.2.2.2.2.2.1, (zup_n (by omega)).trans H.2.2.2.2.2.2.2.2.1, (zup_n (by omega)).trans H.2.2.2.2.2.2.2.2.2.1, (zup_n (by omega)).trans H.2.2.2.2.2.2.2.2.2.2.1, (zup_n (by omega)).trans H.2.2.2.2.2.2.2.2.2.2.2.1, (zup_n (by omega)).trans H.2.2.2.2.2.2.2.2.2.2.2.2.1, (zup_n (by omega)).trans H.2.2.2.2.2.2.2.2.2.2.2.2.2.1, (zup_n (by omega)).trans H.2.2.2.2.2.2.2.2.2.2.2.2.2.2.1, (zup_n (by omega)).trans H.2.2.2.2.2.2.2.2.2.2.2.2.2.2.2.1, (zup_n (by omega)).trans H.2.2.2.2.2.2.2.2.2.2.2.2.2.2.2.2.1, (zup_n (by omega)).trans H.2.2.2.2.2.2.2.2.2.2.2.2.2.2.2.2.2.1, (zup_n (by omega)).trans H.2.2.2.2.2.2.2.2.2.2.2.2.2.2.2.2.2.2.1, (zup_n (by omega)).trans H.2.2.2.2.2.2.2.2.2.2.2.2.2.2.2.2.2.2.2.1, (zup_n (by omega)).trans H.2.2.2.2.2.2.2.2.2.2.2.2.2.2.2.2.2.2.2.2.1, (zup_n (by omega)).trans H.2.2.2.2.2.2.2.2.2.2.2.2.2.2.2.2.2.2.2.2.2⟩
theorem z_Mo_w16 {p : Nat} {v : Int32} {idx : Nat} {σ : Ln} {τ : Ln} {ω : Ln} {ε : El} {mv : Nat → Int64} {kp : Option Nat} {tr : Option Nat} (hd : zdec X pc = .ok (.putfield idx, 3)) (hf : zFl X.1.cls idx 5 16 false) (H : MoAt h p σ τ ω ε mv kp tr) (hB : B ≤ p) (kk : ∀ h1, MoAt h1 p (up2 σ 7 0 v) τ ω ε mv kp tr → Upd h h1 p 1 → Z D B X cs ss Q (pc + 3) L st h1 sz0) : Z D B X cs ss Q pc L (.int v :: .ref p :: st) h sz0 := z_putf hd hf H.1 hB rfl rfl (Nat.le_of_ble_eq_true rfl) (kk _ (MoAt.w16 H) Upd.one)
theorem MoAt.w17 {h : zH} {p : Nat} {v : Int32} {σ : Ln} {τ : Ln} {ω : Ln} {ε : El} {mv : Nat → Int64} {kp : Option Nat} {tr : Option Nat} (H : MoAt h p σ τ ω ε mv kp tr) : MoAt (zup h p (zO 5 ((fsMo p σ τ ω ε mv kp tr).set 17 (.int v)))) p (up2 σ 9 0 v) τ ω ε mv kp tr := ⟨zup_s, (zup_n (by omega)).trans H.2.1, (zup_n (by omega)).trans H.2.2.1, (zup_n (by omega)).trans H.2.2.2.1, (zup_n (by omega)).trans H.2.2.2.2.1, fun s hs => (zup_n (by omega)).trans (H.2.2.2.2.2.1 s hs), (zup_n (by omega)).trans H.2.2.2.2.2.2.1, (zup_n (by omega)).trans H.2.2.2.2.2.2.2.1, (zup_n (by omega)).trans H.2.2.2.2.2.2.2.2.1, (zup_n (by omega)).trans H.2.2.2.2.2.2.2.2.2.1, (zup_n (by omega)).trans H.2.2.2.2.2.2.2.2.2.2.1, (zup_n (by omega)).trans H.2.2.2.2.2.2.2.2.2.2.2.1, (zup_n (by omega)).trans H.2.2.2.2.2.2.2.2.2.2.2.2.1, (zup_n (by omega)).trans H.2.2.2.2.2.2.2.2.2.2.2.2.2.1, (zup_n (by omega)).trans H.2.2.2.2.2.2.2.2.2.2.2.2.2.2.1, (zup_n (by omega)).trans H.2.2.2.2.2.2.2.2.2.2.2.2.2.2.2.1, (zup_n (by omega)).trans H.2.2.2.2.2.2.2.2.2.2.2.2.2.2.2.2.1, (zup_n (by omega)).trans H.2.2.2.2.2.2.2.2.2.2.2.2.2.2.2.2.2.1, (zup_n (by omega)).trans H.2.2.2.2.2.2.2.2.2.2.2.2.2.2.2.2.2.2.1, (zup_n (by omega)).trans H.2.2.2.2.2.2.2.2.2.2.2.2.2.2.2.2.2.2.2.1, (zup_n (by omega)).trans H.2.2.2.2.2.2.2.2.2.2.2.2.2.2.2.2.2.2.2.2.1, (zup_n (by omega)).trans H.2.2.2.2.2.2.2.2.2.2.2.2.2.2.2.2.2.2.2.2.2⟩
theorem z_Mo_w17 {p : Nat} {v : Int32} {idx : Nat} {σ : Ln} {τ : Ln} {ω : Ln} {ε : El} {mv : Nat → Int64} {kp : Option Nat} {tr : Option Nat} (hd : zdec X pc = .ok (.putfield idx, 3)) (hf : zFl X.1.cls idx 5 17 false) (H : MoAt h p σ τ ω ε mv kp tr) (hB : B ≤ p) (kk : ∀ h1, MoAt h1 p (up2 σ 9 0 v) τ ω ε mv kp tr → Upd h h1 p 1 → Z D B X cs ss Q (pc + 3) L st h1 sz0) : Z D B X cs ss Q pc L (.int v :: .ref p :: st) h sz0 := z_putf hd hf H.1 hB rfl rfl (Nat.le_of_ble_eq_true rfl) (kk _ (MoAt.w17 H) Upd.one)
theorem MoAt.w22 {h : zH} {p : Nat} {v : Int32} {σ : Ln} {τ : Ln} {ω : Ln} {ε : El} {mv : Nat → Int64} {kp : Option Nat} {tr : Option Nat} (H : MoAt h p σ τ ω ε mv kp tr) : MoAt (zup h p (zO 5 ((fsMo p σ τ ω ε mv kp tr).set 22 (.int v)))) p (up2 σ 8 0 v) τ ω ε mv kp tr := ⟨zup_s, (zup_n (by omega)).trans H.2.1, (zup_n (by omega)).trans H.2.2.1, (zup_n (by omega)).trans H.2.2.2.1, (zup_n (by omega)).trans H.2.2.2.2.1, fun s hs => (zup_n (by omega)).trans (H.2.2.2.2.2.1 s hs), (zup_n (by omega)).trans H.2.2.2.2.2.2.1, (zup_n (by omega)).trans H.2.2.2.2.2.2.2.1, (zup_n (by omega)).trans H.2.2.2.2.2.2.2.2.1, (zup_n (by omega)).trans H.2.2.2.2.2.2.2.2.2.1, (zup_n (by omega)).trans H.2.2.2.2.2.2.2.2.2.2.1, (zup_n (by omega)).trans H.2.2.2.2.2.2.2.2.2.2.2.1, (zup_n (by omega)).trans H.2.2.2.2.2.2.2.2.2.2.2.2.1, (zup_n (by omega)).trans H.2.2.2.2.2.2.2.2.2.2.2.2.2.1, (zup_n (by omega)).trans H.2.2.2.2.2.2.2.2.2.2.2.2.2.2.1, (zup_n (by omega)).trans H.2.2.2.2.2.2.2.2.2.2.2.2.2.2.2.1, (zup_n (by omega)).trans H.2.2.2.2.2.2.2.2.2.2.2.2.2.2.2.2.1, (zup_n (by omega)).trans H.2.2.2.2.2.2.2.2.2.2.2.2.2.2.2.2.2.1, (zup_n (by omega)).trans H.2.2.2.2.2.2.2.2.2.2.2.2.2.2.2.2.2.2.1, (zup_n (by omega)).trans H.2.2.2.2.2.2.2.2.2.2.2.2.2.2.2.2.2.2.2.1, (zup_n (by omega)).trans H.2.2.2.2.2.2.2.2.2.2.2.2.2.2.2.2.2.2.2.2.1, (zup_n (by omega)).trans H.2.2.2.2.2.2.2.2.2.2.2.2.2.2.2.2.2.2.2.2.2⟩
theorem z_Mo_w22 {p : Nat} {v : Int32} {idx : Nat} {σ : Ln} {τ : Ln} {ω : Ln} {ε : El} {mv : Nat → Int64} {kp : Option Nat} {tr : Option Nat} (hd : zdec X pc = .ok (.putfield idx, 3)) (hf : zFl X.1.cls idx 5 22 false) (H : MoAt h p σ τ ω ε mv kp tr) (hB : B ≤ p) (kk : ∀ h1, MoAt h1 p (up2 σ 8 0 v) τ ω ε mv kp tr → Upd h h1 p 1 → Z D B X cs ss Q (pc + 3) L st h1 sz0) : Z D B X cs ss Q pc L (.int v :: .ref p :: st) h sz0 := z_putf hd hf H.1 hB rfl rfl (Nat.le_of_ble_eq_true rfl) (kk _ (MoAt.w22 H) Upd.one)
theorem MoAt.w23 {h : zH} {p : Nat} {v : Nat} {σ : Ln} {τ : Ln} {ω : Ln} {ε : El} {mv : Nat → Int64} {kp : Option Nat} {tr : Option Nat} (H : MoAt h p σ τ ω ε mv kp tr) : MoAt (zup h p (zO 5 ((fsMo p σ τ ω ε mv kp tr).set 23 (.ref v)))) p σ τ ω ε mv (some v) tr := ⟨zup_s, (zup_n (by omega)).trans H.2.1, (zup_n (by omega)).trans H.2.2.1, (zup_n (by omega)).trans H.2.2.2.1, (zup_n (by omega)).trans H.2.2.2.2.1, fun s hs => (zup_n (by omega)).trans (H.2.2.2.2.2.1 s hs), (zup_n (by omega)).trans H.2.2.2.2.2.2.1, (zup_n (by omega)).trans H.2.2.2.2.2.2.2.1, (zup_n (by omega)).trans H.2.2.2.2.2.2.2.2.1, (zup_n (by omega)).trans H.2.2.2.2.2.2.2.2.2.1, (zup_n (by omega)).trans H.2.2.2.2.2.2.2.2.2.2.1, (zup_n (by omega)).trans H.2.2.2.2.2.2.2.2.2.2.2.1, (zup_n (by omega)).trans H.2.2.2.2.2.2.2.2.2.2.2.2.1, (zup_n (by omega)).trans H.2.2.2.2.2.2.2.2.2.2.2.2.2.1, (zup_n (by omega)).trans H.2.2.2.2.2.2.2.2.2.2.2.2.2.2.1, (zup_n (by omega)).trans H.2.2.2.2.2.2.2.2.2.2.2.2.2.2.2.1, (zup_n (by omega)).trans H.2.2.2.2.2.2.2.2.2.2.2.2.2.2.2.2.1, (zup_n (by omega)).trans H.2.2.2.2.2.2.2.2.2.2.2.2.2.2.2.2.2.1, (zup_n (by omega)).trans H.2.2.2.2.2.2.2.2.2.2.2.2.2.2.2.2.2.2.1, (zup_n (by omega)).trans H.2.2.2.2.2.2.2.2.2.2.2.2.2.2.2.2.2.2.2.1, (zup_n (by omega)).trans H.2.2.2.2.2.2.2.2.2.2.2.2.2.2.2.2.2.2.2.2.1, (zup_n (by omega)).trans H.2.2.2.2.2.2.2.2.2.2.2.2.2.2.2.2.2.2.2.2.2⟩
theorem z_Mo_w23 {p : Nat} {v : Nat} {idx : Nat} {σ : Ln} {τ : Ln} {ω : Ln} {ε : El} {mv : Nat → Int64} {kp : Option Nat} {tr : Option Nat} (hd : zdec X pc = .ok (.putfield idx, 3)) (hf : zFl X.1.cls idx 5 23 false) (H : MoAt h p σ τ ω ε mv kp tr) (hB : B ≤ p) (kk : ∀ h1, MoAt h1 p σ τ ω ε mv (some v) tr → Upd h h1 p 1 → Z D B X cs ss Q (pc + 3) L st h1 sz0) : Z D B X cs ss Q pc L (.ref v :: .ref p :: st) h sz0 := z_putf hd hf H.1 hB rfl rfl (Nat.le_of_ble_eq_true rfl) (kk _ (MoAt.w23 H) Upd.one)
theorem MoAt.w24 {h : zH} {p : Nat} {v : Nat} {σ : Ln} {τ : Ln} {ω : Ln} {ε : El} {mv : Nat → Int64} {kp : Option Nat} {tr : Option Nat} (H : MoAt h p σ τ ω ε mv kp tr) : MoAt (zup h p (zO 5 ((fsMo p σ τ ω ε mv kp tr).set 24 (.ref v)))) p σ τ ω ε mv kp (some v) := ⟨zup_s, (zup_n (by omega)).trans H.2.1, (zup_n (by omega)).trans H.2.2.1, (zup_n (by omega)).trans H.2.2.2.1, (zup_n (by omega)).trans H.2.2.2.2.1, fun s hs => (zup_n (by omega)).trans (H.2.2.2.2.2.1 s hs), (zup_n (by omega)).trans H.2.2.2.2.2.2.1, (zup_n (by omega)).trans H.2.2.2.2.2.2.2.1, (zup_n (by omega)).trans H.2.2.2.2.2.2.2.2.1, (zup_n (by omega)).trans H.2.2.2.2.2.2.2.2.2.1, (zup_n (by omega)).trans H.2.2.2.2.2.2.2.2.2.2.1, (zup_n (by omega)).trans H.2.2.2.2.2.2.2.2.2.2.2.1, (zup_n (by omega)).trans H.2.2.2.2.2.2.2.2.2.2.2.2.1, (zup_n (by omega)).trans H.2.2.2.2.2.2.2.2.2.2.2.2.2.1, (zup_n (by omega)).trans H.2.2.2.2.2.2.2.2.2.2.2.2.2.2.1, (zup_n (by omega)).trans H.2.2.2.2.2.2.2.2.2.2.2.2.2.2.2.1, (zup_n (by omega)).trans H.2.2.2.2.2.2.2.2.2.2.2.2.2.2.2.2.1, (zup_n (by omega)).trans H.2.2.2.2.2.2.2.2.2.2.2.2.2.2.2.2.2.1, (zup_n (by omega)).trans H.2.2.2.2.2.2.2.2.2.2.2.2.2.2.2.2.2.2.1, (zup_n (by omega)).trans H.2.2.2.2.2.2.2.2.2.2.2.2.2.2.2.2.2.2.2.1, (zup_n (by omega)).trans H.2.2.2.2.2.2.2.2.2.2.2.2.2.2.2.2.2.2.2.2.1, (zup_n (by omega)).trans H.2.2.2.2.2.2.2.2.2.2.2.2.2.2.2.2.2.2.2.2.2⟩
theorem z_Mo_w24 {p : Nat} {v : Nat} {idx : Nat} {σ : Ln} {τ : Ln} {ω : Ln} {ε : El} {mv : Nat → Int64} {kp : Option Nat} {tr : Option Nat} (hd : zdec X pc = .ok (.putfield idx, 3)) (hf : zFl X.1.cls idx 5 24 false) (H : MoAt h p σ τ ω ε mv kp tr) (hB : B ≤ p) (kk : ∀ h1, MoAt h1 p σ τ ω ε mv kp (some v) → Upd h h1 p 1 → Z D B X cs ss Q (pc + 3) L st h1 sz0) : Z D B X cs ss Q pc L (.ref v :: .ref p :: st) h sz0 := z_putf hd hf H.1 hB rfl rfl (Nat.le_of_ble_eq_true rfl) (kk _ (MoAt.w24 H) Upd.one)
theorem MoAt.w25 {h : zH} {p : Nat} {v : Int32} {σ : Ln} {τ : Ln} {ω : Ln} {ε : El} {mv : Nat → Int64} {kp : Option Nat} {tr : Option Nat} (H : MoAt h p σ τ ω ε mv kp tr) : MoAt (zup h p (zO 5 ((fsMo p σ τ ω ε mv kp tr).set 25 (.int v)))) p σ τ (up2 ω 8 0 v) ε mv kp tr := ⟨zup_s, (zup_n (by omega)).trans H.2.1, (zup_n (by omega)).trans H.2.2.1, (zup_n (by omega)).trans H.2.2.2.1, (zup_n (by omega)).trans H.2.2.2.2.1, fun s hs => (zup_n (by omega)).trans (H.2.2.2.2.2.1 s hs), (zup_n (by omega)).trans H.2.2.2.2.2.2.1, (zup_n (by omega)).trans H.2.2.2.2.2.2.2.1, (zup_n (by omega)).trans H.2.2.2.2.2.2.2.2.1, (zup_n (by omega)).trans H.2.2.2.2.2.2.2.2.2.1, (zup_n (by omega)).trans H.2.2.2.2.2.2.2.2.2.2.1, (zup_n (by omega)).trans H.2.2.2.2.2.2.2.2.2.2.2.1, (zup_n (by omega)).trans H.2.2.2.2.2.2.2.2.2.2.2.2.1, (zup_n (by omega)).trans H.2.2.2.2.2.2.2.2.2.2.2.2.2.1, (zup_n (by omega)).trans H.2.2.2.2.2.2.2.2.2.2.2.2.2.2.1, (zup_n (by omega)).trans H.2.2.2.2.2.2.2.2.2.2.2.2.2.2.2.1, (zup_n (by omega)).trans H.2.2.2.2.2.2.2.2.2.2.2.2.2.2.2.2.1, (zup_n (by omega)).trans H.2.2.2.2.2.2.2.2.2.2.2.2.2.2.2.2.2.1, (zup_n (by omega)).trans H.2.2.2.2.2.2.2.2.2.2.2.2.2.2.2.2.2.2.1, (zup_n (by omega)).trans H.2.2.2.2.2.2.2.2.2.2.2.2.2.2.2.2.2.2.2.1, (zup_n (by omega)).trans H.2.2.2.2.2.2.2.2.2.2.2.2.2.2.2.2.2.2.2.2.1, (zup_n (by omega)).trans H.2.2.2.2.2.2.2.2.2.2.2.2.2.2.2.2.2.2.2.2.2⟩
theorem z_Mo_w25 {p : Nat} {v : Int32} {idx : Nat} {σ : Ln} {τ : Ln} {ω : Ln} {ε : El} {mv : Nat → Int64} {kp : Option Nat} {tr : Option Nat} (hd : zdec X pc = .ok (.putfield idx, 3)) (hf : zFl X.1.cls idx 5 25 false) (H : MoAt h p σ τ ω ε mv kp tr) (hB : B ≤ p) (kk : ∀ h1, MoAt h1 p σ τ (up2 ω 8 0 v) ε mv kp tr → Upd h h1 p 1 → Z D B X cs ss Q (pc + 3) L st h1 sz0) : Z D B X cs ss Q pc L (.int v :: .ref p :: st) h sz0 := z_putf hd hf H.1 hB rfl rfl (Nat.le_of_ble_eq_true rfl) (kk _ (MoAt.w25 H) Upd.one)
theorem MoAt.w26 {h : zH} {p : Nat} {v : Int32} {σ : Ln} {τ : Ln} {ω : Ln} {ε : El} {mv : Nat → Int64} {kp : Option Nat} {tr : Option Nat} (H : MoAt h p σ τ ω ε mv kp tr) : MoAt (zup h p (zO 5 ((fsMo p σ τ ω ε mv kp tr).set 26 (.int v)))) p σ τ (up2 ω 9 0 v) ε mv kp tr := ⟨zup_s, (zup_n (by omega)).trans H.2.1, (zup_n (by omega)).trans H.2.2.1, (zup_n (by omega)).trans H.2.2.2.1, (zup_n (by omega)).trans H.2.2.2.2.1, fun s hs => (zup_n (by omega)).trans (H.2.2.2.2.2.1 s hs), (zup_n (by omega)).trans H.2.2.2.2.2.2.1, (zup_n (by omega)).trans H.2.2.2.2.2.2.2.1, (zup_n (by omega)).trans H.2.2.2.2.2.2.2.2.1, (zup_n (by omega)).trans H.2.2.2.2.2.2.2.2.2.1, (zup_n (by omega)).trans H.2.2.2.2.2.2.2.2.2.2.1, (zup_n (by omega)).trans H.2.2.2.2.2.2.2.2.2.2.2.1, (zup_n (by omega)).trans H.2.2.2.2.2.2.2.2.2.2.2.2.1, (zup_n (by omega)).trans H.2.2.2.2.2.2.2.2.2.2.2.2.2.1, (zup_n (by omega)).trans H.2.2.2.2.2.2.2.2.2.2.2.2.2.2.1, (zup_n (by omega)).trans H.2.2.2.2.2.2.2.2.2.2.2.2.2.2.2.1, (zup_n (by omega)).trans H.2.2.2.2.2.2.2.2.2.2.2.2.2.2.2.2.1, (zup_n (by omega)).trans H.2.2.2.2.2.2.2.2.2.2.2.2.2.2.2.2.2.1, (zup_n (by omega)).trans H.2.2.2.2.2.2.2.2.2.2.2.2.2.2.2.2.2.2.1, (zup_n (by omega)).trans H.2.2.2.2.2.2.2.2.2.2.2.2.2.2.2.2.2.2.2.1, (zup_n (by omega)).trans H.2.2.2.2.2.2.2.2.2.2.2.2.2.2.2.2.2.2.2.2.1, (zup_n (by omega)).trans H.2.2.2.2.2.2.2.2.2.2.2.2.2.2.2.2.2.2.2.2.2⟩
theorem z_Mo_w26 {p : Nat} {v : Int32} {idx : Nat} {σ : Ln} {τ : Ln} {ω : Ln} {ε : El} {mv : Nat → Int64} {kp : Option Nat} {tr : Option Nat} (hd : zdec X pc = .ok (.putfield idx, 3)) (hf : zFl X.1.cls idx 5 26 false) (H : MoAt h p σ τ ω ε mv kp tr) (hB : B ≤ p) (kk : ∀ h1, MoAt h1 p σ τ (up2 ω 9 0 v) ε mv kp tr → Upd h h1 p 1 → Z D B X cs ss Q (pc + 3) L st h1 sz0) : Z D B X cs ss Q pc L (.int v :: .ref p :: st) h sz0 := z_putf hd hf H.1 hB rfl rfl (Nat.le_of_ble_eq_true rfl) (kk _ (MoAt.w26 H) Upd.one)
theorem MoAt.w27 {h : zH} {p : Nat} {v : Int32} {σ : Ln} {τ : Ln} {ω : Ln} {ε : El} {mv : Nat → Int64} {kp : Option Nat} {tr : Option Nat} (H : MoAt h p σ τ ω ε mv kp tr) : MoAt (zup h p (zO 5 ((fsMo p σ τ ω ε mv kp tr).set 27 (.int v)))) p σ τ (up2 ω 10 0 v) ε mv kp tr := ⟨zup_s, (zup_n (by omega)).trans H.2.1, (zup_n (by omega)).trans H.2.2.1, (zup_n (by omega)).trans H.2.2.2.1, (zup_n (by omega)).trans H.2.2.2.2.1, fun s hs => (zup_n (by omega)).trans (H.2.2.2.2.2.1 s hs), (zup_n (by omega)).trans H.2.2.2.2.2.2.1, (zup_n (by omega)).trans H.2.2.2.2.2.2.2.1, (zup_n (by omega)).trans H.2.2.2.2.2.2.2.2.1, (zup_n (by omega)).trans H.2.2.2.2.2.2.2.2.2.1, (zup_n (by omega)).trans H.2.2.2.2.2.2.2.2.2.2.1, (zup_n (by omega)).trans H.2.2.2.2.2.2.2.2.2.2.2.1, (zup_n (by omega)).trans H.2.2.2.2.2.2.2.2.2.2.2.2.1, (zup_n (by omega)).trans H.2.2.2.2.2.2.2.2.2.2.2.2.2.1, (zup_n (by omega)).trans H.2.2.2.2.2.2.2.2.2.2.2.2.2.2.1, (zup_n (by omega)).trans H.2.2.2.2.2.2.2.2.2.2.2.2.2.2.2.1, (zup_n (by omega)).trans H.2.2.2.2.2.2.2.2.2.2.2.2.2.2.2.2.1, (zup_n (by omega)).trans H.2.2.2.2.2.2.2.2.2.2.2.2.2.2.2.2.2.1, (zup_n (by omega)).trans H.2.2.2.2.2.2.2.2.2.2.2.2.2.2.2.2.2.2.1, (zup_n (by omega)).trans H.2.2.2.2.2.2.2.2.2.2.2.2.2.2.2.2.2.2.2.1, (zup_n (by omega)).trans H.2.2.2.2.2.2.2.2.2.2.2.2.2.2.2.2.2.2.2.2.1, (zup_n (by omega)).trans H.2.2.2.2.2.2.2.2.2.2.2.2.2.2.2.2.2.2.2.2.2⟩
theorem z_Mo_w27 {p : Nat} {v : Int32} {idx : Nat} {σ : Ln} {τ : Ln} {ω : Ln} {ε : El} {mv : Nat → Int64} {kp : Option Nat} {tr : Option Nat} (hd : zdec X pc = .ok (.putfield idx, 3)) (hf : zFl X.1.cls idx 5 27 false) (H : MoAt h p σ τ ω ε mv kp tr) (hB : B ≤ p) (kk : ∀ h1, MoAt h1 p σ τ (up2 ω 10 0 v) ε mv kp tr → Upd h h1 p 1 → Z D B X cs ss Q (pc + 3) L st h1 sz0) : Z D B X cs ss Q pc L (.int v :: .ref p :: st) h sz0 := z_putf hd hf H.1 hB rfl rfl (Nat.le_of_ble_eq_true rfl) (kk _ (MoAt.w27 H) Upd.one)
theorem MoAt.w28 {h : zH} {p : Nat} {v : Int32} {σ : Ln} {τ : Ln} {ω : Ln} {ε : El} {mv : Nat → Int64} {kp : Option Nat} {tr : Option Nat} (H : MoAt h p σ τ ω ε mv kp tr) : MoAt (zup h p (zO 5 ((fsMo p σ τ ω ε mv kp tr).set 28 (.int v)))) p σ τ (up2 ω 11 0 v) ε mv kp tr := ⟨zup_s, (zup_n (by omega)).trans H.2.1, (zup_n (by omega)).trans H.2.2.1, (zup_n (by omega)).trans H.2.2.2.1, (zup_n (by omega)).trans H.2.2.2.2.1, fun s hs => (zup_n (by omega)).trans (H.2.2.2.2.2.1 s hs), (zup_n (by omega)).trans H.2.2.2.2.2.2.1, (zup_n (by omega)).trans H.2.2.2.2.2.2.2.1, (zup_n (by omega)).trans H.2.2.2.2.2.2.2.2.1, (zup_n (by omega)).trans H.2.2.2.2.2.2.2.2.2.1, (zup_n (by omega)).trans H.2.2.2.2.2.2.2.2.2.2.1, (zup_n (by omega)).trans H.2.2.2.2.2.2.2.2.2.2.2.1, (zup_n (by omega)).trans H.2.2.2.2.2.2.2.2.2.2.2.2.1, (zup_n (by omega)).trans H.2.2.2.2.2.2.2.2.2.2.2.2.2.1, (zup_n (by omega)).trans H.2.2.2.2.2.2.2.2.2.2.2.2.2.2.1, (zup_n (by omega)).trans H.2.2.2.2.2.2.2.2.2.2.2.2.2.2.2.1, (zup_n (by omega)).trans H.2.2.2.2.2.2.2.2.2.2.2.2.2.2.2.2.1, (zup_n (by omega)).trans H.2.2.2.2.2.2.2.2.2.2.2.2.2.2.2.2.2.1, (zup_n (by omega)).trans H.2.2.2.2.2.2.2.2.2.2.2.2.2.2.2.2.2.2.1, (zup_n (by omega)).trans H.2.2.2.2.2.2.2.2.2.2.2.2.2.2.2.2.2.2.2.1, (zup_n (by omega)).trans H.2.2.2.2.2.2.2.2.2.2.2.2.2.2.2.2.2.2.2.2.1, (zup_n (by omega)).trans H.2.2.2.2.2.2.2.2.2.2.2.2.2.2.2.2.2.2.2.2.2⟩
theorem z_Mo_w28 {p : Nat} {v : Int32} {idx : Nat} {σ : Ln} {τ : Ln} {ω : Ln} {ε : El} {mv : Nat → Int64} {kp : Option Nat} {tr : Option Nat} (hd : zdec X pc = .ok (.putfield idx, 3)) (hf : zFl X.1.cls idx 5 28 false) (H : MoAt h p σ τ ω ε mv kp tr) (hB : B ≤ p) (kk : ∀ h1, MoAt h1 p σ τ (up2 ω 11 0 v) ε mv kp tr → Upd h h1 p 1 → Z D B X cs ss Q (pc + 3) L st h1 sz0) : Z D B X cs ss Q pc L (.int v :: .ref p :: st) h sz0 := z_putf hd hf H.1 hB rfl rfl (Nat.le_of_ble_eq_true rfl) (kk _ (MoAt.w28 H) Upd.one)
theorem MoAt.w29 {h : zH} {p : Nat} {v : Int32} {σ : Ln} {τ : Ln} {ω : Ln} {ε : El} {mv : Nat → Int64} {kp : Option Nat} {tr : Option Nat} (H : MoAt h p σ τ ω ε mv kp tr) : MoAt (zup h p (zO 5 ((fsMo p σ τ ω ε mv kp tr).set 29 (.int v)))) p σ τ (up2 ω 12 0 v) ε mv kp tr := ⟨zup_s, (zup_n (by omega)).trans H.2.1, (zup_n (by omega)).trans H.2.2.1, (zup_n (by omega)).trans H.2.2.2.1, (zup_n (by omega)).trans H.2.2.2.2.1, fun s hs => (zup_n (by omega)).trans (H.2.2.2.2.2.1 s hs), (zup_n (by omega)).trans H.2.2.2.2.2.2.1, (zup_n (by omega)).trans H.2.2.2.2.2.2.2.1, (zup_n (by omega)).trans H.2.2.2.2.2.2.2.2.1, (zup_n (by omega)).trans H.2.2.2.2.2.2.2.2.2.1, (zup_n (by omega)).trans H.2.2.2.2.2.2.2.2.2.2.1, (zup_n (by omega)).trans H.2.2.2.2.2.2.2.2.2.2.2.1, (zup_n (by omega)).trans H.2.2.2.2.2.2.2.2.2.2.2.2.1, (zup_n (by omega)).trans H.2.2.2.2.2.2.2.2.2.2.2.2.2.1, (zup_n (by omega)).trans H.2.2.2.2.2.2.2.2.2.2.2.2.2.2.1, (zup_n (by omega)).trans H.2.2.2.2.2.2.2.2.2.2.2.2.2.2.2.1, (zup_n (by omega)).trans H.2.2.2.2.2.2.2.2.2.2.2.2.2.2.2.2.1, (zup_n (by omega)).trans H.2.2.2.2.2.2.2.2.2.2.2.2.2.2.2.2.2.1, (zup_n (by omega)).trans H.2.2.2.2.2.2.2.2.2.2.2.2.2.2.2.2.2.2.1, (zup_n (by omega)).trans H.2.2.2.2.2.2.2.2.2.2.2.2.2.2.2.2.2.2.2.1, (zup_n (by omega)).trans H.2.2.2.2.2.2.2.2.2.2.2.2.2.2.2.2.2.2.2.2.1, (zup_n (by omega)).trans H.2.2.2.2.2.2.2.2.2.2.2.2.2.2.2.2.2.2.2.2.2⟩
theorem z_Mo_w29 {p : Nat} {v : Int32} {idx : Nat} {σ : Ln} {τ : Ln} {ω : Ln} {ε : El} {mv : Nat → Int64} {kp : Option Nat} {tr : Option Nat} (hd : zdec X pc = .ok (.putfield idx, 3)) (hf : zFl X.1.cls idx 5 29 false) (H : MoAt h p σ τ ω ε mv kp tr) (hB : B ≤ p) (kk : ∀ h1, MoAt h1 p σ τ (up2 ω 12 0 v) ε mv kp tr → Upd h h1 p 1 → Z D B X cs ss Q (pc + 3) L st h1 sz0) : Z D B X cs ss Q pc L (.int v :: .ref p :: st) h sz0 := z_putf hd hf H.1 hB rfl rfl (Nat.le_of_ble_eq_true rfl) (kk _ (MoAt.w29 H) Upd.one)
theorem MoAt.w31 {h : zH} {p : Nat} {v : Int32} {σ : Ln} {τ : Ln} {ω : Ln} {ε : El} {mv : Nat → Int64} {kp : Option Nat} {tr : Option Nat} (H : MoAt h p σ τ ω ε mv kp tr) : MoAt (zup h p (zO 5 ((fsMo p σ τ ω ε mv kp tr).set 31 (.int v)))) p σ τ (up2 ω 14 0 v) ε mv kp tr := ⟨zup_s, (zup_n (by omega)).trans H.2.1, (zup_n (by omega)).trans H.2.2.1, (zup_n (by omega)).trans H.2.2.2.1, (zup_n (by omega)).trans H.2.2.2.2.1, fun s hs => (zup_n (by omega)).trans (H.2.2.2.2.2.1 s hs), (zup_n (by omega)).trans H.2.2.2.2.2.2.1, (zup_n (by omega)).trans H.2.2.2.2.2.2.2.1, (zup_n (by omega)).trans H.2.2.2.2.2.2.2.2.1, (zup_n (by omega)).trans H.2.2.2.2.2.2.2.2.2.1, (zup_n (by omega)).trans H.2.2.2.2.2.2.2.2.2.2.1, (zup_n (by omega)).trans H.2.2.2.2.2.2.2.2.2.2.2.1, (zup_n (by omega)).trans H.2.2.2.2.2.2.2.2.2.2.2.2.1, (zup_n (by omega)).trans H.2.2.2.2.2.2.2.2.2.2.2.2.2.1, (zup_n (by omega)).trans H.2.2.2.2.2.2.2.2.2.2.2.2.2.2.1, (zup_n (by omega)).trans H.2.2.2.2.2.2.2.2.2.2.2.2.2.2.2.1, (zup_n (by omega)).trans H.2.2.2.2.2.2.2.2.2.2.2.2.2.2.2.2.1, (zup_n (by omega)).trans H.2.2.2.2.2.2.2.2.2.2.2.2.2.2.2.2.2.1, (zup_n (by omega)).trans H.2.2.2.2.2.2.2.2.2.2.2.2.2.2.2.2.2.2.1, (zup_n (by omega)).trans H.2.2.2.2.2.2.2.2.2.2.2.2.2.2.2.2.2.2.2.1, (zup_n (by omega)).trans H.2.2.2.2.2.2.2.2.2.2.2.2.2.2.2.2.2.2.2.2.1, (zup_n (by omega)).trans H.2.2.2.2.2.2.2.2.2.2.2.2.2.2.2.2.2.2.2.2.2⟩
theorem z_Mo_w31 {p : Nat} {v : Int32} {idx : Nat} {σ : Ln} {τ : Ln} {ω : Ln} {ε : El} {mv : Nat → Int64} {kp : Option Nat} {tr : Option Nat} (hd : zdec X pc = .ok (.putfield idx, 3)) (hf : zFl X.1.cls idx 5 31 false) (H : MoAt h p σ τ ω ε mv kp tr) (hB : B ≤ p) (kk : ∀ h1, MoAt h1 p σ τ (up2 ω 14 0 v) ε mv kp tr → Upd h h1 p 1 → Z D B X cs ss Q (pc + 3) L st h1 sz0) : Z D B X cs ss Q pc L (.int v :: .ref p :: st) h sz0 := z_putf hd hf H.1 hB rfl rfl (Nat.le_of_ble_eq_true rfl) (kk _ (MoAt.w31 H) Upd.one)
theorem MoAt.w32 {h : zH} {p : Nat} {v : Int32} {σ : Ln} {τ : Ln} {ω : Ln} {ε : El} {mv : Nat → Int64} {kp : Option Nat} {tr : Option Nat} (H : MoAt h p σ τ ω ε mv kp tr) : MoAt (zup h p (zO 5 ((fsMo p σ τ ω ε mv kp tr).set 32 (.int v)))) p σ τ (up2 ω 15 0 v) ε mv kp tr := ⟨zup_s, (zup_n (by omega)).trans H.2.1, (zup_n (by omega)).trans H.2.2.1, (zup_n (by omega)).trans H.2.2.2.1, (zup_n (by omega)).trans H.2.2.2.2.1, fun s hs => (zup_n (by omega)).trans (H.2.2.2.2.2.1 s hs), (zup_n (by omega)).trans H.2.2.2.2.2.2.1, (zup_n (by omega)).trans H.2.2.2.2.2.2.2.1, (zup_n (by omega)).trans H.2.2.2.2.2.2.2.2.1, (zup_n (by omega)).trans H.2.2.2.2.2.2.2.2.2.1, (zup_n (by omega)).trans H.2.2.2.2.2.2.2.2.2.2.1, (zup_n (by omega)).trans H.2.2.2.2.2.2.2.2.2.2.2.1, (zup_n (by omega)).trans H.2.2.2.2.2.2.2.2.2.2.2.2.1, (zup_n (by omega)).trans H.2.2.2.2.2.2.2.2.2.2.2.2.2.1, (zup_n (by omega)).trans H.2.2.2.2.2.2.2.2.2.2.2.2.2.2.1, (zup_n (by omega)).trans H.2.2.2.2.2.2.2.2.2.2.2.2.2.2.2.1, (zup_n (by omega)).trans H.2.2.2.2.2.2.2.2.2.2.2.2.2.2.2.2.1, (zup_n (by omega)).trans H.2.2.2.2.2.2.2.2.2.2.2.2.2.2.2.2.2.1, (zup_n (by omega)).trans H.2.2.2.2.2.2.2.2.2.2.2.2.2.2.2.2.2.2.1, (zup_n (by omega)).trans H.2.2.2.2.2.2.2.2.2.2.2.2.2.2.2.2.2.2.2.1, (zup_n (by omega)).trans H.2.2.2.2.2.2.2.2.2.2.2.2.2.2.2.2.2.2.2.2.1, (zup_n (by omega)).trans H.2.2.2.2.2.2.2.2.2.2.2.2.2.2.2.2.2.2.2.2.2⟩
theorem z_Mo_w32 {p : Nat} {v : Int32} {idx : Nat} {σ : Ln} {τ : Ln} {ω : Ln} {ε : El} {mv : Nat → Int64} {kp : Option Nat} {tr : Option Nat} (hd : zdec X pc = .ok (.putfield idx, 3)) (hf : zFl X.1.cls idx 5 32 false) (H : MoAt h p σ τ ω ε mv kp tr) (hB : B ≤ p) (kk : ∀ h1, MoAt h1 p σ τ (up2 ω 15 0 v) ε mv kp tr → Upd h h1 p 1 → Z D B X cs ss Q (pc + 3) L st h1 sz0) : Z D B X cs ss Q pc L (.int v :: .ref p :: st) h sz0 := z_putf hd hf H.1 hB rfl rfl (Nat.le_of_ble_eq_true rfl) (kk _ (MoAt.w32 H) Upd.one)
theorem MoAt.w33 {h : zH} {p : Nat} {v : Int32} {σ : Ln} {τ : Ln} {ω : Ln} {ε : El} {mv : Nat → Int64} {kp : Option Nat} {tr : Option Nat} (H : MoAt h p σ τ ω ε mv kp tr) : MoAt (zup h p (zO 5 ((fsMo p σ τ ω ε mv kp tr).set 33 (.int v)))) p σ τ (up2 ω 16 0 v) ε mv kp tr := ⟨zup_s, (zup_n (by omega)).trans H.2.1, (zup_n (by omega)).trans H.2.2.1, (zup_n (by omega)).trans H.2.2.2.1, (zup_n (by omega)).trans H.2.2.2.2.1, fun s hs => (zup_n (by omega)).trans (H.2.2.2.2.2.1 s hs), (zup_n (by omega)).trans H.2.2.2.2.2.2.1, (zup_n (by omega)).trans H.2.2.2.2.2.2.2.1, (zup_n (by omega)).trans H.2.2.2.2.2.2.2.2.1, (zup_n (by omega)).trans H.2.2.2.2.2.2.2.2.2.1, (zup_n (by omega)).trans H.2.2.2.2.2.2.2.2.2.2.1, (zup_n (by omega)).trans H.2.2.2.2.2.2.2.2.2.2.2.1, (zup_n (by omega)).trans H.2.2.2.2.2.2.2.2.2.2.2.2.1, (zup_n (by omega)).trans H.2.2.2.2.2.2.2.2.2.2.2.2.2.1, (zup_n (by omega)).trans H.2.2.2.2.2.2.2.2.2.2.2.2.2.2.1, (zup_n (by omega)).trans H.2.2.2.2.2.2.2.2.2.2.2.2.2.2.2.1, (zup_n (by omega)).trans H.2.2.2.2.2.2.2.2.2.2.2.2.2.2.2.2.1, (zup_n (by omega)).trans H.2.2.2.2.2.2.2.2.2.2.2.2.2.2.2.2.2.1, (zup_n (by omega)).trans H.2.2.2.2.2.2.2.2.2.2.2.2.2.2.2.2.2.2.1, (zup_n (by omega)).trans H.2.2.2.2.2.2.2.2.2.2.2.2.2.2.2.2.2.2.2.1, (zup_n (by omega)).trans H.2.2.2.2.2.2.2.2.2.2.2.2.2.2.2.2.2.2.2.2.1, (zup_n (by omega)).trans H.2.2.2.2.2.2.2.2.2.2.2.2.2.2.2.2.2.2.2.2.2⟩
theorem z_Mo_w33 {p : Nat} {v : Int32} {idx : Nat} {σ : Ln} {τ : Ln} {ω : Ln} {ε : El} {mv : Nat → Int64} {kp : Option Nat} {tr : Option Nat} (hd : zdec X pc = .ok (.putfield idx, 3)) (hf : zFl X.1.cls idx 5 33 false) (H : MoAt h p σ τ ω ε mv kp tr) (hB : B ≤ p) (kk : ∀ h1, MoAt h1 p σ τ (up2 ω 16 0 v) ε mv kp tr → Upd h h1 p 1 → Z D B X cs ss Q (pc + 3) L st h1 sz0) : Z D B X cs ss Q pc L (.int v :: .ref p :: st) h sz0 := z_putf hd hf H.1 hB rfl rfl (Nat.le_of_ble_eq_true rfl) (kk _ (MoAt.w33 H) Upd.one)
theorem MoAt.w36 {h : zH} {p : Nat} {v : Int32} {σ : Ln} {τ : Ln} {ω : Ln} {ε : El} {mv : Nat → Int64} {kp : Option Nat} {tr : Option Nat} (H : MoAt h p σ τ ω ε mv kp tr) : MoAt (zup h p (zO 5 ((fsMo p σ τ ω ε mv kp tr).set 36 (.int v)))) p σ τ (up2 ω 19 0 v) ε mv kp tr := ⟨zup_s, (zup_n (by omega)).trans H.2.1, (zup_n (by omega)).trans H.2.2.1, (zup_n (by omega)).trans H.2.2.2.1, (zup_n (by omega)).trans H.2.2.2.2.1, fun s hs => (zup_n (by omega)).trans (H.2.2.2.2.2.1 s hs), (zup_n (by omega)).trans H.2.2.2.2.2.2.1, (zup_n (by omega)).trans H.2.2.2.2.2.2.2.1, (zup_n (by omega)).trans H.2.2.2.2.2.2.2.2.1, (zup_n (by omega)).trans H.2.2.2.2.2.2.2.2.2.1, (zup_n (by omega)).trans H.2.2.2.2.2.2.2.2.2.2.1, (zup_n (by omega)).trans H.2.2.2.2.2.2.2.2.2.2.2.1, (zup_n (by omega)).trans H.2.2.2.2.2.2.2.2.2.2.2.2.1, (zup_n (by omega)).trans H.2.2.2.2.2.2.2.2.2.2.2.2.2.1, (zup_n (by omega)).trans H.2.2.2.2.2.2.2.2.2.2.2.2.2.2.1, (zup_n (by omega)).trans H.2.2.2.2.2.2.2.2.2.2.2.2.2.2.2.1, (zup_n (by omega)).trans H.2.2.2.2.2.2.2.2.2.2.2.2.2.2.2.2.1, (zup_n (by omega)).trans H.2.2.2.2.2.2.2.2.2.2.2.2.2.2.2.2.2.1, (zup_n (by omega)).trans H.2.2.2.2.2.2.2.2.2.2.2.2.2.2.2.2.2.2.1, (zup_n (by omega)).trans H.2.2.2.2.2.2.2.2.2.2.2.2.2.2.2.2.2.2.2.1, (zup_n (by omega)).trans H.2.2.2.2.2.2.2.2.2.2.2.2.2.2.2.2.2.2.2.2.1, (zup_n (by omega)).trans H.2.2.2.2.2.2.2.2.2.2.2.2.2.2.2.2.2.2.2.2.2⟩
theorem z_Mo_w36 {p : Nat} {v : Int32} {idx : Nat} {σ : Ln} {τ : Ln} {ω : Ln} {ε : El} {mv : Nat → Int64} {kp : Option Nat} {tr : Option Nat} (hd : zdec X pc = .ok (.putfield idx, 3)) (hf : zFl X.1.cls idx 5 36 false) (H : MoAt h p σ τ ω ε mv kp tr) (hB : B ≤ p) (kk : ∀ h1, MoAt h1 p σ τ (up2 ω 19 0 v) ε mv kp tr → Upd h h1 p 1 → Z D B X cs ss Q (pc + 3) L st h1 sz0) : Z D B X cs ss Q pc L (.int v :: .ref p :: st) h sz0 := z_putf hd hf H.1 hB rfl rfl (Nat.le_of_ble_eq_true rfl) (kk _ (MoAt.w36 H) Upd.one)
theorem MoAt.w37 {h : zH} {p : Nat} {v : Int32} {σ : Ln} {τ : Ln} {ω : Ln} {ε : El} {mv : Nat → Int64} {kp : Option Nat} {tr : Option Nat} (H : MoAt h p σ τ ω ε mv kp tr) : MoAt (zup h p (zO 5 ((fsMo p σ τ ω ε mv kp tr).set 37 (.int v)))) p σ τ (up2 ω 20 0 v) ε mv kp tr := ⟨zup_s, (zup_n (by omega)).trans H.2.1, (zup_n (by omega)).trans H.2.2.1, (zup_n (by omega)).trans H.2.2.2.1, (zup_n (by omega)).trans H.2.2.2.2.1, fun s hs => (zup_n (by omega)).trans (H.2.2.2.2.2.1 s hs), (zup_n (by omega)).trans H.2.2.2.2.2.2.1, (zup_n (by omega)).trans H.2.2.2.2.2.2.2.1, (zup_n (by omega)).trans H.2.2.2.2.2.2.2.2.1, (zup_n (by omega)).trans H.2.2.2.2.2.2.2.2.2.1, (zup_n (by omega)).trans H.2.2.2.2.2.2.2.2.2.2.1, (zup_n (by omega)).trans H.2.2.2.2.2.2.2.2.2.2.2.1, (zup_n (by omega)).trans H.2.2.2.2.2.2.2.2.2.2.2.2.1, (zup_n (by omega)).trans H.2.2.2.2.2.2.2.2.2.2.2.2.2.1, (zup_n (by omega)).trans H.2.2.2.2.2.2.2.2.2.2.2.2.2.2.1, (zup_n (by omega)).trans H.2.2.2.2.2.2.2.2.2.2.2.2.2.2.2.1, (zup_n (by omega)).trans H.2.2.2.2.2.2.2.2.2.2.2.2.2.2.2.2.1, (zup_n (by omega)).trans H.2.2.2.2.2.2.2.2.2.2.2.2.2.2.2.2.2.1, (zup_n (by omega)).trans H.2.2.2.2.2.2.2.2.2.2.2.2.2.2.2.2.2.2.1, (zup_n (by omega)).trans H.2.2.2.2.2.2.2.2.2.2.2.2.2.2.2.2.2.2.2.1, (zup_n (by omega)).trans H.2.2.2.2.2.2.2.2.2.2.2.2.2.2.2.2.2.2.2.2.1, (zup_n (by omega)).trans H.2.2.2.2.2.2.2.2.2.2.2.2.2.2.2.2.2.2.2.2.2⟩
theorem z_Mo_w37 {p : Nat} {v : Int32} {idx : Nat} {σ : Ln} {τ : Ln} {ω : Ln} {ε : El} {mv : Nat → Int64} {kp : Option Nat} {tr : Option Nat} (hd : zdec X pc = .ok (.putfield idx, 3)) (hf : zFl X.1.cls idx 5 37 false) (H : MoAt h p σ τ ω ε mv kp tr) (hB : B ≤ p) (kk : ∀ h1, MoAt h1 p σ τ (up2 ω 20 0 v) ε mv kp tr → Upd h h1 p 1 → Z D B X cs ss Q (pc + 3) L st h1 sz0) : Z D B X cs ss Q pc L (.int v :: .ref p :: st) h sz0 := z_putf hd hf H.1 hB rfl rfl (Nat.le_of_ble_eq_true rfl) (kk _ (MoAt.w37 H) Upd.one)
theorem MoAt.w38 {h : zH} {p : Nat} {v : Int32} {σ : Ln} {τ : Ln} {ω : Ln} {ε : El} {mv : Nat → Int64} {kp : Option Nat} {tr : Option Nat} (H : MoAt h p σ τ ω ε mv kp tr) : MoAt (zup h p (zO 5 ((fsMo p σ τ ω ε mv kp tr).set 38 (.int v)))) p σ τ (up2 ω 21 0 v) ε mv kp tr := ⟨zup_s, (zup_n (by omega)).trans H.2.1, (zup_n (by omega)).trans H.2.2.1, (zup_n (by omega)).trans H.2.2.2.1, (zup_n (by omega)).trans H.2.2.2.2.1, fun s hs => (zup_n (by omega)).trans (H.2.2.2.2.2.1 s hs), (zup_n (by omega)).trans H.2.2.2.2.2.2.1, (zup_n (by omega)).trans H.2.2.2.2.2.2.2.1, (zup_n (by omega)).trans H.2.2.2.2.2.2.2.2.1, (zup_n (by omega)).trans H.2.2.2.2.2.2.2.2.2.1, (zup_n (by omega)).trans H.2.2.2.2.2.2.2.2.2.2.1, (zup_n (by omega)).trans H.2.2.2.2.2.2.2.2.2.2.2.1, (zup_n (by omega)).trans H.2.2.2.2.2.2.2.2.2.2.2.2.1, (zup_n (by omega)).trans H.2.2.2.2.2.2.2.2.2.2.2.2.2.1, (zup_n (by omega)).trans H.2.2.2.2.2.2.2.2.2.2.2.2.2.2.1, (zup_n (by omega)).trans H.2.2.2.2.2.2.2.2.2.2.2.2.2.2.2.1, (zup_n (by omega)).trans H.2.2.2.2.2.2.2.2.2.2.2.2.2.2.2.2.1, (zup_n (by omega)).trans H.2.2.2.2.2.2.2.2.2.2.2.2.2.2.2.2.2.1, (zup_n (by omega)).trans H.2.2.2.2.2.2.2.2.2.2.2.2.2.2.2.2.2.2.1, (zup_n (by omega)).trans H.2.2.2.2.2.2.2.2.2.2.2.2.2.2.2.2.2.2.2.1, (zup_n (by omega)).trans H.2.2.2.2.2.2.2.2.2.2.2.2.2.2.2.2.2.2.2.2.1, (zup_n (by omega)).trans H.2.2.2.2.2.2.2.2.2.2.2.2.2.2.2.2.2.2.2.2.2⟩
theorem z_Mo_w38 {p : Nat} {v : Int32} {idx : Nat} {σ : Ln} {τ : Ln} {ω : Ln} {ε : El} {mv : Nat → Int64} {kp : Option Nat} {tr : Option Nat} (hd : zdec X pc = .ok (.putfield idx, 3)) (hf : zFl X.1.cls idx 5 38 false) (H : MoAt h p σ τ ω ε mv kp tr) (hB : B ≤ p) (kk : ∀ h1, MoAt h1 p σ τ (up2 ω 21 0 v) ε mv kp tr → Upd h h1 p 1 → Z D B X cs ss Q (pc + 3) L st h1 sz0) : Z D B X cs ss Q pc L (.int v :: .ref p :: st) h sz0 := z_putf hd hf H.1 hB rfl rfl (Nat.le_of_ble_eq_true rfl) (kk _ (MoAt.w38 H) Upd.one)
theorem MoAt.w40 {h : zH} {p : Nat} {v : Int32} {σ : Ln} {τ : Ln} {ω : Ln} {ε : El} {mv : Nat → Int64} {kp : Option Nat} {tr : Option Nat} (H : MoAt h p σ τ ω ε mv kp tr) : MoAt (zup h p (zO 5 ((fsMo p σ τ ω ε mv kp tr).set 40 (.int v)))) p σ τ (up2 ω 23 0 v) ε mv kp tr := ⟨zup_s, (zup_n (by omega)).trans H.2.1, (zup_n (by omega)).trans H.2.2.1, (zup_n (by omega)).trans H.2.2.2.1, (zup_n (by omega)).trans H.2.2.2.2.1, fun s hs => (zup_n (by omega)).trans (H.2.2.2.2.2.1 s hs), (zup_n (by omega)).trans H.2.2.2.2.2.2.1, (zup_n (by omega)).trans H.2.2.2.2.2.2.2.1, (zup_n (by omega)).trans H.2.2.2.2.2.2.2.2.1, (zup_n (by omega)).trans H.2.2.2.2.2.2.2.2.2.1, (zup_n (by omega)).trans H.2.2.2.2.2.2.2.2.2.2.1, (zup_n (by omega)).trans H.2.2.2.2.2.2.2.2.2.2.2.1, (zup_n (by omega)).trans H.2.2.2.2.2.2.2.2.2.2.2.2.1, (zup_n (by omega)).trans H.2.2.2.2.2.2.2.2.2.2.2.2.2.1, (zup_n (by omega)).trans H.2.2.2.2.2.2.2.2.2.2.2.2.2.2.1, (zup_n (by omega)).trans H.2.2.2.2.2.2.2.2.2.2.2.2.2.2.2.1, (zup_n (by omega)).trans H.2.2.2.2.2.2.2.2.2.2.2.2.2.2.2.2.1, (zup_n (by omega)).trans H.2.2.2.2.2.2.2.2.2.2.2.2.2.2.2.2.2.1, (zup_n (by omega)).trans H.2.2.2.2.2.2.2.2.2.2.2.2.2.2.2.2.2.2.1, (zup_n (by omega)).trans H.2.2.2.2.2.2.2.2.2.2.2.2.2.2.2.2.2.2.2.1, (zup_n (by omega)).trans H.2.2.2.2.2.2.2.2.2.2.2.2.2.2.2.2.2.2.2.2.1, (zup_n (by omega)).trans H.2.2.2.2.2.2.2.2.2.2.2.2.2.2.2.2.2.2.2.2.2⟩
theorem z_Mo_w40 {p : Nat} {v : Int32} {idx : Nat} {σ : Ln} {τ : Ln} {ω : Ln} {ε : El} {mv : Nat → Int64} {kp : Option Nat} {tr : Option Nat} (hd : zdec X pc = .ok (.putfield idx, 3)) (hf : zFl X.1.cls idx 5 40 false) (H : MoAt h p σ τ ω ε mv kp tr) (hB : B ≤ p) (kk : ∀ h1, MoAt h1 p σ τ (up2 ω 23 0 v) ε mv kp tr → Upd h h1 p 1 → Z D B X cs ss Q (pc + 3) L st h1 sz0) : Z D B X cs ss Q pc L (.int v :: .ref p :: st) h sz0 := z_putf hd hf H.1 hB rfl rfl (Nat.le_of_ble_eq_true rfl) (kk _ (MoAt.w40 H) Upd.one)
theorem gMo_0 {p : Nat} {σ : Ln} {τ : Ln} {ω : Ln} {ε : El} {mv : Nat → Int64} {kp : Option Nat} {tr : Option Nat} : (fsMo p σ τ ω ε mv kp tr)[0]? = some (.ref (p + 1)) := rfl
theorem gMo_1 {p : Nat} {σ : Ln} {τ : Ln} {ω : Ln} {ε : El} {mv : Nat → Int64} {kp : Option Nat} {tr : Option Nat} : (fsMo p σ τ ω ε mv kp tr)[1]? = some (.ref (p + 2)) := rfl
theorem gMo_2 {p : Nat} {σ : Ln} {τ : Ln} {ω : Ln} {ε : El} {mv : Nat → Int64} {kp : Option Nat} {tr : Option Nat} : (fsMo p σ τ ω ε mv kp tr)[2]? = some (.ref (p + 3)) := rfl
theorem gMo_3 {p : Nat} {σ : Ln} {τ : Ln} {ω : Ln} {ε : El} {mv : Nat → Int64} {kp : Option Nat} {tr : Option Nat} : (fsMo p σ τ ω ε mv kp tr)[3]? = some (.ref (p + 4)) := rfl
theorem gMo_4 {p : Nat} {σ : Ln} {τ : Ln} {ω : Ln} {ε : El} {mv : Nat → Int64} {kp : Option Nat} {tr : Option Nat} : (fsMo p σ τ ω ε mv kp tr)[4]? = some (.ref (p + 13)) := rfl
theorem gMo_5 {p : Nat} {σ : Ln} {τ : Ln} {ω : Ln} {ε : El} {mv : Nat → Int64} {kp : Option Nat} {tr : Option Nat} : (fsMo p σ τ ω ε mv kp tr)[5]? = some (.ref (p + 14)) := rfl
theorem gMo_6 {p : Nat} {σ : Ln} {τ : Ln} {ω : Ln} {ε : El} {mv : Nat → Int64} {kp : Option Nat} {tr : Option Nat} : (fsMo p σ τ ω ε mv kp tr)[6]? = some (.ref (p + 15)) := rfl
theorem gMo_7 {p : Nat} {σ : Ln} {τ : Ln} {ω : Ln} {ε : El} {mv : Nat → Int64} {kp : Option Nat} {tr : Option Nat} : (fsMo p σ τ ω ε mv kp tr)[7]? = some (.int (τ 6 0)) := rfl
theorem gMo_8 {p : Nat} {σ : Ln} {τ : Ln} {ω : Ln} {ε : El} {mv : Nat → Int64} {kp : Option Nat} {tr : Option Nat} : (fsMo p σ τ ω ε mv kp tr)[8]? = some (.ref (p + 16)) := rfl
theorem gMo_9 {p : Nat} {σ : Ln} {τ : Ln} {ω : Ln} {ε : El} {mv : Nat → Int64} {kp : Option Nat} {tr : Option Nat} : (fsMo p σ τ ω ε mv kp tr)[9]? = some (.int (σ 0 0)) := rfl
theorem gMo_10 {p : Nat} {σ : Ln} {τ : Ln} {ω : Ln} {ε : El} {mv : Nat → Int64} {kp : Option Nat} {tr : Option Nat} : (fsMo p σ τ ω ε mv kp tr)[10]? = some (.ref (p + 17)) := rfl
theorem gMo_11 {p : Nat} {σ : Ln} {τ : Ln} {ω : Ln} {ε : El} {mv : Nat → Int64} {kp : Option Nat} {tr : Option Nat} : (fsMo p σ τ ω ε mv kp tr)[11]? = some (.ref (p + 18)) := rfl
theorem gMo_12 {p : Nat} {σ : Ln} {τ : Ln} {ω : Ln} {ε : El} {mv : Nat → Int64} {kp : Option Nat} {tr : Option Nat} : (fsMo p σ τ ω ε mv kp tr)[12]? = some (.ref (p + 19)) := rfl
theorem gMo_13 {p : Nat} {σ : Ln} {τ : Ln} {ω : Ln} {ε : El} {mv : Nat → Int64} {kp : Option Nat} {tr : Option Nat} : (fsMo p σ τ ω ε mv kp tr)[13]? = some (.ref (p + 20)) := rfl
theorem gMo_14 {p : Nat} {σ : Ln} {τ : Ln} {ω : Ln} {ε : El} {mv : Nat → Int64} {kp : Option Nat} {tr : Option Nat} : (fsMo p σ τ ω ε mv kp tr)[14]? = some (.int (σ 5 0)) := rfl
theorem gMo_15 {p : Nat} {σ : Ln} {τ : Ln} {ω : Ln} {ε : El} {mv : Nat → Int64} {kp : Option Nat} {tr : Option Nat} : (fsMo p σ τ ω ε mv kp tr)[15]? = some (.int (σ 6 0)) := rfl
theorem gMo_16 {p : Nat} {σ : Ln} {τ : Ln} {ω : Ln} {ε : El} {mv : Nat → Int64} {kp : Option Nat} {tr : Option Nat} : (fsMo p σ τ ω ε mv kp tr)[16]? = some (.int (σ 7 0)) := rfl
theorem gMo_17 {p : Nat} {σ : Ln} {τ : Ln} {ω : Ln} {ε : El} {mv : Nat → Int64} {kp : Option Nat} {tr : Option Nat} : (fsMo p σ τ ω ε mv kp tr)[17]? = some (.int (σ 9 0)) := rfl
theorem gMo_18 {p : Nat} {σ : Ln} {τ : Ln} {ω : Ln} {ε : El} {mv : Nat → Int64} {kp : Option Nat} {tr : Option Nat} : (fsMo p σ τ ω ε mv kp tr)[18]? = some (.ref (p + 21)) := rfl
theorem gMo_19 {p : Nat} {σ : Ln} {τ : Ln} {ω : Ln} {ε : El} {mv : Nat → Int64} {kp : Option Nat} {tr : Option Nat} : (fsMo p σ τ ω ε mv kp tr)[19]? = some (.ref (p + 22)) := rfl
theorem gMo_20 {p : Nat} {σ : Ln} {τ : Ln} {ω : Ln} {ε : El} {mv : Nat → Int64} {kp : Option Nat} {tr : Option Nat} : (fsMo p σ τ ω ε mv kp tr)[20]? = some (.ref (p + 23)) := rfl
theorem gMo_21 {p : Nat} {σ : Ln} {τ : Ln} {ω : Ln} {ε : El} {mv : Nat → Int64} {kp : Option Nat} {tr : Option Nat} : (fsMo p σ τ ω ε mv kp tr)[21]? = some (.ref (p + 24)) := rfl
theorem gMo_22 {p : Nat} {σ : Ln} {τ : Ln} {ω : Ln} {ε : El} {mv : Nat → Int64} {kp : Option Nat} {tr : Option Nat} : (fsMo p σ τ ω ε mv kp tr)[22]? = some (.int (σ 8 0)) := rfl
theorem gMo_23 {p : Nat} {σ : Ln} {τ : Ln} {ω : Ln} {ε : El} {mv : Nat → Int64} {kp : Option Nat} {tr : Option Nat} : (fsMo p σ τ ω ε mv kp tr)[23]? = some (va_rf kp) := rfl
theorem gMo_24 {p : Nat} {σ : Ln} {τ : Ln} {ω : Ln} {ε : El} {mv : Nat → Int64} {kp : Option Nat} {tr : Option Nat} : (fsMo p σ τ ω ε mv kp tr)[24]? = some (va_rf tr) := rfl
theorem gMo_25 {p : Nat} {σ : Ln} {τ : Ln} {ω : Ln} {ε : El} {mv : Nat → Int64} {kp : Option Nat} {tr : Option Nat} : (fsMo p σ τ ω ε mv kp tr)[25]? = some (.int (ω 8 0)) := rfl
theorem gMo_26 {p : Nat} {σ : Ln} {τ : Ln} {ω : Ln} {ε : El} {mv : Nat → Int64} {kp : Option Nat} {tr : Option Nat} : (fsMo p σ τ ω ε mv kp tr)[26]? = some (.int (ω 9 0)) := rfl
theorem gMo_27 {p : Nat} {σ : Ln} {τ : Ln} {ω : Ln} {ε : El} {mv : Nat → Int64} {kp : Option Nat} {tr : Option Nat} : (fsMo p σ τ ω ε mv kp tr)[27]? = some (.int (ω 10 0)) := rfl
theorem gMo_28 {p : Nat} {σ : Ln} {τ : Ln} {ω : Ln} {ε : El} {mv : Nat → Int64} {kp : Option Nat} {tr : Option Nat} : (fsMo p σ τ ω ε mv kp tr)[28]? = some (.int (ω 11 0)) := rfl
theorem gMo_29 {p : Nat} {σ : Ln} {τ : Ln} {ω : Ln} {ε : El} {mv : Nat → Int64} {kp : Option Nat} {tr : Option Nat} : (fsMo p σ τ ω ε mv kp tr)[29]? = some (.int (ω 12 0)) := rfl
theorem gMo_30 {p : Nat} {σ : Ln} {τ : Ln} {ω : Ln} {ε : El} {mv : Nat → Int64} {kp : Option Nat} {tr : Option Nat} : (fsMo p σ τ ω ε mv kp tr)[30]? = some (.ref (p + 25)) := rfl
theorem gMo_31 {p : Nat} {σ : Ln} {τ : Ln} {ω : Ln} {ε : El} {mv : Nat → Int64} {kp : Option Nat} {tr : Option Nat} : (fsMo p σ τ ω ε mv kp tr)[31]? = some (.int (ω 14 0)) := rfl
theorem gMo_32 {p : Nat} {σ : Ln} {τ : Ln} {ω : Ln} {ε : El} {mv : Nat → Int64} {kp : Option Nat} {tr : Option Nat} : (fsMo p σ τ ω ε mv kp tr)[32]? = some (.int (ω 15 0)) := rfl
theorem gMo_33 {p : Nat} {σ : Ln} {τ : Ln} {ω : Ln} {ε : El} {mv : Nat → Int64} {kp : Option Nat} {tr : Option Nat} : (fsMo p σ τ ω ε mv kp tr)[33]? = some (.int (ω 16 0)) := rfl
theorem gMo_34 {p : Nat} {σ : Ln} {τ : Ln} {ω : Ln} {ε : El} {mv : Nat → Int64} {kp : Option Nat} {tr : Option Nat} : (fsMo p σ τ ω ε mv kp tr)[34]? = some (.ref (p + 26)) := rfl
theorem gMo_35 {p : Nat} {σ : Ln} {τ : Ln} {ω : Ln} {ε : El} {mv : Nat → Int64} {kp : Option Nat} {tr : Option Nat} : (fsMo p σ τ ω ε mv kp tr)[35]? = some (.ref (p + 27)) := rfl
theorem gMo_36 {p : Nat} {σ : Ln} {τ : Ln} {ω : Ln} {ε : El} {mv : Nat → Int64} {kp : Option Nat} {tr : Option Nat} : (fsMo p σ τ ω ε mv kp tr)[36]? = some (.int (ω 19 0)) := rfl
theorem gMo_37 {p : Nat} {σ : Ln} {τ : Ln} {ω : Ln} {ε : El} {mv : Nat → Int64} {kp : Option Nat} {tr : Option Nat} : (fsMo p σ τ ω ε mv kp tr)[37]? = some (.int (ω 20 0)) := rfl
theorem gMo_38 {p : Nat} {σ : Ln} {τ : Ln} {ω : Ln} {ε : El} {mv : Nat → Int64} {kp : Option Nat} {tr : Option Nat} : (fsMo p σ τ ω ε mv kp tr)[38]? = some (.int (ω 21 0)) := rfl
theorem gMo_39 {p : Nat} {σ : Ln} {τ : Ln} {ω : Ln} {ε : El} {mv : Nat → Int64} {kp : Option Nat} {tr : Option Nat} : (fsMo p σ τ ω ε mv kp tr)[39]? = some (.ref (p + 28)) := rfl
theorem gMo_40 {p : Nat} {σ : Ln} {τ : Ln} {ω : Ln} {ε : El} {mv : Nat → Int64} {kp : Option Nat} {tr : Option Nat} : (fsMo p σ τ ω ε mv kp tr)[40]? = some (.int (ω 23 0)) := rfl
theorem MoAt.u1 {h : zH} {p j : Nat} {v : Int32} {σ : Ln} {τ : Ln} {ω : Ln} {ε : El} {mv : Nat → Int64} {kp : Option Nat} {tr : Option Nat} (H : MoAt h p σ τ ω ε mv kp tr) : MoAt (zup h (p + 1) (zI 8 (upd (τ 1) j v))) p σ (up2 τ 1 j v) ω ε mv kp tr := ⟨(zup_n (by omega)).trans H.1, zup_s, (zup_n (by omega)).trans H.2.2.1, (zup_n (by omega)).trans H.2.2.2.1, (zup_n (by omega)).trans H.2.2.2.2.1, fun s hs => (zup_n (by omega)).trans (H.2.2.2.2.2.1 s hs), (zup_n (by omega)).trans H.2.2.2.2.2.2.1, (zup_n (by omega)).trans H.2.2.2.2.2.2.2.1, (zup_n (by omega)).trans H.2.2.2.2.2.2.2.2.1, (zup_n (by omega)).trans H.2.2.2.2.2.2.2.2.2.1, (zup_n (by omega)).trans H.2.2.2.2.2.2.2.2.2.2.1, (zup_n (by omega)).trans H.2.2.2.2.2.2.2.2.2.2.2.1, (zup_n (by omega)).trans H.2.2.2.2.2.2.2.2.2.2.2.2.1, (zup_n (by omega)).trans H.2.2.2.2.2.2.2.2.2.2.2.2.2.1, (zup_n (by omega)).trans H.2.2.2.2.2.2.2.2.2.2.2.2.2.2.1, (zup_n (by omega)).trans H.2.2.2.2.2.2.2.2.2.2.2.2.2.2.2.1, (zup_n (by omega)).trans H.2.2.2.2.2.2.2.2.2.2.2.2.2.2.2.2.1, (zup_n (by omega)).trans H.2.2.2.2.2.2.2.2.2.2.2.2.2.2.2.2.2.1, (zup_n (by omega)).trans H.2.2.2.2.2.2.2.2.2.2.2.2.2.2.2.2.2.2.1, (zup_n (by omega)).trans H.2.2.2.2.2.2.2.2.2.2.2.2.2.2.2.2.2.2.2.1, (zup_n (by omega)).trans H.2.2.2.2.2.2.2.2.2.2.2.2.2.2.2.2.2.2.2.2.1, (zup_n (by omega)).trans H.2.2.2.2.2.2.2.2.2.2.2.2.2.2.2.2.2.2.2.2.2⟩
theorem z_Mo_s1 {p j : Nat} {v : Int32} {σ : Ln} {τ : Ln} {ω : Ln} {ε : El} {mv : Nat → Int64} {kp : Option Nat} {tr : Option Nat} (hd : zdec X pc = .ok (.iastore, 1)) (H : MoAt h p σ τ ω ε mv kp tr) (hB : B ≤ p) (hj : j < 8) (kk : ∀ h1, MoAt h1 p σ (up2 τ 1 j v) ω ε mv kp tr → Upd h h1 (p + 1) 1 → Z D B X cs ss Q (pc + 1) L st h1 sz0) : Z D B X cs ss Q pc L (.int v :: .int (nI j) :: .ref (p + 1) :: st) h sz0 := by
  refine z_iast hd H.2.1 (by omega) (vp_in_nI hj (by decide)) ?_
  rw [nI_clamp (by omega)]
  exact kk _ (MoAt.u1 H) Upd.one
theorem MoAt.u2 {h : zH} {p j : Nat} {v : Int32} {σ : Ln} {τ : Ln} {ω : Ln} {ε : El} {mv : Nat → Int64} {kp : Option Nat} {tr : Option Nat} (H : MoAt h p σ τ ω ε mv kp tr) : MoAt (zup h (p + 2) (zI 8 (upd (τ 2) j v))) p σ (up2 τ 2 j v) ω ε mv kp tr := ⟨(zup_n (by omega)).trans H.1, (zup_n (by omega)).trans H.2.1, zup_s, (zup_n (by omega)).trans H.2.2.2.1, (zup_n (by omega)).trans H.2.2.2.2.1, fun s hs => (zup_n (by omega)).trans (H.2.2.2.2.2.1 s hs), (zup_n (by omega)).trans H.2.2.2.2.2.2.1, (zup_n (by omega)).trans H.2.2.2.2.2.2.2.1, (zup_n (by omega)).trans H.2.2.2.2.2.2.2.2.1, (zup_n (by omega)).trans H.2.2.2.2.2.2.2.2.2.1, (zup_n (by omega)).trans H.2.2.2.2.2.2.2.2.2.2.1, (zup_n (by omega)).trans H.2.2.2.2.2.2.2.2.2.2.2.1, (zup_n (by omega)).trans H.2.2.2.2.2.2.2.2.2.2.2.2.1, (zup_n (by omega)).trans H.2.2.2.2.2.2.2.2.2.2.2.2.2.1, (zup_n (by omega)).trans H.2.2.2.2.2.2.2.2.2.2.2.2.2.2.1, (zup_n (by omega)).trans H.2.2.2.2.2.2.2.2.2.2.2.2.2.2.2.1, (zup_n (by omega)).trans H.2.2.2.2.2.2.2.2.2.2.2.2.2.2.2.2.1, (zup_n (by omega)).trans H.2.2.2.2.2.2.2.2.2.2.2.2.2.2.2.2.2.1, (zup_n (by omega)).trans H.2.2.2.2.2.2.2.2.2.2.2.2.2.2.2.2.2.2.1, (zup_n (by omega)).trans H.2.2.2.2.2.2.2.2.2.2.2.2.2.2.2.2.2.2.2.1, (zup_n (by omega)).trans H.2.2.2.2.2.2.2.2.2.2.2.2.2.2.2.2.2.2.2.2.1, (zup_n (by omega)).trans H.2.2.2.2.2.2.2.2.2.2.2.2.2.2.2.2.2.2.2.2.2⟩
theorem z_Mo_s2 {p j : Nat} {v : Int32} {σ : Ln} {τ : Ln} {ω : Ln} {ε : El} {mv : Nat → Int64} {kp : Option Nat} {tr : Option Nat} (hd : zdec X pc = .ok (.iastore, 1)) (H : MoAt h p σ τ ω ε mv kp tr) (hB : B ≤ p) (hj : j < 8) (kk : ∀ h1, MoAt h1 p σ (up2 τ 2 j v) ω ε mv kp tr → Upd h h1 (p + 2) 1 → Z D B X cs ss Q (pc + 1) L st h1 sz0) : Z D B X cs ss Q pc L (.int v :: .int (nI j) :: .ref (p + 2) :: st) h sz0 := by
  refine z_iast hd H.2.2.1 (by omega) (vp_in_nI hj (by decide)) ?_
  rw [nI_clamp (by omega)]
  exact kk _ (MoAt.u2 H) Upd.one
theorem MoAt.u3 {h : zH} {p j : Nat} {v : Int32} {σ : Ln} {τ : Ln} {ω : Ln} {ε : El} {mv : Nat → Int64} {kp : Option Nat} {tr : Option Nat} (H : MoAt h p σ τ ω ε mv kp tr) : MoAt (zup h (p + 3) (zI 8 (upd (τ 3) j v))) p σ (up2 τ 3 j v) ω ε mv kp tr := ⟨(zup_n (by omega)).trans H.1, (zup_n (by omega)).trans H.2.1, (zup_n (by omega)).trans H.2.2.1, zup_s, (zup_n (by omega)).trans H.2.2.2.2.1, fun s hs => (zup_n (by omega)).trans (H.2.2.2.2.2.1 s hs), (zup_n (by omega)).trans H.2.2.2.2.2.2.1, (zup_n (by omega)).trans H.2.2.2.2.2.2.2.1, (zup_n (by omega)).trans H.2.2.2.2.2.2.2.2.1, (zup_n (by omega)).trans H.2.2.2.2.2.2.2.2.2.1, (zup_n (by omega)).trans H.2.2.2.2.2.2.2.2.2.2.1, (zup_n (by omega)).trans H.2.2.2.2.2.2.2.2.2.2.2.1, (zup_n (by omega)).trans H.2.2.2.2.2.2.2.2.2.2.2.2.1, (zup_n (by omega)).trans H.2.2.2.2.2.2.2.2.2.2.2.2.2.1, (zup_n (by omega)).trans H.2.2.2.2.2.2.2.2.2.2.2.2.2.2.1, (zup_n (by omega)).trans H.2.2.2.2.2.2.2.2.2.2.2.2.2.2.2.1, (zup_n (by omega)).trans H.2.2.2.2.2.2.2.2.2.2.2.2.2.2.2.2.1, (zup_n (by omega)).trans H.2.2.2.2.2.2.2.2.2.2.2.2.2.2.2.2.2.1, (zup_n (by omega)).trans H.2.2.2.2.2.2.2.2.2.2.2.2.2.2.2.2.2.2.1, (zup_n (by omega)).trans H.2.2.2.2.2.2.2.2.2.2.2.2.2.2.2.2.2.2.2.1, (zup_n (by omega)).trans H.2.2.2.2.2.2.2.2.2.2.2.2.2.2.2.2.2.2.2.2.1, (zup_n (by omega)).trans H.2.2.2.2.2.2.2.2.2.2.2.2.2.2.2.2.2.2.2.2.2⟩
theorem z_Mo_s3 {p j : Nat} {v : Int32} {σ : Ln} {τ : Ln} {ω : Ln} {ε : El} {mv : Nat → Int64} {kp : Option Nat} {tr : Option Nat} (hd : zdec X pc = .ok (.iastore, 1)) (H : MoAt h p σ τ ω ε mv kp tr) (hB : B ≤ p) (hj : j < 8) (kk : ∀ h1, MoAt h1 p σ (up2 τ 3 j v) ω ε mv kp tr → Upd h h1 (p + 3) 1 → Z D B X cs ss Q (pc + 1) L st h1 sz0) : Z D B X cs ss Q pc L (.int v :: .int (nI j) :: .ref (p + 3) :: st) h sz0 := by
  refine z_iast hd H.2.2.2.1 (by omega) (vp_in_nI hj (by decide)) ?_
  rw [nI_clamp (by omega)]
  exact kk _ (MoAt.u3 H) Upd.one
theorem MoAt.urow {h : zH} {p s j : Nat} {v : Int64} {σ : Ln} {τ : Ln} {ω : Ln} {ε : El} {mv : Nat → Int64} {kp : Option Nat} {tr : Option Nat} (hs : s < 8) (H : MoAt h p σ τ ω ε mv kp tr) : MoAt (zup h (p + 4 + 1 + s) (zJ 40 (vp_updL (ε s) j v))) p σ τ ω (upE ε s j v) mv kp tr := ⟨(zup_n (by omega)).trans H.1, (zup_n (by omega)).trans H.2.1, (zup_n (by omega)).trans H.2.2.1, (zup_n (by omega)).trans H.2.2.2.1, (zup_n (by omega)).trans H.2.2.2.2.1, fun r hr => by
    by_cases q : r = s
    · subst q
      rw [zup_s]
      simp [upE]
    · rw [zup_n (by omega), H.2.2.2.2.2.1 r hr]
      simp [upE, q], (zup_n (by omega)).trans H.2.2.2.2.2.2.1, (zup_n (by omega)).trans H.2.2.2.2.2.2.2.1, (zup_n (by omega)).trans H.2.2.2.2.2.2.2.2.1, (zup_n (by omega)).trans H.2.2.2.2.2.2.2.2.2.1, (zup_n (by omega)).trans H.2.2.2.2.2.2.2.2.2.2.1, (zup_n (by omega)).trans H.2.2.2.2.2.2.2.2.2.2.2.1, (zup_n (by omega)).trans H.2.2.2.2.2.2.2.2.2.2.2.2.1, (zup_n (by omega)).trans H.2.2.2.2.2.2.2.2.2.2.2.2.2.1, (zup_n (by omega)).trans H.2.2.2.2.2.2.2.2.2.2.2.2.2.2.1, (zup_n (by omega)).trans H.2.2.2.2.2.2.2.2.2.2.2.2.2.2.2.1, (zup_n (by omega)).trans H.2.2.2.2.2.2.2.2.2.2.2.2.2.2.2.2.1, (zup_n (by omega)).trans H.2.2.2.2.2.2.2.2.2.2.2.2.2.2.2.2.2.1, (zup_n (by omega)).trans H.2.2.2.2.2.2.2.2.2.2.2.2.2.2.2.2.2.2.1, (zup_n (by omega)).trans H.2.2.2.2.2.2.2.2.2.2.2.2.2.2.2.2.2.2.2.1, (zup_n (by omega)).trans H.2.2.2.2.2.2.2.2.2.2.2.2.2.2.2.2.2.2.2.2.1, (zup_n (by omega)).trans H.2.2.2.2.2.2.2.2.2.2.2.2.2.2.2.2.2.2.2.2.2⟩
theorem z_Mo_srow {p s j : Nat} {v : Int64} {σ : Ln} {τ : Ln} {ω : Ln} {ε : El} {mv : Nat → Int64} {kp : Option Nat} {tr : Option Nat} (hd : zdec X pc = .ok (.lastore, 1)) (H : MoAt h p σ τ ω ε mv kp tr) (hB : B ≤ p) (hs : s < 8) (hj : j < 40) (kk : ∀ h1, MoAt h1 p σ τ ω (upE ε s j v) mv kp tr → Upd h h1 (p + 4 + 1 + s) 1 → Z D B X cs ss Q (pc + 1) L st h1 sz0) : Z D B X cs ss Q pc L (.long v :: .int (nI j) :: .ref (p + 4 + 1 + s) :: st) h sz0 := by
  refine z_last hd (H.2.2.2.2.2.1 s hs) (by omega) (vp_in_nI hj (by decide)) ?_
  rw [nI_clamp (by omega)]
  exact kk _ (MoAt.urow hs H) Upd.one
theorem MoAt.u13 {h : zH} {p j : Nat} {v : Int64} {σ : Ln} {τ : Ln} {ω : Ln} {ε : El} {mv : Nat → Int64} {kp : Option Nat} {tr : Option Nat} (H : MoAt h p σ τ ω ε mv kp tr) : MoAt (zup h (p + 13) (zJ 40 (vp_updL mv j v))) p σ τ ω ε (vp_updL mv j v) kp tr := ⟨(zup_n (by omega)).trans H.1, (zup_n (by omega)).trans H.2.1, (zup_n (by omega)).trans H.2.2.1, (zup_n (by omega)).trans H.2.2.2.1, (zup_n (by omega)).trans H.2.2.2.2.1, fun s hs => (zup_n (by omega)).trans (H.2.2.2.2.2.1 s hs), zup_s, (zup_n (by omega)).trans H.2.2.2.2.2.2.2.1, (zup_n (by omega)).trans H.2.2.2.2.2.2.2.2.1, (zup_n (by omega)).trans H.2.2.2.2.2.2.2.2.2.1, (zup_n (by omega)).trans H.2.2.2.2.2.2.2.2.2.2.1, (zup_n (by omega)).trans H.2.2.2.2.2.2.2.2.2.2.2.1, (zup_n (by omega)).trans H.2.2.2.2.2.2.2.2.2.2.2.2.1, (zup_n (by omega)).trans H.2.2.2.2.2.2.2.2.2.2.2.2.2.1, (zup_n (by omega)).trans H.2.2.2.2.2.2.2.2.2.2.2.2.2.2.1, (zup_n (by omega)).trans H.2.2.2.2.2.2.2.2.2.2.2.2.2.2.2.1, (zup_n (by omega)).trans H.2.2.2.2.2.2.2.2.2.2.2.2.2.2.2.2.1, (zup_n (by omega)).trans H.2.2.2.2.2.2.2.2.2.2.2.2.2.2.2.2.2.1, (zup_n (by omega)).trans H.2.2.2.2.2.2.2.2.2.2.2.2.2.2.2.2.2.2.1, (zup_n (by omega)).trans H.2.2.2.2.2.2.2.2.2.2.2.2.2.2.2.2.2.2.2.1, (zup_n (by omega)).trans H.2.2.2.2.2.2.2.2.2.2.2.2.2.2.2.2.2.2.2.2.1, (zup_n (by omega)).trans H.2.2.2.2.2.2.2.2.2.2.2.2.2.2.2.2.2.2.2.2.2⟩
theorem z_Mo_s13 {p j : Nat} {v : Int64} {σ : Ln} {τ : Ln} {ω : Ln} {ε : El} {mv : Nat → Int64} {kp : Option Nat} {tr : Option Nat} (hd : zdec X pc = .ok (.lastore, 1)) (H : MoAt h p σ τ ω ε mv kp tr) (hB : B ≤ p) (hj : j < 40) (kk : ∀ h1, MoAt h1 p σ τ ω ε (vp_updL mv j v) kp tr → Upd h h1 (p + 13) 1 → Z D B X cs ss Q (pc + 1) L st h1 sz0) : Z D B X cs ss Q pc L (.long v :: .int (nI j) :: .ref (p + 13) :: st) h sz0 := by
  refine z_last hd H.2.2.2.2.2.2.1 (by omega) (vp_in_nI hj (by decide)) ?_
  rw [nI_clamp (by omega)]
  exact kk _ (MoAt.u13 H) Upd.one
theorem MoAt.u14 {h : zH} {p j : Nat} {v : Int32} {σ : Ln} {τ : Ln} {ω : Ln} {ε : El} {mv : Nat → Int64} {kp : Option Nat} {tr : Option Nat} (H : MoAt h p σ τ ω ε mv kp tr) : MoAt (zup h (p + 14) (zI 8 (upd (τ 4) j v))) p σ (up2 τ 4 j v) ω ε mv kp tr := ⟨(zup_n (by omega)).trans H.1, (zup_n (by omega)).trans H.2.1, (zup_n (by omega)).trans H.2.2.1, (zup_n (by omega)).trans H.2.2.2.1, (zup_n (by omega)).trans H.2.2.2.2.1, fun s hs => (zup_n (by omega)).trans (H.2.2.2.2.2.1 s hs), (zup_n (by omega)).trans H.2.2.2.2.2.2.1, zup_s, (zup_n (by omega)).trans H.2.2.2.2.2.2.2.2.1, (zup_n (by omega)).trans H.2.2.2.2.2.2.2.2.2.1, (zup_n (by omega)).trans H.2.2.2.2.2.2.2.2.2.2.1, (zup_n (by omega)).trans H.2.2.2.2.2.2.2.2.2.2.2.1, (zup_n (by omega)).trans H.2.2.2.2.2.2.2.2.2.2.2.2.1, (zup_n (by omega)).trans H.2.2.2.2.2.2.2.2.2.2.2.2.2.1, (zup_n (by omega)).trans H.2.2.2.2.2.2.2.2.2.2.2.2.2.2.1, (zup_n (by omega)).trans H.2.2.2.2.2.2.2.2.2.2.2.2.2.2.2.1, (zup_n (by omega)).trans H.2.2.2.2.2.2.2.2.2.2.2.2.2.2.2.2.1, (zup_n (by omega)).trans H.2.2.2.2.2.2.2.2.2.2.2.2.2.2.2.2.2.1, (zup_n (by omega)).trans H.2.2.2.2.2.2.2.2.2.2.2.2.2.2.2.2.2.2.1, (zup_n (by omega)).trans H.2.2.2.2.2.2.2.2.2.2.2.2.2.2.2.2.2.2.2.1, (zup_n (by omega)).trans H.2.2.2.2.2.2.2.2.2.2.2.2.2.2.2.2.2.2.2.2.1, (zup_n (by omega)).trans H.2.2.2.2.2.2.2.2.2.2.2.2.2.2.2.2.2.2.2.2.2⟩
theorem z_Mo_s14 {p j : Nat} {v : Int32} {σ : Ln} {τ : Ln} {ω : Ln} {ε : El} {mv : Nat → Int64} {kp : Option Nat} {tr : Option Nat} (hd : zdec X pc = .ok (.iastore, 1)) (H : MoAt h p σ τ ω ε mv kp tr) (hB : B ≤ p) (hj : j < 8) (kk : ∀ h1, MoAt h1 p σ (up2 τ 4 j v) ω ε mv kp tr → Upd h h1 (p + 14) 1 → Z D B X cs ss Q (pc + 1) L st h1 sz0) : Z D B X cs ss Q pc L (.int v :: .int (nI j) :: .ref (p + 14) :: st) h sz0 := by
  refine z_iast hd H.2.2.2.2.2.2.2.1 (by omega) (vp_in_nI hj (by decide)) ?_
  rw [nI_clamp (by omega)]
  exact kk _ (MoAt.u14 H) Upd.one
theorem MoAt.u15 {h : zH} {p j : Nat} {v : Int32} {σ : Ln} {τ : Ln} {ω : Ln} {ε : El} {mv : Nat → Int64} {kp : Option Nat} {tr : Option Nat} (H : MoAt h p σ τ ω ε mv kp tr) : MoAt (zup h (p + 15) (zI 250 (upd (τ 5) j v))) p σ (up2 τ 5 j v) ω ε mv kp tr := ⟨(zup_n (by omega)).trans H.1, (zup_n (by omega)).trans H.2.1, (zup_n (by omega)).trans H.2.2.1, (zup_n (by omega)).trans H.2.2.2.1, (zup_n (by omega)).trans H.2.2.2.2.1, fun s hs => (zup_n (by omega)).trans (H.2.2.2.2.2.1 s hs), (zup_n (by omega)).trans H.2.2.2.2.2.2.1, (zup_n (by omega)).trans H.2.2.2.2.2.2.2.1, zup_s, (zup_n (by omega)).trans H.2.2.2.2.2.2.2.2.2.1, (zup_n (by omega)).trans H.2.2.2.2.2.2.2.2.2.2.1, (zup_n (by omega)).trans H.2.2.2.2.2.2.2.2.2.2.2.1, (zup_n (by omega)).trans H.2.2.2.2.2.2.2.2.2.2.2.2.1, (zup_n (by omega)).trans H.2.2.2.2.2.2.2.2.2.2.2.2.2.1, (zup_n (by omega)).trans H.2.2.2.2.2.2.2.2.2.2.2.2.2.2.1, (zup_n (by omega)).trans H.2.2.2.2.2.2.2.2.2.2.2.2.2.2.2.1, (zup_n (by omega)).trans H.2.2.2.2.2.2.2.2.2.2.2.2.2.2.2.2.1, (zup_n (by omega)).trans H.2.2.2.2.2.2.2.2.2.2.2.2.2.2.2.2.2.1, (zup_n (by omega)).trans H.2.2.2.2.2.2.2.2.2.2.2.2.2.2.2.2.2.2.1, (zup_n (by omega)).trans H.2.2.2.2.2.2.2.2.2.2.2.2.2.2.2.2.2.2.2.1, (zup_n (by omega)).trans H.2.2.2.2.2.2.2.2.2.2.2.2.2.2.2.2.2.2.2.2.1, (zup_n (by omega)).trans H.2.2.2.2.2.2.2.2.2.2.2.2.2.2.2.2.2.2.2.2.2⟩
theorem z_Mo_s15 {p j : Nat} {v : Int32} {σ : Ln} {τ : Ln} {ω : Ln} {ε : El} {mv : Nat → Int64} {kp : Option Nat} {tr : Option Nat} (hd : zdec X pc = .ok (.iastore, 1)) (H : MoAt h p σ τ ω ε mv kp tr) (hB : B ≤ p) (hj : j < 250) (kk : ∀ h1, MoAt h1 p σ (up2 τ 5 j v) ω ε mv kp tr → Upd h h1 (p + 15) 1 → Z D B X cs ss Q (pc + 1) L st h1 sz0) : Z D B X cs ss Q pc L (.int v :: .int (nI j) :: .ref (p + 15) :: st) h sz0 := by
  refine z_iast hd H.2.2.2.2.2.2.2.2.1 (by omega) (vp_in_nI hj (by decide)) ?_
  rw [nI_clamp (by omega)]
  exact kk _ (MoAt.u15 H) Upd.one
theorem MoAt.u16 {h : zH} {p j : Nat} {v : Int32} {σ : Ln} {τ : Ln} {ω : Ln} {ε : El} {mv : Nat → Int64} {kp : Option Nat} {tr : Option Nat} (H : MoAt h p σ τ ω ε mv kp tr) : MoAt (zup h (p + 16) (zI 8 (upd (τ 7) j v))) p σ (up2 τ 7 j v) ω ε mv kp tr := ⟨(zup_n (by omega)).trans H.1, (zup_n (by omega)).trans H.2.1, (zup_n (by omega)).trans H.2.2.1, (zup_n (by omega)).trans H.2.2.2.1, (zup_n (by omega)).trans H.2.2.2.2.1, fun s hs => (zup_n (by omega)).trans (H.2.2.2.2.2.1 s hs), (zup_n (by omega)).trans H.2.2.2.2.2.2.1, (zup_n (by omega)).trans H.2.2.2.2.2.2.2.1, (zup_n (by omega)).trans H.2.2.2.2.2.2.2.2.1, zup_s, (zup_n (by omega)).trans H.2.2.2.2.2.2.2.2.2.2.1, (zup_n (by omega)).trans H.2.2.2.2.2.2.2.2.2.2.2.1, (zup_n (by omega)).trans H.2.2.2.2.2.2.2.2.2.2.2.2.1, (zup_n (by omega)).trans H.2.2.2.2.2.2.2.2.2.2.2.2.2.1, (zup_n (by omega)).trans H.2.2.2.2.2.2.2.2.2.2.2.2.2.2.1, (zup_n (by omega)).trans H.2.2.2.2.2.2.2.2.2.2.2.2.2.2.2.1, (zup_n (by omega)).trans H.2.2.2.2.2.2.2.2.2.2.2.2.2.2.2.2.1, (zup_n (by omega)).trans H.2.2.2.2.2.2.2.2.2.2.2.2.2.2.2.2.2.1, (zup_n (by omega)).trans H.2.2.2.2.2.2.2.2.2.2.2.2.2.2.2.2.2.2.1, (zup_n (by omega)).trans H.2.2.2.2.2.2.2.2.2.2.2.2.2.2.2.2.2.2.2.1, (zup_n (by omega)).trans H.2.2.2.2.2.2.2.2.2.2.2.2.2.2.2.2.2.2.2.2.1, (zup_n (by omega)).trans H.2.2.2.2.2.2.2.2.2.2.2.2.2.2.2.2.2.2.2.2.2⟩
theorem z_Mo_s16 {p j : Nat} {v : Int32} {σ : Ln} {τ : Ln} {ω : Ln} {ε : El} {mv : Nat → Int64} {kp : Option Nat} {tr : Option Nat} (hd : zdec X pc = .ok (.iastore, 1)) (H : MoAt h p σ τ ω ε mv kp tr) (hB : B ≤ p) (hj : j < 8) (kk : ∀ h1, MoAt h1 p σ (up2 τ 7 j v) ω ε mv kp tr → Upd h h1 (p + 16) 1 → Z D B X cs ss Q (pc + 1) L st h1 sz0) : Z D B X cs ss Q pc L (.int v :: .int (nI j) :: .ref (p + 16) :: st) h sz0 := by
  refine z_iast hd H.2.2.2.2.2.2.2.2.2.1 (by omega) (vp_in_nI hj (by decide)) ?_
  rw [nI_clamp (by omega)]
  exact kk _ (MoAt.u16 H) Upd.one
theorem MoAt.u17 {h : zH} {p j : Nat} {v : Int32} {σ : Ln} {τ : Ln} {ω : Ln} {ε : El} {mv : Nat → Int64} {kp : Option Nat} {tr : Option Nat} (H : MoAt h p σ τ ω ε mv kp tr) : MoAt (zup h (p + 17) (zI 12 (upd (σ 1) j v))) p (up2 σ 1 j v) τ ω ε mv kp tr := ⟨(zup_n (by omega)).trans H.1, (zup_n (by omega)).trans H.2.1, (zup_n (by omega)).trans H.2.2.1, (zup_n (by omega)).trans H.2.2.2.1, (zup_n (by omega)).trans H.2.2.2.2.1, fun s hs => (zup_n (by omega)).trans (H.2.2.2.2.2.1 s hs), (zup_n (by omega)).trans H.2.2.2.2.2.2.1, (zup_n (by omega)).trans H.2.2.2.2.2.2.2.1, (zup_n (by omega)).trans H.2.2.2.2.2.2.2.2.1, (zup_n (by omega)).trans H.2.2.2.2.2.2.2.2.2.1, zup_s, (zup_n (by omega)).trans H.2.2.2.2.2.2.2.2.2.2.2.1, (zup_n (by omega)).trans H.2.2.2.2.2.2.2.2.2.2.2.2.1, (zup_n (by omega)).trans H.2.2.2.2.2.2.2.2.2.2.2.2.2.1, (zup_n (by omega)).trans H.2.2.2.2.2.2.2.2.2.2.2.2.2.2.1, (zup_n (by omega)).trans H.2.2.2.2.2.2.2.2.2.2.2.2.2.2.2.1, (zup_n (by omega)).trans H.2.2.2.2.2.2.2.2.2.2.2.2.2.2.2.2.1, (zup_n (by omega)).trans H.2.2.2.2.2.2.2.2.2.2.2.2.2.2.2.2.2.1, (zup_n (by omega)).trans H.2.2.2.2.2.2.2.2.2.2.2.2.2.2.2.2.2.2.1, (zup_n (by omega)).trans H.2.2.2.2.2.2.2.2.2.2.2.2.2.2.2.2.2.2.2.1, (zup_n (by omega)).trans H.2.2.2.2.2.2.2.2.2.2.2.2.2.2.2.2.2.2.2.2.1, (zup_n (by omega)).trans H.2.2.2.2.2.2.2.2.2.2.2.2.2.2.2.2.2.2.2.2.2⟩
theorem z_Mo_s17 {p j : Nat} {v : Int32} {σ : Ln} {τ : Ln} {ω : Ln} {ε : El} {mv : Nat → Int64} {kp : Option Nat} {tr : Option Nat} (hd : zdec X pc = .ok (.iastore, 1)) (H : MoAt h p σ τ ω ε mv kp tr) (hB : B ≤ p) (hj : j < 12) (kk : ∀ h1, MoAt h1 p (up2 σ 1 j v) τ ω ε mv kp tr → Upd h h1 (p + 17) 1 → Z D B X cs ss Q (pc + 1) L st h1 sz0) : Z D B X cs ss Q pc L (.int v :: .int (nI j) :: .ref (p + 17) :: st) h sz0 := by
  refine z_iast hd H.2.2.2.2.2.2.2.2.2.2.1 (by omega) (vp_in_nI hj (by decide)) ?_
  rw [nI_clamp (by omega)]
  exact kk _ (MoAt.u17 H) Upd.one
theorem MoAt.u18 {h : zH} {p j : Nat} {v : Int32} {σ : Ln} {τ : Ln} {ω : Ln} {ε : El} {mv : Nat → Int64} {kp : Option Nat} {tr : Option Nat} (H : MoAt h p σ τ ω ε mv kp tr) : MoAt (zup h (p + 18) (zI 12 (upd (σ 2) j v))) p (up2 σ 2 j v) τ ω ε mv kp tr := ⟨(zup_n (by omega)).trans H.1, (zup_n (by omega)).trans H.2.1, (zup_n (by omega)).trans H.2.2.1, (zup_n (by omega)).trans H.2.2.2.1, (zup_n (by omega)).trans H.2.2.2.2.1, fun s hs => (zup_n (by omega)).trans (H.2.2.2.2.2.1 s hs), (zup_n (by omega)).trans H.2.2.2.2.2.2.1, (zup_n (by omega)).trans H.2.2.2.2.2.2.2.1, (zup_n (by omega)).trans H.2.2.2.2.2.2.2.2.1, (zup_n (by omega)).trans H.2.2.2.2.2.2.2.2.2.1, (zup_n (by omega)).trans H.2.2.2.2.2.2.2.2.2.2.1, zup_s, (zup_n (by omega)).trans H.2.2.2.2.2.2.2.2.2.2.2.2.1, (zup_n (by omega)).trans H.2.2.2.2.2.2.2.2.2.2.2.2.2.1, (zup_n (by omega)).trans H.2.2.2.2.2.2.2.2.2.2.2.2.2.2.1, (zup_n (by omega)).trans H.2.2.2.2.2.2.2.2.2.2.2.2.2.2.2.1, (zup_n (by omega)).trans H.2.2.2.2.2.2.2.2.2.2.2.2.2.2.2.2.1, (zup_n (by omega)).trans H.2.2.2.2.2.2.2.2.2.2.2.2.2.2.2.2.2.1, (zup_n (by omega)).trans H.2.2.2.2.2.2.2.2.2.2.2.2.2.2.2.2.2.2.1, (zup_n (by omega)).trans H.2.2.2.2.2.2.2.2.2.2.2.2.2.2.2.2.2.2.2.1, (zup_n (by omega)).trans H.2.2.2.2.2.2.2.2.2.2.2.2.2.2.2.2.2.2.2.2.1, (zup_n (by omega)).trans H.2.2.2.2.2.2.2.2.2.2.2.2.2.2.2.2.2.2.2.2.2⟩
theorem z_Mo_s18 {p j : Nat} {v : Int32} {σ : Ln} {τ : Ln} {ω : Ln} {ε : El} {mv : Nat → Int64} {kp : Option Nat} {tr : Option Nat} (hd : zdec X pc = .ok (.iastore, 1)) (H : MoAt h p σ τ ω ε mv kp tr) (hB : B ≤ p) (hj : j < 12) (kk : ∀ h1, MoAt h1 p (up2 σ 2 j v) τ ω ε mv kp tr → Upd h h1 (p + 18) 1 → Z D B X cs ss Q (pc + 1) L st h1 sz0) : Z D B X cs ss Q pc L (.int v :: .int (nI j) :: .ref (p + 18) :: st) h sz0 := by
  refine z_iast hd H.2.2.2.2.2.2.2.2.2.2.2.1 (by omega) (vp_in_nI hj (by decide)) ?_
  rw [nI_clamp (by omega)]
  exact kk _ (MoAt.u18 H) Upd.one
theorem MoAt.u19 {h : zH} {p j : Nat} {v : Int32} {σ : Ln} {τ : Ln} {ω : Ln} {ε : El} {mv : Nat → Int64} {kp : Option Nat} {tr : Option Nat} (H : MoAt h p σ τ ω ε mv kp tr) : MoAt (zup h (p + 19) (zI 12 (upd (σ 3) j v))) p (up2 σ 3 j v) τ ω ε mv kp tr := ⟨(zup_n (by omega)).trans H.1, (zup_n (by omega)).trans H.2.1, (zup_n (by omega)).trans H.2.2.1, (zup_n (by omega)).trans H.2.2.2.1, (zup_n (by omega)).trans H.2.2.2.2.1, fun s hs => (zup_n (by omega)).trans (H.2.2.2.2.2.1 s hs), (zup_n (by omega)).trans H.2.2.2.2.2.2.1, (zup_n (by omega)).trans H.2.2.2.2.2.2.2.1, (zup_n (by omega)).trans H.2.2.2.2.2.2.2.2.1, (zup_n (by omega)).trans H.2.2.2.2.2.2.2.2.2.1, (zup_n (by omega)).trans H.2.2.2.2.2.2.2.2.2.2.1, (zup_n (by omega)).trans H.2.2.2.2.2.2.2.2.2.2.2.1, zup_s, (zup_n (by omega)).trans H.2.2.2.2.2.2.2.2.2.2.2.2.2.1, (zup_n (by omega)).trans H.2.2.2.2.2.2.2.2.2.2.2.2.2.2.1, (zup_n (by omega)).trans H.2.2.2.2.2.2.2.2.2.2.2.2.2.2.2.1, (zup_n (by omega)).trans H.2.2.2.2.2.2.2.2.2.2.2.2.2.2.2.2.1, (zup_n (by omega)).trans H.2.2.2.2.2.2.2.2.2.2.2.2.2.2.2.2.2.1, (zup_n (by omega)).trans H.2.2.2.2.2.2.2.2.2.2.2.2.2.2.2.2.2.2.1, (zup_n (by omega)).trans H.2.2.2.2.2.2.2.2.2.2.2.2.2.2.2.2.2.2.2.1, (zup_n (by omega)).trans H.2.2.2.2.2.2.2.2.2.2.2.2.2.2.2.2.2.2.2.2.1, (zup_n (by omega)).trans H.2.2.2.2.2.2.2.2.2.2.2.2.2.2.2.2.2.2.2.2.2⟩
theorem z_Mo_s19 {p j : Nat} {v : Int32} {σ : Ln} {τ : Ln} {ω : Ln} {ε : El} {mv : Nat → Int64} {kp : Option Nat} {tr : Option Nat} (hd : zdec X pc = .ok (.iastore, 1)) (H : MoAt h p σ τ ω ε mv kp tr) (hB : B ≤ p) (hj : j < 12) (kk : ∀ h1, MoAt h1 p (up2 σ 3 j v) τ ω ε mv kp tr → Upd h h1 (p + 19) 1 → Z D B X cs ss Q (pc + 1) L st h1 sz0) : Z D B X cs ss Q pc L (.int v :: .int (nI j) :: .ref (p + 19) :: st) h sz0 := by
  refine z_iast hd H.2.2.2.2.2.2.2.2.2.2.2.2.1 (by omega) (vp_in_nI hj (by decide)) ?_
  rw [nI_clamp (by omega)]
  exact kk _ (MoAt.u19 H) Upd.one
theorem MoAt.u20 {h : zH} {p j : Nat} {v : Int32} {σ : Ln} {τ : Ln} {ω : Ln} {ε : El} {mv : Nat → Int64} {kp : Option Nat} {tr : Option Nat} (H : MoAt h p σ τ ω ε mv kp tr) : MoAt (zup h (p + 20) (zI 12 (upd (σ 4) j v))) p (up2 σ 4 j v) τ ω ε mv kp tr := ⟨(zup_n (by omega)).trans H.1, (zup_n (by omega)).trans H.2.1, (zup_n (by omega)).trans H.2.2.1, (zup_n (by omega)).trans H.2.2.2.1, (zup_n (by omega)).trans H.2.2.2.2.1, fun s hs => (zup_n (by omega)).trans (H.2.2.2.2.2.1 s hs), (zup_n (by omega)).trans H.2.2.2.2.2.2.1, (zup_n (by omega)).trans H.2.2.2.2.2.2.2.1, (zup_n (by omega)).trans H.2.2.2.2.2.2.2.2.1, (zup_n (by omega)).trans H.2.2.2.2.2.2.2.2.2.1, (zup_n (by omega)).trans H.2.2.2.2.2.2.2.2.2.2.1, (zup_n (by omega)).trans H.2.2.2.2.2.2.2.2.2.2.2.1, (zup_n (by omega)).trans H.2.2.2.2.2.2.2.2.2.2.2.2.1, zup_s, (zup_n (by omega)).trans H.2.2.2.2.2.2.2.2.2.2.2.2.2.2.1, (zup_n (by omega)).trans H.2.2.2.2.2.2.2.2.2.2.2.2.2.2.2.1, (zup_n (by omega)).trans H.2.2.2.2.2.2.2.2.2.2.2.2.2.2.2.2.1, (zup_n (by omega)).trans H.2.2.2.2.2.2.2.2.2.2.2.2.2.2.2.2.2.1, (zup_n (by omega)).trans H.2.2.2.2.2.2.2.2.2.2.2.2.2.2.2.2.2.2.1, (zup_n (by omega)).trans H.2.2.2.2.2.2.2.2.2.2.2.2.2.2.2.2.2.2.2.1, (zup_n (by omega)).trans H.2.2.2.2.2.2.2.2.2.2.2.2.2.2.2.2.2.2.2.2.1, (zup_n (by omega)).trans H.2.2.2.2.2.2.2.2.2.2.2.2.2.2.2.2.2.2.2.2.2⟩
theorem z_Mo_s20 {p j : Nat} {v : Int32} {σ : Ln} {τ : Ln} {ω : Ln} {ε : El} {mv : Nat → Int64} {kp : Option Nat} {tr : Option Nat} (hd : zdec X pc = .ok (.iastore, 1)) (H : MoAt h p σ τ ω ε mv kp tr) (hB : B ≤ p) (hj : j < 12) (kk : ∀ h1, MoAt h1 p (up2 σ 4 j v) τ ω ε mv kp tr → Upd h h1 (p + 20) 1 → Z D B X cs ss Q (pc + 1) L st h1 sz0) : Z D B X cs ss Q pc L (.int v :: .int (nI j) :: .ref (p + 20) :: st) h sz0 := by
  refine z_iast hd H.2.2.2.2.2.2.2.2.2.2.2.2.2.1 (by omega) (vp_in_nI hj (by decide)) ?_
  rw [nI_clamp (by omega)]
  exact kk _ (MoAt.u20 H) Upd.one
theorem MoAt.u21 {h : zH} {p j : Nat} {v : Int32} {σ : Ln} {τ : Ln} {ω : Ln} {ε : El} {mv : Nat → Int64} {kp : Option Nat} {tr : Option Nat} (H : MoAt h p σ τ ω ε mv kp tr) : MoAt (zup h (p + 21) (zI 8 (upd (σ 10) j v))) p (up2 σ 10 j v) τ ω ε mv kp tr := ⟨(zup_n (by omega)).trans H.1, (zup_n (by omega)).trans H.2.1, (zup_n (by omega)).trans H.2.2.1, (zup_n (by omega)).trans H.2.2.2.1, (zup_n (by omega)).trans H.2.2.2.2.1, fun s hs => (zup_n (by omega)).trans (H.2.2.2.2.2.1 s hs), (zup_n (by omega)).trans H.2.2.2.2.2.2.1, (zup_n (by omega)).trans H.2.2.2.2.2.2.2.1, (zup_n (by omega)).trans H.2.2.2.2.2.2.2.2.1, (zup_n (by omega)).trans H.2.2.2.2.2.2.2.2.2.1, (zup_n (by omega)).trans H.2.2.2.2.2.2.2.2.2.2.1, (zup_n (by omega)).trans H.2.2.2.2.2.2.2.2.2.2.2.1, (zup_n (by omega)).trans H.2.2.2.2.2.2.2.2.2.2.2.2.1, (zup_n (by omega)).trans H.2.2.2.2.2.2.2.2.2.2.2.2.2.1, zup_s, (zup_n (by omega)).trans H.2.2.2.2.2.2.2.2.2.2.2.2.2.2.2.1, (zup_n (by omega)).trans H.2.2.2.2.2.2.2.2.2.2.2.2.2.2.2.2.1, (zup_n (by omega)).trans H.2.2.2.2.2.2.2.2.2.2.2.2.2.2.2.2.2.1, (zup_n (by omega)).trans H.2.2.2.2.2.2.2.2.2.2.2.2.2.2.2.2.2.2.1, (zup_n (by omega)).trans H.2.2.2.2.2.2.2.2.2.2.2.2.2.2.2.2.2.2.2.1, (zup_n (by omega)).trans H.2.2.2.2.2.2.2.2.2.2.2.2.2.2.2.2.2.2.2.2.1, (zup_n (by omega)).trans H.2.2.2.2.2.2.2.2.2.2.2.2.2.2.2.2.2.2.2.2.2⟩
theorem z_Mo_s21 {p j : Nat} {v : Int32} {σ : Ln} {τ : Ln} {ω : Ln} {ε : El} {mv : Nat → Int64} {kp : Option Nat} {tr : Option Nat} (hd : zdec X pc = .ok (.iastore, 1)) (H : MoAt h p σ τ ω ε mv kp tr) (hB : B ≤ p) (hj : j < 8) (kk : ∀ h1, MoAt h1 p (up2 σ 10 j v) τ ω ε mv kp tr → Upd h h1 (p + 21) 1 → Z D B X cs ss Q (pc + 1) L st h1 sz0) : Z D B X cs ss Q pc L (.int v :: .int (nI j) :: .ref (p + 21) :: st) h sz0 := by
  refine z_iast hd H.2.2.2.2.2.2.2.2.2.2.2.2.2.2.1 (by omega) (vp_in_nI hj (by decide)) ?_
  rw [nI_clamp (by omega)]
  exact kk _ (MoAt.u21 H) Upd.one
theorem MoAt.u22 {h : zH} {p j : Nat} {v : Int32} {σ : Ln} {τ : Ln} {ω : Ln} {ε : El} {mv : Nat → Int64} {kp : Option Nat} {tr : Option Nat} (H : MoAt h p σ τ ω ε mv kp tr) : MoAt (zup h (p + 22) (zI 8 (upd (σ 11) j v))) p (up2 σ 11 j v) τ ω ε mv kp tr := ⟨(zup_n (by omega)).trans H.1, (zup_n (by omega)).trans H.2.1, (zup_n (by omega)).trans H.2.2.1, (zup_n (by omega)).trans H.2.2.2.1, (zup_n (by omega)).trans H.2.2.2.2.1, fun s hs => (zup_n (by omega)).trans (H.2.2.2.2.2.1 s hs), (zup_n (by omega)).trans H.2.2.2.2.2.2.1, (zup_n (by omega)).trans H.2.2.2.2.2.2.2.1, (zup_n (by omega)).trans H.2.2.2.2.2.2.2.2.1, (zup_n (by omega)).trans H.2.2.2.2.2.2.2.2.2.1, (zup_n (by omega)).trans H.2.2.2.2.2.2.2.2.2.2.1, (zup_n (by omega)).trans H.2.2.2.2.2.2.2.2.2.2.2.1, (zup_n (by omega)).trans H.2.2.2.2.2.2.2.2.2.2.2.2.1, (zup_n (by omega)).trans H.2.2.2.2.2.2.2.2.2.2.2.2.2.1, (zup_n (by omega)).trans H.2.2.2.2.2.2.2.2.2.2.2.2.2.2.1, zup_s, (zup_n (by omega)).trans H.2.2.2.2.2.2.2.2.2.2.2.2.2.2.2.2.1, (zup_n (by omega)).trans H.2.2.2.2.2.2.2.2.2.2.2.2.2.2.2.2.2.1, (zup_n (by omega)).trans H.2.2.2.2.2.2.2.2.2.2.2.2.2.2.2.2.2.2.1, (zup_n (by omega)).trans H.2.2.2.2.2.2.2.2.2.2.2.2.2.2.2.2.2.2.2.1, (zup_n (by omega)).trans H.2.2.2.2.2.2.2.2.2.2.2.2.2.2.2.2.2.2.2.2.1, (zup_n (by omega)).trans H.2.2.2.2.2.2.2.2.2.2.2.2.2.2.2.2.2.2.2.2.2⟩
theorem z_Mo_s22 {p j : Nat} {v : Int32} {σ : Ln} {τ : Ln} {ω : Ln} {ε : El} {mv : Nat → Int64} {kp : Option Nat} {tr : Option Nat} (hd : zdec X pc = .ok (.iastore, 1)) (H : MoAt h p σ τ ω ε mv kp tr) (hB : B ≤ p) (hj : j < 8) (kk : ∀ h1, MoAt h1 p (up2 σ 11 j v) τ ω ε mv kp tr → Upd h h1 (p + 22) 1 → Z D B X cs ss Q (pc + 1) L st h1 sz0) : Z D B X cs ss Q pc L (.int v :: .int (nI j) :: .ref (p + 22) :: st) h sz0 := by
  refine z_iast hd H.2.2.2.2.2.2.2.2.2.2.2.2.2.2.2.1 (by omega) (vp_in_nI hj (by decide)) ?_
  rw [nI_clamp (by omega)]
  exact kk _ (MoAt.u22 H) Upd.one
theorem MoAt.u23 {h : zH} {p j : Nat} {v : Int32} {σ : Ln} {τ : Ln} {ω : Ln} {ε : El} {mv : Nat → Int64} {kp : Option Nat} {tr : Option Nat} (H : MoAt h p σ τ ω ε mv kp tr) : MoAt (zup h (p + 23) (zI 8 (upd (σ 12) j v))) p (up2 σ 12 j v) τ ω ε mv kp tr := ⟨(zup_n (by omega)).trans H.1, (zup_n (by omega)).trans H.2.1, (zup_n (by omega)).trans H.2.2.1, (zup_n (by omega)).trans H.2.2.2.1, (zup_n (by omega)).trans H.2.2.2.2.1, fun s hs => (zup_n (by omega)).trans (H.2.2.2.2.2.1 s hs), (zup_n (by omega)).trans H.2.2.2.2.2.2.1, (zup_n (by omega)).trans H.2.2.2.2.2.2.2.1, (zup_n (by omega)).trans H.2.2.2.2.2.2.2.2.1, (zup_n (by omega)).trans H.2.2.2.2.2.2.2.2.2.1, (zup_n (by omega)).trans H.2.2.2.2.2.2.2.2.2.2.1, (zup_n (by omega)).trans H.2.2.2.2.2.2.2.2.2.2.2.1, (zup_n (by omega)).trans H.2.2.2.2.2.2.2.2.2.2.2.2.1, (zup_n (by omega)).trans H.2.2.2.2.2.2.2.2.2.2.2.2.2.1, (zup_n (by omega)).trans H.2.2.2.2.2.2.2.2.2.2.2.2.2.2.1, (zup_n (by omega)).trans H.2.2.2.2.2.2.2.2.2.2.2.2.2.2.2.1, zup_s, (zup_n (by omega)).trans H.2.2.2.2.2.2.2.2.2.2.2.2.2.2.2.2.2.1, (zup_n (by omega)).trans H.2.2.2.2.2.2.2.2.2.2.2.2.2.2.2.2.2.2.1, (zup_n (by omega)).trans H.2.2.2.2.2.2.2.2.2.2.2.2.2.2.2.2.2.2.2.1, (zup_n (by omega)).trans H.2.2.2.2.2.2.2.2.2.2.2.2.2.2.2.2.2.2.2.2.1, (zup_n (by omega)).trans H.2.2.2.2.2.2.2.2.2.2.2.2.2.2.2.2.2.2.2.2.2⟩
theorem z_Mo_s23 {p j : Nat} {v : Int32} {σ : Ln} {τ : Ln} {ω : Ln} {ε : El} {mv : Nat → Int64} {kp : Option Nat} {tr : Option Nat} (hd : zdec X pc = .ok (.iastore, 1)) (H : MoAt h p σ τ ω ε mv kp tr) (hB : B ≤ p) (hj : j < 8) (kk : ∀ h1, MoAt h1 p (up2 σ 12 j v) τ ω ε mv kp tr → Upd h h1 (p + 23) 1 → Z D B X cs ss Q (pc + 1) L st h1 sz0) : Z D B X cs ss Q pc L (.int v :: .int (nI j) :: .ref (p + 23) :: st) h sz0 := by
  refine z_iast hd H.2.2.2.2.2.2.2.2.2.2.2.2.2.2.2.2.1 (by omega) (vp_in_nI hj (by decide)) ?_
  rw [nI_clamp (by omega)]
  exact kk _ (MoAt.u23 H) Upd.one
theorem MoAt.u24 {h : zH} {p j : Nat} {v : Int32} {σ : Ln} {τ : Ln} {ω : Ln} {ε : El} {mv : Nat → Int64} {kp : Option Nat} {tr : Option Nat} (H : MoAt h p σ τ ω ε mv kp tr) : MoAt (zup h (p + 24) (zI 8 (upd (σ 13) j v))) p (up2 σ 13 j v) τ ω ε mv kp tr := ⟨(zup_n (by omega)).trans H.1, (zup_n (by omega)).trans H.2.1, (zup_n (by omega)).trans H.2.2.1, (zup_n (by omega)).trans H.2.2.2.1, (zup_n (by omega)).trans H.2.2.2.2.1, fun s hs => (zup_n (by omega)).trans (H.2.2.2.2.2.1 s hs), (zup_n (by omega)).trans H.2.2.2.2.2.2.1, (zup_n (by omega)).trans H.2.2.2.2.2.2.2.1, (zup_n (by omega)).trans H.2.2.2.2.2.2.2.2.1, (zup_n (by omega)).trans H.2.2.2.2.2.2.2.2.2.1, (zup_n (by omega)).trans H.2.2.2.2.2.2.2.2.2.2.1, (zup_n (by omega)).trans H.2.2.2.2.2.2.2.2.2.2.2.1, (zup_n (by omega)).trans H.2.2.2.2.2.2.2.2.2.2.2.2.1, (zup_n (by omega)).trans H.2.2.2.2.2.2.2.2.2.2.2.2.2.1, (zup_n (by omega)).trans H.2.2.2.2.2.2.2.2.2.2.2.2.2.2.1, (zup_n (by omega)).trans H.2.2.2.2.2.2.2.2.2.2.2.2.2.2.2.1, (zup_n (by omega)).trans H.2.2.2.2.2.2.2.2.2.2.2.2.2.2.2.2.1, zup_s, (zup_n (by omega)).trans H.2.2.2.2.2.2.2.2.2.2.2.2.2.2.2.2.2.2.1, (zup_n (by omega)).trans H.2.2.2.2.2.2.2.2.2.2.2.2.2.2.2.2.2.2.2.1, (zup_n (by omega)).trans H.2.2.2.2.2.2.2.2.2.2.2.2.2.2.2.2.2.2.2.2.1, (zup_n (by omega)).trans H.2.2.2.2.2.2.2.2.2.2.2.2.2.2.2.2.2.2.2.2.2⟩
theorem z_Mo_s24 {p j : Nat} {v : Int32} {σ : Ln} {τ : Ln} {ω : Ln} {ε : El} {mv : Nat → Int64} {kp : Option Nat} {tr : Option Nat} (hd : zdec X pc = .ok (.iastore, 1)) (H : MoAt h p σ τ ω ε mv kp tr) (hB : B ≤ p) (hj : j < 8) (kk : ∀ h1, MoAt h1 p (up2 σ 13 j v) τ ω ε mv kp tr → Upd h h1 (p + 24) 1 → Z D B X cs ss Q (pc + 1) L st h1 sz0) : Z D B X cs ss Q pc L (.int v :: .int (nI j) :: .ref (p + 24) :: st) h sz0 := by
  refine z_iast hd H.2.2.2.2.2.2.2.2.2.2.2.2.2.2.2.2.2.1 (by omega) (vp_in_nI hj (by decide)) ?_
  rw [nI_clamp (by omega)]
  exact kk _ (MoAt.u24 H) Upd.one
theorem MoAt.u25 {h : zH} {p j : Nat} {v : Int32} {σ : Ln} {τ : Ln} {ω : Ln} {ε : El} {mv : Nat → Int64} {kp : Option Nat} {tr : Option Nat} (H : MoAt h p σ τ ω ε mv kp tr) : MoAt (zup h (p + 25) (zI 4 (upd (ω 13) j v))) p σ τ (up2 ω 13 j v) ε mv kp tr := ⟨(zup_n (by omega)).trans H.1, (zup_n (by omega)).trans H.2.1, (zup_n (by omega)).trans H.2.2.1, (zup_n (by omega)).trans H.2.2.2.1, (zup_n (by omega)).trans H.2.2.2.2.1, fun s hs => (zup_n (by omega)).trans (H.2.2.2.2.2.1 s hs), (zup_n (by omega)).trans H.2.2.2.2.2.2.1, (zup_n (by omega)).trans H.2.2.2.2.2.2.2.1, (zup_n (by omega)).trans H.2.2.2.2.2.2.2.2.1, (zup_n (by omega)).trans H.2.2.2.2.2.2.2.2.2.1, (zup_n (by omega)).trans H.2.2.2.2.2.2.2.2.2.2.1, (zup_n (by omega)).trans H.2.2.2.2.2.2.2.2.2.2.2.1, (zup_n (by omega)).trans H.2.2.2.2.2.2.2.2.2.2.2.2.1, (zup_n (by omega)).trans H.2.2.2.2.2.2.2.2.2.2.2.2.2.1, (zup_n (by omega)).trans H.2.2.2.2.2.2.2.2.2.2.2.2.2.2.1, (zup_n (by omega)).trans H.2.2.2.2.2.2.2.2.2.2.2.2.2.2.2.1, (zup_n (by omega)).trans H.2.2.2.2.2.2.2.2.2.2.2.2.2.2.2.2.1, (zup_n (by omega)).trans H.2.2.2.2.2.2.2.2.2.2.2.2.2.2.2.2.2.1, zup_s, (zup_n (by omega)).trans H.2.2.2.2.2.2.2.2.2.2.2.2.2.2.2.2.2.2.2.1, (zup_n (by omega)).trans H.2.2.2.2.2.2.2.2.2.2.2.2.2.2.2.2.2.2.2.2.1, (zup_n (by omega)).trans H.2.2.2.2.2.2.2.2.2.2.2.2.2.2.2.2.2.2.2.2.2⟩
theorem z_Mo_s25 {p j : Nat} {v : Int32} {σ : Ln} {τ : Ln} {ω : Ln} {ε : El} {mv : Nat → Int64} {kp : Option Nat} {tr : Option Nat} (hd : zdec X pc = .ok (.iastore, 1)) (H : MoAt h p σ τ ω ε mv kp tr) (hB : B ≤ p) (hj : j < 4) (kk : ∀ h1, MoAt h1 p σ τ (up2 ω 13 j v) ε mv kp tr → Upd h h1 (p + 25) 1 → Z D B X cs ss Q (pc + 1) L st h1 sz0) : Z D B X cs ss Q pc L (.int v :: .int (nI j) :: .ref (p + 25) :: st) h sz0 := by
  refine z_iast hd H.2.2.2.2.2.2.2.2.2.2.2.2.2.2.2.2.2.2.1 (by omega) (vp_in_nI hj (by decide)) ?_
  rw [nI_clamp (by omega)]
  exact kk _ (MoAt.u25 H) Upd.one
theorem MoAt.u26 {h : zH} {p j : Nat} {v : Int32} {σ : Ln} {τ : Ln} {ω : Ln} {ε : El} {mv : Nat → Int64} {kp : Option Nat} {tr : Option Nat} (H : MoAt h p σ τ ω ε mv kp tr) : MoAt (zup h (p + 26) (zI 12 (upd (ω 17) j v))) p σ τ (up2 ω 17 j v) ε mv kp tr := ⟨(zup_n (by omega)).trans H.1, (zup_n (by omega)).trans H.2.1, (zup_n (by omega)).trans H.2.2.1, (zup_n (by omega)).trans H.2.2.2.1, (zup_n (by omega)).trans H.2.2.2.2.1, fun s hs => (zup_n (by omega)).trans (H.2.2.2.2.2.1 s hs), (zup_n (by omega)).trans H.2.2.2.2.2.2.1, (zup_n (by omega)).trans H.2.2.2.2.2.2.2.1, (zup_n (by omega)).trans H.2.2.2.2.2.2.2.2.1, (zup_n (by omega)).trans H.2.2.2.2.2.2.2.2.2.1, (zup_n (by omega)).trans H.2.2.2.2.2.2.2.2.2.2.1, (zup_n (by omega)).trans H.2.2.2.2.2.2.2.2.2.2.2.1, (zup_n (by omega)).trans H.2.2.2.2.2.2.2.2.2.2.2.2.1, (zup_n (by omega)).trans H.2.2.2.2.2.2.2.2.2.2.2.2.2.1, (zup_n (by omega)).trans H.2.2.2.2.2.2.2.2.2.2.2.2.2.2.1, (zup_n (by omega)).trans H.2.2.2.2.2.2.2.2.2.2.2.2.2.2.2.1, (zup_n (by omega)).trans H.2.2.2.2.2.2.2.2.2.2.2.2.2.2.2.2.1, (zup_n (by omega)).trans H.2.2.2.2.2.2.2.2.2.2.2.2.2.2.2.2.2.1, (zup_n (by omega)).trans H.2.2.2.2.2.2.2.2.2.2.2.2.2.2.2.2.2.2.1, zup_s, (zup_n (by omega)).trans H.2.2.2.2.2.2.2.2.2.2.2.2.2.2.2.2.2.2.2.2.1, (zup_n (by omega)).trans H.2.2.2.2.2.2.2.2.2.2.2.2.2.2.2.2.2.2.2.2.2⟩
theorem z_Mo_s26 {p j : Nat} {v : Int32} {σ : Ln} {τ : Ln} {ω : Ln} {ε : El} {mv : Nat → Int64} {kp : Option Nat} {tr : Option Nat} (hd : zdec X pc = .ok (.iastore, 1)) (H : MoAt h p σ τ ω ε mv kp tr) (hB : B ≤ p) (hj : j < 12) (kk : ∀ h1, MoAt h1 p σ τ (up2 ω 17 j v) ε mv kp tr → Upd h h1 (p + 26) 1 → Z D B X cs ss Q (pc + 1) L st h1 sz0) : Z D B X cs ss Q pc L (.int v :: .int (nI j) :: .ref (p + 26) :: st) h sz0 := by
  refine z_iast hd H.2.2.2.2.2.2.2.2.2.2.2.2.2.2.2.2.2.2.2.1 (by omega) (vp_in_nI hj (by decide)) ?_
  rw [nI_clamp (by omega)]
  exact kk _ (MoAt.u26 H) Upd.one
theorem MoAt.u27 {h : zH} {p j : Nat} {v : Int32} {σ : Ln} {τ : Ln} {ω : Ln} {ε : El} {mv : Nat → Int64} {kp : Option Nat} {tr : Option Nat} (H : MoAt h p σ τ ω ε mv kp tr) : MoAt (zup h (p + 27) (zBo 41 (upd (ω 18) j v))) p σ τ (up2 ω 18 j v) ε mv kp tr := ⟨(zup_n (by omega)).trans H.1, (zup_n (by omega)).trans H.2.1, (zup_n (by omega)).trans H.2.2.1, (zup_n (by omega)).trans H.2.2.2.1, (zup_n (by omega)).trans H.2.2.2.2.1, fun s hs => (zup_n (by omega)).trans (H.2.2.2.2.2.1 s hs), (zup_n (by omega)).trans H.2.2.2.2.2.2.1, (zup_n (by omega)).trans H.2.2.2.2.2.2.2.1, (zup_n (by omega)).trans H.2.2.2.2.2.2.2.2.1, (zup_n (by omega)).trans H.2.2.2.2.2.2.2.2.2.1, (zup_n (by omega)).trans H.2.2.2.2.2.2.2.2.2.2.1, (zup_n (by omega)).trans H.2.2.2.2.2.2.2.2.2.2.2.1, (zup_n (by omega)).trans H.2.2.2.2.2.2.2.2.2.2.2.2.1, (zup_n (by omega)).trans H.2.2.2.2.2.2.2.2.2.2.2.2.2.1, (zup_n (by omega)).trans H.2.2.2.2.2.2.2.2.2.2.2.2.2.2.1, (zup_n (by omega)).trans H.2.2.2.2.2.2.2.2.2.2.2.2.2.2.2.1, (zup_n (by omega)).trans H.2.2.2.2.2.2.2.2.2.2.2.2.2.2.2.2.1, (zup_n (by omega)).trans H.2.2.2.2.2.2.2.2.2.2.2.2.2.2.2.2.2.1, (zup_n (by omega)).trans H.2.2.2.2.2.2.2.2.2.2.2.2.2.2.2.2.2.2.1, (zup_n (by omega)).trans H.2.2.2.2.2.2.2.2.2.2.2.2.2.2.2.2.2.2.2.1, zup_s, (zup_n (by omega)).trans H.2.2.2.2.2.2.2.2.2.2.2.2.2.2.2.2.2.2.2.2.2⟩
theorem z_Mo_s27 {p j : Nat} {v : Int32} {σ : Ln} {τ : Ln} {ω : Ln} {ε : El} {mv : Nat → Int64} {kp : Option Nat} {tr : Option Nat} (hd : zdec X pc = .ok (.bastore, 1)) (H : MoAt h p σ τ ω ε mv kp tr) (hB : B ≤ p) (hj : j < 41) (hv : v = 0 ∨ v = 1) (kk : ∀ h1, MoAt h1 p σ τ (up2 ω 18 j v) ε mv kp tr → Upd h h1 (p + 27) 1 → Z D B X cs ss Q (pc + 1) L st h1 sz0) : Z D B X cs ss Q pc L (.int v :: .int (nI j) :: .ref (p + 27) :: st) h sz0 := by
  refine z_zast hd H.2.2.2.2.2.2.2.2.2.2.2.2.2.2.2.2.2.2.2.2.1 (by omega) (vp_in_nI hj (by decide)) ?_
  rw [nI_clamp (by omega)]
  rw [show vp_nar .boolean v = v by rcases hv with rfl | rfl <;> decide]
  exact kk _ (MoAt.u27 H) Upd.one
theorem MoAt.u28 {h : zH} {p j : Nat} {v : Int32} {σ : Ln} {τ : Ln} {ω : Ln} {ε : El} {mv : Nat → Int64} {kp : Option Nat} {tr : Option Nat} (H : MoAt h p σ τ ω ε mv kp tr) : MoAt (zup h (p + 28) (zI 41 (upd (ω 22) j v))) p σ τ (up2 ω 22 j v) ε mv kp tr := ⟨(zup_n (by omega)).trans H.1, (zup_n (by omega)).trans H.2.1, (zup_n (by omega)).trans H.2.2.1, (zup_n (by omega)).trans H.2.2.2.1, (zup_n (by omega)).trans H.2.2.2.2.1, fun s hs => (zup_n (by omega)).trans (H.2.2.2.2.2.1 s hs), (zup_n (by omega)).trans H.2.2.2.2.2.2.1, (zup_n (by omega)).trans H.2.2.2.2.2.2.2.1, (zup_n (by omega)).trans H.2.2.2.2.2.2.2.2.1, (zup_n (by omega)).trans H.2.2.2.2.2.2.2.2.2.1, (zup_n (by omega)).trans H.2.2.2.2.2.2.2.2.2.2.1, (zup_n (by omega)).trans H.2.2.2.2.2.2.2.2.2.2.2.1, (zup_n (by omega)).trans H.2.2.2.2.2.2.2.2.2.2.2.2.1, (zup_n (by omega)).trans H.2.2.2.2.2.2.2.2.2.2.2.2.2.1, (zup_n (by omega)).trans H.2.2.2.2.2.2.2.2.2.2.2.2.2.2.1, (zup_n (by omega)).trans H.2.2.2.2.2.2.2.2.2.2.2.2.2.2.2.1, (zup_n (by omega)).trans H.2.2.2.2.2.2.2.2.2.2.2.2.2.2.2.2.1, (zup_n (by omega)).trans H.2.2.2.2.2.2.2.2.2.2.2.2.2.2.2.2.2.1, (zup_n (by omega)).trans H.2.2.2.2.2.2.2.2.2.2.2.2.2.2.2.2.2.2.1, (zup_n (by omega)).trans H.2.2.2.2.2.2.2.2.2.2.2.2.2.2.2.2.2.2.2.1, (zup_n (by omega)).trans H.2.2.2.2.2.2.2.2.2.2.2.2.2.2.2.2.2.2.2.2.1, zup_s⟩
theorem z_Mo_s28 {p j : Nat} {v : Int32} {σ : Ln} {τ : Ln} {ω : Ln} {ε : El} {mv : Nat → Int64} {kp : Option Nat} {tr : Option Nat} (hd : zdec X pc = .ok (.iastore, 1)) (H : MoAt h p σ τ ω ε mv kp tr) (hB : B ≤ p) (hj : j < 41) (kk : ∀ h1, MoAt h1 p σ τ (up2 ω 22 j v) ε mv kp tr → Upd h h1 (p + 28) 1 → Z D B X cs ss Q (pc + 1) L st h1 sz0) : Z D B X cs ss Q pc L (.int v :: .int (nI j) :: .ref (p + 28) :: st) h sz0 := by
  refine z_iast hd H.2.2.2.2.2.2.2.2.2.2.2.2.2.2.2.2.2.2.2.2.2 (by omega) (vp_in_nI hj (by decide)) ?_
  rw [nI_clamp (by omega)]
  exact kk _ (MoAt.u28 H) Upd.one
end ZUMo
end
section
/-! ===== calls that only read ===== -/
def zRd (D : zD) (B : Nat) (Y : zX) (as : List Value) (h : zH) (sz : Nat) (v : Value) : Prop := zM D B Y as h sz (fun r h1 z1 => r = some v ∧ h1 = h ∧ z1 = sz)
section ZRD
variable {D : zD} {B : Nat} {X Y : zX} {cs ss : Nat} {Q Qy : zQ} {pc n idx : Nat} {L : List (Option Value)} {st as : List Value} {h : zH} {sz : Nat}
theorem zcs {cs ss a b : Nat} {pc : Nat} {L : List (Option Value)} {st : List Value} {h : zH} {sz : Nat} (h0 : a = 0 ∧ b = 0) (k : Z D B X cs ss Q pc L st h sz) : Z D B X (cs + a) (ss + b) Q pc L st h sz := by
  obtain ⟨rfl, rfl⟩ := h0
  exact k
theorem z_rdV {b ci : Nat} {fs : List Value} {v : Value} (hd : zdec X pc = .ok (.invokevirtual idx, 3)) (hk : zLk X.1.cls idx Y n) (hi : Cond.instanceMethod Y.1 ∈ zT ∧ Cond.selects Y.1.cls Y.1 Y.1 ∈ zT) (hb : h b = some (zO ci fs)) (hcl : (vwCl.getD ci ("", TX0, 0)).1 = Y.1.cls) (hci : Nat.ble (ci + 1) 6 = true) (hM : zRd D B Y (.ref b :: as) h sz v) (hn : as.length = n) (h0 : Y.2.2.2.2.2.1 = 0 ∧ Y.2.2.2.2.2.2 = 0) (hf : zFits X Y cs ss = true) (hr : Nat.ble ((st.map fun v => v.category).sum) 8 = true)
    (kk : Z D B X cs ss Q (pc + 3) L (v :: st) h sz) {st0 : List Value} (hst : st0 = as.reverse ++ .ref b :: st) : Z D B X cs ss Q pc L st0 h sz :=
  z_callV hd hk hi hb hcl hci hM hn hf hr (fun r h1 z1 q => by obtain ⟨rfl, rfl, rfl⟩ := q; exact zcs h0 kk) hst
theorem z_rdS {v : Value} (hd : zdec X pc = .ok (.invokestatic idx, 3)) (hk : zLk X.1.cls idx Y n) (hi : Cond.static Y.1 ∈ zT) (hM : zRd D B Y as h sz v) (hn : as.length = n) (h0 : Y.2.2.2.2.2.1 = 0 ∧ Y.2.2.2.2.2.2 = 0) (hf : zFits X Y cs ss = true) (hr : Nat.ble ((st.map fun v => v.category).sum) 8 = true)
    (kk : Z D B X cs ss Q (pc + 3) L (v :: st) h sz) {st0 : List Value} (hst : st0 = as.reverse ++ st) : Z D B X cs ss Q pc L st0 h sz :=
  z_callS hd hk hi hM hn hf hr (fun r h1 z1 q => by obtain ⟨rfl, rfl, rfl⟩ := q; exact zcs h0 kk) hst
theorem z_rdSN {v : Value} (hd : zdec X pc = .ok (.invokestatic idx, 3)) (hk : zLn X.1.cls idx Y n) (hi : Cond.static Y.1 ∈ zT) (hM : zRd D B Y as h sz v) (hn : as.length = n) (h0 : Y.2.2.2.2.2.1 = 0 ∧ Y.2.2.2.2.2.2 = 0) (hf : zFits X Y cs ss = true) (hr : Nat.ble ((st.map fun v => v.category).sum) 8 = true)
    (kk : Z D B X cs ss Q (pc + 3) L (v :: st) h sz) {st0 : List Value} (hst : st0 = as.reverse ++ st) : Z D B X cs ss Q pc L st0 h sz :=
  z_callSN hd hk hi hM hn hf hr (fun r h1 z1 q => by obtain ⟨rfl, rfl, rfl⟩ := q; exact zcs h0 kk) hst
theorem z_rdT {i : Nat} {v : Value} (hd : zdec X pc = .ok (.invokevirtual idx, 3)) (hk : zLk X.1.cls idx Y n) (hi : Cond.instanceMethod Y.1 ∈ zT ∧ Cond.selects Y.1.cls Y.1 Y.1 ∈ zT) (hY : Y.1.cls = "java/lang/String") (hb : i < 8) (hM : zRd D B Y (.ref (D.2.2.2.1 i) :: as) h sz v) (hn : as.length = n) (h0 : Y.2.2.2.2.2.1 = 0 ∧ Y.2.2.2.2.2.2 = 0) (hf : zFits X Y cs ss = true) (hr : Nat.ble ((st.map fun v => v.category).sum) 8 = true)
    (kk : Z D B X cs ss Q (pc + 3) L (v :: st) h sz) {st0 : List Value} (hst : st0 = as.reverse ++ .ref (D.2.2.2.1 i) :: st) : Z D B X cs ss Q pc L st0 h sz :=
  z_callT hd hk hi hY hb hM hn hf hr (fun r h1 z1 q => by obtain ⟨rfl, rfl, rfl⟩ := q; exact zcs h0 kk) hst
/-- a call that changes cells, but makes none -/
theorem z_efV {b ci : Nat} {fs : List Value} (hd : zdec X pc = .ok (.invokevirtual idx, 3)) (hk : zLk X.1.cls idx Y n) (hi : Cond.instanceMethod Y.1 ∈ zT ∧ Cond.selects Y.1.cls Y.1 Y.1 ∈ zT) (hb : h b = some (zO ci fs)) (hcl : (vwCl.getD ci ("", TX0, 0)).1 = Y.1.cls) (hci : Nat.ble (ci + 1) 6 = true) (hM : zM D B Y (.ref b :: as) h sz Qy) (hn : as.length = n) (h0 : Y.2.2.2.2.2.1 = 0 ∧ Y.2.2.2.2.2.2 = 0) (hf : zFits X Y cs ss = true) (hr : Nat.ble ((st.map fun v => v.category).sum) 8 = true)
    (kk : ∀ (r : Option Value) (h1 : zH) (z1 : Nat), Qy r h1 z1 → Z D B X cs ss Q (pc + 3) L (r.toList ++ st) h1 z1) {st0 : List Value} (hst : st0 = as.reverse ++ .ref b :: st) : Z D B X cs ss Q pc L st0 h sz :=
  z_callV hd hk hi hb hcl hci hM hn hf hr (fun r h1 z1 q => zcs h0 (kk r h1 z1 q)) hst
theorem z_efS (hd : zdec X pc = .ok (.invokestatic idx, 3)) (hk : zLk X.1.cls idx Y n) (hi : Cond.static Y.1 ∈ zT) (hM : zM D B Y as h sz Qy) (hn : as.length = n) (h0 : Y.2.2.2.2.2.1 = 0 ∧ Y.2.2.2.2.2.2 = 0) (hf : zFits X Y cs ss = true) (hr : Nat.ble ((st.map fun v => v.category).sum) 8 = true)
    (kk : ∀ (r : Option Value) (h1 : zH) (z1 : Nat), Qy r h1 z1 → Z D B X cs ss Q (pc + 3) L (r.toList ++ st) h1 z1) {st0 : List Value} (hst : st0 = as.reverse ++ st) : Z D B X cs ss Q pc L st0 h sz :=
  z_callS hd hk hi hM hn hf hr (fun r h1 z1 q => zcs h0 (kk r h1 z1 q)) hst
end ZRD
/-! ===== numbers ===== -/
theorem nI_dec {n : Nat} (h : 0 < n) : nI n - 1 = nI (n - 1) := by
  obtain ⟨m, rfl⟩ : ∃ m, n = m + 1 := ⟨n - 1, by omega⟩
  exact nI_pred m
theorem lg_lt {x y : Int64} : lg_cmp x y < 0 ↔ x < y := by
  unfold lg_cmp
  by_cases h1 : y < x
  · simp only [h1, if_true]
    exact ⟨fun q => absurd q (by decide), fun q => absurd h1 (Int64.lt_asymm q)⟩
  · by_cases h2 : x = y
    · subst h2
      simp only [h1, if_false, if_true]
      exact ⟨fun q => absurd q (by decide), fun q => q.elim⟩
    · simp only [h1, h2, if_false]
      refine ⟨fun _ => ?_, fun _ => by decide⟩
      rcases Int64.lt_or_lt_of_ne h2 with q | q
      · exact q
      · exact absurd q h1
theorem lg_eq {x y : Int64} : lg_cmp x y = 0 ↔ x = y := by
  unfold lg_cmp
  by_cases h1 : y < x
  · simp only [h1, if_true]
    exact ⟨fun q => absurd q (by decide), fun q => absurd h1 (by rw [q]; exact Int64.lt_irrefl)⟩
  · by_cases h2 : x = y
    · subst h2
      simp [h1]
    · simp only [h1, h2, if_false]
      exact ⟨fun q => absurd q (by decide), fun q => q.elim⟩
theorem lg_gt {x y : Int64} : 0 < lg_cmp x y ↔ y < x := by
  unfold lg_cmp
  by_cases h1 : y < x
  · simp only [h1, if_true]
    exact ⟨fun _ => trivial, fun _ => by decide⟩
  · by_cases h2 : x = y
    · subst h2
      simp only [h1, if_false, if_true]
      exact ⟨fun q => absurd q (by decide), fun q => q.elim⟩
    · simp only [h1, h2, if_false]
      exact ⟨fun q => absurd q (by decide), fun q => q.elim⟩
section ZLC
variable {D : zD} {B : Nat} {X : zX} {cs ss : Nat} {Q : zQ} {pc : Nat} {L : List (Option Value)} {st : List Value} {h : zH} {sz : Nat} {x y : Int64} {off : Int} {tgt : Nat}
theorem z_lif_eq (hd : zdec X pc = .ok (.ifCond .eq off, 3)) (ht : (pc : Int) + off = (tgt : Int)) (kt : x = y → Z D B X cs ss Q tgt L st h sz) (kf : ¬ x = y → Z D B X cs ss Q (pc + 3) L st h sz) : Z D B X cs ss Q pc L (.int (lg_cmp x y) :: st) h sz := z_if_eq hd ht (fun q => kt (lg_eq.mp q)) (fun q => kf (fun z => q (lg_eq.mpr z)))
theorem z_lif_ne (hd : zdec X pc = .ok (.ifCond .ne off, 3)) (ht : (pc : Int) + off = (tgt : Int)) (kt : ¬ x = y → Z D B X cs ss Q tgt L st h sz) (kf : x = y → Z D B X cs ss Q (pc + 3) L st h sz) : Z D B X cs ss Q pc L (.int (lg_cmp x y) :: st) h sz := z_if_ne hd ht (fun q => kt (fun z => q (lg_eq.mpr z))) (fun q => kf (lg_eq.mp q))
theorem z_lif_lt (hd : zdec X pc = .ok (.ifCond .lt off, 3)) (ht : (pc : Int) + off = (tgt : Int)) (kt : x < y → Z D B X cs ss Q tgt L st h sz) (kf : ¬ x < y → Z D B X cs ss Q (pc + 3) L st h sz) : Z D B X cs ss Q pc L (.int (lg_cmp x y) :: st) h sz := z_if_lt hd ht (fun q => kt (lg_lt.mp q)) (fun q => kf (fun z => q (lg_lt.mpr z)))
theorem z_lif_gt (hd : zdec X pc = .ok (.ifCond .gt off, 3)) (ht : (pc : Int) + off = (tgt : Int)) (kt : y < x → Z D B X cs ss Q tgt L st h sz) (kf : ¬ y < x → Z D B X cs ss Q (pc + 3) L st h sz) : Z D B X cs ss Q pc L (.int (lg_cmp x y) :: st) h sz := z_if_gt hd ht (fun q => kt (lg_gt.mp q)) (fun q => kf (fun z => q (lg_gt.mpr z)))
end ZLC
/-! ===== Math ===== -/
def zMm (own : String) (idx : Nat) : Prop := Cond.methodLink own idx Lib.Math.max.name ∈ zT ∧ Cond.static Lib.Math.max.name ∈ zT ∧ Cond.initialized "java/lang/Math" ∈ zT ∧ Cond.code Lib.Math.max.name Lib.Math.max.code 2 (some .int) ∈ zT
def zMa (own : String) (idx : Nat) : Prop := Cond.methodLink own idx Lib.Math.abs.name ∈ zT ∧ Cond.static Lib.Math.abs.name ∈ zT ∧ Cond.initialized "java/lang/Math" ∈ zT ∧ Cond.code Lib.Math.abs.name Lib.Math.abs.code 1 (some .int) ∈ zT
theorem mmX0_86 : zMm RX0 86 := have h : zChk [766, 767, 78, 768] [Cond.methodLink RX0 86 Lib.Math.max.name, Cond.static Lib.Math.max.name, Cond.initialized "java/lang/Math", Cond.code Lib.Math.max.name Lib.Math.max.code 2 (some .int)] = true := by decide +kernel
  ⟨zChk_ok h _ (.head _), zChk_ok h _ (.tail _ (.head _)), zChk_ok h _ (.tail _ (.tail _ (.head _))), zChk_ok h _ (.tail _ (.tail _ (.tail _ (.head _))))⟩
theorem mmX4_324 : zMm RX4 324 := have h : zChk [890, 767, 78, 768] [Cond.methodLink RX4 324 Lib.Math.max.name, Cond.static Lib.Math.max.name, Cond.initialized "java/lang/Math", Cond.code Lib.Math.max.name Lib.Math.max.code 2 (some .int)] = true := by decide +kernel
  ⟨zChk_ok h _ (.head _), zChk_ok h _ (.tail _ (.head _)), zChk_ok h _ (.tail _ (.tail _ (.head _))), zChk_ok h _ (.tail _ (.tail _ (.tail _ (.head _))))⟩
theorem mmX1_91 : zMa RX1 91 := have h : zChk [389, 390, 78, 391] [Cond.methodLink RX1 91 Lib.Math.abs.name, Cond.static Lib.Math.abs.name, Cond.initialized "java/lang/Math", Cond.code Lib.Math.abs.name Lib.Math.abs.code 1 (some .int)] = true := by decide +kernel
  ⟨zChk_ok h _ (.head _), zChk_ok h _ (.tail _ (.head _)), zChk_ok h _ (.tail _ (.tail _ (.head _))), zChk_ok h _ (.tail _ (.tail _ (.tail _ (.head _))))⟩
def absI (x : Int32) : Int32 := if 0 ≤ x then x else 0 - x
/-- a truth as a number -/
def oI (b : Bool) : Int32 := if b then 1 else 0
theorem oI_01 (b : Bool) : oI b = 0 ∨ oI b = 1 := by cases b <;> simp [oI]
theorem oI_0 {b : Bool} : oI b = 0 ↔ b = false := by cases b <;> simp [oI]
theorem oI_t : oI true = 1 := rfl
theorem oI_f : oI false = 0 := rfl
section ZMT
variable {D : zD} {B : Nat} {X : zX} {cs ss : Nat} {Q : zQ} {pc idx : Nat} {L : List (Option Value)} {st : List Value} {h : zH} {sz : Nat} {x y : Int32}
theorem z_mmax (hd : zdec X pc = .ok (.invokestatic idx, 3)) (hw : zMm X.1.cls idx) (h1 : Nat.ble 1 X.2.2.2.2.1 = true) (h2 : Nat.ble ((st.map fun v => v.category).sum + 13) (36 * X.2.2.2.2.1) = true) (hc : cs ≤ X.2.2.2.2.2.1) (hs : ss ≤ X.2.2.2.2.2.2) (k : Z D B X cs ss Q (pc + 3) L (.int (if x < y then y else x) :: st) h sz) : Z D B X cs ss Q pc L (.int y :: .int x :: st) h sz := by
  intro p l e s m args below meth c H locs ls C hL hV hz hS
  have hts := C.2.2.2.2.1
  exact va_mmax C.1 C.2.1 (C.2.2.1.trans hL.1.symm) C.2.2.2.1 (hts _ hw.1) (hts _ hw.2.1) (hts _ hw.2.2.1) (hts _ hw.2.2.2) (Nat.le_of_ble_eq_true h1) (Nat.le_of_ble_eq_true h2) hc hs hd (k p l e s m args below meth c H locs ls C hL hV hz hS)
theorem z_mabs (hd : zdec X pc = .ok (.invokestatic idx, 3)) (hw : zMa X.1.cls idx) (h1 : Nat.ble 1 X.2.2.2.2.1 = true) (h2 : Nat.ble ((st.map fun v => v.category).sum + 13) (36 * X.2.2.2.2.1) = true) (hc : cs ≤ X.2.2.2.2.2.1) (hs : ss ≤ X.2.2.2.2.2.2) (k : Z D B X cs ss Q (pc + 3) L (.int (absI x) :: st) h sz) : Z D B X cs ss Q pc L (.int x :: st) h sz := by
  intro p l e s m args below meth c H locs ls C hL hV hz hS
  have hts := C.2.2.2.2.1
  exact va_mabs C.1 C.2.1 (C.2.2.1.trans hL.1.symm) C.2.2.2.1 (hts _ hw.1) (hts _ hw.2.1) (hts _ hw.2.2.1) (hts _ hw.2.2.2) (Nat.le_of_ble_eq_true h1) (Nat.le_of_ble_eq_true h2) hc hs hd (k p l e s m args below meth c H locs ls C hL hV hz hS)
theorem z_oif_eq {b : Bool} {off : Int} {tgt : Nat} (hd : zdec X pc = .ok (.ifCond .eq off, 3)) (ht : (pc : Int) + off = (tgt : Int)) (kt : b = false → Z D B X cs ss Q tgt L st h sz) (kf : b = true → Z D B X cs ss Q (pc + 3) L st h sz) : Z D B X cs ss Q pc L (.int (oI b) :: st) h sz := z_if_eq hd ht (fun q => kt (oI_0.mp q)) (fun q => kf (by cases b with | true => rfl | false => exact absurd rfl q))
theorem z_oif_ne {b : Bool} {off : Int} {tgt : Nat} (hd : zdec X pc = .ok (.ifCond .ne off, 3)) (ht : (pc : Int) + off = (tgt : Int)) (kt : b = true → Z D B X cs ss Q tgt L st h sz) (kf : b = false → Z D B X cs ss Q (pc + 3) L st h sz) : Z D B X cs ss Q pc L (.int (oI b) :: st) h sz := z_if_ne hd ht (fun q => kt (by cases b with | true => rfl | false => exact absurd rfl q)) (fun q => kf (oI_0.mp q))
end ZMT
/-! ===== what the lane's questions answer ===== -/
def bI (c : Prop) [Decidable c] : Int32 := if c then 1 else 0
theorem bI_01 (c : Prop) [Decidable c] : bI c = 0 ∨ bI c = 1 := by
  unfold bI
  by_cases h : c
  · simp [h]
  · simp [h]
/-- f 0 to f (n less 1) together -/
def sum0 (f : Nat → Int32) : Nat → Int32
  | 0 => 0
  | n + 1 => sum0 f n + f n
theorem sum0_front (f : Nat → Int32) : ∀ n, sum0 f (n + 1) = f 0 + sum0 (fun j => f (j + 1)) n
  | 0 => by simp [sum0, Int32.add_comm]
  | n + 1 => by
    rw [sum0, sum0_front f n, sum0, Int32.add_assoc]
theorem sum0_cong {f g : Nat → Int32} : ∀ {n : Nat}, (∀ j, j < n → f j = g j) → sum0 f n = sum0 g n
  | 0, _ => rfl
  | n + 1, h => by rw [sum0, sum0, sum0_cong (fun j hj => h j (by omega)), h n (by omega)]
/-- bits 0 to n less 1, as p says -/
def bitsI (p : Nat → Bool) : Nat → Int32
  | 0 => 0
  | n + 1 => if p n then bitsI p n ||| (1 <<< (nI n &&& 31)) else bitsI p n
theorem bitsI_cong {p q : Nat → Bool} : ∀ {n : Nat}, (∀ j, j < n → p j = q j) → bitsI p n = bitsI q n
  | 0, _ => rfl
  | n + 1, h => by rw [bitsI, bitsI, bitsI_cong (fun j hj => h j (by omega)), h n (by omega)]
/-- the greatest of f 0 .. by itself, and where first; from m, b on -/
def amx (f : Nat → Int32) (m b : Int32) : Nat → Int32 × Int32
  | 0 => (m, b)
  | n + 1 => if (amx f m b n).1 < f n then (f n, nI n) else amx f m b n
def bestN (f : Nat → Int32) : Nat → Nat
  | 0 => 0
  | n + 1 => if n = 0 then 0 else if f (bestN f n) < f n then n else bestN f n
def fewN (f : Nat → Int32) : Nat → Nat
  | 0 => 0
  | n + 1 => if n = 0 then 0 else if f n < f (fewN f n) then n else fewN f n
def hsN (σ : Ln) : Nat := (σ 0 0).toNatClampNeg
def lsN (σ : Ln) : Nat := (σ 9 0).toNatClampNeg
theorem hsN_eq {σ : Ln} {n : Nat} (h : σ 0 0 = nI n) (hn : n ≤ 12) : hsN σ = n := by rw [hsN, h, nI_clamp (by omega)]
theorem lsN_eq {σ : Ln} {n : Nat} (h : σ 9 0 = nI n) (hn : n ≤ 8) : lsN σ = n := by rw [lsN, h, nI_clamp (by omega)]
def tipsy (σ : Ln) (k : Nat) : Int32 := if σ 6 0 = 0 then sum0 (σ 2) k else sum0 (fun j => σ 2 (k + 1 + j)) (hsN σ - (k + 1))
def lout (σ : Ln) (t : Int32) : Int32 := t / 4 + σ 5 0 / 3
def readB (σ : Ln) (l k : Nat) : Bool := if σ 6 0 = 0 then decide (nI k ≤ σ 12 l) else decide (σ 12 l ≤ nI k)
def wthn (w all : Int32) : Int32 := if w < 0 then 0 else if all < w then all else w
def undB (σ : Ln) (l k : Nat) : Bool := decide (nI k = σ 12 l) || decide ((σ 3 k >>> (σ 11 l &&& 31)) &&& 1 = 1)
def nearB (σ : Ln) (l k : Nat) : Bool := decide (absI (σ 12 l - nI k) ≤ 1)
def heardW (σ : Ln) (l k : Nat) (lo : Int32) : Int32 :=
  if readB σ l k then
    if σ 10 l = 1 then wthn (σ 13 l - σ 1 k / 2 - lo) (σ 13 l)
    else if σ 10 l = 3 then wthn (wthn (σ 13 l - σ 1 k / 2 - lo) (σ 13 l) + σ 11 l) (σ 13 l)
    else if σ 10 l = 2 then (if undB σ l k then wthn (σ 13 l - σ 1 k - lo) (σ 13 l) else 0)
    else if σ 10 l = 4 then (if undB σ l k && nearB σ l k then wthn (σ 13 l - σ 1 k - lo) (σ 13 l) else 0)
    else if σ 10 l = 5 then (if nI k = σ 12 l then σ 13 l else 0)
    else wthn (σ 13 l - σ 1 k - lo) (σ 13 l)
  else 0
def heardF (σ : Ln) (l k : Nat) : Int32 := heardW σ l k (lout σ (tipsy σ k))
def knowB (σ : Ln) (l k : Nat) : Bool := decide (σ 13 l ≤ 2 * heardF σ l k)
def wordsF (σ : Ln) (k : Nat) : Int32 := sum0 (fun l => heardF σ l k) (lsN σ)
def knownF (σ : Ln) (k : Nat) : Int32 := bitsI (fun l => knowB σ l k) (lsN σ)
def knowersF (σ : Ln) (l : Nat) : Int32 := bitsI (fun k => knowB σ l k) (hsN σ)
def readsF (σ : Ln) (k : Nat) : Int32 := bitsI (fun l => readB σ l k) (lsN σ)
theorem nI_le_iff {a b : Nat} (ha : a ≤ 1000) (hb : b ≤ 1000) : nI a ≤ nI b ↔ a ≤ b := nI_leI (by omega) (by omega)
theorem nI_sub1 {a b : Nat} (h : b ≤ a) : nI a - nI b = nI (a - b) := pk_sub h
theorem tipsy_b {σ : Ln} {n k : Nat} (hb : ¬ σ 6 0 = 0) (hn : σ 0 0 = nI n) (h12 : n ≤ 12) (hk : k + 1 < n) : tipsy σ k = tipsy σ (k + 1) + σ 2 (k + 1) := by
  rw [tipsy, if_neg hb, tipsy, if_neg hb, hsN_eq hn h12, show n - (k + 1) = (n - (k + 1 + 1)) + 1 by omega, sum0_front, Int32.add_comm]
  refine congrArg (· + _) (sum0_cong (fun j _ => ?_))
  rw [show k + 1 + (j + 1) = k + 1 + 1 + j by omega]
theorem tipsy_last {σ : Ln} {n : Nat} (hb : ¬ σ 6 0 = 0) (hn : σ 0 0 = nI n) (h12 : n ≤ 12) (h0 : 0 < n) : tipsy σ (n - 1) = 0 := by
  rw [tipsy, if_neg hb, hsN_eq hn h12, show n - (n - 1 + 1) = 0 by omega]
  rfl
theorem toInt_ne {x : Int32} {n : Nat} (hn : n < 1000) (h : ¬ x = nI n) : ¬ x.toInt = n := fun q => h (by rw [← Int32.toInt_inj, q, nI_toInt (by omega)])
theorem zOut1_5 {x : Int32} (h1 : ¬ x = 1) (h2 : ¬ x = 2) (h3 : ¬ x = 3) (h4 : ¬ x = 4) (h5 : ¬ x = 5) : x.toInt < 1 ∨ 5 < x.toInt := by
  have := toInt_ne (n := 1) (by omega) h1
  have := toInt_ne (n := 2) (by omega) h2
  have := toInt_ne (n := 3) (by omega) h3
  have := toInt_ne (n := 4) (by omega) h4
  have := toInt_ne (n := 5) (by omega) h5
  omega
end
section
/-! ===== bits ===== -/
theorem bx_and (a b : Nat) : nI a &&& nI b = nI (a &&& b) := by
  apply Int32.toBitVec_inj.mp
  show BitVec.ofNat 32 a &&& BitVec.ofNat 32 b = BitVec.ofNat 32 (a &&& b)
  rw [BitVec.ofNat_and]
theorem bx_or (a b : Nat) : nI a ||| nI b = nI (a ||| b) := by
  apply Int32.toBitVec_inj.mp
  show BitVec.ofNat 32 a ||| BitVec.ofNat 32 b = BitVec.ofNat 32 (a ||| b)
  rw [BitVec.ofNat_or]
theorem bx_1 : ∀ n, n < 20 → (1 : Int32) <<< (nI n &&& 31) = nI (2 ^ n) := by decide +kernel
theorem bx_s : ∀ n, n < 20 → ((nI n &&& 31).toBitVec.smod 32).toNat = n := by decide +kernel
def bitsN (p : Nat → Bool) : Nat → Nat
  | 0 => 0
  | n + 1 => if p n then 2 ^ n + bitsN p n else bitsN p n
theorem bitsN_lt (p : Nat → Bool) : ∀ n, bitsN p n < 2 ^ n
  | 0 => by simp [bitsN]
  | n + 1 => by
    have ih := bitsN_lt p n
    rw [bitsN, Nat.pow_succ]
    split <;> omega
theorem bitsI_eq (p : Nat → Bool) : ∀ n, n ≤ 20 → bitsI p n = nI (bitsN p n)
  | 0, _ => rfl
  | n + 1, h => by
    rw [bitsI, bitsN, bitsI_eq p n (by omega), bx_1 n (by omega), bx_or]
    by_cases q : p n = true
    · rw [if_pos q, if_pos q]
      have h1 := bitsN_lt p n
      have : bitsN p n ||| 2 ^ n = 2 ^ n + bitsN p n := by
        rw [Nat.or_comm]
        have := Nat.two_pow_add_eq_or_of_lt h1 1
        rw [Nat.mul_one] at this
        exact this.symm
      rw [this]
    · rw [if_neg q, if_neg q]
theorem bitsN_test (p : Nat → Bool) : ∀ n j, (bitsN p n).testBit j = (decide (j < n) && p j)
  | 0, j => by simp [bitsN]
  | n + 1, j => by
    have ih := bitsN_test p n j
    have hl := bitsN_lt p n
    rw [bitsN]
    rcases Nat.lt_trichotomy j n with q | q | q
    · have : (2 ^ n + bitsN p n).testBit j = (bitsN p n).testBit j := Nat.testBit_two_pow_add_gt q _
      by_cases r : p n = true
      · rw [if_pos r, this, ih]; simp [q, Nat.lt_succ_of_lt q]
      · rw [if_neg r, ih]; simp [q, Nat.lt_succ_of_lt q]
    · subst q
      have : (2 ^ j + bitsN p j).testBit j = !(bitsN p j).testBit j := Nat.testBit_two_pow_add_eq _ _
      by_cases r : p j = true
      · rw [if_pos r, this, ih]; simp [r]
      · rw [if_neg r, ih]; simp [r]
    · have h1 : bitsN p (n + 1) < 2 ^ (n + 1) := bitsN_lt p (n + 1)
      have h2 : bitsN p (n + 1) < 2 ^ j := Nat.lt_of_lt_of_le h1 (Nat.pow_le_pow_right (by omega) (by omega))
      have h3 := Nat.testBit_lt_two_pow h2
      rw [bitsN] at h3
      rw [h3]
      simp [show ¬ j < n + 1 by omega]
theorem bx_test {v j : Nat} (hv : v < 2 ^ 31) (hj : j < 20) : (nI v >>> (nI j &&& 31)) &&& 1 = if v.testBit j then 1 else 0 := by
  rw [pk_shrN hv _ j (bx_s j hj), show (1 : Int32) = nI 1 from rfl, bx_and, Nat.and_one_is_mod, Nat.testBit_eq_decide_div_mod_eq]
  have : v / 2 ^ j % 2 = 0 ∨ v / 2 ^ j % 2 = 1 := by omega
  rcases this with q | q <;> rw [q] <;> rfl
theorem bitsI_test {p : Nat → Bool} {n j : Nat} (hn : n ≤ 20) (hj : j < n) : ((bitsI p n >>> (nI j &&& 31)) &&& 1 = 1) ↔ p j = true := by
  rw [bitsI_eq p n hn, bx_test (Nat.lt_of_lt_of_le (bitsN_lt p n) (Nat.pow_le_pow_right (by omega) (by omega))) (by omega), bitsN_test]
  cases p j <;> simp [hj]
theorem bitsI_t {p : Nat → Bool} {n : Nat} (h : p n = true) : bitsI p (n + 1) = bitsI p n ||| (1 <<< (nI n &&& 31)) := by rw [bitsI, if_pos h]
theorem bitsI_f {p : Nat → Bool} {n : Nat} (h : p n = false) : bitsI p (n + 1) = bitsI p n := by rw [bitsI, h]; rfl
theorem bitsI_bt {p : Nat → Bool} {n : Nat} {b : Int32} (h : p n = true) : (b ||| (1 <<< (nI n &&& 31))) ||| bitsI p n = b ||| bitsI p (n + 1) := by
  rw [bitsI_t h, Int32.or_assoc, Int32.or_comm (1 <<< (nI n &&& 31))]
theorem bitsI_bf {p : Nat → Bool} {n : Nat} {b : Int32} (h : p n = false) : b ||| bitsI p n = b ||| bitsI p (n + 1) := by rw [bitsI_f h]
/-- how many bits -/
def popN (v : Nat) : Nat := v % 2 + v / 2 % 2 + v / 4 % 2 + v / 8 % 2 + v / 16 % 2 + v / 32 % 2 + v / 64 % 2 + v / 128 % 2 + v / 256 % 2 + v / 512 % 2 + v / 1024 % 2 + v / 2048 % 2
def popI (x : Int32) : Int32 := nI (popN x.toNatClampNeg)
theorem popI_nI {v : Nat} (h : v < 4096) : popI (nI v) = nI (popN v) := by rw [popI, nI_clamp (by omega)]
def allKnF (σ : Ln) : Int32 := sum0 (fun l => popI (knowersF σ l)) (lsN σ)
theorem knowersF_eq (σ : Ln) (l : Nat) (h : hsN σ ≤ 12) : ∃ v, v < 4096 ∧ knowersF σ l = nI v := ⟨bitsN _ _, Nat.lt_of_lt_of_le (bitsN_lt _ _) (Nat.pow_le_pow_right (by omega) h), bitsI_eq _ _ (by omega)⟩
theorem knownF_eq (σ : Ln) (k : Nat) (h : lsN σ ≤ 8) : ∃ v, v < 256 ∧ knownF σ k = nI v := ⟨bitsN _ _, Nat.lt_of_lt_of_le (bitsN_lt _ _) (Nat.pow_le_pow_right (by omega) h), bitsI_eq _ _ (by omega)⟩
/-- the house at a step -/
def stepH (σ : Ln) (i : Nat) : Nat := if σ 6 0 = 0 then i else hsN σ - 1 - i
/-- the first and the last by the way -/
def fstW (p : Nat → Bool) (g : Nat → Nat) : Nat → Int32
  | 0 => -1
  | n + 1 => if fstW p g n = -1 then (if p (g n) then nI (g n) else -1) else fstW p g n
def lstW (p : Nat → Bool) (g : Nat → Nat) : Nat → Int32
  | 0 => -1
  | n + 1 => if p (g n) then nI (g n) else lstW p g n
theorem nI_ne_m1 {k : Nat} (h : k ≤ 1000) : ¬ nI k = -1 := fun q => nI_pos (n := k) (by omega) (by rw [q]; decide)
theorem fstW_stay {p : Nat → Bool} {g : Nat → Nat} {i : Nat} (h : ¬ fstW p g i = -1) : ∀ d, fstW p g (i + d) = fstW p g i
  | 0 => rfl
  | d + 1 => by
    have ih := fstW_stay h d
    rw [show i + (d + 1) = (i + d) + 1 by omega, fstW, if_neg (by rw [ih]; exact h), ih]
def firstF (σ : Ln) (l : Nat) : Int32 := fstW (fun k => knowB σ l k) (stepH σ) (hsN σ)
def lastF (σ : Ln) (l : Nat) : Int32 := lstW (fun k => knowB σ l k) (stepH σ) (hsN σ)
def loudF (σ : Ln) (k : Nat) : Int32 := (amx (fun l => heardF σ l k) 0 (-1) (lsN σ)).2
theorem amx_t {f : Nat → Int32} {m b : Int32} {n : Nat} (h : (amx f m b n).1 < f n) : amx f m b (n + 1) = (f n, nI n) := if_pos h
theorem amx_f {f : Nat → Int32} {m b : Int32} {n : Nat} (h : ¬ (amx f m b n).1 < f n) : amx f m b (n + 1) = amx f m b n := if_neg h
theorem bestN_t {f : Nat → Int32} {n : Nat} (h0 : 0 < n) (h : f (bestN f n) < f n) : bestN f (n + 1) = n := by rw [bestN, if_neg (by omega), if_pos h]
theorem bestN_f {f : Nat → Int32} {n : Nat} (h0 : 0 < n) (h : ¬ f (bestN f n) < f n) : bestN f (n + 1) = bestN f n := by rw [bestN, if_neg (by omega), if_neg h]
theorem bestN_lt {f : Nat → Int32} : ∀ {n : Nat}, 0 < n → bestN f n < n
  | 1, _ => by simp [bestN]
  | n + 2, _ => by
    have ih := bestN_lt (f := f) (n := n + 1) (by omega)
    rw [bestN, if_neg (by omega)]
    split <;> omega
theorem fewN_t {f : Nat → Int32} {n : Nat} (h0 : 0 < n) (h : f n < f (fewN f n)) : fewN f (n + 1) = n := by rw [fewN, if_neg (by omega), if_pos h]
theorem fewN_f {f : Nat → Int32} {n : Nat} (h0 : 0 < n) (h : ¬ f n < f (fewN f n)) : fewN f (n + 1) = fewN f n := by rw [fewN, if_neg (by omega), if_neg h]
theorem fewN_lt {f : Nat → Int32} : ∀ {n : Nat}, 0 < n → fewN f n < n
  | 1, _ => by simp [fewN]
  | n + 2, _ => by
    have ih := fewN_lt (f := f) (n := n + 1) (by omega)
    rw [fewN, if_neg (by omega)]
    split <;> omega
theorem knowT {σ : Ln} {l k : Nat} {t : Int32} (ht : t = tipsy σ k) (c : ¬ 2 * heardW σ l k (lout σ t) < σ 13 l) : knowB σ l k = true := by rw [knowB, heardF, ← ht]; exact decide_eq_true (Int32.not_lt.mp c)
theorem knowN {σ : Ln} {l k : Nat} {t : Int32} (ht : t = tipsy σ k) (c : 2 * heardW σ l k (lout σ t) < σ 13 l) : knowB σ l k = false := by rw [knowB, heardF, ← ht]; exact decide_eq_false (Int32.not_le.mpr c)
theorem tipsy_b2 {σ : Ln} {n i : Nat} (hb : ¬ σ 6 0 = 0) (hn : σ 0 0 = nI n) (h12 : n ≤ 12) (hi : i + 1 < n) : tipsy σ (n - 1 - (i + 1)) = tipsy σ (n - 1 - i) + σ 2 (n - 1 - i) := by
  have := tipsy_b (k := n - 1 - (i + 1)) hb hn h12 (by omega)
  rw [show n - 1 - (i + 1) + 1 = n - 1 - i by omega] at this
  exact this
theorem z_kill {D : zD} {B : Nat} {X : zX} {cs ss : Nat} {Q : zQ} {pc : Nat} {L : List (Option Value)} {st : List Value} {h : zH} {sz : Nat} (i : Nat) (k : Z D B X cs ss Q pc (L.set i none) st h sz) : Z D B X cs ss Q pc L st h sz := by
  intro p l e s m args below meth c H locs ls C hL hV hz hS
  refine k p l e s m args below meth c H locs ls C ⟨hL.1, hL.2.1, fun q hq => ?_⟩ hV hz hS
  obtain ⟨j, u⟩ := q
  have hj := zls_mem.mp hq
  rw [List.getElem?_set] at hj
  by_cases e2 : i = j
  · rw [if_pos e2] at hj
    split at hj <;> cases hj
  · rw [if_neg e2] at hj
    exact hL.2.2 (j, u) (zls_mem.mpr hj)
theorem stepF {σ : Ln} {i : Nat} (hb : σ 6 0 = 0) : stepH σ i = i := if_pos hb
theorem stepB {σ : Ln} {n i : Nat} (hb : ¬ σ 6 0 = 0) (hn : σ 0 0 = nI n) (h12 : n ≤ 12) : stepH σ i = n - 1 - i := by rw [stepH, if_neg hb, hsN_eq hn h12]
theorem know_test {σ : Ln} {n l j : Nat} (hn : σ 0 0 = nI n) (h12 : n ≤ 12) (hj : j < n) : ((knowersF σ l >>> (nI j &&& 31)) &&& 1 = 1) ↔ knowB σ l j = true := by
  rw [knowersF, hsN_eq hn h12]
  exact bitsI_test (p := fun k => knowB σ l k) (by omega) hj
theorem fst_hit {p : Nat → Bool} {g : Nat → Nat} {i n k : Nat} (hi : i < n) (h0 : fstW p g i = -1) (hg : g i = k) (hk : k ≤ 1000) (hp : p k = true) : fstW p g n = nI k := by
  have h1 : fstW p g (i + 1) = nI k := by rw [fstW, if_pos h0, hg, if_pos hp]
  have h2 : ¬ fstW p g (i + 1) = -1 := by rw [h1]; exact nI_ne_m1 hk
  rw [show n = (i + 1) + (n - (i + 1)) by omega, fstW_stay h2, h1]
theorem fst_miss {p : Nat → Bool} {g : Nat → Nat} {i k : Nat} (h0 : fstW p g i = -1) (hg : g i = k) (hp : ¬ p k = true) : fstW p g (i + 1) = -1 := by rw [fstW, if_pos h0, hg, if_neg hp]
theorem lst_hit {p : Nat → Bool} {g : Nat → Nat} {i k : Nat} (hg : g i = k) (hp : p k = true) : lstW p g (i + 1) = nI k := by rw [lstW, hg, if_pos hp]
theorem lst_miss {p : Nat → Bool} {g : Nat → Nat} {i k : Nat} (hg : g i = k) (hp : ¬ p k = true) : lstW p g (i + 1) = lstW p g i := by rw [lstW, hg, if_neg hp]
/-! ===== Integer.bitCount ===== -/
def ushr (x y : Int32) : Int32 := (x.toUInt32 >>> (Int32.toUInt32 y &&& Int32.toUInt32 31)).toInt32
def bcF (x0 : Int32) : Int32 :=
  let x1 := x0 - (ushr x0 1 &&& 1431655765)
  let x2 := (x1 &&& 858993459) + (ushr x1 2 &&& 858993459)
  let x3 := (x2 + ushr x2 4) &&& 252645135
  let x4 := x3 + ushr x3 8
  let x5 := x4 + ushr x4 16
  x5 &&& 63
theorem bc_ok0 : ∀ a, a < 64 → ∀ b, b < 64 → bcF (nI (64 * a + b)) = nI (popN (64 * a + b)) := by decide +kernel
theorem bc_ok {v : Nat} (h : v < 4096) : bcF (nI v) = nI (popN v) := by
  have := bc_ok0 (v / 64) (by omega) (v % 64) (by omega)
  rwa [show 64 * (v / 64) + v % 64 = v by omega] at this
/-! ===== draws, rounds ===== -/
def nextS (s : Int32) : Int32 := s * 1103515245 + 12345
def drwN (s : Int32) (b : Nat) : Nat := s.toBitVec.toNat / 65536 % b
theorem drw_eq (s : Int32) {b : Nat} (h0 : 0 < b) (hb : b ≤ 1000) : ushr s 16 - ushr s 16 / nI b * nI b = nI (drwN s b) := by
  have h1 : ushr s 16 = nI (s.toBitVec.toNat / 65536) := by
    have h2 : (ushr s 16).toBitVec.toNat = s.toBitVec.toNat / 2 ^ 16 := pk_ushr s 16 16 (by decide)
    apply Int32.toBitVec_inj.mp
    apply BitVec.eq_of_toNat_eq
    rw [h2]
    have := s.toBitVec.isLt
    rw [pk_tn (by omega)]
  have := s.toBitVec.isLt
  rw [h1, pk_rem (by omega) h0 (by omega)]
  rfl
theorem drwN_lt (s : Int32) {b : Nat} (h0 : 0 < b) : drwN s b < b := Nat.mod_lt _ h0
/-- ears grown at houses 0 to i less 1 -/
def eUp (σ : Ln) (i : Nat) : Ln := fun f => if f = 4 then (fun j => if j < i then σ 4 j + wordsF σ j else σ 4 j) else σ f
theorem eUp_0 (σ : Ln) : eUp σ 0 = σ := by
  funext f
  by_cases h : f = 4
  · subst h; simp [eUp]
  · simp [eUp, h]
theorem eUp_s (σ : Ln) (i : Nat) : up2 (eUp σ i) 4 i (eUp σ i 4 i + wordsF (eUp σ i) i) = eUp σ (i + 1) := by
  have hw : wordsF (eUp σ i) i = wordsF σ i := rfl
  have he : eUp σ i 4 i = σ 4 i := by simp [eUp]
  rw [hw, he]
  funext f
  by_cases h : f = 4
  · subst h
    funext j
    by_cases q : j = i
    · subst q; simp [up2, upd, eUp]
    · by_cases r : j < i
      · simp [up2, upd, eUp, q, r, Nat.lt_succ_of_lt r]
      · simp [up2, upd, eUp, q, r, show ¬ j < i + 1 by omega]
  · simp [up2, eUp, h]
def roundF (σ : Ln) : Ln := up2 (eUp σ (hsN σ)) 7 0 (σ 7 0 + 1)
def dayF (σ : Ln) : Ln :=
  let s1 := nextS (σ 8 0)
  let s2 := nextS s1
  let s3 := nextS s2
  let s4 := nextS s3
  let σ1 := up2 σ 8 0 s1
  let σ2 := up2 (up2 σ1 8 0 s2) 1 (drwN s1 (hsN σ)) (nI (drwN s2 10))
  let σ3 := up2 σ2 8 0 s3
  let σ4 := up2 (up2 σ3 8 0 s4) 2 (drwN s3 (hsN σ)) (nI (drwN s4 10))
  roundF σ4
def upF (σ : Ln) (k : Nat) (f : Nat → Int32) : Ln := fun a => if a = k then f else σ a
def addF (σ : Ln) (m : Nat) (k a t g : Int32) : Ln := up2 (up2 (up2 (up2 (up2 σ 10 m k) 11 m a) 12 m t) 13 m g) 9 0 (nI (m + 1))
def learnF (σ : Ln) (k : Nat) (c : Int32) : Ln := up2 σ 3 k (σ 3 k ||| (1 <<< (c &&& 31)))
section ZCP
variable {D : zD} {B : Nat} {X : zX} {cs ss : Nat} {Q : zQ} {pc : Nat} {L : List (Option Value)} {st : List Value} {h : zH} {sz : Nat}
/-- a whole array copied -/
theorem z_copyA {a b n idx : Nat} {f g : Nat → Int32} {x : Int32} (hd : zdec X pc = .ok (.invokestatic idx, 3)) (hw : zCp X.1.cls idx) (ha : h a = some (zI n f)) (hb : h b = some (zI n g)) (hB : B ≤ b) (hx : x = nI n) (hn : Nat.ble n 1000 = true) (hf : Nat.ble 1 X.2.2.2.2.1 = true) (hlo : Nat.ble ((st.map fun v => v.category).sum + (nativeFrameWords "java/lang/System" "arraycopy" 5 + 11)) (36 * X.2.2.2.2.1) = true)
    (k : Z D B X cs ss Q (pc + 3) L st (zup h b (zI n f)) sz) : Z D B X cs ss Q pc L (.int x :: .int 0 :: .ref b :: .int 0 :: .ref a :: st) h sz := by
  have hn := Nat.le_of_ble_eq_true hn
  have hc : x.toNatClampNeg = n := by rw [hx]; exact nI_clamp (by omega)
  refine z_copyI hd hw ha hb hB (by decide) (by decide) (by rw [hx]; exact nI_pos (by omega)) (by rw [hc, show (0 : Int32).toNatClampNeg = 0 by decide]; omega) (by rw [hc, show (0 : Int32).toNatClampNeg = 0 by decide]; omega) hf hlo ?_
  rw [hc, show (0 : Int32).toNatClampNeg = 0 by decide]
  refine z_altI (a := b) zup_s (g := f) (fun j hj => sb_cpy0 hj) ?_
  rw [zup_zup]
  exact k
end ZCP
theorem LnAt.c1 {h : zH} {p : Nat} {σ : Ln} {f : Nat → Int32} (H : LnAt h p σ) : LnAt (zup h (p + 1) (zI 12 f)) p (upF σ 1 f) := ⟨(zup_n (by omega)).trans H.1, zup_s, (zup_n (by omega)).trans H.2.2.1, (zup_n (by omega)).trans H.2.2.2.1, (zup_n (by omega)).trans H.2.2.2.2.1, (zup_n (by omega)).trans H.2.2.2.2.2.1, (zup_n (by omega)).trans H.2.2.2.2.2.2.1, (zup_n (by omega)).trans H.2.2.2.2.2.2.2.1, (zup_n (by omega)).trans H.2.2.2.2.2.2.2.2⟩
theorem LnAt.c2 {h : zH} {p : Nat} {σ : Ln} {f : Nat → Int32} (H : LnAt h p σ) : LnAt (zup h (p + 2) (zI 12 f)) p (upF σ 2 f) := ⟨(zup_n (by omega)).trans H.1, (zup_n (by omega)).trans H.2.1, zup_s, (zup_n (by omega)).trans H.2.2.2.1, (zup_n (by omega)).trans H.2.2.2.2.1, (zup_n (by omega)).trans H.2.2.2.2.2.1, (zup_n (by omega)).trans H.2.2.2.2.2.2.1, (zup_n (by omega)).trans H.2.2.2.2.2.2.2.1, (zup_n (by omega)).trans H.2.2.2.2.2.2.2.2⟩
theorem LnAt.c3 {h : zH} {p : Nat} {σ : Ln} {f : Nat → Int32} (H : LnAt h p σ) : LnAt (zup h (p + 3) (zI 12 f)) p (upF σ 3 f) := ⟨(zup_n (by omega)).trans H.1, (zup_n (by omega)).trans H.2.1, (zup_n (by omega)).trans H.2.2.1, zup_s, (zup_n (by omega)).trans H.2.2.2.2.1, (zup_n (by omega)).trans H.2.2.2.2.2.1, (zup_n (by omega)).trans H.2.2.2.2.2.2.1, (zup_n (by omega)).trans H.2.2.2.2.2.2.2.1, (zup_n (by omega)).trans H.2.2.2.2.2.2.2.2⟩
theorem LnAt.c4 {h : zH} {p : Nat} {σ : Ln} {f : Nat → Int32} (H : LnAt h p σ) : LnAt (zup h (p + 4) (zI 12 f)) p (upF σ 4 f) := ⟨(zup_n (by omega)).trans H.1, (zup_n (by omega)).trans H.2.1, (zup_n (by omega)).trans H.2.2.1, (zup_n (by omega)).trans H.2.2.2.1, zup_s, (zup_n (by omega)).trans H.2.2.2.2.2.1, (zup_n (by omega)).trans H.2.2.2.2.2.2.1, (zup_n (by omega)).trans H.2.2.2.2.2.2.2.1, (zup_n (by omega)).trans H.2.2.2.2.2.2.2.2⟩
theorem LnAt.c5 {h : zH} {p : Nat} {σ : Ln} {f : Nat → Int32} (H : LnAt h p σ) : LnAt (zup h (p + 5) (zI 8 f)) p (upF σ 10 f) := ⟨(zup_n (by omega)).trans H.1, (zup_n (by omega)).trans H.2.1, (zup_n (by omega)).trans H.2.2.1, (zup_n (by omega)).trans H.2.2.2.1, (zup_n (by omega)).trans H.2.2.2.2.1, zup_s, (zup_n (by omega)).trans H.2.2.2.2.2.2.1, (zup_n (by omega)).trans H.2.2.2.2.2.2.2.1, (zup_n (by omega)).trans H.2.2.2.2.2.2.2.2⟩
theorem LnAt.c6 {h : zH} {p : Nat} {σ : Ln} {f : Nat → Int32} (H : LnAt h p σ) : LnAt (zup h (p + 6) (zI 8 f)) p (upF σ 11 f) := ⟨(zup_n (by omega)).trans H.1, (zup_n (by omega)).trans H.2.1, (zup_n (by omega)).trans H.2.2.1, (zup_n (by omega)).trans H.2.2.2.1, (zup_n (by omega)).trans H.2.2.2.2.1, (zup_n (by omega)).trans H.2.2.2.2.2.1, zup_s, (zup_n (by omega)).trans H.2.2.2.2.2.2.2.1, (zup_n (by omega)).trans H.2.2.2.2.2.2.2.2⟩
theorem LnAt.c7 {h : zH} {p : Nat} {σ : Ln} {f : Nat → Int32} (H : LnAt h p σ) : LnAt (zup h (p + 7) (zI 8 f)) p (upF σ 12 f) := ⟨(zup_n (by omega)).trans H.1, (zup_n (by omega)).trans H.2.1, (zup_n (by omega)).trans H.2.2.1, (zup_n (by omega)).trans H.2.2.2.1, (zup_n (by omega)).trans H.2.2.2.2.1, (zup_n (by omega)).trans H.2.2.2.2.2.1, (zup_n (by omega)).trans H.2.2.2.2.2.2.1, zup_s, (zup_n (by omega)).trans H.2.2.2.2.2.2.2.2⟩
theorem LnAt.c8 {h : zH} {p : Nat} {σ : Ln} {f : Nat → Int32} (H : LnAt h p σ) : LnAt (zup h (p + 8) (zI 8 f)) p (upF σ 13 f) := ⟨(zup_n (by omega)).trans H.1, (zup_n (by omega)).trans H.2.1, (zup_n (by omega)).trans H.2.2.1, (zup_n (by omega)).trans H.2.2.2.1, (zup_n (by omega)).trans H.2.2.2.2.1, (zup_n (by omega)).trans H.2.2.2.2.2.1, (zup_n (by omega)).trans H.2.2.2.2.2.2.1, (zup_n (by omega)).trans H.2.2.2.2.2.2.2.1, zup_s⟩
theorem nI_ge_not {a i : Nat} (ha : a ≤ 1000) (hi : i ≤ 1000) (c : ¬ nI a ≤ nI i) : i < a := by
  rcases Nat.lt_or_ge i a with q | q
  · exact q
  · exact absurd ((nI_le_iff ha hi).mpr q) c
theorem nI_ge_yes {a i : Nat} (ha : a ≤ 1000) (hi : i ≤ 1000) (h : i ≤ a) (c : nI a ≤ nI i) : i = a := by
  have := (nI_le_iff ha hi).mp c
  omega
theorem nI_gt_not {a i : Nat} (hi : a ≤ 999 ∧ i ≤ a + 1) (c : ¬ nI a < nI i) : i < a + 1 := by
  rcases Nat.lt_or_ge i (a + 1) with q | q
  · exact q
  · exact absurd ((nI_ltI (by omega) (by omega)).mpr (by omega)) c
theorem nI_gt_yes {a i : Nat} (hi : a ≤ 999) (h : i ≤ a + 1) (c : nI a < nI i) : i = a + 1 := by
  have := (nI_ltI (by omega) (by omega)).mp c
  omega
/-- between -/
def okR (a b x : Int32) : Bool := decide (a ≤ x) && decide (x ≤ b)
theorem fa_lt (a b : Int32) : a < b ↔ a.toInt < b.toInt := Int32.lt_iff_toInt_lt
theorem fa_le (a b : Int32) : a ≤ b ↔ a.toInt ≤ b.toInt := Int32.le_iff_toInt_le
theorem fa_wide_le (a b : Int32) : a.toInt64 ≤ b.toInt64 ↔ a ≤ b := by
  rw [Int64.le_iff_toInt_le, Int32.toInt_toInt64, Int32.toInt_toInt64, Int32.le_iff_toInt_le]
theorem fa_wide_lt (a b : Int32) : a.toInt64 < b.toInt64 ↔ a < b := by
  rw [Int64.lt_iff_toInt_lt, Int32.toInt_toInt64, Int32.toInt_toInt64, Int32.lt_iff_toInt_lt]
theorem nI_sub1I (n : Nat) (hn : n ≤ 1000) : (nI n - 1).toInt = (n : Int) - 1 := pk_sub_toInt (a := n) (b := 1) (by omega) (by omega)
theorem okR_nI {n : Nat} {x : Int32} (hn : n ≤ 1000) (h : okR 0 (nI n - 1) x = true) : ∃ k, k < n ∧ x = nI k := by
  unfold okR at h
  rw [Bool.and_eq_true, decide_eq_true_eq, decide_eq_true_eq] at h
  have h2 : 0 ≤ x.toInt := by simpa using (fa_le 0 x).mp h.1
  have h3 := (fa_le _ _).mp h.2
  rw [nI_sub1I n hn] at h3
  obtain ⟨k, hk, rfl⟩ := nI_of (x := x) (Int32.not_lt.mpr h.1)
  rw [nI_toInt hk] at h3
  exact ⟨k, by omega, rfl⟩
theorem okR_k {n k : Nat} (hn : n ≤ 1000) (hk : k < n) : okR 0 (nI n - 1) (nI k) = true := by
  unfold okR
  rw [Bool.and_eq_true, decide_eq_true_eq, decide_eq_true_eq]
  refine ⟨nI_pos' (by omega), (fa_le _ _).mpr ?_⟩
  rw [nI_sub1I n hn, nI_toInt (by omega)]
  omega
end
section

end
section
def ToOk (σ : Ln) (l : Nat) : Prop := ∃ t, t < 12 ∧ σ 12 l = nI t
theorem near_eq {σ : Ln} {l k : Nat} (ht : ToOk σ l) (hk : k < 12) : okR (σ 12 l - 1) (σ 12 l + 1) (nI k) = nearB σ l k := by
  obtain ⟨t, h1, h2⟩ := ht
  rw [nearB, h2]
  have : ∀ t, t < 12 → ∀ k, k < 12 → okR (nI t - 1) (nI t + 1) (nI k) = decide (absI (nI t - nI k) ≤ 1) := by decide +kernel
  exact this t h1 k hk
set_option maxRecDepth 20000 in
theorem c_in {D : zD} {B : Nat} {h : zH} {sz : Nat} {v a b : Int64}  : zRd D B xX5_in [.long v, .long a, .long b] h sz (.int (oI (decide (a ≤ v) && decide (v ≤ b)))) := by
  refine zM.of (by decide) rfl (n := 0) ?_
  show Z D B xX5_in 0 0 _ 0 [some (.long v), none, some (.long a), none, some (.long b), none] [] h sz
  refine z_lload_n (pc := 0) (zk0 kX5_in_0) rfl ?_
  refine z_lload_n (pc := 1) (zk1 kX5_in_0) rfl ?_
  refine z_lcmp (pc := 2) (zk2 kX5_in_0) ?_
  refine z_lif_lt (pc := 3) (zk3 kX5_in_0) (tgt := 17) (by decide) (fun c_1 => ?_) (fun c_1 => ?_)
  · refine z_iconst (pc := 17) (zk10 kX5_in_0) (v := 0) (by decide) ?_
    exact z_zret (pc := 18) (zk11 kX5_in_0) rfl (Nat.zero_le _) (Nat.zero_le _) (by decide) ⟨by simp [oI, c_1, Int64.not_le.mpr c_1], rfl, rfl⟩
  · refine z_lload_n (pc := 6) (zk4 kX5_in_0) rfl ?_
    refine z_lload (pc := 7) (zk5 kX5_in_0) rfl ?_
    refine z_lcmp (pc := 9) (zk6 kX5_in_0) ?_
    refine z_lif_gt (pc := 10) (zk7 kX5_in_0) (tgt := 17) (by decide) (fun c_2 => ?_) (fun c_2 => ?_)
    · refine z_iconst (pc := 17) (zk10 kX5_in_0) (v := 0) (by decide) ?_
      exact z_zret (pc := 18) (zk11 kX5_in_0) rfl (Nat.zero_le _) (Nat.zero_le _) (by decide) ⟨by simp [oI, c_1, Int64.not_lt.mp c_1, c_2, Int64.not_le.mpr c_2], rfl, rfl⟩
    · refine z_iconst (pc := 13) (zk8 kX5_in_0) (v := 1) (by decide) ?_
      refine z_goto (pc := 14) (zk9 kX5_in_0) (tgt := 18) (by decide) ?_
      exact z_zret (pc := 18) (zk11 kX5_in_0) rfl (Nat.zero_le _) (Nat.zero_le _) (by decide) ⟨by simp [oI, c_1, Int64.not_lt.mp c_1, c_2, Int64.not_lt.mp c_2], rfl, rfl⟩
theorem c_inI {D : zD} {B : Nat} {h : zH} {sz : Nat} {x a b : Int32} {la lb : Int64} (ha : la = a.toInt64) (hb : lb = b.toInt64) : zRd D B xX5_in [.long x.toInt64, .long la, .long lb] h sz (.int (oI (okR a b x))) := by
  subst ha
  subst hb
  have e : okR a b x = (decide (a.toInt64 ≤ x.toInt64) && decide (x.toInt64 ≤ b.toInt64)) := by
    unfold okR
    rw [decide_eq_decide.mpr (fa_wide_le a x), decide_eq_decide.mpr (fa_wide_le x b)]
  rw [e]
  exact c_in
set_option maxRecDepth 20000 in
theorem c_isHouse {D : zD} {B : Nat} {h : zH} {sz : Nat} {p : Nat} {σ τ ω : Ln} {ε : El} {mv : Nat → Int64} {kp tr : Option Nat} {x : Int32} (hM : MoAt h p σ τ ω ε mv kp tr) : zRd D B xX5_isHouse [.ref p, .int x] h sz (.int (oI (okR 0 (σ 0 0 - 1) x))) := by
  refine zM.of (by decide) rfl (n := 0) ?_
  show Z D B xX5_isHouse 0 0 _ 0 [some (.ref p), some (.int x)] [] h sz
  refine z_iload_n (pc := 0) (zk0 kX5_isHouse_0) rfl ?_
  refine z_i2l (pc := 1) (zk1 kX5_isHouse_0) ?_
  refine z_lconst (pc := 2) (zk2 kX5_isHouse_0) (v := 0) (by decide) ?_
  refine z_aload_n (pc := 3) (zk3 kX5_isHouse_0) rfl ?_
  refine z_getf (pc := 4) (zk4 kX5_isHouse_0) flX5_37 hM.1 (v := .int (σ 0 0)) rfl ?_
  refine z_iconst (pc := 7) (zk5 kX5_isHouse_0) (v := 1) (by decide) ?_
  refine z_isub (pc := 8) (zk6 kX5_isHouse_0) ?_
  refine z_i2l (pc := 9) (zk7 kX5_isHouse_0) ?_
  refine z_rdS (pc := 10) (zk8 kX5_isHouse_0) (st := []) lkX5_81 isX5_in (c_inI (x := x) (a := 0) (b := (σ 0 0) - 1) (by decide) rfl) rfl ⟨rfl, rfl⟩ rfl rfl ?_ rfl
  exact z_zret (pc := 13) (zk9 kX5_isHouse_0) rfl (Nat.zero_le _) (Nat.zero_le _) (oI_01 _) ⟨rfl, rfl, rfl⟩
set_option maxRecDepth 20000 in
theorem c_isLetter {D : zD} {B : Nat} {h : zH} {sz : Nat} {p : Nat} {σ τ ω : Ln} {ε : El} {mv : Nat → Int64} {kp tr : Option Nat} {x : Int32} (hM : MoAt h p σ τ ω ε mv kp tr) : zRd D B xX5_isLetter [.ref p, .long x.toInt64] h sz (.int (oI (okR 0 (σ 9 0 - 1) x))) := by
  refine zM.of (by decide) rfl (n := 0) ?_
  show Z D B xX5_isLetter 0 0 _ 0 [some (.ref p), some (.long x.toInt64), none] [] h sz
  refine z_lload_n (pc := 0) (zk0 kX5_isLetter_0) rfl ?_
  refine z_lconst (pc := 1) (zk1 kX5_isLetter_0) (v := 0) (by decide) ?_
  refine z_aload_n (pc := 2) (zk2 kX5_isLetter_0) rfl ?_
  refine z_getf (pc := 3) (zk3 kX5_isLetter_0) flX5_85 hM.1 (v := .int (σ 9 0)) rfl ?_
  refine z_iconst (pc := 6) (zk4 kX5_isLetter_0) (v := 1) (by decide) ?_
  refine z_isub (pc := 7) (zk5 kX5_isLetter_0) ?_
  refine z_i2l (pc := 8) (zk6 kX5_isLetter_0) ?_
  refine z_rdS (pc := 9) (zk7 kX5_isLetter_0) (st := []) lkX5_81 isX5_in (c_inI (x := x) (a := 0) (b := (σ 9 0) - 1) (by decide) rfl) rfl ⟨rfl, rfl⟩ rfl rfl ?_ rfl
  exact z_zret (pc := 12) (zk8 kX5_isLetter_0) rfl (Nat.zero_le _) (Nat.zero_le _) (oI_01 _) ⟨rfl, rfl, rfl⟩
set_option maxRecDepth 20000 in
theorem c_areBoth {D : zD} {B : Nat} {h : zH} {sz : Nat} {p : Nat} {σ τ ω : Ln} {ε : El} {mv : Nat → Int64} {kp tr : Option Nat} {x y : Int32} (hM : MoAt h p σ τ ω ε mv kp tr) : zRd D B xX5_areBoth [.ref p, .int x, .int y] h sz (.int (oI (okR 0 (σ 9 0 - 1) x && okR 0 (σ 0 0 - 1) y))) := by
  refine zM.of (by decide) rfl (n := 0) ?_
  show Z D B xX5_areBoth 0 0 _ 0 [some (.ref p), some (.int x), some (.int y)] [] h sz
  refine z_aload_n (pc := 0) (zk0 kX5_areBoth_0) rfl ?_
  refine z_iload_n (pc := 1) (zk1 kX5_areBoth_0) rfl ?_
  refine z_i2l (pc := 2) (zk2 kX5_areBoth_0) ?_
  refine z_rdV (pc := 3) (zk3 kX5_areBoth_0) (st := []) lkX5_105 ivX5_isLetter hM.1 rfl rfl (c_isLetter hM) rfl ⟨rfl, rfl⟩ rfl rfl ?_ rfl
  refine z_oif_eq (pc := 6) (zk4 kX5_areBoth_0) (tgt := 21) (by decide) (fun c_1 => ?_) (fun c_1 => ?_)
  · refine z_iconst (pc := 21) (zk11 kX5_areBoth_0) (v := 0) (by decide) ?_
    exact z_zret (pc := 22) (zk12 kX5_areBoth_0) rfl (Nat.zero_le _) (Nat.zero_le _) (by decide) ⟨by simp [oI, c_1], rfl, rfl⟩
  · refine z_aload_n (pc := 9) (zk5 kX5_areBoth_0) rfl ?_
    refine z_iload_n (pc := 10) (zk6 kX5_areBoth_0) rfl ?_
    refine z_rdV (pc := 11) (zk7 kX5_areBoth_0) (st := []) lkX5_123 ivX5_isHouse hM.1 rfl rfl (c_isHouse hM) rfl ⟨rfl, rfl⟩ rfl rfl ?_ rfl
    refine z_oif_eq (pc := 14) (zk8 kX5_areBoth_0) (tgt := 21) (by decide) (fun c_2 => ?_) (fun c_2 => ?_)
    · refine z_iconst (pc := 21) (zk11 kX5_areBoth_0) (v := 0) (by decide) ?_
      exact z_zret (pc := 22) (zk12 kX5_areBoth_0) rfl (Nat.zero_le _) (Nat.zero_le _) (by decide) ⟨by simp [oI, c_1, c_2], rfl, rfl⟩
    · refine z_iconst (pc := 17) (zk9 kX5_areBoth_0) (v := 1) (by decide) ?_
      refine z_goto (pc := 18) (zk10 kX5_areBoth_0) (tgt := 22) (by decide) ?_
      exact z_zret (pc := 22) (zk12 kX5_areBoth_0) rfl (Nat.zero_le _) (Nat.zero_le _) (by decide) ⟨by simp [oI, c_1, c_2], rfl, rfl⟩
set_option maxRecDepth 20000 in
theorem c_isSet {D : zD} {B : Nat} {h : zH} {sz : Nat} {p : Nat} {σ τ ω : Ln} {ε : El} {mv : Nat → Int64} {kp tr : Option Nat} {x : Int32} (hM : MoAt h p σ τ ω ε mv kp tr) : zRd D B xX5_isSet [.ref p, .int x] h sz (.int (oI (okR 0 (1 <<< (σ 0 0 &&& 31) - 1) x))) := by
  refine zM.of (by decide) rfl (n := 0) ?_
  show Z D B xX5_isSet 0 0 _ 0 [some (.ref p), some (.int x)] [] h sz
  refine z_iload_n (pc := 0) (zk0 kX5_isSet_0) rfl ?_
  refine z_i2l (pc := 1) (zk1 kX5_isSet_0) ?_
  refine z_lconst (pc := 2) (zk2 kX5_isSet_0) (v := 0) (by decide) ?_
  refine z_iconst (pc := 3) (zk3 kX5_isSet_0) (v := 1) (by decide) ?_
  refine z_aload_n (pc := 4) (zk4 kX5_isSet_0) rfl ?_
  refine z_getf (pc := 5) (zk5 kX5_isSet_0) flX5_37 hM.1 (v := .int (σ 0 0)) rfl ?_
  refine z_ishl (pc := 8) (zk6 kX5_isSet_0) ?_
  refine z_iconst (pc := 9) (zk7 kX5_isSet_0) (v := 1) (by decide) ?_
  refine z_isub (pc := 10) (zk8 kX5_isSet_0) ?_
  refine z_i2l (pc := 11) (zk9 kX5_isSet_0) ?_
  refine z_rdS (pc := 12) (zk10 kX5_isSet_0) (st := []) lkX5_81 isX5_in (c_inI (x := x) (a := 0) (b := (1 <<< ((σ 0 0) &&& 31)) - 1) (by decide) rfl) rfl ⟨rfl, rfl⟩ rfl rfl ?_ rfl
  exact z_zret (pc := 15) (zk11 kX5_isSet_0) rfl (Nat.zero_le _) (Nat.zero_le _) (oI_01 _) ⟨rfl, rfl, rfl⟩
def rfN (τ : Ln) (j : Nat) : Ln := up2 τ 7 j (τ 7 j + 1)
set_option maxRecDepth 20000 in
theorem c_refuse {D : zD} {B : Nat} {h : zH} {sz : Nat} {p : Nat} {σ τ ω : Ln} {ε : El} {mv : Nat → Int64} {kp tr : Option Nat} {j : Nat} {w : Int32} (hM : MoAt h p σ τ ω ε mv kp tr) (hB : B ≤ p) (hw : -w = nI j) (hj : j < 8) : zM D B xX5_refuse [.ref p, .int w] h sz (fun r h1 z1 => r = some (.int w) ∧ MoAt h1 p σ (rfN τ j) ω ε mv kp tr ∧ Upd h h1 p 29 ∧ z1 = sz) := by
  have hU : Upd h h p 29 := Upd.rf
  refine zM.of (by decide) rfl (n := 0) ?_
  show Z D B xX5_refuse 0 0 _ 0 [some (.ref p), some (.int w)] [] h sz
  refine z_aload_n (pc := 0) (zk0 kX5_refuse_0) rfl ?_
  refine z_getf (pc := 1) (zk1 kX5_refuse_0) flX5_34 hM.1 gMo_8 ?_
  refine z_iload_n (pc := 4) (zk2 kX5_refuse_0) rfl ?_
  refine z_ineg (pc := 5) (zk3 kX5_refuse_0) ?_
  refine z_top (congrArg Value.int hw) ?_
  refine z_dup2 (pc := 6) (zk4 kX5_refuse_0) rfl rfl ?_
  refine z_ialdN (pc := 7) (zk5 kX5_refuse_0) (f := τ 7) (j := j) hM.2.2.2.2.2.2.2.2.2.1 (by omega) rfl ?_
  refine z_iconst (pc := 8) (zk6 kX5_refuse_0) (v := 1) (by decide) ?_
  refine z_iadd (pc := 9) (zk7 kX5_refuse_0) ?_
  refine z_Mo_s16 (pc := 10) (zk8 kX5_refuse_0) (j := j) hM (by omega) (by omega) (fun h_1 hR hU_2 => ?_)
  replace hU := hU.tr hU_2 (by omega) (by omega)
  replace hM := hR; clear hR
  refine z_iload_n (pc := 11) (zk9 kX5_refuse_0) rfl ?_
  exact z_iret (pc := 12) (zk10 kX5_refuse_0) rfl (Nat.zero_le _) (Nat.zero_le _) ⟨rfl, hM, hU, rfl⟩
set_option maxRecDepth 20000 in
theorem c_mreadAt {D : zD} {B : Nat} {h : zH} {sz : Nat} {p : Nat} {σ τ ω : Ln} {ε : El} {mv : Nat → Int64} {kp tr : Option Nat} {l k : Nat} (hM : MoAt h p σ τ ω ε mv kp tr) (hl : l < 8) : zRd D B xX5_readAt [.ref p, .int (nI l), .int (nI k)] h sz (.int (oI (readB σ l k))) := by
  refine zM.of (by decide) rfl (n := 0) ?_
  show Z D B xX5_readAt 0 0 _ 0 [some (.ref p), some (.int (nI l)), some (.int (nI k))] [] h sz
  refine z_aload_n (pc := 0) (zk0 kX5_readAt_0) rfl ?_
  refine z_getf (pc := 1) (zk1 kX5_readAt_0) flX5_138 hM.1 (v := .int (σ 6 0)) rfl ?_
  refine z_if_eq (pc := 4) (zk2 kX5_readAt_0) (tgt := 25) (by decide) (fun c_1 => ?_) (fun c_1 => ?_)
  · refine z_iload_n (pc := 25) (zk13 kX5_readAt_0) rfl ?_
    refine z_aload_n (pc := 26) (zk14 kX5_readAt_0) rfl ?_
    refine z_getf (pc := 27) (zk15 kX5_readAt_0) flX5_59 hM.1 gMo_20 ?_
    refine z_iload_n (pc := 30) (zk0 kX5_readAt_1) rfl ?_
    refine z_ialdN (pc := 31) (zk1 kX5_readAt_1) (f := σ 12) (j := l) hM.2.2.2.2.2.2.2.2.2.2.2.2.2.2.2.2.1 (by omega) rfl ?_
    refine z_icmp_gt (pc := 32) (zk2 kX5_readAt_1) (tgt := 39) (by decide) (fun c_2 => ?_) (fun c_2 => ?_)
    · refine z_iconst (pc := 39) (zk5 kX5_readAt_1) (v := 0) (by decide) ?_
      exact z_zret (pc := 40) (zk6 kX5_readAt_1) rfl (Nat.zero_le _) (Nat.zero_le _) (by decide) ⟨by simp [readB, oI, c_1, c_2, Int32.not_le.mpr c_2], rfl, rfl⟩
    · refine z_iconst (pc := 35) (zk3 kX5_readAt_1) (v := 1) (by decide) ?_
      refine z_goto (pc := 36) (zk4 kX5_readAt_1) (tgt := 40) (by decide) ?_
      exact z_zret (pc := 40) (zk6 kX5_readAt_1) rfl (Nat.zero_le _) (Nat.zero_le _) (by decide) ⟨by simp [readB, oI, c_1, c_2, Int32.not_lt.mp c_2], rfl, rfl⟩
  · refine z_iload_n (pc := 7) (zk3 kX5_readAt_0) rfl ?_
    refine z_aload_n (pc := 8) (zk4 kX5_readAt_0) rfl ?_
    refine z_getf (pc := 9) (zk5 kX5_readAt_0) flX5_59 hM.1 gMo_20 ?_
    refine z_iload_n (pc := 12) (zk6 kX5_readAt_0) rfl ?_
    refine z_ialdN (pc := 13) (zk7 kX5_readAt_0) (f := σ 12) (j := l) hM.2.2.2.2.2.2.2.2.2.2.2.2.2.2.2.2.1 (by omega) rfl ?_
    refine z_icmp_lt (pc := 14) (zk8 kX5_readAt_0) (tgt := 21) (by decide) (fun c_3 => ?_) (fun c_3 => ?_)
    · refine z_iconst (pc := 21) (zk11 kX5_readAt_0) (v := 0) (by decide) ?_
      refine z_goto (pc := 22) (zk12 kX5_readAt_0) (tgt := 40) (by decide) ?_
      exact z_zret (pc := 40) (zk6 kX5_readAt_1) rfl (Nat.zero_le _) (Nat.zero_le _) (by decide) ⟨by simp [readB, oI, c_1, c_3, Int32.not_le.mpr c_3], rfl, rfl⟩
    · refine z_iconst (pc := 17) (zk9 kX5_readAt_0) (v := 1) (by decide) ?_
      refine z_goto (pc := 18) (zk10 kX5_readAt_0) (tgt := 40) (by decide) ?_
      exact z_zret (pc := 40) (zk6 kX5_readAt_1) rfl (Nat.zero_le _) (Nat.zero_le _) (by decide) ⟨by simp [readB, oI, c_1, c_3, Int32.not_lt.mp c_3], rfl, rfl⟩
set_option maxRecDepth 20000 in
theorem c_held {D : zD} {B : Nat} {h : zH} {sz : Nat} {p : Nat} {σ τ ω : Ln} {ε : El} {mv : Nat → Int64} {kp tr : Option Nat} {l : Nat} {v : Int32} (hM : MoAt h p σ τ ω ε mv kp tr) (hl : l < 8) : zRd D B xX5_held [.ref p, .int (nI l), .int v] h sz (.int (wthn v (σ 13 l))) := by
  refine zM.of (by decide) rfl (n := 0) ?_
  show Z D B xX5_held 0 0 _ 0 [some (.ref p), some (.int (nI l)), some (.int v)] [] h sz
  refine z_iload_n (pc := 0) (zk0 kX5_held_0) rfl ?_
  refine z_if_ge (pc := 1) (zk1 kX5_held_0) (tgt := 8) (by decide) (fun c_1 => ?_) (fun c_1 => ?_)
  · refine z_iload_n (pc := 8) (zk4 kX5_held_0) rfl ?_
    refine z_aload_n (pc := 9) (zk5 kX5_held_0) rfl ?_
    refine z_getf (pc := 10) (zk6 kX5_held_0) flX5_62 hM.1 gMo_21 ?_
    refine z_iload_n (pc := 13) (zk7 kX5_held_0) rfl ?_
    refine z_ialdN (pc := 14) (zk8 kX5_held_0) (f := σ 13) (j := l) hM.2.2.2.2.2.2.2.2.2.2.2.2.2.2.2.2.2.1 (by omega) rfl ?_
    refine z_icmp_le (pc := 15) (zk9 kX5_held_0) (tgt := 27) (by decide) (fun c_2 => ?_) (fun c_2 => ?_)
    · refine z_iload_n (pc := 27) (zk15 kX5_held_0) rfl ?_
      exact z_iret (pc := 28) (zk0 kX5_held_1) rfl (Nat.zero_le _) (Nat.zero_le _) ⟨by simp [wthn, c_1, Int32.not_lt.mpr c_1, c_2, Int32.not_lt.mpr c_2], rfl, rfl⟩
    · refine z_aload_n (pc := 18) (zk10 kX5_held_0) rfl ?_
      refine z_getf (pc := 19) (zk11 kX5_held_0) flX5_62 hM.1 gMo_21 ?_
      refine z_iload_n (pc := 22) (zk12 kX5_held_0) rfl ?_
      refine z_ialdN (pc := 23) (zk13 kX5_held_0) (f := σ 13) (j := l) hM.2.2.2.2.2.2.2.2.2.2.2.2.2.2.2.2.2.1 (by omega) rfl ?_
      refine z_goto (pc := 24) (zk14 kX5_held_0) (tgt := 28) (by decide) ?_
      exact z_iret (pc := 28) (zk0 kX5_held_1) rfl (Nat.zero_le _) (Nat.zero_le _) ⟨by simp [wthn, c_1, Int32.not_lt.mpr c_1, c_2, Int32.not_le.mp c_2], rfl, rfl⟩
  · refine z_iconst (pc := 4) (zk2 kX5_held_0) (v := 0) (by decide) ?_
    refine z_goto (pc := 5) (zk3 kX5_held_0) (tgt := 28) (by decide) ?_
    exact z_iret (pc := 28) (zk0 kX5_held_1) rfl (Nat.zero_le _) (Nat.zero_le _) ⟨by simp [wthn, c_1, Int32.not_le.mp c_1], rfl, rfl⟩
def tipT (σ : Ln) (k g : Nat) : Int32 := if σ 6 0 = 0 then (if nI g < nI k then σ 2 g else 0) else (if nI k < nI g then σ 2 g else 0)
theorem tipT_sum {σ : Ln} {n k : Nat} (hn : σ 0 0 = nI n) (h12 : n ≤ 12) (hk : k < n) : sum0 (tipT σ k) n = tipsy σ k := by
  by_cases hb : σ 6 0 = 0
  · have h1 : ∀ d, d ≤ n → sum0 (tipT σ k) d = sum0 (σ 2) (if d ≤ k then d else k) := by
      intro d
      induction d with
      | zero => intro _; rw [if_pos (by omega)]; rfl
      | succ d ih =>
        intro hd
        rw [sum0, ih (by omega), tipT, if_pos hb]
        by_cases q : d < k
        · rw [if_pos ((nI_ltI (by omega) (by omega)).mpr q), if_pos (by omega), if_pos (by omega)]; rfl
        · rw [if_neg (fun c => q ((nI_ltI (by omega) (by omega)).mp c)), Int32.add_zero]
          by_cases r : d = k
          · rw [if_pos (by omega), if_neg (by omega), r]
          · rw [if_neg (by omega), if_neg (by omega)]
    rw [h1 n (Nat.le_refl _), if_neg (by omega), tipsy, if_pos hb]
  · have h1 : ∀ d, d ≤ n → sum0 (tipT σ k) d = sum0 (fun j => σ 2 (k + 1 + j)) (d - (k + 1)) := by
      intro d
      induction d with
      | zero => intro _; rw [Nat.zero_sub]; rfl
      | succ d ih =>
        intro hd
        rw [sum0, ih (by omega), tipT, if_neg hb]
        by_cases q : k < d
        · rw [if_pos ((nI_ltI (by omega) (by omega)).mpr q), show d + 1 - (k + 1) = (d - (k + 1)) + 1 by omega, sum0, show k + 1 + (d - (k + 1)) = d by omega]
        · rw [if_neg (fun c => q ((nI_ltI (by omega) (by omega)).mp c)), Int32.add_zero, show d + 1 - (k + 1) = d - (k + 1) by omega]
    rw [h1 n (Nat.le_refl _), tipsy, if_neg hb, hsN_eq hn h12]
set_option maxRecDepth 20000 in
theorem c_mtipsy {D : zD} {B : Nat} {h : zH} {sz : Nat} {p : Nat} {σ τ ω : Ln} {ε : El} {mv : Nat → Int64} {kp tr : Option Nat} {n k : Nat} (hM : MoAt h p σ τ ω ε mv kp tr) (hn : σ 0 0 = nI n) (h12 : n ≤ 12) (hk : k < n) : zRd D B xX5_tipsy [.ref p, .int (nI k)] h sz (.int (tipsy σ k)) := by
  refine zM.of (by decide) rfl (n := 2) ?_
  show Z D B xX5_tipsy 0 0 _ 0 [some (.ref p), some (.int (nI k)), none, none] [] h sz
  refine z_iconst (pc := 0) (zk0 kX5_tipsy_0) (v := 0) (by decide) ?_
  refine z_istore_n (pc := 1) (zk1 kX5_tipsy_0) rfl rfl ?_
  show Z D B xX5_tipsy _ _ _ 2 [some (.ref p), some (.int (nI k)), some (.int 0), none] _ _ _
  refine z_iconst (pc := 2) (zk2 kX5_tipsy_0) (v := 0) (by decide) ?_
  refine z_istore_n (pc := 3) (zk3 kX5_tipsy_0) rfl rfl ?_
  show Z D B xX5_tipsy _ _ _ 4 [some (.ref p), some (.int (nI k)), some (.int 0), some (.int 0)] _ _ _
  have lp4 : ∀ (n_ : Nat) (t : Int32) (i : Nat), n - i < n_ → (i ≤ n) → (t = sum0 (tipT σ k) i) → Z D B xX5_tipsy 0 0 (fun r h1 z1 => r = some (.int (tipsy σ k)) ∧ h1 = h ∧ z1 = sz) 4 [some (.ref p), some (.int (nI k)), some (.int t), some (.int (nI i))] [] h sz := by
    intro n_
    induction n_ with
    | zero => intro t i hm_; exact absurd hm_ (Nat.not_lt_zero _)
    | succ n_ ih4 =>
      intro t i hm_ hi_i ht
      refine z_iload_n (pc := 4) (zk4 kX5_tipsy_0) rfl ?_
      refine z_aload_n (pc := 5) (zk5 kX5_tipsy_0) rfl ?_
      refine z_getf (pc := 6) (zk6 kX5_tipsy_0) flX5_37 hM.1 (v := .int (nI n)) (by rw [← hn]; rfl) ?_
      refine z_icmp_ge (pc := 9) (zk7 kX5_tipsy_0) (tgt := 51) (by decide) (fun c_1 => ?_) (fun c_1 => ?_)
      · have hie_i : i = n := nI_ge_yes (a := n) (by omega) (by omega) (by omega) c_1
        refine z_iload_n (pc := 51) (zk13 kX5_tipsy_1) rfl ?_
        exact z_iret (pc := 52) (zk14 kX5_tipsy_1) rfl (Nat.zero_le _) (Nat.zero_le _) ⟨by rw [ht, hie_i, tipT_sum hn h12 hk], rfl, rfl⟩
      · have hlt_i : i < n := nI_ge_not (a := n) (by omega) (by omega) c_1
        refine z_iload_n (pc := 12) (zk8 kX5_tipsy_0) rfl ?_
        suffices hJ : Z D B xX5_tipsy 0 0 (fun r h1 z1 => r = some (.int (tipsy σ k)) ∧ h1 = h ∧ z1 = sz) 43 [some (.ref p), some (.int (nI k)), some (.int t), some (.int (nI i))] [.int (tipT σ k i), .int t] h sz from by
          refine z_aload_n (pc := 13) (zk9 kX5_tipsy_0) rfl ?_
          refine z_getf (pc := 14) (zk10 kX5_tipsy_0) flX5_138 hM.1 (v := .int (σ 6 0)) rfl ?_
          refine z_if_eq (pc := 17) (zk11 kX5_tipsy_0) (tgt := 28) (by decide) (fun c_2 => ?_) (fun c_2 => ?_)
          · refine z_iload_n (pc := 28) (zk0 kX5_tipsy_1) rfl ?_
            refine z_iload_n (pc := 29) (zk1 kX5_tipsy_1) rfl ?_
            refine z_icmp_ge (pc := 30) (zk2 kX5_tipsy_1) (tgt := 42) (by decide) (fun c_3 => ?_) (fun c_3 => ?_)
            · refine z_iconst (pc := 42) (zk8 kX5_tipsy_1) (v := 0) (by decide) ?_
              exact z_top (congrArg Value.int (by simp [tipT, c_1, Int32.not_le.mp c_1, c_2, c_3, Int32.not_lt.mpr c_3])) hJ
            · refine z_aload_n (pc := 33) (zk3 kX5_tipsy_1) rfl ?_
              refine z_getf (pc := 34) (zk4 kX5_tipsy_1) flX5_44 hM.1 gMo_11 ?_
              refine z_iload_n (pc := 37) (zk5 kX5_tipsy_1) rfl ?_
              refine z_ialdN (pc := 38) (zk6 kX5_tipsy_1) (f := σ 2) (j := i) hM.2.2.2.2.2.2.2.2.2.2.2.1 (by omega) rfl ?_
              refine z_goto (pc := 39) (zk7 kX5_tipsy_1) (tgt := 43) (by decide) ?_
              exact z_top (congrArg Value.int (by simp [tipT, c_1, Int32.not_le.mp c_1, c_2, c_3, Int32.not_le.mp c_3])) hJ
          · refine z_iload_n (pc := 20) (zk12 kX5_tipsy_0) rfl ?_
            refine z_iload_n (pc := 21) (zk13 kX5_tipsy_0) rfl ?_
            refine z_icmp_le (pc := 22) (zk14 kX5_tipsy_0) (tgt := 42) (by decide) (fun c_4 => ?_) (fun c_4 => ?_)
            · refine z_iconst (pc := 42) (zk8 kX5_tipsy_1) (v := 0) (by decide) ?_
              exact z_top (congrArg Value.int (by simp [tipT, c_1, Int32.not_le.mp c_1, c_2, c_4, Int32.not_lt.mpr c_4])) hJ
            · refine z_goto (pc := 25) (zk15 kX5_tipsy_0) (tgt := 33) (by decide) ?_
              refine z_aload_n (pc := 33) (zk3 kX5_tipsy_1) rfl ?_
              refine z_getf (pc := 34) (zk4 kX5_tipsy_1) flX5_44 hM.1 gMo_11 ?_
              refine z_iload_n (pc := 37) (zk5 kX5_tipsy_1) rfl ?_
              refine z_ialdN (pc := 38) (zk6 kX5_tipsy_1) (f := σ 2) (j := i) hM.2.2.2.2.2.2.2.2.2.2.2.1 (by omega) rfl ?_
              refine z_goto (pc := 39) (zk7 kX5_tipsy_1) (tgt := 43) (by decide) ?_
              exact z_top (congrArg Value.int (by simp [tipT, c_1, Int32.not_le.mp c_1, c_2, c_4, Int32.not_le.mp c_4])) hJ
        refine z_iadd (pc := 43) (zk9 kX5_tipsy_1) ?_
        refine z_istore_n (pc := 44) (zk10 kX5_tipsy_1) rfl rfl ?_
        show Z D B xX5_tipsy _ _ _ 45 [some (.ref p), some (.int (nI k)), some (.int (t + (tipT σ k i))), some (.int (nI i))] _ _ _
        refine z_iinc (pc := 45) (zk11 kX5_tipsy_1) (v := nI (i + 1)) rfl zinc rfl rfl ?_
        show Z D B xX5_tipsy _ _ _ 48 [some (.ref p), some (.int (nI k)), some (.int (t + (tipT σ k i))), some (.int (nI (i + 1)))] _ _ _
        refine z_goto (pc := 48) (zk12 kX5_tipsy_1) (tgt := 4) (by decide) ?_
        exact ih4 (t + (tipT σ k i)) (i + 1) (by omega) (by omega) (by rw [ht]; rfl)
  exact lp4 _ 0 0 (Nat.lt_succ_self _) (by omega) rfl
set_option maxRecDepth 20000 in
theorem c_mleftOut {D : zD} {B : Nat} {h : zH} {sz : Nat} {p : Nat} {σ τ ω : Ln} {ε : El} {mv : Nat → Int64} {kp tr : Option Nat} {n k : Nat} (hM : MoAt h p σ τ ω ε mv kp tr) (hn : σ 0 0 = nI n) (h12 : n ≤ 12) (hk : k < n) : zRd D B xX5_leftOut [.ref p, .int (nI k)] h sz (.int (lout σ (tipsy σ k))) := by
  refine zM.of (by decide) rfl (n := 0) ?_
  show Z D B xX5_leftOut 0 0 _ 0 [some (.ref p), some (.int (nI k))] [] h sz
  refine z_aload_n (pc := 0) (zk0 kX5_leftOut_0) rfl ?_
  refine z_iload_n (pc := 1) (zk1 kX5_leftOut_0) rfl ?_
  refine z_rdV (pc := 2) (zk2 kX5_leftOut_0) (st := []) lkX5_233 ivX5_tipsy hM.1 rfl rfl (c_mtipsy hM hn h12 (by omega)) rfl ⟨rfl, rfl⟩ rfl rfl ?_ rfl
  refine z_iconst (pc := 5) (zk3 kX5_leftOut_0) (v := 4) (by decide) ?_
  refine z_idiv (pc := 6) (zk4 kX5_leftOut_0) (by decide) ?_
  refine z_aload_n (pc := 7) (zk5 kX5_leftOut_0) rfl ?_
  refine z_getf (pc := 8) (zk6 kX5_leftOut_0) flX5_135 hM.1 (v := .int (σ 5 0)) rfl ?_
  refine z_iconst (pc := 11) (zk7 kX5_leftOut_0) (v := 3) (by decide) ?_
  refine z_idiv (pc := 12) (zk8 kX5_leftOut_0) (by decide) ?_
  refine z_iadd (pc := 13) (zk9 kX5_leftOut_0) ?_
  exact z_iret (pc := 14) (zk10 kX5_leftOut_0) rfl (Nat.zero_le _) (Nat.zero_le _) ⟨rfl, rfl, rfl⟩
set_option maxRecDepth 20000 in
theorem c_mheardAt {D : zD} {B : Nat} {h : zH} {sz : Nat} {p : Nat} {σ τ ω : Ln} {ε : El} {mv : Nat → Int64} {kp tr : Option Nat} {n l k : Nat} (hM : MoAt h p σ τ ω ε mv kp tr) (hn : σ 0 0 = nI n) (h12 : n ≤ 12) (hl : l < 8) (hk : k < n) (hto : ToOk σ l) : zRd D B xX5_heardAt [.ref p, .int (nI l), .int (nI k)] h sz (.int (heardF σ l k)) := by
  refine zM.of (by decide) rfl (n := 4) ?_
  show Z D B xX5_heardAt 0 0 _ 0 [some (.ref p), some (.int (nI l)), some (.int (nI k)), none, none, none, none] [] h sz
  refine z_aload_n (pc := 0) (zk0 kX5_heardAt_0) rfl ?_
  refine z_iload_n (pc := 1) (zk1 kX5_heardAt_0) rfl ?_
  refine z_iload_n (pc := 2) (zk2 kX5_heardAt_0) rfl ?_
  refine z_rdV (pc := 3) (zk3 kX5_heardAt_0) (st := []) lkX5_236 ivX5_readAt hM.1 rfl rfl (c_mreadAt hM (by omega)) rfl ⟨rfl, rfl⟩ rfl rfl ?_ rfl
  refine z_oif_ne (pc := 6) (zk4 kX5_heardAt_0) (tgt := 11) (by decide) (fun c_1 => ?_) (fun c_1 => ?_)
  · refine z_aload_n (pc := 11) (zk7 kX5_heardAt_0) rfl ?_
    refine z_getf (pc := 12) (zk8 kX5_heardAt_0) flX5_62 hM.1 gMo_21 ?_
    refine z_iload_n (pc := 15) (zk9 kX5_heardAt_0) rfl ?_
    refine z_ialdN (pc := 16) (zk10 kX5_heardAt_0) (f := σ 13) (j := l) hM.2.2.2.2.2.2.2.2.2.2.2.2.2.2.2.2.2.1 (by omega) rfl ?_
    refine z_aload_n (pc := 17) (zk11 kX5_heardAt_0) rfl ?_
    refine z_getf (pc := 18) (zk12 kX5_heardAt_0) flX5_41 hM.1 gMo_10 ?_
    refine z_iload_n (pc := 21) (zk13 kX5_heardAt_0) rfl ?_
    refine z_ialdN (pc := 22) (zk14 kX5_heardAt_0) (f := σ 1) (j := k) hM.2.2.2.2.2.2.2.2.2.2.1 (by omega) rfl ?_
    refine z_isub (pc := 23) (zk15 kX5_heardAt_0) ?_
    refine z_aload_n (pc := 24) (zk0 kX5_heardAt_1) rfl ?_
    refine z_iload_n (pc := 25) (zk1 kX5_heardAt_1) rfl ?_
    refine z_rdV (pc := 26) (zk2 kX5_heardAt_1) (st := [.int ((σ 13 l) - (σ 1 k))]) lkX5_239 ivX5_leftOut hM.1 rfl rfl (c_mleftOut hM hn h12 (by omega)) rfl ⟨rfl, rfl⟩ rfl rfl ?_ rfl
    refine z_isub (pc := 29) (zk3 kX5_heardAt_1) ?_
    refine z_istore_n (pc := 30) (zk4 kX5_heardAt_1) rfl rfl ?_
    show Z D B xX5_heardAt _ _ _ 31 [some (.ref p), some (.int (nI l)), some (.int (nI k)), some (.int (((σ 13 l) - (σ 1 k)) - (lout σ (tipsy σ k)))), none, none, none] _ _ _
    refine z_aload_n (pc := 31) (zk5 kX5_heardAt_1) rfl ?_
    refine z_getf (pc := 32) (zk6 kX5_heardAt_1) flX5_62 hM.1 gMo_21 ?_
    refine z_iload_n (pc := 35) (zk7 kX5_heardAt_1) rfl ?_
    refine z_ialdN (pc := 36) (zk8 kX5_heardAt_1) (f := σ 13) (j := l) hM.2.2.2.2.2.2.2.2.2.2.2.2.2.2.2.2.2.1 (by omega) rfl ?_
    refine z_aload_n (pc := 37) (zk9 kX5_heardAt_1) rfl ?_
    refine z_getf (pc := 38) (zk10 kX5_heardAt_1) flX5_41 hM.1 gMo_10 ?_
    refine z_iload_n (pc := 41) (zk11 kX5_heardAt_1) rfl ?_
    refine z_ialdN (pc := 42) (zk12 kX5_heardAt_1) (f := σ 1) (j := k) hM.2.2.2.2.2.2.2.2.2.2.1 (by omega) rfl ?_
    refine z_iconst (pc := 43) (zk13 kX5_heardAt_1) (v := 2) (by decide) ?_
    refine z_idiv (pc := 44) (zk14 kX5_heardAt_1) (by decide) ?_
    refine z_isub (pc := 45) (zk15 kX5_heardAt_1) ?_
    refine z_aload_n (pc := 46) (zk0 kX5_heardAt_2) rfl ?_
    refine z_iload_n (pc := 47) (zk1 kX5_heardAt_2) rfl ?_
    refine z_rdV (pc := 48) (zk2 kX5_heardAt_2) (st := [.int ((σ 13 l) - ((σ 1 k) / 2))]) lkX5_239 ivX5_leftOut hM.1 rfl rfl (c_mleftOut hM hn h12 (by omega)) rfl ⟨rfl, rfl⟩ rfl rfl ?_ rfl
    refine z_isub (pc := 51) (zk3 kX5_heardAt_2) ?_
    refine z_istore (pc := 52) (zk4 kX5_heardAt_2) rfl rfl ?_
    show Z D B xX5_heardAt _ _ _ 54 [some (.ref p), some (.int (nI l)), some (.int (nI k)), some (.int (((σ 13 l) - (σ 1 k)) - (lout σ (tipsy σ k)))), some (.int (((σ 13 l) - ((σ 1 k) / 2)) - (lout σ (tipsy σ k)))), none, none] _ _ _
    suffices hJ : Z D B xX5_heardAt 0 0 (fun r h1 z1 => r = some (.int (heardF σ l k)) ∧ h1 = h ∧ z1 = sz) 88 [some (.ref p), some (.int (nI l)), some (.int (nI k)), some (.int (((σ 13 l) - (σ 1 k)) - (lout σ (tipsy σ k)))), some (.int (((σ 13 l) - ((σ 1 k) / 2)) - (lout σ (tipsy σ k)))), none, none] [.int (oI (undB σ l k))] h sz from by
      refine z_iload_n (pc := 54) (zk5 kX5_heardAt_2) rfl ?_
      refine z_aload_n (pc := 55) (zk6 kX5_heardAt_2) rfl ?_
      refine z_getf (pc := 56) (zk7 kX5_heardAt_2) flX5_59 hM.1 gMo_20 ?_
      refine z_iload_n (pc := 59) (zk8 kX5_heardAt_2) rfl ?_
      refine z_ialdN (pc := 60) (zk9 kX5_heardAt_2) (f := σ 12) (j := l) hM.2.2.2.2.2.2.2.2.2.2.2.2.2.2.2.2.1 (by omega) rfl ?_
      refine z_icmp_eq (pc := 61) (zk10 kX5_heardAt_2) (tgt := 83) (by decide) (fun c_2 => ?_) (fun c_2 => ?_)
      · refine z_iconst (pc := 83) (zk8 kX5_heardAt_3) (v := 1) (by decide) ?_
        refine z_goto (pc := 84) (zk9 kX5_heardAt_3) (tgt := 88) (by decide) ?_
        exact z_top (congrArg Value.int (by simp [undB, oI, c_1, c_2])) hJ
      · refine z_aload_n (pc := 64) (zk11 kX5_heardAt_2) rfl ?_
        refine z_getf (pc := 65) (zk12 kX5_heardAt_2) flX5_47 hM.1 gMo_12 ?_
        refine z_iload_n (pc := 68) (zk13 kX5_heardAt_2) rfl ?_
        refine z_ialdN (pc := 69) (zk14 kX5_heardAt_2) (f := σ 3) (j := k) hM.2.2.2.2.2.2.2.2.2.2.2.2.1 (by omega) rfl ?_
        refine z_aload_n (pc := 70) (zk15 kX5_heardAt_2) rfl ?_
        refine z_getf (pc := 71) (zk0 kX5_heardAt_3) flX5_56 hM.1 gMo_19 ?_
        refine z_iload_n (pc := 74) (zk1 kX5_heardAt_3) rfl ?_
        refine z_ialdN (pc := 75) (zk2 kX5_heardAt_3) (f := σ 11) (j := l) hM.2.2.2.2.2.2.2.2.2.2.2.2.2.2.2.1 (by omega) rfl ?_
        refine z_ishr (pc := 76) (zk3 kX5_heardAt_3) ?_
        refine z_iconst (pc := 77) (zk4 kX5_heardAt_3) (v := 1) (by decide) ?_
        refine z_iand (pc := 78) (zk5 kX5_heardAt_3) ?_
        refine z_iconst (pc := 79) (zk6 kX5_heardAt_3) (v := 1) (by decide) ?_
        refine z_icmp_ne (pc := 80) (zk7 kX5_heardAt_3) (tgt := 87) (by decide) (fun c_3 => ?_) (fun c_3 => ?_)
        · refine z_iconst (pc := 87) (zk10 kX5_heardAt_3) (v := 0) (by decide) ?_
          exact z_top (congrArg Value.int (by simp [undB, oI, c_1, c_2, c_3])) hJ
        · refine z_iconst (pc := 83) (zk8 kX5_heardAt_3) (v := 1) (by decide) ?_
          refine z_goto (pc := 84) (zk9 kX5_heardAt_3) (tgt := 88) (by decide) ?_
          exact z_top (congrArg Value.int (by simp [undB, oI, c_1, c_2, c_3])) hJ
    refine z_istore (pc := 88) (zk11 kX5_heardAt_3) rfl rfl ?_
    show Z D B xX5_heardAt _ _ _ 90 [some (.ref p), some (.int (nI l)), some (.int (nI k)), some (.int (((σ 13 l) - (σ 1 k)) - (lout σ (tipsy σ k)))), some (.int (((σ 13 l) - ((σ 1 k) / 2)) - (lout σ (tipsy σ k)))), some (.int (oI (undB σ l k))), none] _ _ _
    refine z_iload_n (pc := 90) (zk12 kX5_heardAt_3) rfl ?_
    refine z_i2l (pc := 91) (zk13 kX5_heardAt_3) ?_
    refine z_aload_n (pc := 92) (zk14 kX5_heardAt_3) rfl ?_
    refine z_getf (pc := 93) (zk15 kX5_heardAt_3) flX5_59 hM.1 gMo_20 ?_
    refine z_iload_n (pc := 96) (zk0 kX5_heardAt_4) rfl ?_
    refine z_ialdN (pc := 97) (zk1 kX5_heardAt_4) (f := σ 12) (j := l) hM.2.2.2.2.2.2.2.2.2.2.2.2.2.2.2.2.1 (by omega) rfl ?_
    refine z_iconst (pc := 98) (zk2 kX5_heardAt_4) (v := 1) (by decide) ?_
    refine z_isub (pc := 99) (zk3 kX5_heardAt_4) ?_
    refine z_i2l (pc := 100) (zk4 kX5_heardAt_4) ?_
    refine z_aload_n (pc := 101) (zk5 kX5_heardAt_4) rfl ?_
    refine z_getf (pc := 102) (zk6 kX5_heardAt_4) flX5_59 hM.1 gMo_20 ?_
    refine z_iload_n (pc := 105) (zk7 kX5_heardAt_4) rfl ?_
    refine z_ialdN (pc := 106) (zk8 kX5_heardAt_4) (f := σ 12) (j := l) hM.2.2.2.2.2.2.2.2.2.2.2.2.2.2.2.2.1 (by omega) rfl ?_
    refine z_iconst (pc := 107) (zk9 kX5_heardAt_4) (v := 1) (by decide) ?_
    refine z_iadd (pc := 108) (zk10 kX5_heardAt_4) ?_
    refine z_i2l (pc := 109) (zk11 kX5_heardAt_4) ?_
    refine z_rdS (pc := 110) (zk12 kX5_heardAt_4) (st := []) lkX5_81 isX5_in (c_inI (x := nI k) (a := (σ 12 l) - 1) (b := (σ 12 l) + 1) rfl rfl) rfl ⟨rfl, rfl⟩ rfl rfl ?_ rfl
    rw [near_eq hto (by omega)]
    refine z_istore (pc := 113) (zk13 kX5_heardAt_4) rfl rfl ?_
    show Z D B xX5_heardAt _ _ _ 115 [some (.ref p), some (.int (nI l)), some (.int (nI k)), some (.int (((σ 13 l) - (σ 1 k)) - (lout σ (tipsy σ k)))), some (.int (((σ 13 l) - ((σ 1 k) / 2)) - (lout σ (tipsy σ k)))), some (.int (oI (undB σ l k))), some (.int (oI (nearB σ l k)))] _ _ _
    refine z_aload_n (pc := 115) (zk14 kX5_heardAt_4) rfl ?_
    refine z_getf (pc := 116) (zk15 kX5_heardAt_4) flX5_53 hM.1 gMo_18 ?_
    refine z_iload_n (pc := 119) (zk0 kX5_heardAt_5) rfl ?_
    refine z_ialdN (pc := 120) (zk1 kX5_heardAt_5) (f := σ 10) (j := l) hM.2.2.2.2.2.2.2.2.2.2.2.2.2.2.1 (by omega) rfl ?_
    by_cases c_4 : σ 10 l = 1
    · refine z_tableIn (pc := 121) (zk2 kX5_heardAt_5) (off := 35) (tgt := 156) (by rw [c_4]; decide) (by rw [c_4]; decide) (by rw [c_4]; rfl) (by decide) ?_
      refine z_aload_n (pc := 156) (zk3 kX5_heardAt_5) rfl ?_
      refine z_iload_n (pc := 157) (zk4 kX5_heardAt_5) rfl ?_
      refine z_iload (pc := 158) (zk5 kX5_heardAt_5) rfl ?_
      refine z_rdV (pc := 160) (zk6 kX5_heardAt_5) (st := []) lkX5_242 ivX5_held hM.1 rfl rfl (c_held hM (by omega)) rfl ⟨rfl, rfl⟩ rfl rfl ?_ rfl
      exact z_iret (pc := 163) (zk7 kX5_heardAt_5) rfl (Nat.zero_le _) (Nat.zero_le _) ⟨by simp [heardF, heardW, c_1, c_4], rfl, rfl⟩
    by_cases c_5 : σ 10 l = 2
    · refine z_tableIn (pc := 121) (zk2 kX5_heardAt_5) (off := 63) (tgt := 184) (by rw [c_5]; decide) (by rw [c_5]; decide) (by rw [c_5]; rfl) (by decide) ?_
      refine z_iload (pc := 184) (zk5 kX5_heardAt_6) rfl ?_
      refine z_oif_eq (pc := 186) (zk6 kX5_heardAt_6) (tgt := 198) (by decide) (fun c_6 => ?_) (fun c_6 => ?_)
      · refine z_iconst (pc := 198) (zk12 kX5_heardAt_6) (v := 0) (by decide) ?_
        exact z_iret (pc := 199) (zk13 kX5_heardAt_6) rfl (Nat.zero_le _) (Nat.zero_le _) ⟨by simp [heardF, heardW, c_1, c_4, c_5, c_6], rfl, rfl⟩
      · refine z_aload_n (pc := 189) (zk7 kX5_heardAt_6) rfl ?_
        refine z_iload_n (pc := 190) (zk8 kX5_heardAt_6) rfl ?_
        refine z_iload_n (pc := 191) (zk9 kX5_heardAt_6) rfl ?_
        refine z_rdV (pc := 192) (zk10 kX5_heardAt_6) (st := []) lkX5_242 ivX5_held hM.1 rfl rfl (c_held hM (by omega)) rfl ⟨rfl, rfl⟩ rfl rfl ?_ rfl
        refine z_goto (pc := 195) (zk11 kX5_heardAt_6) (tgt := 199) (by decide) ?_
        exact z_iret (pc := 199) (zk13 kX5_heardAt_6) rfl (Nat.zero_le _) (Nat.zero_le _) ⟨by simp [heardF, heardW, c_1, c_4, c_5, c_6], rfl, rfl⟩
    by_cases c_7 : σ 10 l = 3
    · refine z_tableIn (pc := 121) (zk2 kX5_heardAt_5) (off := 43) (tgt := 164) (by rw [c_7]; decide) (by rw [c_7]; decide) (by rw [c_7]; rfl) (by decide) ?_
      refine z_aload_n (pc := 164) (zk8 kX5_heardAt_5) rfl ?_
      refine z_iload_n (pc := 165) (zk9 kX5_heardAt_5) rfl ?_
      refine z_aload_n (pc := 166) (zk10 kX5_heardAt_5) rfl ?_
      refine z_iload_n (pc := 167) (zk11 kX5_heardAt_5) rfl ?_
      refine z_iload (pc := 168) (zk12 kX5_heardAt_5) rfl ?_
      refine z_rdV (pc := 170) (zk13 kX5_heardAt_5) (st := [.int (nI l), .ref p]) lkX5_242 ivX5_held hM.1 rfl rfl (c_held hM (by omega)) rfl ⟨rfl, rfl⟩ rfl rfl ?_ rfl
      refine z_aload_n (pc := 173) (zk14 kX5_heardAt_5) rfl ?_
      refine z_getf (pc := 174) (zk15 kX5_heardAt_5) flX5_56 hM.1 gMo_19 ?_
      refine z_iload_n (pc := 177) (zk0 kX5_heardAt_6) rfl ?_
      refine z_ialdN (pc := 178) (zk1 kX5_heardAt_6) (f := σ 11) (j := l) hM.2.2.2.2.2.2.2.2.2.2.2.2.2.2.2.1 (by omega) rfl ?_
      refine z_iadd (pc := 179) (zk2 kX5_heardAt_6) ?_
      refine z_rdV (pc := 180) (zk3 kX5_heardAt_6) (st := []) lkX5_242 ivX5_held hM.1 rfl rfl (c_held hM (by omega)) rfl ⟨rfl, rfl⟩ rfl rfl ?_ rfl
      exact z_iret (pc := 183) (zk4 kX5_heardAt_6) rfl (Nat.zero_le _) (Nat.zero_le _) ⟨by simp [heardF, heardW, c_1, c_4, c_5, c_7], rfl, rfl⟩
    by_cases c_8 : σ 10 l = 4
    · refine z_tableIn (pc := 121) (zk2 kX5_heardAt_5) (off := 79) (tgt := 200) (by rw [c_8]; decide) (by rw [c_8]; decide) (by rw [c_8]; rfl) (by decide) ?_
      refine z_iload (pc := 200) (zk14 kX5_heardAt_6) rfl ?_
      refine z_oif_eq (pc := 202) (zk15 kX5_heardAt_6) (tgt := 219) (by decide) (fun c_9 => ?_) (fun c_9 => ?_)
      · refine z_iconst (pc := 219) (zk7 kX5_heardAt_7) (v := 0) (by decide) ?_
        exact z_iret (pc := 220) (zk8 kX5_heardAt_7) rfl (Nat.zero_le _) (Nat.zero_le _) ⟨by simp [heardF, heardW, c_1, c_4, c_5, c_7, c_8, c_9], rfl, rfl⟩
      · refine z_iload (pc := 205) (zk0 kX5_heardAt_7) rfl ?_
        refine z_oif_eq (pc := 207) (zk1 kX5_heardAt_7) (tgt := 219) (by decide) (fun c_10 => ?_) (fun c_10 => ?_)
        · refine z_iconst (pc := 219) (zk7 kX5_heardAt_7) (v := 0) (by decide) ?_
          exact z_iret (pc := 220) (zk8 kX5_heardAt_7) rfl (Nat.zero_le _) (Nat.zero_le _) ⟨by simp [heardF, heardW, c_1, c_4, c_5, c_7, c_8, c_9, c_10], rfl, rfl⟩
        · refine z_aload_n (pc := 210) (zk2 kX5_heardAt_7) rfl ?_
          refine z_iload_n (pc := 211) (zk3 kX5_heardAt_7) rfl ?_
          refine z_iload_n (pc := 212) (zk4 kX5_heardAt_7) rfl ?_
          refine z_rdV (pc := 213) (zk5 kX5_heardAt_7) (st := []) lkX5_242 ivX5_held hM.1 rfl rfl (c_held hM (by omega)) rfl ⟨rfl, rfl⟩ rfl rfl ?_ rfl
          refine z_goto (pc := 216) (zk6 kX5_heardAt_7) (tgt := 220) (by decide) ?_
          exact z_iret (pc := 220) (zk8 kX5_heardAt_7) rfl (Nat.zero_le _) (Nat.zero_le _) ⟨by simp [heardF, heardW, c_1, c_4, c_5, c_7, c_8, c_9, c_10], rfl, rfl⟩
    by_cases c_11 : σ 10 l = 5
    · refine z_tableIn (pc := 121) (zk2 kX5_heardAt_5) (off := 100) (tgt := 221) (by rw [c_11]; decide) (by rw [c_11]; decide) (by rw [c_11]; rfl) (by decide) ?_
      refine z_iload_n (pc := 221) (zk9 kX5_heardAt_7) rfl ?_
      refine z_aload_n (pc := 222) (zk10 kX5_heardAt_7) rfl ?_
      refine z_getf (pc := 223) (zk11 kX5_heardAt_7) flX5_59 hM.1 gMo_20 ?_
      refine z_iload_n (pc := 226) (zk12 kX5_heardAt_7) rfl ?_
      refine z_ialdN (pc := 227) (zk13 kX5_heardAt_7) (f := σ 12) (j := l) hM.2.2.2.2.2.2.2.2.2.2.2.2.2.2.2.2.1 (by omega) rfl ?_
      refine z_icmp_ne (pc := 228) (zk14 kX5_heardAt_7) (tgt := 240) (by decide) (fun c_12 => ?_) (fun c_12 => ?_)
      · refine z_iconst (pc := 240) (zk4 kX5_heardAt_8) (v := 0) (by decide) ?_
        exact z_iret (pc := 241) (zk5 kX5_heardAt_8) rfl (Nat.zero_le _) (Nat.zero_le _) ⟨by simp [heardF, heardW, c_1, c_4, c_5, c_7, c_8, c_11, c_12], rfl, rfl⟩
      · refine z_aload_n (pc := 231) (zk15 kX5_heardAt_7) rfl ?_
        refine z_getf (pc := 232) (zk0 kX5_heardAt_8) flX5_62 hM.1 gMo_21 ?_
        refine z_iload_n (pc := 235) (zk1 kX5_heardAt_8) rfl ?_
        refine z_ialdN (pc := 236) (zk2 kX5_heardAt_8) (f := σ 13) (j := l) hM.2.2.2.2.2.2.2.2.2.2.2.2.2.2.2.2.2.1 (by omega) rfl ?_
        refine z_goto (pc := 237) (zk3 kX5_heardAt_8) (tgt := 241) (by decide) ?_
        exact z_iret (pc := 241) (zk5 kX5_heardAt_8) rfl (Nat.zero_le _) (Nat.zero_le _) ⟨by simp [heardF, heardW, c_1, c_4, c_5, c_7, c_8, c_11, c_12], rfl, rfl⟩
    refine z_tableOut (pc := 121) (zk2 kX5_heardAt_5) (tgt := 242) (zOut1_5 c_4 c_5 c_7 c_8 c_11) (by decide) ?_
    refine z_aload_n (pc := 242) (zk6 kX5_heardAt_8) rfl ?_
    refine z_iload_n (pc := 243) (zk7 kX5_heardAt_8) rfl ?_
    refine z_iload_n (pc := 244) (zk8 kX5_heardAt_8) rfl ?_
    refine z_rdV (pc := 245) (zk9 kX5_heardAt_8) (st := []) lkX5_242 ivX5_held hM.1 rfl rfl (c_held hM (by omega)) rfl ⟨rfl, rfl⟩ rfl rfl ?_ rfl
    exact z_iret (pc := 248) (zk10 kX5_heardAt_8) rfl (Nat.zero_le _) (Nat.zero_le _) ⟨by simp [heardF, heardW, c_1, c_4, c_5, c_7, c_8, c_11], rfl, rfl⟩
  · refine z_iconst (pc := 9) (zk5 kX5_heardAt_0) (v := 0) (by decide) ?_
    exact z_iret (pc := 10) (zk6 kX5_heardAt_0) rfl (Nat.zero_le _) (Nat.zero_le _) ⟨by simp [heardF, heardW, c_1], rfl, rfl⟩
set_option maxRecDepth 20000 in
theorem c_knowsOf {D : zD} {B : Nat} {h : zH} {sz : Nat} {p : Nat} {σ τ ω : Ln} {ε : El} {mv : Nat → Int64} {kp tr : Option Nat} {n l k : Nat} (hM : MoAt h p σ τ ω ε mv kp tr) (hn : σ 0 0 = nI n) (h12 : n ≤ 12) (hl : l < 8) (hk : k < n) (hto : ToOk σ l) : zRd D B xX5_knowsOf [.ref p, .int (nI l), .int (nI k)] h sz (.int (oI (knowB σ l k))) := by
  refine zM.of (by decide) rfl (n := 0) ?_
  show Z D B xX5_knowsOf 0 0 _ 0 [some (.ref p), some (.int (nI l)), some (.int (nI k))] [] h sz
  refine z_iconst (pc := 0) (zk0 kX5_knowsOf_0) (v := 2) (by decide) ?_
  refine z_aload_n (pc := 1) (zk1 kX5_knowsOf_0) rfl ?_
  refine z_iload_n (pc := 2) (zk2 kX5_knowsOf_0) rfl ?_
  refine z_iload_n (pc := 3) (zk3 kX5_knowsOf_0) rfl ?_
  refine z_rdV (pc := 4) (zk4 kX5_knowsOf_0) (st := [.int 2]) lkX5_115 ivX5_heardAt hM.1 rfl rfl (c_mheardAt hM hn h12 (by omega) (by omega) hto) rfl ⟨rfl, rfl⟩ rfl rfl ?_ rfl
  refine z_imul (pc := 7) (zk5 kX5_knowsOf_0) ?_
  refine z_aload_n (pc := 8) (zk6 kX5_knowsOf_0) rfl ?_
  refine z_getf (pc := 9) (zk7 kX5_knowsOf_0) flX5_62 hM.1 gMo_21 ?_
  refine z_iload_n (pc := 12) (zk8 kX5_knowsOf_0) rfl ?_
  refine z_ialdN (pc := 13) (zk9 kX5_knowsOf_0) (f := σ 13) (j := l) hM.2.2.2.2.2.2.2.2.2.2.2.2.2.2.2.2.2.1 (by omega) rfl ?_
  refine z_icmp_lt (pc := 14) (zk10 kX5_knowsOf_0) (tgt := 21) (by decide) (fun c_1 => ?_) (fun c_1 => ?_)
  · refine z_iconst (pc := 21) (zk13 kX5_knowsOf_0) (v := 0) (by decide) ?_
    exact z_zret (pc := 22) (zk14 kX5_knowsOf_0) rfl (Nat.zero_le _) (Nat.zero_le _) (by decide) ⟨by simp [knowB, oI, c_1, Int32.not_le.mpr c_1], rfl, rfl⟩
  · refine z_iconst (pc := 17) (zk11 kX5_knowsOf_0) (v := 1) (by decide) ?_
    refine z_goto (pc := 18) (zk12 kX5_knowsOf_0) (tgt := 22) (by decide) ?_
    exact z_zret (pc := 22) (zk14 kX5_knowsOf_0) rfl (Nat.zero_le _) (Nat.zero_le _) (by decide) ⟨by simp [knowB, oI, c_1, Int32.not_lt.mp c_1], rfl, rfl⟩
theorem bitsI_s (p : Nat → Bool) (n : Nat) : bitsI p n ||| (if p n = true then 1 <<< (nI n &&& 31) else 0) = bitsI p (n + 1) := by
  rw [bitsI]
  by_cases h : p n = true
  · rw [if_pos h, if_pos h]
  · rw [if_neg h, if_neg h, Int32.or_zero]
set_option maxRecDepth 20000 in
theorem c_mknowers {D : zD} {B : Nat} {h : zH} {sz : Nat} {p : Nat} {σ τ ω : Ln} {ε : El} {mv : Nat → Int64} {kp tr : Option Nat} {n l : Nat} (hM : MoAt h p σ τ ω ε mv kp tr) (hn : σ 0 0 = nI n) (h12 : n ≤ 12) (hl : l < 8) (hto : ToOk σ l) : zRd D B xX5_knowers [.ref p, .int (nI l)] h sz (.int (knowersF σ l)) := by
  refine zM.of (by decide) rfl (n := 2) ?_
  show Z D B xX5_knowers 0 0 _ 0 [some (.ref p), some (.int (nI l)), none, none] [] h sz
  refine z_iconst (pc := 0) (zk0 kX5_knowers_0) (v := 0) (by decide) ?_
  refine z_istore_n (pc := 1) (zk1 kX5_knowers_0) rfl rfl ?_
  show Z D B xX5_knowers _ _ _ 2 [some (.ref p), some (.int (nI l)), some (.int 0), none] _ _ _
  refine z_iconst (pc := 2) (zk2 kX5_knowers_0) (v := 0) (by decide) ?_
  refine z_istore_n (pc := 3) (zk3 kX5_knowers_0) rfl rfl ?_
  show Z D B xX5_knowers _ _ _ 4 [some (.ref p), some (.int (nI l)), some (.int 0), some (.int 0)] _ _ _
  have lp4 : ∀ (n_ : Nat) (b : Int32) (i : Nat), n - i < n_ → (i ≤ n) → (b = bitsI (fun k => knowB σ l k) i) → Z D B xX5_knowers 0 0 (fun r h1 z1 => r = some (.int (knowersF σ l)) ∧ h1 = h ∧ z1 = sz) 4 [some (.ref p), some (.int (nI l)), some (.int b), some (.int (nI i))] [] h sz := by
    intro n_
    induction n_ with
    | zero => intro b i hm_; exact absurd hm_ (Nat.not_lt_zero _)
    | succ n_ ih4 =>
      intro b i hm_ hi_i hb_
      refine z_iload_n (pc := 4) (zk4 kX5_knowers_0) rfl ?_
      refine z_aload_n (pc := 5) (zk5 kX5_knowers_0) rfl ?_
      refine z_getf (pc := 6) (zk6 kX5_knowers_0) flX5_37 hM.1 (v := .int (nI n)) (by rw [← hn]; rfl) ?_
      refine z_icmp_ge (pc := 9) (zk7 kX5_knowers_0) (tgt := 37) (by decide) (fun c_1 => ?_) (fun c_1 => ?_)
      · have hie_i : i = n := nI_ge_yes (a := n) (by omega) (by omega) (by omega) c_1
        refine z_iload_n (pc := 37) (zk7 kX5_knowers_1) rfl ?_
        exact z_iret (pc := 38) (zk8 kX5_knowers_1) rfl (Nat.zero_le _) (Nat.zero_le _) ⟨by rw [hb_, hie_i, knowersF, hsN_eq hn h12], rfl, rfl⟩
      · have hlt_i : i < n := nI_ge_not (a := n) (by omega) (by omega) c_1
        refine z_iload_n (pc := 12) (zk8 kX5_knowers_0) rfl ?_
        suffices hJ : Z D B xX5_knowers 0 0 (fun r h1 z1 => r = some (.int (knowersF σ l)) ∧ h1 = h ∧ z1 = sz) 29 [some (.ref p), some (.int (nI l)), some (.int b), some (.int (nI i))] [.int (if knowB σ l i = true then 1 <<< (nI i &&& 31) else 0), .int b] h sz from by
          refine z_aload_n (pc := 13) (zk9 kX5_knowers_0) rfl ?_
          refine z_iload_n (pc := 14) (zk10 kX5_knowers_0) rfl ?_
          refine z_iload_n (pc := 15) (zk11 kX5_knowers_0) rfl ?_
          refine z_rdV (pc := 16) (zk12 kX5_knowers_0) (st := [.int b]) lkX5_245 ivX5_knowsOf hM.1 rfl rfl (c_knowsOf hM hn h12 (by omega) (by omega) hto) rfl ⟨rfl, rfl⟩ rfl rfl ?_ rfl
          refine z_oif_eq (pc := 19) (zk13 kX5_knowers_0) (tgt := 28) (by decide) (fun c_2 => ?_) (fun c_2 => ?_)
          · refine z_iconst (pc := 28) (zk2 kX5_knowers_1) (v := 0) (by decide) ?_
            exact z_top (congrArg Value.int (by simp [c_1, Int32.not_le.mp c_1, c_2])) hJ
          · refine z_iconst (pc := 22) (zk14 kX5_knowers_0) (v := 1) (by decide) ?_
            refine z_iload_n (pc := 23) (zk15 kX5_knowers_0) rfl ?_
            refine z_ishl (pc := 24) (zk0 kX5_knowers_1) ?_
            refine z_goto (pc := 25) (zk1 kX5_knowers_1) (tgt := 29) (by decide) ?_
            exact z_top (congrArg Value.int (by simp [c_1, Int32.not_le.mp c_1, c_2])) hJ
        refine z_ior (pc := 29) (zk3 kX5_knowers_1) ?_
        refine z_istore_n (pc := 30) (zk4 kX5_knowers_1) rfl rfl ?_
        show Z D B xX5_knowers _ _ _ 31 [some (.ref p), some (.int (nI l)), some (.int (b ||| (if knowB σ l i = true then 1 <<< (nI i &&& 31) else 0))), some (.int (nI i))] _ _ _
        refine z_iinc (pc := 31) (zk5 kX5_knowers_1) (v := nI (i + 1)) rfl zinc rfl rfl ?_
        show Z D B xX5_knowers _ _ _ 34 [some (.ref p), some (.int (nI l)), some (.int (b ||| (if knowB σ l i = true then 1 <<< (nI i &&& 31) else 0))), some (.int (nI (i + 1)))] _ _ _
        refine z_goto (pc := 34) (zk6 kX5_knowers_1) (tgt := 4) (by decide) ?_
        exact ih4 (b ||| (if knowB σ l i = true then 1 <<< (nI i &&& 31) else 0)) (i + 1) (by omega) (by omega) (by rw [hb_]; exact bitsI_s (fun k => knowB σ l k) i)
  exact lp4 _ 0 0 (Nat.lt_succ_self _) (by omega) rfl
set_option maxRecDepth 20000 in
theorem c_mknownAt {D : zD} {B : Nat} {h : zH} {sz : Nat} {p : Nat} {σ τ ω : Ln} {ε : El} {mv : Nat → Int64} {kp tr : Option Nat} {n m k : Nat} (hM : MoAt h p σ τ ω ε mv kp tr) (hn : σ 0 0 = nI n) (h12 : n ≤ 12) (hm : σ 9 0 = nI m) (h8 : m ≤ 8) (hk : k < n) (hto : ∀ l, l < m → ToOk σ l) : zRd D B xX5_knownAt [.ref p, .int (nI k)] h sz (.int (knownF σ k)) := by
  refine zM.of (by decide) rfl (n := 2) ?_
  show Z D B xX5_knownAt 0 0 _ 0 [some (.ref p), some (.int (nI k)), none, none] [] h sz
  refine z_iconst (pc := 0) (zk0 kX5_knownAt_0) (v := 0) (by decide) ?_
  refine z_istore_n (pc := 1) (zk1 kX5_knownAt_0) rfl rfl ?_
  show Z D B xX5_knownAt _ _ _ 2 [some (.ref p), some (.int (nI k)), some (.int 0), none] _ _ _
  refine z_iconst (pc := 2) (zk2 kX5_knownAt_0) (v := 0) (by decide) ?_
  refine z_istore_n (pc := 3) (zk3 kX5_knownAt_0) rfl rfl ?_
  show Z D B xX5_knownAt _ _ _ 4 [some (.ref p), some (.int (nI k)), some (.int 0), some (.int 0)] _ _ _
  have lp4 : ∀ (n_ : Nat) (b : Int32) (i : Nat), m - i < n_ → (i ≤ m) → (b = bitsI (fun l => knowB σ l k) i) → Z D B xX5_knownAt 0 0 (fun r h1 z1 => r = some (.int (knownF σ k)) ∧ h1 = h ∧ z1 = sz) 4 [some (.ref p), some (.int (nI k)), some (.int b), some (.int (nI i))] [] h sz := by
    intro n_
    induction n_ with
    | zero => intro b i hm_; exact absurd hm_ (Nat.not_lt_zero _)
    | succ n_ ih4 =>
      intro b i hm_ hi_i hb_
      refine z_iload_n (pc := 4) (zk4 kX5_knownAt_0) rfl ?_
      refine z_aload_n (pc := 5) (zk5 kX5_knownAt_0) rfl ?_
      refine z_getf (pc := 6) (zk6 kX5_knownAt_0) flX5_85 hM.1 (v := .int (nI m)) (by rw [← hm]; rfl) ?_
      refine z_icmp_ge (pc := 9) (zk7 kX5_knownAt_0) (tgt := 37) (by decide) (fun c_1 => ?_) (fun c_1 => ?_)
      · have hie_i : i = m := nI_ge_yes (a := m) (by omega) (by omega) (by omega) c_1
        refine z_iload_n (pc := 37) (zk7 kX5_knownAt_1) rfl ?_
        exact z_iret (pc := 38) (zk8 kX5_knownAt_1) rfl (Nat.zero_le _) (Nat.zero_le _) ⟨by rw [hb_, hie_i, knownF, lsN_eq hm h8], rfl, rfl⟩
      · have hlt_i : i < m := nI_ge_not (a := m) (by omega) (by omega) c_1
        refine z_iload_n (pc := 12) (zk8 kX5_knownAt_0) rfl ?_
        suffices hJ : Z D B xX5_knownAt 0 0 (fun r h1 z1 => r = some (.int (knownF σ k)) ∧ h1 = h ∧ z1 = sz) 29 [some (.ref p), some (.int (nI k)), some (.int b), some (.int (nI i))] [.int (if knowB σ i k = true then 1 <<< (nI i &&& 31) else 0), .int b] h sz from by
          refine z_aload_n (pc := 13) (zk9 kX5_knownAt_0) rfl ?_
          refine z_iload_n (pc := 14) (zk10 kX5_knownAt_0) rfl ?_
          refine z_iload_n (pc := 15) (zk11 kX5_knownAt_0) rfl ?_
          refine z_rdV (pc := 16) (zk12 kX5_knownAt_0) (st := [.int b]) lkX5_245 ivX5_knowsOf hM.1 rfl rfl (c_knowsOf hM hn h12 (by omega) (by omega) (hto _ (by omega))) rfl ⟨rfl, rfl⟩ rfl rfl ?_ rfl
          refine z_oif_eq (pc := 19) (zk13 kX5_knownAt_0) (tgt := 28) (by decide) (fun c_2 => ?_) (fun c_2 => ?_)
          · refine z_iconst (pc := 28) (zk2 kX5_knownAt_1) (v := 0) (by decide) ?_
            exact z_top (congrArg Value.int (by simp [c_1, Int32.not_le.mp c_1, c_2])) hJ
          · refine z_iconst (pc := 22) (zk14 kX5_knownAt_0) (v := 1) (by decide) ?_
            refine z_iload_n (pc := 23) (zk15 kX5_knownAt_0) rfl ?_
            refine z_ishl (pc := 24) (zk0 kX5_knownAt_1) ?_
            refine z_goto (pc := 25) (zk1 kX5_knownAt_1) (tgt := 29) (by decide) ?_
            exact z_top (congrArg Value.int (by simp [c_1, Int32.not_le.mp c_1, c_2])) hJ
        refine z_ior (pc := 29) (zk3 kX5_knownAt_1) ?_
        refine z_istore_n (pc := 30) (zk4 kX5_knownAt_1) rfl rfl ?_
        show Z D B xX5_knownAt _ _ _ 31 [some (.ref p), some (.int (nI k)), some (.int (b ||| (if knowB σ i k = true then 1 <<< (nI i &&& 31) else 0))), some (.int (nI i))] _ _ _
        refine z_iinc (pc := 31) (zk5 kX5_knownAt_1) (v := nI (i + 1)) rfl zinc rfl rfl ?_
        show Z D B xX5_knownAt _ _ _ 34 [some (.ref p), some (.int (nI k)), some (.int (b ||| (if knowB σ i k = true then 1 <<< (nI i &&& 31) else 0))), some (.int (nI (i + 1)))] _ _ _
        refine z_goto (pc := 34) (zk6 kX5_knownAt_1) (tgt := 4) (by decide) ?_
        exact ih4 (b ||| (if knowB σ i k = true then 1 <<< (nI i &&& 31) else 0)) (i + 1) (by omega) (by omega) (by rw [hb_]; exact bitsI_s (fun l => knowB σ l k) i)
  exact lp4 _ 0 0 (Nat.lt_succ_self _) (by omega) rfl
set_option maxRecDepth 20000 in
theorem c_mwordsAt {D : zD} {B : Nat} {h : zH} {sz : Nat} {p : Nat} {σ τ ω : Ln} {ε : El} {mv : Nat → Int64} {kp tr : Option Nat} {n m k : Nat} (hM : MoAt h p σ τ ω ε mv kp tr) (hn : σ 0 0 = nI n) (h12 : n ≤ 12) (hm : σ 9 0 = nI m) (h8 : m ≤ 8) (hk : k < n) (hto : ∀ l, l < m → ToOk σ l) : zRd D B xX5_wordsAt [.ref p, .int (nI k)] h sz (.int (wordsF σ k)) := by
  refine zM.of (by decide) rfl (n := 2) ?_
  show Z D B xX5_wordsAt 0 0 _ 0 [some (.ref p), some (.int (nI k)), none, none] [] h sz
  refine z_iconst (pc := 0) (zk0 kX5_wordsAt_0) (v := 0) (by decide) ?_
  refine z_istore_n (pc := 1) (zk1 kX5_wordsAt_0) rfl rfl ?_
  show Z D B xX5_wordsAt _ _ _ 2 [some (.ref p), some (.int (nI k)), some (.int 0), none] _ _ _
  refine z_iconst (pc := 2) (zk2 kX5_wordsAt_0) (v := 0) (by decide) ?_
  refine z_istore_n (pc := 3) (zk3 kX5_wordsAt_0) rfl rfl ?_
  show Z D B xX5_wordsAt _ _ _ 4 [some (.ref p), some (.int (nI k)), some (.int 0), some (.int 0)] _ _ _
  have lp4 : ∀ (n_ : Nat) (t : Int32) (i : Nat), m - i < n_ → (i ≤ m) → (t = sum0 (fun l => heardF σ l k) i) → Z D B xX5_wordsAt 0 0 (fun r h1 z1 => r = some (.int (wordsF σ k)) ∧ h1 = h ∧ z1 = sz) 4 [some (.ref p), some (.int (nI k)), some (.int t), some (.int (nI i))] [] h sz := by
    intro n_
    induction n_ with
    | zero => intro t i hm_; exact absurd hm_ (Nat.not_lt_zero _)
    | succ n_ ih4 =>
      intro t i hm_ hi_i ht
      refine z_iload_n (pc := 4) (zk4 kX5_wordsAt_0) rfl ?_
      refine z_aload_n (pc := 5) (zk5 kX5_wordsAt_0) rfl ?_
      refine z_getf (pc := 6) (zk6 kX5_wordsAt_0) flX5_85 hM.1 (v := .int (nI m)) (by rw [← hm]; rfl) ?_
      refine z_icmp_ge (pc := 9) (zk7 kX5_wordsAt_0) (tgt := 27) (by decide) (fun c_1 => ?_) (fun c_1 => ?_)
      · have hie_i : i = m := nI_ge_yes (a := m) (by omega) (by omega) (by omega) c_1
        refine z_iload_n (pc := 27) (zk1 kX5_wordsAt_1) rfl ?_
        exact z_iret (pc := 28) (zk2 kX5_wordsAt_1) rfl (Nat.zero_le _) (Nat.zero_le _) ⟨by rw [ht, hie_i, wordsF, lsN_eq hm h8], rfl, rfl⟩
      · have hlt_i : i < m := nI_ge_not (a := m) (by omega) (by omega) c_1
        refine z_iload_n (pc := 12) (zk8 kX5_wordsAt_0) rfl ?_
        refine z_aload_n (pc := 13) (zk9 kX5_wordsAt_0) rfl ?_
        refine z_iload_n (pc := 14) (zk10 kX5_wordsAt_0) rfl ?_
        refine z_iload_n (pc := 15) (zk11 kX5_wordsAt_0) rfl ?_
        refine z_rdV (pc := 16) (zk12 kX5_wordsAt_0) (st := [.int t]) lkX5_115 ivX5_heardAt hM.1 rfl rfl (c_mheardAt hM hn h12 (by omega) (by omega) (hto _ (by omega))) rfl ⟨rfl, rfl⟩ rfl rfl ?_ rfl
        refine z_iadd (pc := 19) (zk13 kX5_wordsAt_0) ?_
        refine z_istore_n (pc := 20) (zk14 kX5_wordsAt_0) rfl rfl ?_
        show Z D B xX5_wordsAt _ _ _ 21 [some (.ref p), some (.int (nI k)), some (.int (t + (heardF σ i k))), some (.int (nI i))] _ _ _
        refine z_iinc (pc := 21) (zk15 kX5_wordsAt_0) (v := nI (i + 1)) rfl zinc rfl rfl ?_
        show Z D B xX5_wordsAt _ _ _ 24 [some (.ref p), some (.int (nI k)), some (.int (t + (heardF σ i k))), some (.int (nI (i + 1)))] _ _ _
        refine z_goto (pc := 24) (zk0 kX5_wordsAt_1) (tgt := 4) (by decide) ?_
        exact ih4 (t + (heardF σ i k)) (i + 1) (by omega) (by omega) (by rw [ht]; rfl)
  exact lp4 _ 0 0 (Nat.lt_succ_self _) (by omega) rfl
end
