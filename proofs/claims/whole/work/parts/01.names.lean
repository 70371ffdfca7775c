-- ===== PART A: goes FIRST, ahead of the names: the tables' words, and 'selects' of the private methods out of them =====
/-- a private method of a class that the tables say can be made, by its rows of tables_1 -/
def lw_okq (q : MethodName × Nat) : Prop := (q.1.cls ≠ "java/lang/invoke/MethodHandle" ∧ q.1.cls ≠ "java/lang/invoke/VarHandle") ∧ Cond.instantiable q.1.cls q.2 ∈ tables_1 ∧ Cond.privateMethod q.1 ∈ tables_1 ∧ Cond.instanceMethod q.1 ∈ tables_1
theorem lw_p0 : lw_okq (⟨"ReadOutAlongTheWay", "noShelf", "(I)Z"⟩, 7) := ⟨⟨by decide +kernel, by decide +kernel⟩, List.mem_of_getElem? (i := 15) (by decide +kernel), List.mem_of_getElem? (i := 193) (by decide +kernel), List.mem_of_getElem? (i := 194) (by decide +kernel)⟩
theorem lw_p1 : lw_okq (⟨"ReadOutAlongTheWay", "refuse", "(I)I"⟩, 7) := ⟨⟨by decide +kernel, by decide +kernel⟩, List.mem_of_getElem? (i := 15) (by decide +kernel), List.mem_of_getElem? (i := 200) (by decide +kernel), List.mem_of_getElem? (i := 201) (by decide +kernel)⟩
theorem lw_p2 : lw_okq (⟨"ReadOutAlongTheWay$Shelf", "asKept", "(J)J"⟩, 3) := ⟨⟨by decide +kernel, by decide +kernel⟩, List.mem_of_getElem? (i := 122) (by decide +kernel), List.mem_of_getElem? (i := 232) (by decide +kernel), List.mem_of_getElem? (i := 233) (by decide +kernel)⟩
theorem lw_p3 : lw_okq (⟨"ReadOutAlongTheWay", "noLetter", "(I)Z"⟩, 7) := ⟨⟨by decide +kernel, by decide +kernel⟩, List.mem_of_getElem? (i := 15) (by decide +kernel), List.mem_of_getElem? (i := 261) (by decide +kernel), List.mem_of_getElem? (i := 262) (by decide +kernel)⟩
theorem lw_p4 : lw_okq (⟨"ReadOutAlongTheWay$Lane", "heardWith", "(III)I"⟩, 14) := ⟨⟨by decide +kernel, by decide +kernel⟩, List.mem_of_getElem? (i := 23) (by decide +kernel), List.mem_of_getElem? (i := 301) (by decide +kernel), List.mem_of_getElem? (i := 302) (by decide +kernel)⟩
theorem lw_p5 : lw_okq (⟨"ReadOutAlongTheWay$Lane", "understands", "(II)Z"⟩, 14) := ⟨⟨by decide +kernel, by decide +kernel⟩, List.mem_of_getElem? (i := 23) (by decide +kernel), List.mem_of_getElem? (i := 312) (by decide +kernel), List.mem_of_getElem? (i := 313) (by decide +kernel)⟩
theorem lw_p6 : lw_okq (⟨"ReadOutAlongTheWay$Lane", "isNearTo", "(II)Z"⟩, 14) := ⟨⟨by decide +kernel, by decide +kernel⟩, List.mem_of_getElem? (i := 23) (by decide +kernel), List.mem_of_getElem? (i := 316) (by decide +kernel), List.mem_of_getElem? (i := 317) (by decide +kernel)⟩
theorem lw_p7 : lw_okq (⟨"ReadOutAlongTheWay", "noHouse", "(I)Z"⟩, 7) := ⟨⟨by decide +kernel, by decide +kernel⟩, List.mem_of_getElem? (i := 15) (by decide +kernel), List.mem_of_getElem? (i := 331) (by decide +kernel), List.mem_of_getElem? (i := 332) (by decide +kernel)⟩
theorem lw_p8 : lw_okq (⟨"ReadOutAlongTheWay$Tape", "step", "()V"⟩, 6) := ⟨⟨by decide +kernel, by decide +kernel⟩, List.mem_of_getElem? (i := 142) (by decide +kernel), List.mem_of_getElem? (i := 409) (by decide +kernel), List.mem_of_getElem? (i := 410) (by decide +kernel)⟩
theorem lw_p9 : lw_okq (⟨"ReadOutAlongTheWay$Tape", "sortAt", "(I)I"⟩, 6) := ⟨⟨by decide +kernel, by decide +kernel⟩, List.mem_of_getElem? (i := 142) (by decide +kernel), List.mem_of_getElem? (i := 413) (by decide +kernel), List.mem_of_getElem? (i := 414) (by decide +kernel)⟩
theorem lw_p10 : lw_okq (⟨"ReadOutAlongTheWay$Tape", "readStatement", "(LReadOutAlongTheWay$Lane;)V"⟩, 6) := ⟨⟨by decide +kernel, by decide +kernel⟩, List.mem_of_getElem? (i := 142) (by decide +kernel), List.mem_of_getElem? (i := 417) (by decide +kernel), List.mem_of_getElem? (i := 418) (by decide +kernel)⟩
theorem lw_p11 : lw_okq (⟨"ReadOutAlongTheWay$Tape", "blame", "(I)V"⟩, 6) := ⟨⟨by decide +kernel, by decide +kernel⟩, List.mem_of_getElem? (i := 142) (by decide +kernel), List.mem_of_getElem? (i := 421) (by decide +kernel), List.mem_of_getElem? (i := 422) (by decide +kernel)⟩
theorem lw_p12 : lw_okq (⟨"ReadOutAlongTheWay$Tape", "isWord", "(Ljava/lang/String;)Z"⟩, 6) := ⟨⟨by decide +kernel, by decide +kernel⟩, List.mem_of_getElem? (i := 142) (by decide +kernel), List.mem_of_getElem? (i := 426) (by decide +kernel), List.mem_of_getElem? (i := 427) (by decide +kernel)⟩
theorem lw_p13 : lw_okq (⟨"ReadOutAlongTheWay$Tape", "readHouses", "(LReadOutAlongTheWay$Lane;)V"⟩, 6) := ⟨⟨by decide +kernel, by decide +kernel⟩, List.mem_of_getElem? (i := 142) (by decide +kernel), List.mem_of_getElem? (i := 478) (by decide +kernel), List.mem_of_getElem? (i := 479) (by decide +kernel)⟩
theorem lw_p14 : lw_okq (⟨"ReadOutAlongTheWay$Tape", "readNumber", "(II)I"⟩, 6) := ⟨⟨by decide +kernel, by decide +kernel⟩, List.mem_of_getElem? (i := 142) (by decide +kernel), List.mem_of_getElem? (i := 482) (by decide +kernel), List.mem_of_getElem? (i := 483) (by decide +kernel)⟩
theorem lw_p15 : lw_okq (⟨"ReadOutAlongTheWay$Tape", "readLetter", "(LReadOutAlongTheWay$Lane;)V"⟩, 6) := ⟨⟨by decide +kernel, by decide +kernel⟩, List.mem_of_getElem? (i := 142) (by decide +kernel), List.mem_of_getElem? (i := 487) (by decide +kernel), List.mem_of_getElem? (i := 488) (by decide +kernel)⟩
def lw_privs_1 : List (MethodName × Nat) := [(⟨"ReadOutAlongTheWay", "noShelf", "(I)Z"⟩, 7), (⟨"ReadOutAlongTheWay", "refuse", "(I)I"⟩, 7), (⟨"ReadOutAlongTheWay$Shelf", "asKept", "(J)J"⟩, 3), (⟨"ReadOutAlongTheWay", "noLetter", "(I)Z"⟩, 7), (⟨"ReadOutAlongTheWay$Lane", "heardWith", "(III)I"⟩, 14), (⟨"ReadOutAlongTheWay$Lane", "understands", "(II)Z"⟩, 14), (⟨"ReadOutAlongTheWay$Lane", "isNearTo", "(II)Z"⟩, 14), (⟨"ReadOutAlongTheWay", "noHouse", "(I)Z"⟩, 7), (⟨"ReadOutAlongTheWay$Tape", "step", "()V"⟩, 6), (⟨"ReadOutAlongTheWay$Tape", "sortAt", "(I)I"⟩, 6), (⟨"ReadOutAlongTheWay$Tape", "readStatement", "(LReadOutAlongTheWay$Lane;)V"⟩, 6), (⟨"ReadOutAlongTheWay$Tape", "blame", "(I)V"⟩, 6), (⟨"ReadOutAlongTheWay$Tape", "isWord", "(Ljava/lang/String;)Z"⟩, 6), (⟨"ReadOutAlongTheWay$Tape", "readHouses", "(LReadOutAlongTheWay$Lane;)V"⟩, 6), (⟨"ReadOutAlongTheWay$Tape", "readNumber", "(II)I"⟩, 6), (⟨"ReadOutAlongTheWay$Tape", "readLetter", "(LReadOutAlongTheWay$Lane;)V"⟩, 6)]
theorem lw_r1 : ∀ q ∈ lw_privs_1, lw_okq q := List.forall_mem_cons.mpr ⟨lw_p0, List.forall_mem_cons.mpr ⟨lw_p1, List.forall_mem_cons.mpr ⟨lw_p2, List.forall_mem_cons.mpr ⟨lw_p3, List.forall_mem_cons.mpr ⟨lw_p4, List.forall_mem_cons.mpr ⟨lw_p5, List.forall_mem_cons.mpr ⟨lw_p6, List.forall_mem_cons.mpr ⟨lw_p7, List.forall_mem_cons.mpr ⟨lw_p8, List.forall_mem_cons.mpr ⟨lw_p9, List.forall_mem_cons.mpr ⟨lw_p10, List.forall_mem_cons.mpr ⟨lw_p11, List.forall_mem_cons.mpr ⟨lw_p12, List.forall_mem_cons.mpr ⟨lw_p13, List.forall_mem_cons.mpr ⟨lw_p14, List.forall_mem_cons.mpr ⟨lw_p15, fun _ h => absurd h List.not_mem_nil⟩⟩⟩⟩⟩⟩⟩⟩⟩⟩⟩⟩⟩⟩⟩⟩
theorem lw_p16 : lw_okq (⟨"ReadOutAlongTheWay$Tape", "readIntoHouse", "(LReadOutAlongTheWay$Lane;[I)V"⟩, 6) := ⟨⟨by decide +kernel, by decide +kernel⟩, List.mem_of_getElem? (i := 142) (by decide +kernel), List.mem_of_getElem? (i := 494) (by decide +kernel), List.mem_of_getElem? (i := 495) (by decide +kernel)⟩
theorem lw_p17 : lw_okq (⟨"ReadOutAlongTheWay$Tape", "readCode", "(LReadOutAlongTheWay$Lane;)V"⟩, 6) := ⟨⟨by decide +kernel, by decide +kernel⟩, List.mem_of_getElem? (i := 142) (by decide +kernel), List.mem_of_getElem? (i := 500) (by decide +kernel), List.mem_of_getElem? (i := 501) (by decide +kernel)⟩
theorem lw_p18 : lw_okq (⟨"ReadOutAlongTheWay$Tape", "readCold", "(LReadOutAlongTheWay$Lane;)V"⟩, 6) := ⟨⟨by decide +kernel, by decide +kernel⟩, List.mem_of_getElem? (i := 142) (by decide +kernel), List.mem_of_getElem? (i := 506) (by decide +kernel), List.mem_of_getElem? (i := 507) (by decide +kernel)⟩
theorem lw_p19 : lw_okq (⟨"ReadOutAlongTheWay", "noSet", "(I)Z"⟩, 7) := ⟨⟨by decide +kernel, by decide +kernel⟩, List.mem_of_getElem? (i := 15) (by decide +kernel), List.mem_of_getElem? (i := 600) (by decide +kernel), List.mem_of_getElem? (i := 601) (by decide +kernel)⟩
theorem lw_p20 : lw_okq (⟨"ReadOutAlongTheWay$Guess", "isHushed", "(II)Z"⟩, 3) := ⟨⟨by decide +kernel, by decide +kernel⟩, List.mem_of_getElem? (i := 101) (by decide +kernel), List.mem_of_getElem? (i := 618) (by decide +kernel), List.mem_of_getElem? (i := 619) (by decide +kernel)⟩
theorem lw_p21 : lw_okq (⟨"ReadOutAlongTheWay", "toldFault", "(IIIZ)I"⟩, 7) := ⟨⟨by decide +kernel, by decide +kernel⟩, List.mem_of_getElem? (i := 15) (by decide +kernel), List.mem_of_getElem? (i := 651) (by decide +kernel), List.mem_of_getElem? (i := 652) (by decide +kernel)⟩
theorem lw_p22 : lw_okq (⟨"ReadOutAlongTheWay$Guess", "fitsHeard", "(LReadOutAlongTheWay$Shelf;II)Z"⟩, 3) := ⟨⟨by decide +kernel, by decide +kernel⟩, List.mem_of_getElem? (i := 101) (by decide +kernel), List.mem_of_getElem? (i := 659) (by decide +kernel), List.mem_of_getElem? (i := 660) (by decide +kernel)⟩
theorem lw_p23 : lw_okq (⟨"ReadOutAlongTheWay$Guess", "mostLeft", "(II)I"⟩, 3) := ⟨⟨by decide +kernel, by decide +kernel⟩, List.mem_of_getElem? (i := 101) (by decide +kernel), List.mem_of_getElem? (i := 693) (by decide +kernel), List.mem_of_getElem? (i := 694) (by decide +kernel)⟩
theorem lw_p24 : lw_okq (⟨"ReadOutAlongTheWay$Guess", "fitsHouse", "(LReadOutAlongTheWay$Shelf;II)Z"⟩, 3) := ⟨⟨by decide +kernel, by decide +kernel⟩, List.mem_of_getElem? (i := 101) (by decide +kernel), List.mem_of_getElem? (i := 708) (by decide +kernel), List.mem_of_getElem? (i := 709) (by decide +kernel)⟩
theorem lw_p25 : lw_okq (⟨"ReadOutAlongTheWay", "noPouring", "(IIII)Z"⟩, 7) := ⟨⟨by decide +kernel, by decide +kernel⟩, List.mem_of_getElem? (i := 15) (by decide +kernel), List.mem_of_getElem? (i := 716) (by decide +kernel), List.mem_of_getElem? (i := 717) (by decide +kernel)⟩
theorem lw_p26 : lw_okq (⟨"ReadOutAlongTheWay", "dropMissingLetters", "()V"⟩, 7) := ⟨⟨by decide +kernel, by decide +kernel⟩, List.mem_of_getElem? (i := 15) (by decide +kernel), List.mem_of_getElem? (i := 898) (by decide +kernel), List.mem_of_getElem? (i := 899) (by decide +kernel)⟩
theorem lw_p27 : lw_okq (⟨"ReadOutAlongTheWay$Lane", "draw", "(I)I"⟩, 14) := ⟨⟨by decide +kernel, by decide +kernel⟩, List.mem_of_getElem? (i := 23) (by decide +kernel), List.mem_of_getElem? (i := 914) (by decide +kernel), List.mem_of_getElem? (i := 915) (by decide +kernel)⟩
theorem lw_p28 : lw_okq (⟨"ReadOutAlongTheWay", "shelvesInUse", "()I"⟩, 7) := ⟨⟨by decide +kernel, by decide +kernel⟩, List.mem_of_getElem? (i := 15) (by decide +kernel), List.mem_of_getElem? (i := 944) (by decide +kernel), List.mem_of_getElem? (i := 945) (by decide +kernel)⟩
theorem lw_p29 : lw_okq (⟨"ReadOutAlongTheWayModel", "refuse", "(I)I"⟩, 41) := ⟨⟨by decide +kernel, by decide +kernel⟩, List.mem_of_getElem? (i := 948) (by decide +kernel), List.mem_of_getElem? (i := 1090) (by decide +kernel), List.mem_of_getElem? (i := 1091) (by decide +kernel)⟩
theorem lw_p30 : lw_okq (⟨"ReadOutAlongTheWayModel", "noRow", "(I)I"⟩, 41) := ⟨⟨by decide +kernel, by decide +kernel⟩, List.mem_of_getElem? (i := 948) (by decide +kernel), List.mem_of_getElem? (i := 1098) (by decide +kernel), List.mem_of_getElem? (i := 1099) (by decide +kernel)⟩
theorem lw_p31 : lw_okq (⟨"ReadOutAlongTheWayModel", "isLetter", "(J)Z"⟩, 41) := ⟨⟨by decide +kernel, by decide +kernel⟩, List.mem_of_getElem? (i := 948) (by decide +kernel), List.mem_of_getElem? (i := 1121) (by decide +kernel), List.mem_of_getElem? (i := 1122) (by decide +kernel)⟩
def lw_privs_2 : List (MethodName × Nat) := [(⟨"ReadOutAlongTheWay$Tape", "readIntoHouse", "(LReadOutAlongTheWay$Lane;[I)V"⟩, 6), (⟨"ReadOutAlongTheWay$Tape", "readCode", "(LReadOutAlongTheWay$Lane;)V"⟩, 6), (⟨"ReadOutAlongTheWay$Tape", "readCold", "(LReadOutAlongTheWay$Lane;)V"⟩, 6), (⟨"ReadOutAlongTheWay", "noSet", "(I)Z"⟩, 7), (⟨"ReadOutAlongTheWay$Guess", "isHushed", "(II)Z"⟩, 3), (⟨"ReadOutAlongTheWay", "toldFault", "(IIIZ)I"⟩, 7), (⟨"ReadOutAlongTheWay$Guess", "fitsHeard", "(LReadOutAlongTheWay$Shelf;II)Z"⟩, 3), (⟨"ReadOutAlongTheWay$Guess", "mostLeft", "(II)I"⟩, 3), (⟨"ReadOutAlongTheWay$Guess", "fitsHouse", "(LReadOutAlongTheWay$Shelf;II)Z"⟩, 3), (⟨"ReadOutAlongTheWay", "noPouring", "(IIII)Z"⟩, 7), (⟨"ReadOutAlongTheWay", "dropMissingLetters", "()V"⟩, 7), (⟨"ReadOutAlongTheWay$Lane", "draw", "(I)I"⟩, 14), (⟨"ReadOutAlongTheWay", "shelvesInUse", "()I"⟩, 7), (⟨"ReadOutAlongTheWayModel", "refuse", "(I)I"⟩, 41), (⟨"ReadOutAlongTheWayModel", "noRow", "(I)I"⟩, 41), (⟨"ReadOutAlongTheWayModel", "isLetter", "(J)Z"⟩, 41)]
theorem lw_r2 : ∀ q ∈ lw_privs_2, lw_okq q := List.forall_mem_cons.mpr ⟨lw_p16, List.forall_mem_cons.mpr ⟨lw_p17, List.forall_mem_cons.mpr ⟨lw_p18, List.forall_mem_cons.mpr ⟨lw_p19, List.forall_mem_cons.mpr ⟨lw_p20, List.forall_mem_cons.mpr ⟨lw_p21, List.forall_mem_cons.mpr ⟨lw_p22, List.forall_mem_cons.mpr ⟨lw_p23, List.forall_mem_cons.mpr ⟨lw_p24, List.forall_mem_cons.mpr ⟨lw_p25, List.forall_mem_cons.mpr ⟨lw_p26, List.forall_mem_cons.mpr ⟨lw_p27, List.forall_mem_cons.mpr ⟨lw_p28, List.forall_mem_cons.mpr ⟨lw_p29, List.forall_mem_cons.mpr ⟨lw_p30, List.forall_mem_cons.mpr ⟨lw_p31, fun _ h => absurd h List.not_mem_nil⟩⟩⟩⟩⟩⟩⟩⟩⟩⟩⟩⟩⟩⟩⟩⟩
theorem lw_p32 : lw_okq (⟨"ReadOutAlongTheWayModel", "heardAt", "(II)I"⟩, 41) := ⟨⟨by decide +kernel, by decide +kernel⟩, List.mem_of_getElem? (i := 948) (by decide +kernel), List.mem_of_getElem? (i := 1133) (by decide +kernel), List.mem_of_getElem? (i := 1134) (by decide +kernel)⟩
theorem lw_p33 : lw_okq (⟨"ReadOutAlongTheWayModel", "readAt", "(II)Z"⟩, 41) := ⟨⟨by decide +kernel, by decide +kernel⟩, List.mem_of_getElem? (i := 948) (by decide +kernel), List.mem_of_getElem? (i := 1137) (by decide +kernel), List.mem_of_getElem? (i := 1138) (by decide +kernel)⟩
theorem lw_p34 : lw_okq (⟨"ReadOutAlongTheWayModel", "leftOut", "(I)I"⟩, 41) := ⟨⟨by decide +kernel, by decide +kernel⟩, List.mem_of_getElem? (i := 948) (by decide +kernel), List.mem_of_getElem? (i := 1141) (by decide +kernel), List.mem_of_getElem? (i := 1142) (by decide +kernel)⟩
theorem lw_p35 : lw_okq (⟨"ReadOutAlongTheWayModel", "tipsy", "(I)I"⟩, 41) := ⟨⟨by decide +kernel, by decide +kernel⟩, List.mem_of_getElem? (i := 948) (by decide +kernel), List.mem_of_getElem? (i := 1145) (by decide +kernel), List.mem_of_getElem? (i := 1146) (by decide +kernel)⟩
theorem lw_p36 : lw_okq (⟨"ReadOutAlongTheWayModel", "held", "(II)I"⟩, 41) := ⟨⟨by decide +kernel, by decide +kernel⟩, List.mem_of_getElem? (i := 948) (by decide +kernel), List.mem_of_getElem? (i := 1149) (by decide +kernel), List.mem_of_getElem? (i := 1150) (by decide +kernel)⟩
theorem lw_p37 : lw_okq (⟨"ReadOutAlongTheWayModel", "isHouse", "(I)Z"⟩, 41) := ⟨⟨by decide +kernel, by decide +kernel⟩, List.mem_of_getElem? (i := 948) (by decide +kernel), List.mem_of_getElem? (i := 1163) (by decide +kernel), List.mem_of_getElem? (i := 1164) (by decide +kernel)⟩
theorem lw_p38 : lw_okq (⟨"ReadOutAlongTheWayModel", "addLetter", "(IIII)V"⟩, 41) := ⟨⟨by decide +kernel, by decide +kernel⟩, List.mem_of_getElem? (i := 948) (by decide +kernel), List.mem_of_getElem? (i := 1167) (by decide +kernel), List.mem_of_getElem? (i := 1168) (by decide +kernel)⟩
theorem lw_p39 : lw_okq (⟨"ReadOutAlongTheWayModel", "setCode", "(IIZ)V"⟩, 41) := ⟨⟨by decide +kernel, by decide +kernel⟩, List.mem_of_getElem? (i := 948) (by decide +kernel), List.mem_of_getElem? (i := 1183) (by decide +kernel), List.mem_of_getElem? (i := 1184) (by decide +kernel)⟩
theorem lw_p40 : lw_okq (⟨"ReadOutAlongTheWayModel", "takeFrom", "(LReadOutAlongTheWayModel;)V"⟩, 41) := ⟨⟨by decide +kernel, by decide +kernel⟩, List.mem_of_getElem? (i := 948) (by decide +kernel), List.mem_of_getElem? (i := 1210) (by decide +kernel), List.mem_of_getElem? (i := 1211) (by decide +kernel)⟩
theorem lw_p41 : lw_okq (⟨"ReadOutAlongTheWayModel", "readAll", "()Z"⟩, 41) := ⟨⟨by decide +kernel, by decide +kernel⟩, List.mem_of_getElem? (i := 948) (by decide +kernel), List.mem_of_getElem? (i := 1217) (by decide +kernel), List.mem_of_getElem? (i := 1218) (by decide +kernel)⟩
theorem lw_p42 : lw_okq (⟨"ReadOutAlongTheWayModel", "look", "()V"⟩, 41) := ⟨⟨by decide +kernel, by decide +kernel⟩, List.mem_of_getElem? (i := 948) (by decide +kernel), List.mem_of_getElem? (i := 1221) (by decide +kernel), List.mem_of_getElem? (i := 1222) (by decide +kernel)⟩
theorem lw_p43 : lw_okq (⟨"ReadOutAlongTheWayModel", "statement", "()Z"⟩, 41) := ⟨⟨by decide +kernel, by decide +kernel⟩, List.mem_of_getElem? (i := 948) (by decide +kernel), List.mem_of_getElem? (i := 1231) (by decide +kernel), List.mem_of_getElem? (i := 1232) (by decide +kernel)⟩
theorem lw_p44 : lw_okq (⟨"ReadOutAlongTheWayModel", "isWord", "(Ljava/lang/String;)Z"⟩, 41) := ⟨⟨by decide +kernel, by decide +kernel⟩, List.mem_of_getElem? (i := 948) (by decide +kernel), List.mem_of_getElem? (i := 1236) (by decide +kernel), List.mem_of_getElem? (i := 1237) (by decide +kernel)⟩
theorem lw_p45 : lw_okq (⟨"ReadOutAlongTheWayModel", "tells", "(II)Z"⟩, 41) := ⟨⟨by decide +kernel, by decide +kernel⟩, List.mem_of_getElem? (i := 948) (by decide +kernel), List.mem_of_getElem? (i := 1242) (by decide +kernel), List.mem_of_getElem? (i := 1243) (by decide +kernel)⟩
theorem lw_p46 : lw_okq (⟨"ReadOutAlongTheWayModel", "number", "(III)Z"⟩, 41) := ⟨⟨by decide +kernel, by decide +kernel⟩, List.mem_of_getElem? (i := 948) (by decide +kernel), List.mem_of_getElem? (i := 1246) (by decide +kernel), List.mem_of_getElem? (i := 1247) (by decide +kernel)⟩
theorem lw_p47 : lw_okq (⟨"ReadOutAlongTheWayModel", "wrong", "()Z"⟩, 41) := ⟨⟨by decide +kernel, by decide +kernel⟩, List.mem_of_getElem? (i := 948) (by decide +kernel), List.mem_of_getElem? (i := 1250) (by decide +kernel), List.mem_of_getElem? (i := 1251) (by decide +kernel)⟩
def lw_privs_3 : List (MethodName × Nat) := [(⟨"ReadOutAlongTheWayModel", "heardAt", "(II)I"⟩, 41), (⟨"ReadOutAlongTheWayModel", "readAt", "(II)Z"⟩, 41), (⟨"ReadOutAlongTheWayModel", "leftOut", "(I)I"⟩, 41), (⟨"ReadOutAlongTheWayModel", "tipsy", "(I)I"⟩, 41), (⟨"ReadOutAlongTheWayModel", "held", "(II)I"⟩, 41), (⟨"ReadOutAlongTheWayModel", "isHouse", "(I)Z"⟩, 41), (⟨"ReadOutAlongTheWayModel", "addLetter", "(IIII)V"⟩, 41), (⟨"ReadOutAlongTheWayModel", "setCode", "(IIZ)V"⟩, 41), (⟨"ReadOutAlongTheWayModel", "takeFrom", "(LReadOutAlongTheWayModel;)V"⟩, 41), (⟨"ReadOutAlongTheWayModel", "readAll", "()Z"⟩, 41), (⟨"ReadOutAlongTheWayModel", "look", "()V"⟩, 41), (⟨"ReadOutAlongTheWayModel", "statement", "()Z"⟩, 41), (⟨"ReadOutAlongTheWayModel", "isWord", "(Ljava/lang/String;)Z"⟩, 41), (⟨"ReadOutAlongTheWayModel", "tells", "(II)Z"⟩, 41), (⟨"ReadOutAlongTheWayModel", "number", "(III)Z"⟩, 41), (⟨"ReadOutAlongTheWayModel", "wrong", "()Z"⟩, 41)]
theorem lw_r3 : ∀ q ∈ lw_privs_3, lw_okq q := List.forall_mem_cons.mpr ⟨lw_p32, List.forall_mem_cons.mpr ⟨lw_p33, List.forall_mem_cons.mpr ⟨lw_p34, List.forall_mem_cons.mpr ⟨lw_p35, List.forall_mem_cons.mpr ⟨lw_p36, List.forall_mem_cons.mpr ⟨lw_p37, List.forall_mem_cons.mpr ⟨lw_p38, List.forall_mem_cons.mpr ⟨lw_p39, List.forall_mem_cons.mpr ⟨lw_p40, List.forall_mem_cons.mpr ⟨lw_p41, List.forall_mem_cons.mpr ⟨lw_p42, List.forall_mem_cons.mpr ⟨lw_p43, List.forall_mem_cons.mpr ⟨lw_p44, List.forall_mem_cons.mpr ⟨lw_p45, List.forall_mem_cons.mpr ⟨lw_p46, List.forall_mem_cons.mpr ⟨lw_p47, fun _ h => absurd h List.not_mem_nil⟩⟩⟩⟩⟩⟩⟩⟩⟩⟩⟩⟩⟩⟩⟩⟩
theorem lw_p48 : lw_okq (⟨"ReadOutAlongTheWayModel", "tellsLetter", "()Z"⟩, 41) := ⟨⟨by decide +kernel, by decide +kernel⟩, List.mem_of_getElem? (i := 948) (by decide +kernel), List.mem_of_getElem? (i := 1255) (by decide +kernel), List.mem_of_getElem? (i := 1256) (by decide +kernel)⟩
theorem lw_p49 : lw_okq (⟨"ReadOutAlongTheWayModel", "tellsHouse", "()Z"⟩, 41) := ⟨⟨by decide +kernel, by decide +kernel⟩, List.mem_of_getElem? (i := 948) (by decide +kernel), List.mem_of_getElem? (i := 1262) (by decide +kernel), List.mem_of_getElem? (i := 1263) (by decide +kernel)⟩
theorem lw_p50 : lw_okq (⟨"ReadOutAlongTheWayModel", "areBoth", "(II)Z"⟩, 41) := ⟨⟨by decide +kernel, by decide +kernel⟩, List.mem_of_getElem? (i := 948) (by decide +kernel), List.mem_of_getElem? (i := 1282) (by decide +kernel), List.mem_of_getElem? (i := 1283) (by decide +kernel)⟩
theorem lw_p51 : lw_okq (⟨"ReadOutAlongTheWayModel", "knowers", "(I)I"⟩, 41) := ⟨⟨by decide +kernel, by decide +kernel⟩, List.mem_of_getElem? (i := 948) (by decide +kernel), List.mem_of_getElem? (i := 1294) (by decide +kernel), List.mem_of_getElem? (i := 1295) (by decide +kernel)⟩
theorem lw_p52 : lw_okq (⟨"ReadOutAlongTheWayModel", "knowsOf", "(II)Z"⟩, 41) := ⟨⟨by decide +kernel, by decide +kernel⟩, List.mem_of_getElem? (i := 948) (by decide +kernel), List.mem_of_getElem? (i := 1298) (by decide +kernel), List.mem_of_getElem? (i := 1299) (by decide +kernel)⟩
theorem lw_p53 : lw_okq (⟨"ReadOutAlongTheWayModel", "knownAt", "(I)I"⟩, 41) := ⟨⟨by decide +kernel, by decide +kernel⟩, List.mem_of_getElem? (i := 948) (by decide +kernel), List.mem_of_getElem? (i := 1306) (by decide +kernel), List.mem_of_getElem? (i := 1307) (by decide +kernel)⟩
theorem lw_p54 : lw_okq (⟨"ReadOutAlongTheWayModel", "wordsAt", "(I)I"⟩, 41) := ⟨⟨by decide +kernel, by decide +kernel⟩, List.mem_of_getElem? (i := 948) (by decide +kernel), List.mem_of_getElem? (i := 1314) (by decide +kernel), List.mem_of_getElem? (i := 1315) (by decide +kernel)⟩
theorem lw_p55 : lw_okq (⟨"ReadOutAlongTheWayModel", "isSet", "(I)Z"⟩, 41) := ⟨⟨by decide +kernel, by decide +kernel⟩, List.mem_of_getElem? (i := 948) (by decide +kernel), List.mem_of_getElem? (i := 1378) (by decide +kernel), List.mem_of_getElem? (i := 1379) (by decide +kernel)⟩
theorem lw_p56 : lw_okq (⟨"ReadOutAlongTheWayModel", "findHush", "(II)V"⟩, 41) := ⟨⟨by decide +kernel, by decide +kernel⟩, List.mem_of_getElem? (i := 948) (by decide +kernel), List.mem_of_getElem? (i := 1398) (by decide +kernel), List.mem_of_getElem? (i := 1399) (by decide +kernel)⟩
theorem lw_p57 : lw_okq (⟨"ReadOutAlongTheWayModel", "isHushed", "(II)Z"⟩, 41) := ⟨⟨by decide +kernel, by decide +kernel⟩, List.mem_of_getElem? (i := 948) (by decide +kernel), List.mem_of_getElem? (i := 1402) (by decide +kernel), List.mem_of_getElem? (i := 1403) (by decide +kernel)⟩
theorem lw_p58 : lw_okq (⟨"ReadOutAlongTheWayModel", "knowersTogether", "()I"⟩, 41) := ⟨⟨by decide +kernel, by decide +kernel⟩, List.mem_of_getElem? (i := 948) (by decide +kernel), List.mem_of_getElem? (i := 1426) (by decide +kernel), List.mem_of_getElem? (i := 1427) (by decide +kernel)⟩
theorem lw_p59 : lw_okq (⟨"ReadOutAlongTheWayModel", "noSounds", "(IIIZ)I"⟩, 41) := ⟨⟨by decide +kernel, by decide +kernel⟩, List.mem_of_getElem? (i := 948) (by decide +kernel), List.mem_of_getElem? (i := 1442) (by decide +kernel), List.mem_of_getElem? (i := 1443) (by decide +kernel)⟩
theorem lw_p60 : lw_okq (⟨"ReadOutAlongTheWayModel", "findLengths", "(III)V"⟩, 41) := ⟨⟨by decide +kernel, by decide +kernel⟩, List.mem_of_getElem? (i := 948) (by decide +kernel), List.mem_of_getElem? (i := 1446) (by decide +kernel), List.mem_of_getElem? (i := 1447) (by decide +kernel)⟩
theorem lw_p61 : lw_okq (⟨"ReadOutAlongTheWayModel", "sounds", "(III)Z"⟩, 41) := ⟨⟨by decide +kernel, by decide +kernel⟩, List.mem_of_getElem? (i := 948) (by decide +kernel), List.mem_of_getElem? (i := 1450) (by decide +kernel), List.mem_of_getElem? (i := 1451) (by decide +kernel)⟩
theorem lw_p62 : lw_okq (⟨"ReadOutAlongTheWayModel", "worstAt", "(II)I"⟩, 41) := ⟨⟨by decide +kernel, by decide +kernel⟩, List.mem_of_getElem? (i := 948) (by decide +kernel), List.mem_of_getElem? (i := 1462) (by decide +kernel), List.mem_of_getElem? (i := 1463) (by decide +kernel)⟩
theorem lw_p63 : lw_okq (⟨"ReadOutAlongTheWayModel", "mayPour", "(IIII)Z"⟩, 41) := ⟨⟨by decide +kernel, by decide +kernel⟩, List.mem_of_getElem? (i := 948) (by decide +kernel), List.mem_of_getElem? (i := 1474) (by decide +kernel), List.mem_of_getElem? (i := 1475) (by decide +kernel)⟩
def lw_privs_4 : List (MethodName × Nat) := [(⟨"ReadOutAlongTheWayModel", "tellsLetter", "()Z"⟩, 41), (⟨"ReadOutAlongTheWayModel", "tellsHouse", "()Z"⟩, 41), (⟨"ReadOutAlongTheWayModel", "areBoth", "(II)Z"⟩, 41), (⟨"ReadOutAlongTheWayModel", "knowers", "(I)I"⟩, 41), (⟨"ReadOutAlongTheWayModel", "knowsOf", "(II)Z"⟩, 41), (⟨"ReadOutAlongTheWayModel", "knownAt", "(I)I"⟩, 41), (⟨"ReadOutAlongTheWayModel", "wordsAt", "(I)I"⟩, 41), (⟨"ReadOutAlongTheWayModel", "isSet", "(I)Z"⟩, 41), (⟨"ReadOutAlongTheWayModel", "findHush", "(II)V"⟩, 41), (⟨"ReadOutAlongTheWayModel", "isHushed", "(II)Z"⟩, 41), (⟨"ReadOutAlongTheWayModel", "knowersTogether", "()I"⟩, 41), (⟨"ReadOutAlongTheWayModel", "noSounds", "(IIIZ)I"⟩, 41), (⟨"ReadOutAlongTheWayModel", "findLengths", "(III)V"⟩, 41), (⟨"ReadOutAlongTheWayModel", "sounds", "(III)Z"⟩, 41), (⟨"ReadOutAlongTheWayModel", "worstAt", "(II)I"⟩, 41), (⟨"ReadOutAlongTheWayModel", "mayPour", "(IIII)Z"⟩, 41)]
theorem lw_r4 : ∀ q ∈ lw_privs_4, lw_okq q := List.forall_mem_cons.mpr ⟨lw_p48, List.forall_mem_cons.mpr ⟨lw_p49, List.forall_mem_cons.mpr ⟨lw_p50, List.forall_mem_cons.mpr ⟨lw_p51, List.forall_mem_cons.mpr ⟨lw_p52, List.forall_mem_cons.mpr ⟨lw_p53, List.forall_mem_cons.mpr ⟨lw_p54, List.forall_mem_cons.mpr ⟨lw_p55, List.forall_mem_cons.mpr ⟨lw_p56, List.forall_mem_cons.mpr ⟨lw_p57, List.forall_mem_cons.mpr ⟨lw_p58, List.forall_mem_cons.mpr ⟨lw_p59, List.forall_mem_cons.mpr ⟨lw_p60, List.forall_mem_cons.mpr ⟨lw_p61, List.forall_mem_cons.mpr ⟨lw_p62, List.forall_mem_cons.mpr ⟨lw_p63, fun _ h => absurd h List.not_mem_nil⟩⟩⟩⟩⟩⟩⟩⟩⟩⟩⟩⟩⟩⟩⟩⟩
theorem lw_p64 : lw_okq (⟨"ReadOutAlongTheWayModel", "leastHeard", "(III)I"⟩, 41) := ⟨⟨by decide +kernel, by decide +kernel⟩, List.mem_of_getElem? (i := 948) (by decide +kernel), List.mem_of_getElem? (i := 1478) (by decide +kernel), List.mem_of_getElem? (i := 1479) (by decide +kernel)⟩
theorem lw_p65 : lw_okq (⟨"ReadOutAlongTheWayModel", "knowsBy", "(II)I"⟩, 41) := ⟨⟨by decide +kernel, by decide +kernel⟩, List.mem_of_getElem? (i := 948) (by decide +kernel), List.mem_of_getElem? (i := 1491) (by decide +kernel), List.mem_of_getElem? (i := 1492) (by decide +kernel)⟩
theorem lw_p66 : lw_okq (⟨"ReadOutAlongTheWayModel", "goesRound", "()V"⟩, 41) := ⟨⟨by decide +kernel, by decide +kernel⟩, List.mem_of_getElem? (i := 948) (by decide +kernel), List.mem_of_getElem? (i := 1507) (by decide +kernel), List.mem_of_getElem? (i := 1508) (by decide +kernel)⟩
theorem lw_p67 : lw_okq (⟨"ReadOutAlongTheWayModel", "shelvesFollow", "()V"⟩, 41) := ⟨⟨by decide +kernel, by decide +kernel⟩, List.mem_of_getElem? (i := 948) (by decide +kernel), List.mem_of_getElem? (i := 1511) (by decide +kernel), List.mem_of_getElem? (i := 1512) (by decide +kernel)⟩
theorem lw_p68 : lw_okq (⟨"ReadOutAlongTheWayModel", "earsTogether", "()I"⟩, 41) := ⟨⟨by decide +kernel, by decide +kernel⟩, List.mem_of_getElem? (i := 948) (by decide +kernel), List.mem_of_getElem? (i := 1515) (by decide +kernel), List.mem_of_getElem? (i := 1516) (by decide +kernel)⟩
theorem lw_p69 : lw_okq (⟨"ReadOutAlongTheWayModel", "below", "(I)I"⟩, 41) := ⟨⟨by decide +kernel, by decide +kernel⟩, List.mem_of_getElem? (i := 948) (by decide +kernel), List.mem_of_getElem? (i := 1524) (by decide +kernel), List.mem_of_getElem? (i := 1525) (by decide +kernel)⟩
def lw_privs_5 : List (MethodName × Nat) := [(⟨"ReadOutAlongTheWayModel", "leastHeard", "(III)I"⟩, 41), (⟨"ReadOutAlongTheWayModel", "knowsBy", "(II)I"⟩, 41), (⟨"ReadOutAlongTheWayModel", "goesRound", "()V"⟩, 41), (⟨"ReadOutAlongTheWayModel", "shelvesFollow", "()V"⟩, 41), (⟨"ReadOutAlongTheWayModel", "earsTogether", "()I"⟩, 41), (⟨"ReadOutAlongTheWayModel", "below", "(I)I"⟩, 41)]
theorem lw_r5 : ∀ q ∈ lw_privs_5, lw_okq q := List.forall_mem_cons.mpr ⟨lw_p64, List.forall_mem_cons.mpr ⟨lw_p65, List.forall_mem_cons.mpr ⟨lw_p66, List.forall_mem_cons.mpr ⟨lw_p67, List.forall_mem_cons.mpr ⟨lw_p68, List.forall_mem_cons.mpr ⟨lw_p69, fun _ h => absurd h List.not_mem_nil⟩⟩⟩⟩⟩⟩
def lw_privs : List (MethodName × Nat) := lw_privs_1 ++ (lw_privs_2 ++ (lw_privs_3 ++ (lw_privs_4 ++ (lw_privs_5))))
def lw_tbl : List Cond := k2_sels lw_privs ++ tables_1
theorem lw_privs_ok : ∀ q ∈ lw_privs, lw_okq q := by
  show ∀ q ∈ lw_privs_1 ++ (lw_privs_2 ++ (lw_privs_3 ++ (lw_privs_4 ++ (lw_privs_5)))), lw_okq q
  exact List.forall_mem_append.mpr ⟨lw_r1, List.forall_mem_append.mpr ⟨lw_r2, List.forall_mem_append.mpr ⟨lw_r3, List.forall_mem_append.mpr ⟨lw_r4, lw_r5⟩⟩⟩⟩
-- ===== end of PART A; then your names; then what follows =====
def RX0 : String := "ReadOutAlongTheWay$Guess"
def TX0 : u_T := fun k => match k with
  | 0 => ("ReadOutAlongTheWay$Guess", "lane", "LReadOutAlongTheWay$Lane;", true)
  | 1 => ("ReadOutAlongTheWay$Guess", "marked", "[Z", true)
  | _ => ("ReadOutAlongTheWay$Guess", "tally", "[I", true)
def tyX0 : Nat → FieldType := fun k => match k with
  | 0 => .object "ReadOutAlongTheWay$Lane"
  | 1 => .array .boolean
  | _ => .array .int
abbrev wsX00 : List Cond := u_ws RX0 TX0 3
theorem nmX0 : ∀ a, a < 3 → ∀ b, b < 3 → a ≠ b → (TX0 a).2.1 ≠ (TX0 b).2.1 := by decide +kernel
theorem tyX0_ok : ∀ k, k < 3 → parseFieldDescriptor (TX0 k).2.2.1 = some (tyX0 k) := by decide +kernel
abbrev cX0_init : ByteArray := prog_2_method_1_code
def yX0_init : MethodName := ⟨RX0, "<init>", "()V"⟩
abbrev cX0_freshFrom : ByteArray := prog_2_method_2_code
def yX0_freshFrom : MethodName := ⟨RX0, "freshFrom", "(LReadOutAlongTheWay$Lane;)LReadOutAlongTheWay$Lane;"⟩
abbrev cX0_addressFor : ByteArray := prog_2_method_3_code
def yX0_addressFor : MethodName := ⟨RX0, "addressFor", "(LReadOutAlongTheWay$Lane;II)I"⟩
abbrev cX0_leastHush : ByteArray := prog_2_method_4_code
def yX0_leastHush : MethodName := ⟨RX0, "leastHush", "(LReadOutAlongTheWay$Lane;II)I"⟩
abbrev cX0_hushHouse : ByteArray := prog_2_method_5_code
def yX0_hushHouse : MethodName := ⟨RX0, "hushHouse", "(LReadOutAlongTheWay$Lane;III)I"⟩
abbrev cX0_isHushed : ByteArray := prog_2_method_6_code
def yX0_isHushed : MethodName := ⟨RX0, "isHushed", "(II)Z"⟩
abbrev cX0_sealFor : ByteArray := prog_2_method_7_code
def yX0_sealFor : MethodName := ⟨RX0, "sealFor", "(LReadOutAlongTheWay$Lane;II)I"⟩
abbrev cX0_leastLength : ByteArray := prog_2_method_8_code
def yX0_leastLength : MethodName := ⟨RX0, "leastLength", "(LReadOutAlongTheWay$Lane;II)I"⟩
abbrev cX0_fitsHeard : ByteArray := prog_2_method_9_code
def yX0_fitsHeard : MethodName := ⟨RX0, "fitsHeard", "(LReadOutAlongTheWay$Shelf;II)Z"⟩
abbrev cX0_markLengths : ByteArray := prog_2_method_10_code
def yX0_markLengths : MethodName := ⟨RX0, "markLengths", "(LReadOutAlongTheWay$Lane;LReadOutAlongTheWay$Shelf;II)I"⟩
abbrev cX0_leastMarked : ByteArray := prog_2_method_11_code
def yX0_leastMarked : MethodName := ⟨RX0, "leastMarked", "()I"⟩
abbrev cX0_greatestMarked : ByteArray := prog_2_method_12_code
def yX0_greatestMarked : MethodName := ⟨RX0, "greatestMarked", "()I"⟩
abbrev cX0_bestParting : ByteArray := prog_2_method_13_code
def yX0_bestParting : MethodName := ⟨RX0, "bestParting", "(I)I"⟩
abbrev cX0_mostLeft : ByteArray := prog_2_method_14_code
def yX0_mostLeft : MethodName := ⟨RX0, "mostLeft", "(II)I"⟩
abbrev cX0_fittingKinds : ByteArray := prog_2_method_15_code
def yX0_fittingKinds : MethodName := ⟨RX0, "fittingKinds", "(LReadOutAlongTheWay$Lane;LReadOutAlongTheWay$Shelf;II)I"⟩
abbrev cX0_fittingTos : ByteArray := prog_2_method_16_code
def yX0_fittingTos : MethodName := ⟨RX0, "fittingTos", "(LReadOutAlongTheWay$Lane;LReadOutAlongTheWay$Shelf;II)I"⟩
abbrev cX0_fittingWinds : ByteArray := prog_2_method_17_code
def yX0_fittingWinds : MethodName := ⟨RX0, "fittingWinds", "(LReadOutAlongTheWay$Lane;LReadOutAlongTheWay$Shelf;II)I"⟩
abbrev cX0_fitsHouse : ByteArray := prog_2_method_18_code
def yX0_fitsHouse : MethodName := ⟨RX0, "fitsHouse", "(LReadOutAlongTheWay$Shelf;II)Z"⟩
abbrev cX0_bestDrink : ByteArray := prog_2_method_19_code
def yX0_bestDrink : MethodName := ⟨RX0, "bestDrink", "(LReadOutAlongTheWay$Lane;IIII)I"⟩
abbrev cX0_heardOfPoured : ByteArray := prog_2_method_20_code
def yX0_heardOfPoured : MethodName := ⟨RX0, "heardOfPoured", "(LReadOutAlongTheWay$Lane;IIIII)I"⟩
abbrev cX0_answerTo : ByteArray := prog_2_method_21_code
def yX0_answerTo : MethodName := ⟨RX0, "answerTo", "(LReadOutAlongTheWay$Lane;IIIII)I"⟩
abbrev cX0_windsOfKnowing : ByteArray := prog_2_method_22_code
def yX0_windsOfKnowing : MethodName := ⟨RX0, "windsOfKnowing", "(LReadOutAlongTheWay$Lane;II)I"⟩
abbrev cX0_sureKnowers : ByteArray := prog_2_method_23_code
def yX0_sureKnowers : MethodName := ⟨RX0, "sureKnowers", "(LReadOutAlongTheWay$Lane;I)I"⟩
abbrev cX0_knowersTurned : ByteArray := prog_2_method_24_code
def yX0_knowersTurned : MethodName := ⟨RX0, "knowersTurned", "(LReadOutAlongTheWay$Lane;I)I"⟩
abbrev cX0_leastCold : ByteArray := prog_2_method_25_code
def yX0_leastCold : MethodName := ⟨RX0, "leastCold", "(LReadOutAlongTheWay$Lane;II)I"⟩
abbrev cX0_widestTo : ByteArray := prog_2_method_26_code
def yX0_widestTo : MethodName := ⟨RX0, "widestTo", "(LReadOutAlongTheWay$Lane;I)I"⟩
abbrev cX0_knowersIfTo : ByteArray := prog_2_method_27_code
def yX0_knowersIfTo : MethodName := ⟨RX0, "knowersIfTo", "(LReadOutAlongTheWay$Lane;II)I"⟩
abbrev cX0_leastQuietWind : ByteArray := prog_2_method_28_code
def yX0_leastQuietWind : MethodName := ⟨RX0, "leastQuietWind", "(LReadOutAlongTheWay$Lane;I)I"⟩
abbrev cX0_knowersSober : ByteArray := prog_2_method_29_code
def yX0_knowersSober : MethodName := ⟨RX0, "knowersSober", "(LReadOutAlongTheWay$Lane;I)I"⟩
abbrev cX0_allKnowersIfDrink : ByteArray := prog_2_method_30_code
def yX0_allKnowersIfDrink : MethodName := ⟨RX0, "allKnowersIfDrink", "(LReadOutAlongTheWay$Lane;II)I"⟩
abbrev cX0_isKnownIfTaught : ByteArray := prog_2_method_31_code
def yX0_isKnownIfTaught : MethodName := ⟨RX0, "isKnownIfTaught", "(LReadOutAlongTheWay$Lane;II)Z"⟩
abbrev cX0_merriestHouse : ByteArray := prog_2_method_32_code
def yX0_merriestHouse : MethodName := ⟨RX0, "merriestHouse", "(LReadOutAlongTheWay$Lane;I)I"⟩
def RX1 : String := "ReadOutAlongTheWay$Lane"
def TX1 : u_T := fun k => match k with
  | 0 => ("ReadOutAlongTheWay$Lane", "houses", "I", false)
  | 1 => ("ReadOutAlongTheWay$Lane", "wind", "[I", true)
  | 2 => ("ReadOutAlongTheWay$Lane", "drink", "[I", true)
  | 3 => ("ReadOutAlongTheWay$Lane", "codes", "[I", true)
  | 4 => ("ReadOutAlongTheWay$Lane", "ears", "[I", true)
  | 5 => ("ReadOutAlongTheWay$Lane", "cold", "I", false)
  | 6 => ("ReadOutAlongTheWay$Lane", "back", "Z", false)
  | 7 => ("ReadOutAlongTheWay$Lane", "days", "I", false)
  | 8 => ("ReadOutAlongTheWay$Lane", "seed", "I", false)
  | 9 => ("ReadOutAlongTheWay$Lane", "letters", "I", false)
  | 10 => ("ReadOutAlongTheWay$Lane", "kind", "[I", true)
  | 11 => ("ReadOutAlongTheWay$Lane", "a", "[I", true)
  | 12 => ("ReadOutAlongTheWay$Lane", "to", "[I", true)
  | _ => ("ReadOutAlongTheWay$Lane", "length", "[I", true)
def tyX1 : Nat → FieldType := fun k => match k with
  | 0 => .int
  | 1 => .array .int
  | 2 => .array .int
  | 3 => .array .int
  | 4 => .array .int
  | 5 => .int
  | 6 => .boolean
  | 7 => .int
  | 8 => .int
  | 9 => .int
  | 10 => .array .int
  | 11 => .array .int
  | 12 => .array .int
  | _ => .array .int
abbrev wsX10 : List Cond := u_ws RX1 TX1 14
theorem nmX1 : ∀ a, a < 14 → ∀ b, b < 14 → a ≠ b → (TX1 a).2.1 ≠ (TX1 b).2.1 := by decide +kernel
theorem tyX1_ok : ∀ k, k < 14 → parseFieldDescriptor (TX1 k).2.2.1 = some (tyX1 k) := by decide +kernel
abbrev cX1_init : ByteArray := prog_3_method_1_code
def yX1_init : MethodName := ⟨RX1, "<init>", "()V"⟩
abbrev cX1_takeFrom : ByteArray := prog_3_method_2_code
def yX1_takeFrom : MethodName := ⟨RX1, "takeFrom", "(LReadOutAlongTheWay$Lane;)V"⟩
abbrev cX1_hasRoom : ByteArray := prog_3_method_3_code
def yX1_hasRoom : MethodName := ⟨RX1, "hasRoom", "()Z"⟩
abbrev cX1_addLetter : ByteArray := prog_3_method_4_code
def yX1_addLetter : MethodName := ⟨RX1, "addLetter", "(IIII)I"⟩
abbrev cX1_learn : ByteArray := prog_3_method_5_code
def yX1_learn : MethodName := ⟨RX1, "learn", "(II)V"⟩
abbrev cX1_houseAtStep : ByteArray := prog_3_method_6_code
def yX1_houseAtStep : MethodName := ⟨RX1, "houseAtStep", "(I)I"⟩
abbrev cX1_readAt : ByteArray := prog_3_method_7_code
def yX1_readAt : MethodName := ⟨RX1, "readAt", "(II)Z"⟩
abbrev cX1_tipsyAt : ByteArray := prog_3_method_8_code
def yX1_tipsyAt : MethodName := ⟨RX1, "tipsyAt", "(I)I"⟩
abbrev cX1_leftOutAfter : ByteArray := prog_3_method_9_code
def yX1_leftOutAfter : MethodName := ⟨RX1, "leftOutAfter", "(I)I"⟩
abbrev cX1_heardAt : ByteArray := prog_3_method_10_code
def yX1_heardAt : MethodName := ⟨RX1, "heardAt", "(II)I"⟩
abbrev cX1_heardWith : ByteArray := prog_3_method_11_code
def yX1_heardWith : MethodName := ⟨RX1, "heardWith", "(III)I"⟩
abbrev cX1_within : ByteArray := prog_3_method_12_code
def yX1_within : MethodName := ⟨RX1, "within", "(II)I"⟩
abbrev cX1_understands : ByteArray := prog_3_method_13_code
def yX1_understands : MethodName := ⟨RX1, "understands", "(II)Z"⟩
abbrev cX1_isNearTo : ByteArray := prog_3_method_14_code
def yX1_isNearTo : MethodName := ⟨RX1, "isNearTo", "(II)Z"⟩
abbrev cX1_isKnown : ByteArray := prog_3_method_15_code
def yX1_isKnown : MethodName := ⟨RX1, "isKnown", "(II)Z"⟩
abbrev cX1_knowers : ByteArray := prog_3_method_16_code
def yX1_knowers : MethodName := ⟨RX1, "knowers", "(I)I"⟩
abbrev cX1_allKnowers : ByteArray := prog_3_method_17_code
def yX1_allKnowers : MethodName := ⟨RX1, "allKnowers", "()I"⟩
abbrev cX1_knownAt : ByteArray := prog_3_method_18_code
def yX1_knownAt : MethodName := ⟨RX1, "knownAt", "(I)I"⟩
abbrev cX1_lettersReadAt : ByteArray := prog_3_method_19_code
def yX1_lettersReadAt : MethodName := ⟨RX1, "lettersReadAt", "(I)I"⟩
abbrev cX1_endKnower : ByteArray := prog_3_method_20_code
def yX1_endKnower : MethodName := ⟨RX1, "endKnower", "(IZ)I"⟩
abbrev cX1_loudestAt : ByteArray := prog_3_method_21_code
def yX1_loudestAt : MethodName := ⟨RX1, "loudestAt", "(I)I"⟩
abbrev cX1_wordsAt : ByteArray := prog_3_method_22_code
def yX1_wordsAt : MethodName := ⟨RX1, "wordsAt", "(I)I"⟩
abbrev cX1_houseWithMost : ByteArray := prog_3_method_23_code
def yX1_houseWithMost : MethodName := ⟨RX1, "houseWithMost", "()I"⟩
abbrev cX1_houseWithFewest : ByteArray := prog_3_method_24_code
def yX1_houseWithFewest : MethodName := ⟨RX1, "houseWithFewest", "()I"⟩
abbrev cX1_allDrink : ByteArray := prog_3_method_25_code
def yX1_allDrink : MethodName := ⟨RX1, "allDrink", "()I"⟩
abbrev cX1_allEars : ByteArray := prog_3_method_26_code
def yX1_allEars : MethodName := ⟨RX1, "allEars", "()I"⟩
abbrev cX1_goRound : ByteArray := prog_3_method_27_code
def yX1_goRound : MethodName := ⟨RX1, "goRound", "()V"⟩
abbrev cX1_goDrawnDay : ByteArray := prog_3_method_28_code
def yX1_goDrawnDay : MethodName := ⟨RX1, "goDrawnDay", "()V"⟩
abbrev cX1_draw : ByteArray := prog_3_method_29_code
def yX1_draw : MethodName := ⟨RX1, "draw", "(I)I"⟩
def RX2 : String := "ReadOutAlongTheWay$Shelf"
def TX2 : u_T := fun k => match k with
  | 0 => ("ReadOutAlongTheWay$Shelf", "held", "I", false)
  | 1 => ("ReadOutAlongTheWay$Shelf", "size", "I", false)
  | _ => ("ReadOutAlongTheWay$Shelf", "elements", "[J", true)
def tyX2 : Nat → FieldType := fun k => match k with
  | 0 => .int
  | 1 => .int
  | _ => .array .long
abbrev wsX20 : List Cond := u_ws RX2 TX2 3
theorem nmX2 : ∀ a, a < 3 → ∀ b, b < 3 → a ≠ b → (TX2 a).2.1 ≠ (TX2 b).2.1 := by decide +kernel
theorem tyX2_ok : ∀ k, k < 3 → parseFieldDescriptor (TX2 k).2.2.1 = some (tyX2 k) := by decide +kernel
abbrev cX2_init : ByteArray := prog_4_method_1_code
def yX2_init : MethodName := ⟨RX2, "<init>", "()V"⟩
abbrev cX2_clearOut : ByteArray := prog_4_method_2_code
def yX2_clearOut : MethodName := ⟨RX2, "clearOut", "()V"⟩
abbrev cX2_takeLetter : ByteArray := prog_4_method_3_code
def yX2_takeLetter : MethodName := ⟨RX2, "takeLetter", "(I)V"⟩
abbrev cX2_takeRow : ByteArray := prog_4_method_4_code
def yX2_takeRow : MethodName := ⟨RX2, "takeRow", "(II)V"⟩
abbrev cX2_holdsNothing : ByteArray := prog_4_method_5_code
def yX2_holdsNothing : MethodName := ⟨RX2, "holdsNothing", "()Z"⟩
abbrev cX2_holdsLetter : ByteArray := prog_4_method_6_code
def yX2_holdsLetter : MethodName := ⟨RX2, "holdsLetter", "()Z"⟩
abbrev cX2_shownLetter : ByteArray := prog_4_method_7_code
def yX2_shownLetter : MethodName := ⟨RX2, "shownLetter", "()I"⟩
abbrev cX2_hasElement : ByteArray := prog_4_method_8_code
def yX2_hasElement : MethodName := ⟨RX2, "hasElement", "(I)Z"⟩
abbrev cX2_hasPart : ByteArray := prog_4_method_9_code
def yX2_hasPart : MethodName := ⟨RX2, "hasPart", "(II)Z"⟩
abbrev cX2_rowFault : ByteArray := prog_4_method_10_code
def yX2_rowFault : MethodName := ⟨RX2, "rowFault", "(I)I"⟩
abbrev cX2_put : ByteArray := prog_4_method_11_code
def yX2_put : MethodName := ⟨RX2, "put", "(IJ)V"⟩
abbrev cX2_asKept : ByteArray := prog_4_method_12_code
def yX2_asKept : MethodName := ⟨RX2, "asKept", "(J)J"⟩
def RX3 : String := "ReadOutAlongTheWay$Tape"
def TX3 : u_T := fun k => match k with
  | 0 => ("ReadOutAlongTheWay$Tape", "bytes", "[I", true)
  | 1 => ("ReadOutAlongTheWay$Tape", "size", "I", false)
  | 2 => ("ReadOutAlongTheWay$Tape", "token", "I", false)
  | 3 => ("ReadOutAlongTheWay$Tape", "start", "I", false)
  | 4 => ("ReadOutAlongTheWay$Tape", "end", "I", false)
  | _ => ("ReadOutAlongTheWay$Tape", "fault", "I", false)
def tyX3 : Nat → FieldType := fun k => match k with
  | 0 => .array .int
  | 1 => .int
  | 2 => .int
  | 3 => .int
  | 4 => .int
  | _ => .int
abbrev wsX30 : List Cond := u_ws RX3 TX3 6
theorem nmX3 : ∀ a, a < 6 → ∀ b, b < 6 → a ≠ b → (TX3 a).2.1 ≠ (TX3 b).2.1 := by decide +kernel
theorem tyX3_ok : ∀ k, k < 6 → parseFieldDescriptor (TX3 k).2.2.1 = some (tyX3 k) := by decide +kernel
abbrev cX3_init : ByteArray := prog_5_method_1_code
def yX3_init : MethodName := ⟨RX3, "<init>", "()V"⟩
abbrev cX3_hasRoom : ByteArray := prog_5_method_2_code
def yX3_hasRoom : MethodName := ⟨RX3, "hasRoom", "()Z"⟩
abbrev cX3_append : ByteArray := prog_5_method_3_code
def yX3_append : MethodName := ⟨RX3, "append", "(I)I"⟩
abbrev cX3_empty : ByteArray := prog_5_method_4_code
def yX3_empty : MethodName := ⟨RX3, "empty", "()I"⟩
abbrev cX3_size : ByteArray := prog_5_method_5_code
def yX3_size : MethodName := ⟨RX3, "size", "()I"⟩
abbrev cX3_fault : ByteArray := prog_5_method_6_code
def yX3_fault : MethodName := ⟨RX3, "fault", "()I"⟩
abbrev cX3_readInto : ByteArray := prog_5_method_7_code
def yX3_readInto : MethodName := ⟨RX3, "readInto", "(LReadOutAlongTheWay$Lane;)I"⟩
abbrev cX3_blame : ByteArray := prog_5_method_8_code
def yX3_blame : MethodName := ⟨RX3, "blame", "(I)V"⟩
abbrev cX3_readStatement : ByteArray := prog_5_method_9_code
def yX3_readStatement : MethodName := ⟨RX3, "readStatement", "(LReadOutAlongTheWay$Lane;)V"⟩
abbrev cX3_readHouses : ByteArray := prog_5_method_10_code
def yX3_readHouses : MethodName := ⟨RX3, "readHouses", "(LReadOutAlongTheWay$Lane;)V"⟩
abbrev cX3_readLetter : ByteArray := prog_5_method_11_code
def yX3_readLetter : MethodName := ⟨RX3, "readLetter", "(LReadOutAlongTheWay$Lane;)V"⟩
abbrev cX3_readIntoHouse : ByteArray := prog_5_method_12_code
def yX3_readIntoHouse : MethodName := ⟨RX3, "readIntoHouse", "(LReadOutAlongTheWay$Lane;[I)V"⟩
abbrev cX3_readCode : ByteArray := prog_5_method_13_code
def yX3_readCode : MethodName := ⟨RX3, "readCode", "(LReadOutAlongTheWay$Lane;)V"⟩
abbrev cX3_readCold : ByteArray := prog_5_method_14_code
def yX3_readCold : MethodName := ⟨RX3, "readCold", "(LReadOutAlongTheWay$Lane;)V"⟩
abbrev cX3_readNumber : ByteArray := prog_5_method_15_code
def yX3_readNumber : MethodName := ⟨RX3, "readNumber", "(II)I"⟩
abbrev cX3_step : ByteArray := prog_5_method_16_code
def yX3_step : MethodName := ⟨RX3, "step", "()V"⟩
abbrev cX3_sortAt : ByteArray := prog_5_method_17_code
def yX3_sortAt : MethodName := ⟨RX3, "sortAt", "(I)I"⟩
abbrev cX3_isWord : ByteArray := prog_5_method_18_code
def yX3_isWord : MethodName := ⟨RX3, "isWord", "(Ljava/lang/String;)Z"⟩
def RX4 : String := "ReadOutAlongTheWay"
def TX4 : u_T := fun k => match k with
  | 0 => ("ReadOutAlongTheWay", "now", "LReadOutAlongTheWay$Lane;", true)
  | 1 => ("ReadOutAlongTheWay", "kept", "LReadOutAlongTheWay$Lane;", true)
  | 2 => ("ReadOutAlongTheWay", "guess", "LReadOutAlongTheWay$Guess;", true)
  | 3 => ("ReadOutAlongTheWay", "shelves", "[LReadOutAlongTheWay$Shelf;", true)
  | 4 => ("ReadOutAlongTheWay", "tape", "LReadOutAlongTheWay$Tape;", true)
  | 5 => ("ReadOutAlongTheWay", "refusals", "[I", true)
  | _ => ("ReadOutAlongTheWay", "isKept", "Z", false)
def tyX4 : Nat → FieldType := fun k => match k with
  | 0 => .object "ReadOutAlongTheWay$Lane"
  | 1 => .object "ReadOutAlongTheWay$Lane"
  | 2 => .object "ReadOutAlongTheWay$Guess"
  | 3 => .array (.object "ReadOutAlongTheWay$Shelf")
  | 4 => .object "ReadOutAlongTheWay$Tape"
  | 5 => .array .int
  | _ => .boolean
abbrev wsX40 : List Cond := u_ws RX4 TX4 7
theorem nmX4 : ∀ a, a < 7 → ∀ b, b < 7 → a ≠ b → (TX4 a).2.1 ≠ (TX4 b).2.1 := by decide +kernel
theorem tyX4_ok : ∀ k, k < 7 → parseFieldDescriptor (TX4 k).2.2.1 = some (tyX4 k) := by decide +kernel
abbrev cX4_init : ByteArray := prog_1_method_1_code
def yX4_init : MethodName := ⟨RX4, "<init>", "()V"⟩
abbrev cX4_row : ByteArray := prog_1_method_2_code
def yX4_row : MethodName := ⟨RX4, "row", "(III)I"⟩
abbrev cX4_set : ByteArray := prog_1_method_3_code
def yX4_set : MethodName := ⟨RX4, "set", "(IIJ)I"⟩
abbrev cX4_copy : ByteArray := prog_1_method_4_code
def yX4_copy : MethodName := ⟨RX4, "copy", "(IIIII)I"⟩
abbrev cX4_element : ByteArray := prog_1_method_5_code
def yX4_element : MethodName := ⟨RX4, "element", "(II)J"⟩
abbrev cX4_holds : ByteArray := prog_1_method_6_code
def yX4_holds : MethodName := ⟨RX4, "holds", "(I)I"⟩
abbrev cX4_show : ByteArray := prog_1_method_7_code
def yX4_show : MethodName := ⟨RX4, "show", "(II)I"⟩
abbrev cX4_says : ByteArray := prog_1_method_8_code
def yX4_says : MethodName := ⟨RX4, "says", "(II)I"⟩
abbrev cX4_houses : ByteArray := prog_1_method_9_code
def yX4_houses : MethodName := ⟨RX4, "houses", "(I)I"⟩
abbrev cX4_letter : ByteArray := prog_1_method_10_code
def yX4_letter : MethodName := ⟨RX4, "letter", "(IIII)I"⟩
abbrev cX4_mend : ByteArray := prog_1_method_11_code
def yX4_mend : MethodName := ⟨RX4, "mend", "(III)I"⟩
abbrev cX4_tell : ByteArray := prog_1_method_12_code
def yX4_tell : MethodName := ⟨RX4, "tell", "(III)I"⟩
abbrev cX4_code : ByteArray := prog_1_method_13_code
def yX4_code : MethodName := ⟨RX4, "code", "(IIZ)I"⟩
abbrev cX4_cold : ByteArray := prog_1_method_14_code
def yX4_cold : MethodName := ⟨RX4, "cold", "(I)I"⟩
abbrev cX4_way : ByteArray := prog_1_method_15_code
def yX4_way : MethodName := ⟨RX4, "way", "(Z)I"⟩
abbrev cX4_feed : ByteArray := prog_1_method_16_code
def yX4_feed : MethodName := ⟨RX4, "feed", "(I)I"⟩
abbrev cX4_wipe : ByteArray := prog_1_method_17_code
def yX4_wipe : MethodName := ⟨RX4, "wipe", "()I"⟩
abbrev cX4_lane : ByteArray := prog_1_method_18_code
def yX4_lane : MethodName := ⟨RX4, "lane", "()I"⟩
abbrev cX4_letterOf : ByteArray := prog_1_method_19_code
def yX4_letterOf : MethodName := ⟨RX4, "letterOf", "(II)I"⟩
abbrev cX4_houseOf : ByteArray := prog_1_method_20_code
def yX4_houseOf : MethodName := ⟨RX4, "houseOf", "(II)I"⟩
abbrev cX4_heard : ByteArray := prog_1_method_21_code
def yX4_heard : MethodName := ⟨RX4, "heard", "(II)I"⟩
abbrev cX4_isRead : ByteArray := prog_1_method_22_code
def yX4_isRead : MethodName := ⟨RX4, "isRead", "(II)I"⟩
abbrev cX4_whoKnows : ByteArray := prog_1_method_23_code
def yX4_whoKnows : MethodName := ⟨RX4, "whoKnows", "(I)I"⟩
abbrev cX4_knows : ByteArray := prog_1_method_24_code
def yX4_knows : MethodName := ⟨RX4, "knows", "(I)I"⟩
abbrev cX4_first : ByteArray := prog_1_method_25_code
def yX4_first : MethodName := ⟨RX4, "first", "(II)I"⟩
abbrev cX4_loudest : ByteArray := prog_1_method_26_code
def yX4_loudest : MethodName := ⟨RX4, "loudest", "(I)I"⟩
abbrev cX4_words : ByteArray := prog_1_method_27_code
def yX4_words : MethodName := ⟨RX4, "words", "(I)I"⟩
abbrev cX4_best : ByteArray := prog_1_method_28_code
def yX4_best : MethodName := ⟨RX4, "best", "(I)I"⟩
abbrev cX4_address : ByteArray := prog_1_method_29_code
def yX4_address : MethodName := ⟨RX4, "address", "(II)I"⟩
abbrev cX4_hush : ByteArray := prog_1_method_30_code
def yX4_hush : MethodName := ⟨RX4, "hush", "(III)I"⟩
abbrev cX4_seal : ByteArray := prog_1_method_31_code
def yX4_seal : MethodName := ⟨RX4, "seal", "(II)I"⟩
abbrev cX4_shout : ByteArray := prog_1_method_32_code
def yX4_shout : MethodName := ⟨RX4, "shout", "(II)I"⟩
abbrev cX4_lengths : ByteArray := prog_1_method_33_code
def yX4_lengths : MethodName := ⟨RX4, "lengths", "(IIII)I"⟩
abbrev cX4_fits : ByteArray := prog_1_method_34_code
def yX4_fits : MethodName := ⟨RX4, "fits", "(IIII)I"⟩
abbrev cX4_ask : ByteArray := prog_1_method_35_code
def yX4_ask : MethodName := ⟨RX4, "ask", "(III)I"⟩
abbrev cX4_winds : ByteArray := prog_1_method_36_code
def yX4_winds : MethodName := ⟨RX4, "winds", "(III)I"⟩
abbrev cX4_pour : ByteArray := prog_1_method_37_code
def yX4_pour : MethodName := ⟨RX4, "pour", "(IIIII)I"⟩
abbrev cX4_answer : ByteArray := prog_1_method_38_code
def yX4_answer : MethodName := ⟨RX4, "answer", "(IIIII)I"⟩
abbrev cX4_chance : ByteArray := prog_1_method_39_code
def yX4_chance : MethodName := ⟨RX4, "chance", "(II)I"⟩
abbrev cX4_sure : ByteArray := prog_1_method_40_code
def yX4_sure : MethodName := ⟨RX4, "sure", "(I)I"⟩
abbrev cX4_turned : ByteArray := prog_1_method_41_code
def yX4_turned : MethodName := ⟨RX4, "turned", "(I)I"⟩
abbrev cX4_gossips : ByteArray := prog_1_method_42_code
def yX4_gossips : MethodName := ⟨RX4, "gossips", "()I"⟩
abbrev cX4_colds : ByteArray := prog_1_method_43_code
def yX4_colds : MethodName := ⟨RX4, "colds", "(II)I"⟩
abbrev cX4_widest : ByteArray := prog_1_method_44_code
def yX4_widest : MethodName := ⟨RX4, "widest", "(II)I"⟩
abbrev cX4_wise : ByteArray := prog_1_method_45_code
def yX4_wise : MethodName := ⟨RX4, "wise", "()I"⟩
abbrev cX4_secret : ByteArray := prog_1_method_46_code
def yX4_secret : MethodName := ⟨RX4, "secret", "()I"⟩
abbrev cX4_lost : ByteArray := prog_1_method_47_code
def yX4_lost : MethodName := ⟨RX4, "lost", "()I"⟩
abbrev cX4_reach : ByteArray := prog_1_method_48_code
def yX4_reach : MethodName := ⟨RX4, "reach", "(II)I"⟩
abbrev cX4_lacks : ByteArray := prog_1_method_49_code
def yX4_lacks : MethodName := ⟨RX4, "lacks", "(II)I"⟩
abbrev cX4_alike : ByteArray := prog_1_method_50_code
def yX4_alike : MethodName := ⟨RX4, "alike", "(II)I"⟩
abbrev cX4_quiet : ByteArray := prog_1_method_51_code
def yX4_quiet : MethodName := ⟨RX4, "quiet", "(I)I"⟩
abbrev cX4_sober : ByteArray := prog_1_method_52_code
def yX4_sober : MethodName := ⟨RX4, "sober", "(I)I"⟩
abbrev cX4_thirst : ByteArray := prog_1_method_53_code
def yX4_thirst : MethodName := ⟨RX4, "thirst", "(I)I"⟩
abbrev cX4_taught : ByteArray := prog_1_method_54_code
def yX4_taught : MethodName := ⟨RX4, "taught", "(II)I"⟩
abbrev cX4_merry : ByteArray := prog_1_method_55_code
def yX4_merry : MethodName := ⟨RX4, "merry", "(I)I"⟩
abbrev cX4_common : ByteArray := prog_1_method_56_code
def yX4_common : MethodName := ⟨RX4, "common", "(II)I"⟩
abbrev cX4_doubt : ByteArray := prog_1_method_57_code
def yX4_doubt : MethodName := ⟨RX4, "doubt", "(I)I"⟩
abbrev cX4_ofKind : ByteArray := prog_1_method_58_code
def yX4_ofKind : MethodName := ⟨RX4, "ofKind", "(I)I"⟩
abbrev cX4_judge : ByteArray := prog_1_method_59_code
def yX4_judge : MethodName := ⟨RX4, "judge", "(II)I"⟩
abbrev cX4_round : ByteArray := prog_1_method_60_code
def yX4_round : MethodName := ⟨RX4, "round", "(Z)I"⟩
abbrev cX4_days : ByteArray := prog_1_method_61_code
def yX4_days : MethodName := ⟨RX4, "days", "(I)I"⟩
abbrev cX4_seed : ByteArray := prog_1_method_62_code
def yX4_seed : MethodName := ⟨RX4, "seed", "(I)I"⟩
abbrev cX4_image : ByteArray := prog_1_method_63_code
def yX4_image : MethodName := ⟨RX4, "image", "()I"⟩
abbrev cX4_back : ByteArray := prog_1_method_64_code
def yX4_back : MethodName := ⟨RX4, "back", "()I"⟩
abbrev cX4_status : ByteArray := prog_1_method_65_code
def yX4_status : MethodName := ⟨RX4, "status", "(I)I"⟩
abbrev cX4_refuse : ByteArray := prog_1_method_66_code
def yX4_refuse : MethodName := ⟨RX4, "refuse", "(I)I"⟩
abbrev cX4_outside : ByteArray := prog_1_method_67_code
def yX4_outside : MethodName := ⟨RX4, "outside", "(III)Z"⟩
abbrev cX4_noShelf : ByteArray := prog_1_method_68_code
def yX4_noShelf : MethodName := ⟨RX4, "noShelf", "(I)Z"⟩
abbrev cX4_noHouse : ByteArray := prog_1_method_69_code
def yX4_noHouse : MethodName := ⟨RX4, "noHouse", "(I)Z"⟩
abbrev cX4_noLetter : ByteArray := prog_1_method_70_code
def yX4_noLetter : MethodName := ⟨RX4, "noLetter", "(I)Z"⟩
abbrev cX4_noKind : ByteArray := prog_1_method_71_code
def yX4_noKind : MethodName := ⟨RX4, "noKind", "(I)Z"⟩
abbrev cX4_noSet : ByteArray := prog_1_method_72_code
def yX4_noSet : MethodName := ⟨RX4, "noSet", "(I)Z"⟩
abbrev cX4_noPouring : ByteArray := prog_1_method_73_code
def yX4_noPouring : MethodName := ⟨RX4, "noPouring", "(IIII)Z"⟩
abbrev cX4_toldFault : ByteArray := prog_1_method_74_code
def yX4_toldFault : MethodName := ⟨RX4, "toldFault", "(IIIZ)I"⟩
abbrev cX4_isOrStandsUnder : ByteArray := prog_1_method_75_code
def yX4_isOrStandsUnder : MethodName := ⟨RX4, "isOrStandsUnder", "(II)Z"⟩
abbrev cX4_asNumber : ByteArray := prog_1_method_76_code
def yX4_asNumber : MethodName := ⟨RX4, "asNumber", "(Z)I"⟩
abbrev cX4_dropMissingLetters : ByteArray := prog_1_method_77_code
def yX4_dropMissingLetters : MethodName := ⟨RX4, "dropMissingLetters", "()V"⟩
abbrev cX4_shelvesInUse : ByteArray := prog_1_method_78_code
def yX4_shelvesInUse : MethodName := ⟨RX4, "shelvesInUse", "()I"⟩
def RX5 : String := "ReadOutAlongTheWayModel"
def TX5 : u_T := fun k => match k with
  | 0 => ("ReadOutAlongTheWayModel", "shelf", "[I", true)
  | 1 => ("ReadOutAlongTheWayModel", "rowSort", "[I", true)
  | 2 => ("ReadOutAlongTheWayModel", "rowSize", "[I", true)
  | 3 => ("ReadOutAlongTheWayModel", "rows", "[[J", true)
  | 4 => ("ReadOutAlongTheWayModel", "moved", "[J", true)
  | 5 => ("ReadOutAlongTheWayModel", "shown", "[I", true)
  | 6 => ("ReadOutAlongTheWayModel", "tape", "[I", true)
  | 7 => ("ReadOutAlongTheWayModel", "tapeSize", "I", false)
  | 8 => ("ReadOutAlongTheWayModel", "refused", "[I", true)
  | 9 => ("ReadOutAlongTheWayModel", "houses", "I", false)
  | 10 => ("ReadOutAlongTheWayModel", "wind", "[I", true)
  | 11 => ("ReadOutAlongTheWayModel", "drink", "[I", true)
  | 12 => ("ReadOutAlongTheWayModel", "codes", "[I", true)
  | 13 => ("ReadOutAlongTheWayModel", "ears", "[I", true)
  | 14 => ("ReadOutAlongTheWayModel", "cold", "I", false)
  | 15 => ("ReadOutAlongTheWayModel", "backward", "Z", false)
  | 16 => ("ReadOutAlongTheWayModel", "gone", "I", false)
  | 17 => ("ReadOutAlongTheWayModel", "letters", "I", false)
  | 18 => ("ReadOutAlongTheWayModel", "kind", "[I", true)
  | 19 => ("ReadOutAlongTheWayModel", "by", "[I", true)
  | 20 => ("ReadOutAlongTheWayModel", "to", "[I", true)
  | 21 => ("ReadOutAlongTheWayModel", "length", "[I", true)
  | 22 => ("ReadOutAlongTheWayModel", "seed", "I", false)
  | 23 => ("ReadOutAlongTheWayModel", "kept", "LReadOutAlongTheWayModel;", false)
  | 24 => ("ReadOutAlongTheWayModel", "tried", "LReadOutAlongTheWayModel;", false)
  | 25 => ("ReadOutAlongTheWayModel", "at", "I", false)
  | 26 => ("ReadOutAlongTheWayModel", "token", "I", false)
  | 27 => ("ReadOutAlongTheWayModel", "from", "I", false)
  | 28 => ("ReadOutAlongTheWayModel", "figures", "I", false)
  | 29 => ("ReadOutAlongTheWayModel", "fault", "I", false)
  | 30 => ("ReadOutAlongTheWayModel", "told", "[I", true)
  | 31 => ("ReadOutAlongTheWayModel", "statements", "I", false)
  | 32 => ("ReadOutAlongTheWayModel", "hushMore", "I", false)
  | 33 => ("ReadOutAlongTheWayModel", "hushWhere", "I", false)
  | 34 => ("ReadOutAlongTheWayModel", "poured", "[I", true)
  | 35 => ("ReadOutAlongTheWayModel", "may", "[Z", true)
  | 36 => ("ReadOutAlongTheWayModel", "mayBe", "I", false)
  | 37 => ("ReadOutAlongTheWayModel", "least", "I", false)
  | 38 => ("ReadOutAlongTheWayModel", "greatest", "I", false)
  | 39 => ("ReadOutAlongTheWayModel", "heardBy", "[I", true)
  | _ => ("ReadOutAlongTheWayModel", "answered", "I", false)
def tyX5 : Nat → FieldType := fun k => match k with
  | 0 => .array .int
  | 1 => .array .int
  | 2 => .array .int
  | 3 => .array (.array .long)
  | 4 => .array .long
  | 5 => .array .int
  | 6 => .array .int
  | 7 => .int
  | 8 => .array .int
  | 9 => .int
  | 10 => .array .int
  | 11 => .array .int
  | 12 => .array .int
  | 13 => .array .int
  | 14 => .int
  | 15 => .boolean
  | 16 => .int
  | 17 => .int
  | 18 => .array .int
  | 19 => .array .int
  | 20 => .array .int
  | 21 => .array .int
  | 22 => .int
  | 23 => .object "ReadOutAlongTheWayModel"
  | 24 => .object "ReadOutAlongTheWayModel"
  | 25 => .int
  | 26 => .int
  | 27 => .int
  | 28 => .int
  | 29 => .int
  | 30 => .array .int
  | 31 => .int
  | 32 => .int
  | 33 => .int
  | 34 => .array .int
  | 35 => .array .boolean
  | 36 => .int
  | 37 => .int
  | 38 => .int
  | 39 => .array .int
  | _ => .int
abbrev wsX50 : List Cond := u_ws RX5 TX5 41
theorem nmX5 : ∀ a, a < 41 → ∀ b, b < 41 → a ≠ b → (TX5 a).2.1 ≠ (TX5 b).2.1 := by decide +kernel
theorem tyX5_ok : ∀ k, k < 41 → parseFieldDescriptor (TX5 k).2.2.1 = some (tyX5 k) := by decide +kernel
abbrev cX5_init : ByteArray := prog_7_method_1_code
def yX5_init : MethodName := ⟨RX5, "<init>", "()V"⟩
abbrev cX5_refuse : ByteArray := prog_7_method_2_code
def yX5_refuse : MethodName := ⟨RX5, "refuse", "(I)I"⟩
abbrev cX5_in : ByteArray := prog_7_method_3_code
def yX5_in : MethodName := ⟨RX5, "in", "(JJJ)Z"⟩
abbrev cX5_isHouse : ByteArray := prog_7_method_4_code
def yX5_isHouse : MethodName := ⟨RX5, "isHouse", "(I)Z"⟩
abbrev cX5_isLetter : ByteArray := prog_7_method_5_code
def yX5_isLetter : MethodName := ⟨RX5, "isLetter", "(J)Z"⟩
abbrev cX5_bits : ByteArray := prog_7_method_6_code
def yX5_bits : MethodName := ⟨RX5, "bits", "(I)I"⟩
abbrev cX5_row : ByteArray := prog_7_method_7_code
def yX5_row : MethodName := ⟨RX5, "row", "(III)I"⟩
abbrev cX5_fit : ByteArray := prog_7_method_8_code
def yX5_fit : MethodName := ⟨RX5, "fit", "(IJ)J"⟩
abbrev cX5_noRow : ByteArray := prog_7_method_9_code
def yX5_noRow : MethodName := ⟨RX5, "noRow", "(I)I"⟩
abbrev cX5_set : ByteArray := prog_7_method_10_code
def yX5_set : MethodName := ⟨RX5, "set", "(IIJ)I"⟩
abbrev cX5_copy : ByteArray := prog_7_method_11_code
def yX5_copy : MethodName := ⟨RX5, "copy", "(IIIII)I"⟩
abbrev cX5_element : ByteArray := prog_7_method_12_code
def yX5_element : MethodName := ⟨RX5, "element", "(II)J"⟩
abbrev cX5_holds : ByteArray := prog_7_method_13_code
def yX5_holds : MethodName := ⟨RX5, "holds", "(I)I"⟩
abbrev cX5_show : ByteArray := prog_7_method_14_code
def yX5_show : MethodName := ⟨RX5, "show", "(II)I"⟩
abbrev cX5_isUnder : ByteArray := prog_7_method_15_code
def yX5_isUnder : MethodName := ⟨RX5, "isUnder", "(II)Z"⟩
abbrev cX5_says : ByteArray := prog_7_method_16_code
def yX5_says : MethodName := ⟨RX5, "says", "(II)I"⟩
abbrev cX5_addLetter : ByteArray := prog_7_method_17_code
def yX5_addLetter : MethodName := ⟨RX5, "addLetter", "(IIII)V"⟩
abbrev cX5_houses : ByteArray := prog_7_method_18_code
def yX5_houses : MethodName := ⟨RX5, "houses", "(I)I"⟩
abbrev cX5_letter : ByteArray := prog_7_method_19_code
def yX5_letter : MethodName := ⟨RX5, "letter", "(IIII)I"⟩
abbrev cX5_mend : ByteArray := prog_7_method_20_code
def yX5_mend : MethodName := ⟨RX5, "mend", "(III)I"⟩
abbrev cX5_tell : ByteArray := prog_7_method_21_code
def yX5_tell : MethodName := ⟨RX5, "tell", "(III)I"⟩
abbrev cX5_setCode : ByteArray := prog_7_method_22_code
def yX5_setCode : MethodName := ⟨RX5, "setCode", "(IIZ)V"⟩
abbrev cX5_code : ByteArray := prog_7_method_23_code
def yX5_code : MethodName := ⟨RX5, "code", "(IIZ)I"⟩
abbrev cX5_cold : ByteArray := prog_7_method_24_code
def yX5_cold : MethodName := ⟨RX5, "cold", "(I)I"⟩
abbrev cX5_way : ByteArray := prog_7_method_25_code
def yX5_way : MethodName := ⟨RX5, "way", "(Z)I"⟩
abbrev cX5_feed : ByteArray := prog_7_method_26_code
def yX5_feed : MethodName := ⟨RX5, "feed", "(I)I"⟩
abbrev cX5_wipe : ByteArray := prog_7_method_27_code
def yX5_wipe : MethodName := ⟨RX5, "wipe", "()I"⟩
abbrev cX5_isLower : ByteArray := prog_7_method_28_code
def yX5_isLower : MethodName := ⟨RX5, "isLower", "(I)Z"⟩
abbrev cX5_isDigit : ByteArray := prog_7_method_29_code
def yX5_isDigit : MethodName := ⟨RX5, "isDigit", "(I)Z"⟩
abbrev cX5_look : ByteArray := prog_7_method_30_code
def yX5_look : MethodName := ⟨RX5, "look", "()V"⟩
abbrev cX5_wrong : ByteArray := prog_7_method_31_code
def yX5_wrong : MethodName := ⟨RX5, "wrong", "()Z"⟩
abbrev cX5_isWord : ByteArray := prog_7_method_32_code
def yX5_isWord : MethodName := ⟨RX5, "isWord", "(Ljava/lang/String;)Z"⟩
abbrev cX5_number : ByteArray := prog_7_method_33_code
def yX5_number : MethodName := ⟨RX5, "number", "(III)Z"⟩
abbrev cX5_tells : ByteArray := prog_7_method_34_code
def yX5_tells : MethodName := ⟨RX5, "tells", "(II)Z"⟩
abbrev cX5_tellsLetter : ByteArray := prog_7_method_35_code
def yX5_tellsLetter : MethodName := ⟨RX5, "tellsLetter", "()Z"⟩
abbrev cX5_tellsHouse : ByteArray := prog_7_method_36_code
def yX5_tellsHouse : MethodName := ⟨RX5, "tellsHouse", "()Z"⟩
abbrev cX5_statement : ByteArray := prog_7_method_37_code
def yX5_statement : MethodName := ⟨RX5, "statement", "()Z"⟩
abbrev cX5_readAll : ByteArray := prog_7_method_38_code
def yX5_readAll : MethodName := ⟨RX5, "readAll", "()Z"⟩
abbrev cX5_lane : ByteArray := prog_7_method_39_code
def yX5_lane : MethodName := ⟨RX5, "lane", "()I"⟩
abbrev cX5_letterOf : ByteArray := prog_7_method_40_code
def yX5_letterOf : MethodName := ⟨RX5, "letterOf", "(II)I"⟩
abbrev cX5_tipsy : ByteArray := prog_7_method_41_code
def yX5_tipsy : MethodName := ⟨RX5, "tipsy", "(I)I"⟩
abbrev cX5_leftOut : ByteArray := prog_7_method_42_code
def yX5_leftOut : MethodName := ⟨RX5, "leftOut", "(I)I"⟩
abbrev cX5_readAt : ByteArray := prog_7_method_43_code
def yX5_readAt : MethodName := ⟨RX5, "readAt", "(II)Z"⟩
abbrev cX5_held : ByteArray := prog_7_method_44_code
def yX5_held : MethodName := ⟨RX5, "held", "(II)I"⟩
abbrev cX5_heardAt : ByteArray := prog_7_method_45_code
def yX5_heardAt : MethodName := ⟨RX5, "heardAt", "(II)I"⟩
abbrev cX5_knowsOf : ByteArray := prog_7_method_46_code
def yX5_knowsOf : MethodName := ⟨RX5, "knowsOf", "(II)Z"⟩
abbrev cX5_knowers : ByteArray := prog_7_method_47_code
def yX5_knowers : MethodName := ⟨RX5, "knowers", "(I)I"⟩
abbrev cX5_knownAt : ByteArray := prog_7_method_48_code
def yX5_knownAt : MethodName := ⟨RX5, "knownAt", "(I)I"⟩
abbrev cX5_wordsAt : ByteArray := prog_7_method_49_code
def yX5_wordsAt : MethodName := ⟨RX5, "wordsAt", "(I)I"⟩
abbrev cX5_houseOf : ByteArray := prog_7_method_50_code
def yX5_houseOf : MethodName := ⟨RX5, "houseOf", "(II)I"⟩
abbrev cX5_areBoth : ByteArray := prog_7_method_51_code
def yX5_areBoth : MethodName := ⟨RX5, "areBoth", "(II)Z"⟩
abbrev cX5_heard : ByteArray := prog_7_method_52_code
def yX5_heard : MethodName := ⟨RX5, "heard", "(II)I"⟩
abbrev cX5_isRead : ByteArray := prog_7_method_53_code
def yX5_isRead : MethodName := ⟨RX5, "isRead", "(II)I"⟩
abbrev cX5_whoKnows : ByteArray := prog_7_method_54_code
def yX5_whoKnows : MethodName := ⟨RX5, "whoKnows", "(I)I"⟩
abbrev cX5_knows : ByteArray := prog_7_method_55_code
def yX5_knows : MethodName := ⟨RX5, "knows", "(I)I"⟩
abbrev cX5_words : ByteArray := prog_7_method_56_code
def yX5_words : MethodName := ⟨RX5, "words", "(I)I"⟩
abbrev cX5_common : ByteArray := prog_7_method_57_code
def yX5_common : MethodName := ⟨RX5, "common", "(II)I"⟩
abbrev cX5_alike : ByteArray := prog_7_method_58_code
def yX5_alike : MethodName := ⟨RX5, "alike", "(II)I"⟩
abbrev cX5_ofKind : ByteArray := prog_7_method_59_code
def yX5_ofKind : MethodName := ⟨RX5, "ofKind", "(I)I"⟩
abbrev cX5_lacks : ByteArray := prog_7_method_60_code
def yX5_lacks : MethodName := ⟨RX5, "lacks", "(II)I"⟩
abbrev cX5_doubt : ByteArray := prog_7_method_61_code
def yX5_doubt : MethodName := ⟨RX5, "doubt", "(I)I"⟩
abbrev cX5_reach : ByteArray := prog_7_method_62_code
def yX5_reach : MethodName := ⟨RX5, "reach", "(II)I"⟩
abbrev cX5_first : ByteArray := prog_7_method_63_code
def yX5_first : MethodName := ⟨RX5, "first", "(II)I"⟩
abbrev cX5_loudest : ByteArray := prog_7_method_64_code
def yX5_loudest : MethodName := ⟨RX5, "loudest", "(I)I"⟩
abbrev cX5_best : ByteArray := prog_7_method_65_code
def yX5_best : MethodName := ⟨RX5, "best", "(I)I"⟩
abbrev cX5_wise : ByteArray := prog_7_method_66_code
def yX5_wise : MethodName := ⟨RX5, "wise", "()I"⟩
abbrev cX5_secret : ByteArray := prog_7_method_67_code
def yX5_secret : MethodName := ⟨RX5, "secret", "()I"⟩
abbrev cX5_lost : ByteArray := prog_7_method_68_code
def yX5_lost : MethodName := ⟨RX5, "lost", "()I"⟩
abbrev cX5_gossips : ByteArray := prog_7_method_69_code
def yX5_gossips : MethodName := ⟨RX5, "gossips", "()I"⟩
abbrev cX5_isSet : ByteArray := prog_7_method_70_code
def yX5_isSet : MethodName := ⟨RX5, "isSet", "(I)Z"⟩
abbrev cX5_address : ByteArray := prog_7_method_71_code
def yX5_address : MethodName := ⟨RX5, "address", "(II)I"⟩
abbrev cX5_widest : ByteArray := prog_7_method_72_code
def yX5_widest : MethodName := ⟨RX5, "widest", "(II)I"⟩
abbrev cX5_seal : ByteArray := prog_7_method_73_code
def yX5_seal : MethodName := ⟨RX5, "seal", "(II)I"⟩
abbrev cX5_shout : ByteArray := prog_7_method_74_code
def yX5_shout : MethodName := ⟨RX5, "shout", "(II)I"⟩
abbrev cX5_isHushed : ByteArray := prog_7_method_75_code
def yX5_isHushed : MethodName := ⟨RX5, "isHushed", "(II)Z"⟩
abbrev cX5_findHush : ByteArray := prog_7_method_76_code
def yX5_findHush : MethodName := ⟨RX5, "findHush", "(II)V"⟩
abbrev cX5_hush : ByteArray := prog_7_method_77_code
def yX5_hush : MethodName := ⟨RX5, "hush", "(III)I"⟩
abbrev cX5_turned : ByteArray := prog_7_method_78_code
def yX5_turned : MethodName := ⟨RX5, "turned", "(I)I"⟩
abbrev cX5_colds : ByteArray := prog_7_method_79_code
def yX5_colds : MethodName := ⟨RX5, "colds", "(II)I"⟩
abbrev cX5_quiet : ByteArray := prog_7_method_80_code
def yX5_quiet : MethodName := ⟨RX5, "quiet", "(I)I"⟩
abbrev cX5_sober : ByteArray := prog_7_method_81_code
def yX5_sober : MethodName := ⟨RX5, "sober", "(I)I"⟩
abbrev cX5_knowersTogether : ByteArray := prog_7_method_82_code
def yX5_knowersTogether : MethodName := ⟨RX5, "knowersTogether", "()I"⟩
abbrev cX5_thirst : ByteArray := prog_7_method_83_code
def yX5_thirst : MethodName := ⟨RX5, "thirst", "(I)I"⟩
abbrev cX5_taught : ByteArray := prog_7_method_84_code
def yX5_taught : MethodName := ⟨RX5, "taught", "(II)I"⟩
abbrev cX5_merry : ByteArray := prog_7_method_85_code
def yX5_merry : MethodName := ⟨RX5, "merry", "(I)I"⟩
abbrev cX5_noSounds : ByteArray := prog_7_method_86_code
def yX5_noSounds : MethodName := ⟨RX5, "noSounds", "(IIIZ)I"⟩
abbrev cX5_sounds : ByteArray := prog_7_method_87_code
def yX5_sounds : MethodName := ⟨RX5, "sounds", "(III)Z"⟩
abbrev cX5_findLengths : ByteArray := prog_7_method_88_code
def yX5_findLengths : MethodName := ⟨RX5, "findLengths", "(III)V"⟩
abbrev cX5_lengths : ByteArray := prog_7_method_89_code
def yX5_lengths : MethodName := ⟨RX5, "lengths", "(IIII)I"⟩
abbrev cX5_fits : ByteArray := prog_7_method_90_code
def yX5_fits : MethodName := ⟨RX5, "fits", "(IIII)I"⟩
abbrev cX5_worstAt : ByteArray := prog_7_method_91_code
def yX5_worstAt : MethodName := ⟨RX5, "worstAt", "(II)I"⟩
abbrev cX5_ask : ByteArray := prog_7_method_92_code
def yX5_ask : MethodName := ⟨RX5, "ask", "(III)I"⟩
abbrev cX5_winds : ByteArray := prog_7_method_93_code
def yX5_winds : MethodName := ⟨RX5, "winds", "(III)I"⟩
abbrev cX5_leastHeard : ByteArray := prog_7_method_94_code
def yX5_leastHeard : MethodName := ⟨RX5, "leastHeard", "(III)I"⟩
abbrev cX5_mayPour : ByteArray := prog_7_method_95_code
def yX5_mayPour : MethodName := ⟨RX5, "mayPour", "(IIII)Z"⟩
abbrev cX5_pour : ByteArray := prog_7_method_96_code
def yX5_pour : MethodName := ⟨RX5, "pour", "(IIIII)I"⟩
abbrev cX5_answer : ByteArray := prog_7_method_97_code
def yX5_answer : MethodName := ⟨RX5, "answer", "(IIIII)I"⟩
abbrev cX5_knowsBy : ByteArray := prog_7_method_98_code
def yX5_knowsBy : MethodName := ⟨RX5, "knowsBy", "(II)I"⟩
abbrev cX5_chance : ByteArray := prog_7_method_99_code
def yX5_chance : MethodName := ⟨RX5, "chance", "(II)I"⟩
abbrev cX5_sure : ByteArray := prog_7_method_100_code
def yX5_sure : MethodName := ⟨RX5, "sure", "(I)I"⟩
abbrev cX5_judge : ByteArray := prog_7_method_101_code
def yX5_judge : MethodName := ⟨RX5, "judge", "(II)I"⟩
abbrev cX5_goesRound : ByteArray := prog_7_method_102_code
def yX5_goesRound : MethodName := ⟨RX5, "goesRound", "()V"⟩
abbrev cX5_earsTogether : ByteArray := prog_7_method_103_code
def yX5_earsTogether : MethodName := ⟨RX5, "earsTogether", "()I"⟩
abbrev cX5_shelvesFollow : ByteArray := prog_7_method_104_code
def yX5_shelvesFollow : MethodName := ⟨RX5, "shelvesFollow", "()V"⟩
abbrev cX5_round : ByteArray := prog_7_method_105_code
def yX5_round : MethodName := ⟨RX5, "round", "(Z)I"⟩
abbrev cX5_below : ByteArray := prog_7_method_106_code
def yX5_below : MethodName := ⟨RX5, "below", "(I)I"⟩
abbrev cX5_days : ByteArray := prog_7_method_107_code
def yX5_days : MethodName := ⟨RX5, "days", "(I)I"⟩
abbrev cX5_seed : ByteArray := prog_7_method_108_code
def yX5_seed : MethodName := ⟨RX5, "seed", "(I)I"⟩
abbrev cX5_copied : ByteArray := prog_7_method_109_code
def yX5_copied : MethodName := ⟨RX5, "copied", "([I[I)V"⟩
abbrev cX5_takeFrom : ByteArray := prog_7_method_110_code
def yX5_takeFrom : MethodName := ⟨RX5, "takeFrom", "(LReadOutAlongTheWayModel;)V"⟩
abbrev cX5_image : ByteArray := prog_7_method_111_code
def yX5_image : MethodName := ⟨RX5, "image", "()I"⟩
abbrev cX5_back : ByteArray := prog_7_method_112_code
def yX5_back : MethodName := ⟨RX5, "back", "()I"⟩
abbrev cX5_status : ByteArray := prog_7_method_113_code
def yX5_status : MethodName := ⟨RX5, "status", "(I)I"⟩
def RJ6 : String := "java/lang/Integer"
def TJ6 : u_T := fun k => match k with
  | _ => ("", "", "", false)
def tyJ6 : Nat → FieldType := fun k => match k with
  | _ => .int
abbrev wsJ60 : List Cond := u_ws RJ6 TJ6 0
theorem nmJ6 : ∀ a, a < 0 → ∀ b, b < 0 → a ≠ b → (TJ6 a).2.1 ≠ (TJ6 b).2.1 := by decide +kernel
theorem tyJ6_ok : ∀ k, k < 0 → parseFieldDescriptor (TJ6 k).2.2.1 = some (tyJ6 k) := by decide +kernel
abbrev cJ6_bitCount_0f7a4 : ByteArray := prog_8_method_49_code
def yJ6_bitCount_0f7a4 : MethodName := ⟨RJ6, "bitCount", "(I)I"⟩
def RJ9 : String := "java/lang/Math"
def TJ9 : u_T := fun k => match k with
  | _ => ("", "", "", false)
def tyJ9 : Nat → FieldType := fun k => match k with
  | _ => .int
abbrev wsJ90 : List Cond := u_ws RJ9 TJ9 0
theorem nmJ9 : ∀ a, a < 0 → ∀ b, b < 0 → a ≠ b → (TJ9 a).2.1 ≠ (TJ9 b).2.1 := by decide +kernel
theorem tyJ9_ok : ∀ k, k < 0 → parseFieldDescriptor (TJ9 k).2.2.1 = some (tyJ9 k) := by decide +kernel
abbrev cJ9_abs_0f7a4 : ByteArray := prog_9_method_59_code
def yJ9_abs_0f7a4 : MethodName := ⟨RJ9, "abs", "(I)I"⟩
abbrev cJ9_max_7cf53 : ByteArray := prog_9_method_65_code
def yJ9_max_7cf53 : MethodName := ⟨RJ9, "max", "(II)I"⟩
def RJ0 : String := "java/lang/String"
def TJ0 : u_T := fun k => match k with
  | _ => ("", "", "", false)
def tyJ0 : Nat → FieldType := fun k => match k with
  | _ => .int
abbrev wsJ00 : List Cond := u_ws RJ0 TJ0 0
theorem nmJ0 : ∀ a, a < 0 → ∀ b, b < 0 → a ≠ b → (TJ0 a).2.1 ≠ (TJ0 b).2.1 := by decide +kernel
theorem tyJ0_ok : ∀ k, k < 0 → parseFieldDescriptor (TJ0 k).2.2.1 = some (tyJ0 k) := by decide +kernel
abbrev cJ0_length_8abf5 : ByteArray := prog_10_method_54_code
def yJ0_length_8abf5 : MethodName := ⟨RJ0, "length", "()I"⟩
abbrev cJ0_charAt_5068e : ByteArray := prog_10_method_56_code
def yJ0_charAt_5068e : MethodName := ⟨RJ0, "charAt", "(I)C"⟩
abbrev cJ0_coder_7d493 : ByteArray := prog_10_method_152_code
def yJ0_coder_7d493 : MethodName := ⟨RJ0, "coder", "()B"⟩
abbrev cJ0_isLatin1_aae02 : ByteArray := prog_10_method_154_code
def yJ0_isLatin1_aae02 : MethodName := ⟨RJ0, "isLatin1", "()Z"⟩
abbrev cJ0_checkIndex_df160 : ByteArray := prog_10_method_155_code
def yJ0_checkIndex_df160 : MethodName := ⟨RJ0, "checkIndex", "(II)V"⟩
def RJ1 : String := "java/lang/StringLatin1"
def TJ1 : u_T := fun k => match k with
  | _ => ("", "", "", false)
def tyJ1 : Nat → FieldType := fun k => match k with
  | _ => .int
abbrev wsJ10 : List Cond := u_ws RJ1 TJ1 0
theorem nmJ1 : ∀ a, a < 0 → ∀ b, b < 0 → a ≠ b → (TJ1 a).2.1 ≠ (TJ1 b).2.1 := by decide +kernel
theorem tyJ1_ok : ∀ k, k < 0 → parseFieldDescriptor (TJ1 k).2.2.1 = some (tyJ1 k) := by decide +kernel
abbrev cJ1_charAt_3b067 : ByteArray := prog_11_method_2_code
def yJ1_charAt_3b067 : MethodName := ⟨RJ1, "charAt", "([BI)C"⟩
def RJ2 : String := "java/lang/StringUTF16"
def TJ2 : u_T := fun k => match k with
  | _ => ("", "", "", false)
def tyJ2 : Nat → FieldType := fun k => match k with
  | _ => .int
abbrev wsJ20 : List Cond := u_ws RJ2 TJ2 0
theorem nmJ2 : ∀ a, a < 0 → ∀ b, b < 0 → a ≠ b → (TJ2 a).2.1 ≠ (TJ2 b).2.1 := by decide +kernel
theorem tyJ2_ok : ∀ k, k < 0 → parseFieldDescriptor (TJ2 k).2.2.1 = some (tyJ2 k) := by decide +kernel
abbrev cJ2_getChar_3b067 : ByteArray := prog_12_method_5_code
def yJ2_getChar_3b067 : MethodName := ⟨RJ2, "getChar", "([BI)C"⟩
abbrev cJ2_length_9d52b : ByteArray := prog_12_method_6_code
def yJ2_length_9d52b : MethodName := ⟨RJ2, "length", "([B)I"⟩
abbrev cJ2_charAt_3b067 : ByteArray := prog_12_method_83_code
def yJ2_charAt_3b067 : MethodName := ⟨RJ2, "charAt", "([BI)C"⟩
abbrev cJ2_checkIndex_2214a : ByteArray := prog_12_method_91_code
def yJ2_checkIndex_2214a : MethodName := ⟨RJ2, "checkIndex", "(I[B)V"⟩
def RJ10 : String := "java/lang/System"
def TJ10 : u_T := fun k => match k with
  | _ => ("", "", "", false)
def tyJ10 : Nat → FieldType := fun k => match k with
  | _ => .int
abbrev wsJ100 : List Cond := u_ws RJ10 TJ10 0
theorem nmJ10 : ∀ a, a < 0 → ∀ b, b < 0 → a ≠ b → (TJ10 a).2.1 ≠ (TJ10 b).2.1 := by decide +kernel
theorem tyJ10_ok : ∀ k, k < 0 → parseFieldDescriptor (TJ10 k).2.2.1 = some (tyJ10 k) := by decide +kernel
def RJ3 : String := "jdk/internal/util/Preconditions"
def TJ3 : u_T := fun k => match k with
  | _ => ("", "", "", false)
def tyJ3 : Nat → FieldType := fun k => match k with
  | _ => .int
abbrev wsJ30 : List Cond := u_ws RJ3 TJ3 0
theorem nmJ3 : ∀ a, a < 0 → ∀ b, b < 0 → a ≠ b → (TJ3 a).2.1 ≠ (TJ3 b).2.1 := by decide +kernel
theorem tyJ3_ok : ∀ k, k < 0 → parseFieldDescriptor (TJ3 k).2.2.1 = some (tyJ3 k) := by decide +kernel
abbrev cJ3_checkIndex_8e157 : ByteArray := prog_14_method_11_code
def yJ3_checkIndex_8e157 : MethodName := ⟨RJ3, "checkIndex", "(IILjava/util/function/BiFunction;)I"⟩
def RL : String := "ReadOutAlongTheWayLaw"
abbrev cL_law : ByteArray := code
def yL_law : MethodName := ⟨RL, "law", "([I)Z"⟩
abbrev vwCl : List vw_C := [(RX0, TX0, 3), (RX1, TX1, 14), (RX2, TX2, 3), (RX3, TX3, 6), (RX4, TX4, 7), (RX5, TX5, 41)]
