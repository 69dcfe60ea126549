section
-- ===== PART A: goes FIRST, ahead of the names: the tables' words, and 'selects' of the private methods out of them =====
/-- a private method of a class that the tables say can be made, by its rows of tables_1 -/
def lw_okq (q : MethodName × Nat) : Prop := (q.1.cls ≠ "java/lang/invoke/MethodHandle" ∧ q.1.cls ≠ "java/lang/invoke/VarHandle") ∧ Cond.instantiable q.1.cls q.2 ∈ tables_1 ∧ Cond.privateMethod q.1 ∈ tables_1 ∧ Cond.instanceMethod q.1 ∈ tables_1
theorem lw_p0 : lw_okq (⟨"InASackToTheRope", "refuse", "(I)I"⟩, 14) := ⟨⟨by decide +kernel, by decide +kernel⟩, List.mem_of_getElem? (i := 19) (by decide +kernel), List.mem_of_getElem? (i := 352) (by decide +kernel), List.mem_of_getElem? (i := 353) (by decide +kernel)⟩
theorem lw_p1 : lw_okq (⟨"InASackToTheRope", "whyNoRow", "(I)I"⟩, 14) := ⟨⟨by decide +kernel, by decide +kernel⟩, List.mem_of_getElem? (i := 19) (by decide +kernel), List.mem_of_getElem? (i := 367) (by decide +kernel), List.mem_of_getElem? (i := 368) (by decide +kernel)⟩
theorem lw_p2 : lw_okq (⟨"InASackToTheRope$Shelf", "lowest", "(J)J"⟩, 3) := ⟨⟨by decide +kernel, by decide +kernel⟩, List.mem_of_getElem? (i := 281) (by decide +kernel), List.mem_of_getElem? (i := 388) (by decide +kernel), List.mem_of_getElem? (i := 389) (by decide +kernel)⟩
theorem lw_p3 : lw_okq (⟨"InASackToTheRope", "saysAs", "(II)I"⟩, 14) := ⟨⟨by decide +kernel, by decide +kernel⟩, List.mem_of_getElem? (i := 19) (by decide +kernel), List.mem_of_getElem? (i := 442) (by decide +kernel), List.mem_of_getElem? (i := 443) (by decide +kernel)⟩
theorem lw_p4 : lw_okq (⟨"InASackToTheRope$Reader", "readItem", "(LInASackToTheRope$Shelf;LInASackToTheRope$Field;)V"⟩, 3) := ⟨⟨by decide +kernel, by decide +kernel⟩, List.mem_of_getElem? (i := 212) (by decide +kernel), List.mem_of_getElem? (i := 547) (by decide +kernel), List.mem_of_getElem? (i := 548) (by decide +kernel)⟩
theorem lw_p5 : lw_okq (⟨"InASackToTheRope$Reader", "readWord", "(LInASackToTheRope$Shelf;)I"⟩, 3) := ⟨⟨by decide +kernel, by decide +kernel⟩, List.mem_of_getElem? (i := 212) (by decide +kernel), List.mem_of_getElem? (i := 551) (by decide +kernel), List.mem_of_getElem? (i := 552) (by decide +kernel)⟩
theorem lw_p6 : lw_okq (⟨"InASackToTheRope$Reader", "lettersAlike", "(LInASackToTheRope$Shelf;Ljava/lang/String;)I"⟩, 3) := ⟨⟨by decide +kernel, by decide +kernel⟩, List.mem_of_getElem? (i := 212) (by decide +kernel), List.mem_of_getElem? (i := 566) (by decide +kernel), List.mem_of_getElem? (i := 567) (by decide +kernel)⟩
theorem lw_p7 : lw_okq (⟨"InASackToTheRope$Reader", "readNumber", "(LInASackToTheRope$Shelf;III)V"⟩, 3) := ⟨⟨by decide +kernel, by decide +kernel⟩, List.mem_of_getElem? (i := 212) (by decide +kernel), List.mem_of_getElem? (i := 639) (by decide +kernel), List.mem_of_getElem? (i := 640) (by decide +kernel)⟩
theorem lw_p8 : lw_okq (⟨"InASackToTheRope$Reader", "tell", "(LInASackToTheRope$Field;I)V"⟩, 3) := ⟨⟨by decide +kernel, by decide +kernel⟩, List.mem_of_getElem? (i := 212) (by decide +kernel), List.mem_of_getElem? (i := 646) (by decide +kernel), List.mem_of_getElem? (i := 647) (by decide +kernel)⟩
theorem lw_p9 : lw_okq (⟨"InASackToTheRope$Racer", "goASecond", "()V"⟩, 16) := ⟨⟨by decide +kernel, by decide +kernel⟩, List.mem_of_getElem? (i := 141) (by decide +kernel), List.mem_of_getElem? (i := 667) (by decide +kernel), List.mem_of_getElem? (i := 668) (by decide +kernel)⟩
theorem lw_p10 : lw_okq (⟨"InASackToTheRope", "timeOf", "(I)I"⟩, 14) := ⟨⟨by decide +kernel, by decide +kernel⟩, List.mem_of_getElem? (i := 19) (by decide +kernel), List.mem_of_getElem? (i := 690) (by decide +kernel), List.mem_of_getElem? (i := 691) (by decide +kernel)⟩
theorem lw_p11 : lw_okq (⟨"InASackToTheRope", "timeAll", "()V"⟩, 14) := ⟨⟨by decide +kernel, by decide +kernel⟩, List.mem_of_getElem? (i := 19) (by decide +kernel), List.mem_of_getElem? (i := 708) (by decide +kernel), List.mem_of_getElem? (i := 709) (by decide +kernel)⟩
theorem lw_p12 : lw_okq (⟨"InASackToTheRope", "winner", "()I"⟩, 14) := ⟨⟨by decide +kernel, by decide +kernel⟩, List.mem_of_getElem? (i := 19) (by decide +kernel), List.mem_of_getElem? (i := 712) (by decide +kernel), List.mem_of_getElem? (i := 713) (by decide +kernel)⟩
theorem lw_p13 : lw_okq (⟨"InASackToTheRope", "leadOf", "(I)I"⟩, 14) := ⟨⟨by decide +kernel, by decide +kernel⟩, List.mem_of_getElem? (i := 19) (by decide +kernel), List.mem_of_getElem? (i := 716) (by decide +kernel), List.mem_of_getElem? (i := 717) (by decide +kernel)⟩
theorem lw_p14 : lw_okq (⟨"InASackToTheRope", "bestKind", "(I)I"⟩, 14) := ⟨⟨by decide +kernel, by decide +kernel⟩, List.mem_of_getElem? (i := 19) (by decide +kernel), List.mem_of_getElem? (i := 725) (by decide +kernel), List.mem_of_getElem? (i := 726) (by decide +kernel)⟩
theorem lw_p15 : lw_okq (⟨"InASackToTheRope", "timeAs", "(II)I"⟩, 14) := ⟨⟨by decide +kernel, by decide +kernel⟩, List.mem_of_getElem? (i := 19) (by decide +kernel), List.mem_of_getElem? (i := 729) (by decide +kernel), List.mem_of_getElem? (i := 730) (by decide +kernel)⟩
def lw_privs_1 : List (MethodName × Nat) := [(⟨"InASackToTheRope", "refuse", "(I)I"⟩, 14), (⟨"InASackToTheRope", "whyNoRow", "(I)I"⟩, 14), (⟨"InASackToTheRope$Shelf", "lowest", "(J)J"⟩, 3), (⟨"InASackToTheRope", "saysAs", "(II)I"⟩, 14), (⟨"InASackToTheRope$Reader", "readItem", "(LInASackToTheRope$Shelf;LInASackToTheRope$Field;)V"⟩, 3), (⟨"InASackToTheRope$Reader", "readWord", "(LInASackToTheRope$Shelf;)I"⟩, 3), (⟨"InASackToTheRope$Reader", "lettersAlike", "(LInASackToTheRope$Shelf;Ljava/lang/String;)I"⟩, 3), (⟨"InASackToTheRope$Reader", "readNumber", "(LInASackToTheRope$Shelf;III)V"⟩, 3), (⟨"InASackToTheRope$Reader", "tell", "(LInASackToTheRope$Field;I)V"⟩, 3), (⟨"InASackToTheRope$Racer", "goASecond", "()V"⟩, 16), (⟨"InASackToTheRope", "timeOf", "(I)I"⟩, 14), (⟨"InASackToTheRope", "timeAll", "()V"⟩, 14), (⟨"InASackToTheRope", "winner", "()I"⟩, 14), (⟨"InASackToTheRope", "leadOf", "(I)I"⟩, 14), (⟨"InASackToTheRope", "bestKind", "(I)I"⟩, 14), (⟨"InASackToTheRope", "timeAs", "(II)I"⟩, 14)]
theorem lw_r1 : ∀ q ∈ lw_privs_1, lw_okq q := List.forall_mem_cons.mpr ⟨lw_p0, List.forall_mem_cons.mpr ⟨lw_p1, List.forall_mem_cons.mpr ⟨lw_p2, List.forall_mem_cons.mpr ⟨lw_p3, List.forall_mem_cons.mpr ⟨lw_p4, List.forall_mem_cons.mpr ⟨lw_p5, List.forall_mem_cons.mpr ⟨lw_p6, List.forall_mem_cons.mpr ⟨lw_p7, List.forall_mem_cons.mpr ⟨lw_p8, List.forall_mem_cons.mpr ⟨lw_p9, List.forall_mem_cons.mpr ⟨lw_p10, List.forall_mem_cons.mpr ⟨lw_p11, List.forall_mem_cons.mpr ⟨lw_p12, List.forall_mem_cons.mpr ⟨lw_p13, List.forall_mem_cons.mpr ⟨lw_p14, List.forall_mem_cons.mpr ⟨lw_p15, fun _ h => absurd h List.not_mem_nil⟩⟩⟩⟩⟩⟩⟩⟩⟩⟩⟩⟩⟩⟩⟩⟩
theorem lw_p16 : lw_okq (⟨"InASackToTheRope", "bestSack", "(I)I"⟩, 14) := ⟨⟨by decide +kernel, by decide +kernel⟩, List.mem_of_getElem? (i := 19) (by decide +kernel), List.mem_of_getElem? (i := 733) (by decide +kernel), List.mem_of_getElem? (i := 734) (by decide +kernel)⟩
theorem lw_p17 : lw_okq (⟨"InASackToTheRope", "timeIn", "(II)I"⟩, 14) := ⟨⟨by decide +kernel, by decide +kernel⟩, List.mem_of_getElem? (i := 19) (by decide +kernel), List.mem_of_getElem? (i := 737) (by decide +kernel), List.mem_of_getElem? (i := 738) (by decide +kernel)⟩
theorem lw_p18 : lw_okq (⟨"InASackToTheRope", "timeRolling", "(IZ)I"⟩, 14) := ⟨⟨by decide +kernel, by decide +kernel⟩, List.mem_of_getElem? (i := 19) (by decide +kernel), List.mem_of_getElem? (i := 741) (by decide +kernel), List.mem_of_getElem? (i := 742) (by decide +kernel)⟩
theorem lw_p19 : lw_okq (⟨"InASackToTheRope", "timeOfTwo", "(III)I"⟩, 14) := ⟨⟨by decide +kernel, by decide +kernel⟩, List.mem_of_getElem? (i := 19) (by decide +kernel), List.mem_of_getElem? (i := 768) (by decide +kernel), List.mem_of_getElem? (i := 769) (by decide +kernel)⟩
theorem lw_p20 : lw_okq (⟨"InASackToTheRope", "leastAhead", "(II)I"⟩, 14) := ⟨⟨by decide +kernel, by decide +kernel⟩, List.mem_of_getElem? (i := 19) (by decide +kernel), List.mem_of_getElem? (i := 781) (by decide +kernel), List.mem_of_getElem? (i := 782) (by decide +kernel)⟩
theorem lw_p21 : lw_okq (⟨"InASackToTheRope", "heatsOfRound", "(II)I"⟩, 14) := ⟨⟨by decide +kernel, by decide +kernel⟩, List.mem_of_getElem? (i := 19) (by decide +kernel), List.mem_of_getElem? (i := 797) (by decide +kernel), List.mem_of_getElem? (i := 798) (by decide +kernel)⟩
theorem lw_p22 : lw_okq (⟨"InASackToTheRope", "wrongIn", "(LInASackToTheRope$Shelf;I)I"⟩, 14) := ⟨⟨by decide +kernel, by decide +kernel⟩, List.mem_of_getElem? (i := 19) (by decide +kernel), List.mem_of_getElem? (i := 813) (by decide +kernel), List.mem_of_getElem? (i := 814) (by decide +kernel)⟩
theorem lw_p23 : lw_okq (⟨"InASackToTheRope", "allAsTold", "(LInASackToTheRope$Shelf;I)Z"⟩, 14) := ⟨⟨by decide +kernel, by decide +kernel⟩, List.mem_of_getElem? (i := 19) (by decide +kernel), List.mem_of_getElem? (i := 822) (by decide +kernel), List.mem_of_getElem? (i := 823) (by decide +kernel)⟩
theorem lw_p24 : lw_okq (⟨"InASackToTheRope", "raceInTruth", "()I"⟩, 14) := ⟨⟨by decide +kernel, by decide +kernel⟩, List.mem_of_getElem? (i := 19) (by decide +kernel), List.mem_of_getElem? (i := 834) (by decide +kernel), List.mem_of_getElem? (i := 835) (by decide +kernel)⟩
theorem lw_p25 : lw_okq (⟨"InASackToTheRope", "secondInTruth", "()I"⟩, 14) := ⟨⟨by decide +kernel, by decide +kernel⟩, List.mem_of_getElem? (i := 19) (by decide +kernel), List.mem_of_getElem? (i := 838) (by decide +kernel), List.mem_of_getElem? (i := 839) (by decide +kernel)⟩
theorem lw_p26 : lw_okq (⟨"InASackToTheRope", "firstInTruth", "()I"⟩, 14) := ⟨⟨by decide +kernel, by decide +kernel⟩, List.mem_of_getElem? (i := 19) (by decide +kernel), List.mem_of_getElem? (i := 850) (by decide +kernel), List.mem_of_getElem? (i := 851) (by decide +kernel)⟩
theorem lw_p27 : lw_okq (⟨"InASackToTheRope$Moves", "note", "(I)V"⟩, 5) := ⟨⟨by decide +kernel, by decide +kernel⟩, List.mem_of_getElem? (i := 259) (by decide +kernel), List.mem_of_getElem? (i := 885) (by decide +kernel), List.mem_of_getElem? (i := 886) (by decide +kernel)⟩
theorem lw_p28 : lw_okq (⟨"InASackToTheRopeModel", "isShelf", "(I)Z"⟩, 59) := ⟨⟨by decide +kernel, by decide +kernel⟩, List.mem_of_getElem? (i := 909) (by decide +kernel), List.mem_of_getElem? (i := 1097) (by decide +kernel), List.mem_of_getElem? (i := 1098) (by decide +kernel)⟩
theorem lw_p29 : lw_okq (⟨"InASackToTheRopeModel", "no", "(I)I"⟩, 59) := ⟨⟨by decide +kernel, by decide +kernel⟩, List.mem_of_getElem? (i := 909) (by decide +kernel), List.mem_of_getElem? (i := 1101) (by decide +kernel), List.mem_of_getElem? (i := 1102) (by decide +kernel)⟩
theorem lw_p30 : lw_okq (⟨"InASackToTheRopeModel", "isChild", "(I)Z"⟩, 59) := ⟨⟨by decide +kernel, by decide +kernel⟩, List.mem_of_getElem? (i := 909) (by decide +kernel), List.mem_of_getElem? (i := 1121) (by decide +kernel), List.mem_of_getElem? (i := 1122) (by decide +kernel)⟩
theorem lw_p31 : lw_okq (⟨"InASackToTheRopeModel", "puts", "(I)V"⟩, 59) := ⟨⟨by decide +kernel, by decide +kernel⟩, List.mem_of_getElem? (i := 909) (by decide +kernel), List.mem_of_getElem? (i := 1133) (by decide +kernel), List.mem_of_getElem? (i := 1134) (by decide +kernel)⟩
def lw_privs_2 : List (MethodName × Nat) := [(⟨"InASackToTheRope", "bestSack", "(I)I"⟩, 14), (⟨"InASackToTheRope", "timeIn", "(II)I"⟩, 14), (⟨"InASackToTheRope", "timeRolling", "(IZ)I"⟩, 14), (⟨"InASackToTheRope", "timeOfTwo", "(III)I"⟩, 14), (⟨"InASackToTheRope", "leastAhead", "(II)I"⟩, 14), (⟨"InASackToTheRope", "heatsOfRound", "(II)I"⟩, 14), (⟨"InASackToTheRope", "wrongIn", "(LInASackToTheRope$Shelf;I)I"⟩, 14), (⟨"InASackToTheRope", "allAsTold", "(LInASackToTheRope$Shelf;I)Z"⟩, 14), (⟨"InASackToTheRope", "raceInTruth", "()I"⟩, 14), (⟨"InASackToTheRope", "secondInTruth", "()I"⟩, 14), (⟨"InASackToTheRope", "firstInTruth", "()I"⟩, 14), (⟨"InASackToTheRope$Moves", "note", "(I)V"⟩, 5), (⟨"InASackToTheRopeModel", "isShelf", "(I)Z"⟩, 59), (⟨"InASackToTheRopeModel", "no", "(I)I"⟩, 59), (⟨"InASackToTheRopeModel", "isChild", "(I)Z"⟩, 59), (⟨"InASackToTheRopeModel", "puts", "(I)V"⟩, 59)]
theorem lw_r2 : ∀ q ∈ lw_privs_2, lw_okq q := List.forall_mem_cons.mpr ⟨lw_p16, List.forall_mem_cons.mpr ⟨lw_p17, List.forall_mem_cons.mpr ⟨lw_p18, List.forall_mem_cons.mpr ⟨lw_p19, List.forall_mem_cons.mpr ⟨lw_p20, List.forall_mem_cons.mpr ⟨lw_p21, List.forall_mem_cons.mpr ⟨lw_p22, List.forall_mem_cons.mpr ⟨lw_p23, List.forall_mem_cons.mpr ⟨lw_p24, List.forall_mem_cons.mpr ⟨lw_p25, List.forall_mem_cons.mpr ⟨lw_p26, List.forall_mem_cons.mpr ⟨lw_p27, List.forall_mem_cons.mpr ⟨lw_p28, List.forall_mem_cons.mpr ⟨lw_p29, List.forall_mem_cons.mpr ⟨lw_p30, List.forall_mem_cons.mpr ⟨lw_p31, fun _ h => absurd h List.not_mem_nil⟩⟩⟩⟩⟩⟩⟩⟩⟩⟩⟩⟩⟩⟩⟩⟩
theorem lw_p32 : lw_okq (⟨"InASackToTheRopeModel", "putsIn", "(I)V"⟩, 59) := ⟨⟨by decide +kernel, by decide +kernel⟩, List.mem_of_getElem? (i := 909) (by decide +kernel), List.mem_of_getElem? (i := 1137) (by decide +kernel), List.mem_of_getElem? (i := 1138) (by decide +kernel)⟩
theorem lw_p33 : lw_okq (⟨"InASackToTheRopeModel", "abs", "(I)I"⟩, 59) := ⟨⟨by decide +kernel, by decide +kernel⟩, List.mem_of_getElem? (i := 909) (by decide +kernel), List.mem_of_getElem? (i := 1141) (by decide +kernel), List.mem_of_getElem? (i := 1142) (by decide +kernel)⟩
theorem lw_p34 : lw_okq (⟨"InASackToTheRopeModel", "puff", "()I"⟩, 59) := ⟨⟨by decide +kernel, by decide +kernel⟩, List.mem_of_getElem? (i := 909) (by decide +kernel), List.mem_of_getElem? (i := 1145) (by decide +kernel), List.mem_of_getElem? (i := 1146) (by decide +kernel)⟩
theorem lw_p35 : lw_okq (⟨"InASackToTheRopeModel", "stride", "()I"⟩, 59) := ⟨⟨by decide +kernel, by decide +kernel⟩, List.mem_of_getElem? (i := 909) (by decide +kernel), List.mem_of_getElem? (i := 1149) (by decide +kernel), List.mem_of_getElem? (i := 1150) (by decide +kernel)⟩
theorem lw_p36 : lw_okq (⟨"InASackToTheRopeModel", "one", "(I)I"⟩, 59) := ⟨⟨by decide +kernel, by decide +kernel⟩, List.mem_of_getElem? (i := 909) (by decide +kernel), List.mem_of_getElem? (i := 1153) (by decide +kernel), List.mem_of_getElem? (i := 1154) (by decide +kernel)⟩
theorem lw_p37 : lw_okq (⟨"InASackToTheRopeModel", "risk", "()I"⟩, 59) := ⟨⟨by decide +kernel, by decide +kernel⟩, List.mem_of_getElem? (i := 909) (by decide +kernel), List.mem_of_getElem? (i := 1157) (by decide +kernel), List.mem_of_getElem? (i := 1158) (by decide +kernel)⟩
theorem lw_p38 : lw_okq (⟨"InASackToTheRopeModel", "addsChild", "(III)I"⟩, 59) := ⟨⟨by decide +kernel, by decide +kernel⟩, List.mem_of_getElem? (i := 909) (by decide +kernel), List.mem_of_getElem? (i := 1165) (by decide +kernel), List.mem_of_getElem? (i := 1166) (by decide +kernel)⟩
theorem lw_p39 : lw_okq (⟨"InASackToTheRopeModel", "addsSack", "(II)I"⟩, 59) := ⟨⟨by decide +kernel, by decide +kernel⟩, List.mem_of_getElem? (i := 909) (by decide +kernel), List.mem_of_getElem? (i := 1173) (by decide +kernel), List.mem_of_getElem? (i := 1174) (by decide +kernel)⟩
theorem lw_p40 : lw_okq (⟨"InASackToTheRopeModel", "isSack", "(I)Z"⟩, 59) := ⟨⟨by decide +kernel, by decide +kernel⟩, List.mem_of_getElem? (i := 909) (by decide +kernel), List.mem_of_getElem? (i := 1185) (by decide +kernel), List.mem_of_getElem? (i := 1186) (by decide +kernel)⟩
theorem lw_p41 : lw_okq (⟨"InASackToTheRopeModel", "isAsked", "(II)Z"⟩, 59) := ⟨⟨by decide +kernel, by decide +kernel⟩, List.mem_of_getElem? (i := 909) (by decide +kernel), List.mem_of_getElem? (i := 1201) (by decide +kernel), List.mem_of_getElem? (i := 1202) (by decide +kernel)⟩
theorem lw_p42 : lw_okq (⟨"InASackToTheRopeModel", "told", "(I)I"⟩, 59) := ⟨⟨by decide +kernel, by decide +kernel⟩, List.mem_of_getElem? (i := 909) (by decide +kernel), List.mem_of_getElem? (i := 1205) (by decide +kernel), List.mem_of_getElem? (i := 1206) (by decide +kernel)⟩
theorem lw_p43 : lw_okq (⟨"InASackToTheRopeModel", "tells", "(II)V"⟩, 59) := ⟨⟨by decide +kernel, by decide +kernel⟩, List.mem_of_getElem? (i := 909) (by decide +kernel), List.mem_of_getElem? (i := 1209) (by decide +kernel), List.mem_of_getElem? (i := 1210) (by decide +kernel)⟩
theorem lw_p44 : lw_okq (⟨"InASackToTheRopeModel", "wanted", "(I)I"⟩, 59) := ⟨⟨by decide +kernel, by decide +kernel⟩, List.mem_of_getElem? (i := 909) (by decide +kernel), List.mem_of_getElem? (i := 1221) (by decide +kernel), List.mem_of_getElem? (i := 1222) (by decide +kernel)⟩
theorem lw_p45 : lw_okq (⟨"InASackToTheRopeModel", "all", "([IZ)V"⟩, 59) := ⟨⟨by decide +kernel, by decide +kernel⟩, List.mem_of_getElem? (i := 909) (by decide +kernel), List.mem_of_getElem? (i := 1225) (by decide +kernel), List.mem_of_getElem? (i := 1226) (by decide +kernel)⟩
theorem lw_p46 : lw_okq (⟨"InASackToTheRopeModel", "carries", "([I[IIZ)I"⟩, 59) := ⟨⟨by decide +kernel, by decide +kernel⟩, List.mem_of_getElem? (i := 909) (by decide +kernel), List.mem_of_getElem? (i := 1229) (by decide +kernel), List.mem_of_getElem? (i := 1230) (by decide +kernel)⟩
theorem lw_p47 : lw_okq (⟨"InASackToTheRopeModel", "item", "()Z"⟩, 59) := ⟨⟨by decide +kernel, by decide +kernel⟩, List.mem_of_getElem? (i := 909) (by decide +kernel), List.mem_of_getElem? (i := 1233) (by decide +kernel), List.mem_of_getElem? (i := 1234) (by decide +kernel)⟩
def lw_privs_3 : List (MethodName × Nat) := [(⟨"InASackToTheRopeModel", "putsIn", "(I)V"⟩, 59), (⟨"InASackToTheRopeModel", "abs", "(I)I"⟩, 59), (⟨"InASackToTheRopeModel", "puff", "()I"⟩, 59), (⟨"InASackToTheRopeModel", "stride", "()I"⟩, 59), (⟨"InASackToTheRopeModel", "one", "(I)I"⟩, 59), (⟨"InASackToTheRopeModel", "risk", "()I"⟩, 59), (⟨"InASackToTheRopeModel", "addsChild", "(III)I"⟩, 59), (⟨"InASackToTheRopeModel", "addsSack", "(II)I"⟩, 59), (⟨"InASackToTheRopeModel", "isSack", "(I)Z"⟩, 59), (⟨"InASackToTheRopeModel", "isAsked", "(II)Z"⟩, 59), (⟨"InASackToTheRopeModel", "told", "(I)I"⟩, 59), (⟨"InASackToTheRopeModel", "tells", "(II)V"⟩, 59), (⟨"InASackToTheRopeModel", "wanted", "(I)I"⟩, 59), (⟨"InASackToTheRopeModel", "all", "([IZ)V"⟩, 59), (⟨"InASackToTheRopeModel", "carries", "([I[IIZ)I"⟩, 59), (⟨"InASackToTheRopeModel", "item", "()Z"⟩, 59)]
theorem lw_r3 : ∀ q ∈ lw_privs_3, lw_okq q := List.forall_mem_cons.mpr ⟨lw_p32, List.forall_mem_cons.mpr ⟨lw_p33, List.forall_mem_cons.mpr ⟨lw_p34, List.forall_mem_cons.mpr ⟨lw_p35, List.forall_mem_cons.mpr ⟨lw_p36, List.forall_mem_cons.mpr ⟨lw_p37, List.forall_mem_cons.mpr ⟨lw_p38, List.forall_mem_cons.mpr ⟨lw_p39, List.forall_mem_cons.mpr ⟨lw_p40, List.forall_mem_cons.mpr ⟨lw_p41, List.forall_mem_cons.mpr ⟨lw_p42, List.forall_mem_cons.mpr ⟨lw_p43, List.forall_mem_cons.mpr ⟨lw_p44, List.forall_mem_cons.mpr ⟨lw_p45, List.forall_mem_cons.mpr ⟨lw_p46, List.forall_mem_cons.mpr ⟨lw_p47, fun _ h => absurd h List.not_mem_nil⟩⟩⟩⟩⟩⟩⟩⟩⟩⟩⟩⟩⟩⟩⟩⟩
theorem lw_p48 : lw_okq (⟨"InASackToTheRopeModel", "stands", "(I)Z"⟩, 59) := ⟨⟨by decide +kernel, by decide +kernel⟩, List.mem_of_getElem? (i := 909) (by decide +kernel), List.mem_of_getElem? (i := 1237) (by decide +kernel), List.mem_of_getElem? (i := 1238) (by decide +kernel)⟩
theorem lw_p49 : lw_okq (⟨"InASackToTheRopeModel", "wrong", "(I)Z"⟩, 59) := ⟨⟨by decide +kernel, by decide +kernel⟩, List.mem_of_getElem? (i := 909) (by decide +kernel), List.mem_of_getElem? (i := 1241) (by decide +kernel), List.mem_of_getElem? (i := 1242) (by decide +kernel)⟩
theorem lw_p50 : lw_okq (⟨"InASackToTheRopeModel", "word", "()I"⟩, 59) := ⟨⟨by decide +kernel, by decide +kernel⟩, List.mem_of_getElem? (i := 909) (by decide +kernel), List.mem_of_getElem? (i := 1245) (by decide +kernel), List.mem_of_getElem? (i := 1246) (by decide +kernel)⟩
theorem lw_p51 : lw_okq (⟨"InASackToTheRopeModel", "reads", "()Z"⟩, 59) := ⟨⟨by decide +kernel, by decide +kernel⟩, List.mem_of_getElem? (i := 909) (by decide +kernel), List.mem_of_getElem? (i := 1249) (by decide +kernel), List.mem_of_getElem? (i := 1250) (by decide +kernel)⟩
theorem lw_p52 : lw_okq (⟨"InASackToTheRopeModel", "isDigit", "()Z"⟩, 59) := ⟨⟨by decide +kernel, by decide +kernel⟩, List.mem_of_getElem? (i := 909) (by decide +kernel), List.mem_of_getElem? (i := 1253) (by decide +kernel), List.mem_of_getElem? (i := 1254) (by decide +kernel)⟩
theorem lw_p53 : lw_okq (⟨"InASackToTheRopeModel", "isSo", "(II)Z"⟩, 59) := ⟨⟨by decide +kernel, by decide +kernel⟩, List.mem_of_getElem? (i := 909) (by decide +kernel), List.mem_of_getElem? (i := 1257) (by decide +kernel), List.mem_of_getElem? (i := 1258) (by decide +kernel)⟩
theorem lw_p54 : lw_okq (⟨"InASackToTheRopeModel", "starts", "()V"⟩, 59) := ⟨⟨by decide +kernel, by decide +kernel⟩, List.mem_of_getElem? (i := 909) (by decide +kernel), List.mem_of_getElem? (i := 1269) (by decide +kernel), List.mem_of_getElem? (i := 1270) (by decide +kernel)⟩
theorem lw_p55 : lw_okq (⟨"InASackToTheRopeModel", "second", "()V"⟩, 59) := ⟨⟨by decide +kernel, by decide +kernel⟩, List.mem_of_getElem? (i := 909) (by decide +kernel), List.mem_of_getElem? (i := 1273) (by decide +kernel), List.mem_of_getElem? (i := 1274) (by decide +kernel)⟩
theorem lw_p56 : lw_okq (⟨"InASackToTheRopeModel", "rests", "()V"⟩, 59) := ⟨⟨by decide +kernel, by decide +kernel⟩, List.mem_of_getElem? (i := 909) (by decide +kernel), List.mem_of_getElem? (i := 1277) (by decide +kernel), List.mem_of_getElem? (i := 1278) (by decide +kernel)⟩
theorem lw_p57 : lw_okq (⟨"InASackToTheRopeModel", "riskNow", "()I"⟩, 59) := ⟨⟨by decide +kernel, by decide +kernel⟩, List.mem_of_getElem? (i := 909) (by decide +kernel), List.mem_of_getElem? (i := 1281) (by decide +kernel), List.mem_of_getElem? (i := 1282) (by decide +kernel)⟩
theorem lw_p58 : lw_okq (⟨"InASackToTheRopeModel", "puffs", "()V"⟩, 59) := ⟨⟨by decide +kernel, by decide +kernel⟩, List.mem_of_getElem? (i := 909) (by decide +kernel), List.mem_of_getElem? (i := 1285) (by decide +kernel), List.mem_of_getElem? (i := 1286) (by decide +kernel)⟩
theorem lw_p59 : lw_okq (⟨"InASackToTheRopeModel", "falls", "()V"⟩, 59) := ⟨⟨by decide +kernel, by decide +kernel⟩, List.mem_of_getElem? (i := 909) (by decide +kernel), List.mem_of_getElem? (i := 1289) (by decide +kernel), List.mem_of_getElem? (i := 1290) (by decide +kernel)⟩
theorem lw_p60 : lw_okq (⟨"InASackToTheRopeModel", "inOf", "(I)I"⟩, 59) := ⟨⟨by decide +kernel, by decide +kernel⟩, List.mem_of_getElem? (i := 909) (by decide +kernel), List.mem_of_getElem? (i := 1297) (by decide +kernel), List.mem_of_getElem? (i := 1298) (by decide +kernel)⟩
theorem lw_p61 : lw_okq (⟨"InASackToTheRopeModel", "in", "()I"⟩, 59) := ⟨⟨by decide +kernel, by decide +kernel⟩, List.mem_of_getElem? (i := 909) (by decide +kernel), List.mem_of_getElem? (i := 1301) (by decide +kernel), List.mem_of_getElem? (i := 1302) (by decide +kernel)⟩
theorem lw_p62 : lw_okq (⟨"InASackToTheRopeModel", "withRope", "(I)I"⟩, 59) := ⟨⟨by decide +kernel, by decide +kernel⟩, List.mem_of_getElem? (i := 909) (by decide +kernel), List.mem_of_getElem? (i := 1305) (by decide +kernel), List.mem_of_getElem? (i := 1306) (by decide +kernel)⟩
theorem lw_p63 : lw_okq (⟨"InASackToTheRopeModel", "firstIn", "()I"⟩, 59) := ⟨⟨by decide +kernel, by decide +kernel⟩, List.mem_of_getElem? (i := 909) (by decide +kernel), List.mem_of_getElem? (i := 1313) (by decide +kernel), List.mem_of_getElem? (i := 1314) (by decide +kernel)⟩
def lw_privs_4 : List (MethodName × Nat) := [(⟨"InASackToTheRopeModel", "stands", "(I)Z"⟩, 59), (⟨"InASackToTheRopeModel", "wrong", "(I)Z"⟩, 59), (⟨"InASackToTheRopeModel", "word", "()I"⟩, 59), (⟨"InASackToTheRopeModel", "reads", "()Z"⟩, 59), (⟨"InASackToTheRopeModel", "isDigit", "()Z"⟩, 59), (⟨"InASackToTheRopeModel", "isSo", "(II)Z"⟩, 59), (⟨"InASackToTheRopeModel", "starts", "()V"⟩, 59), (⟨"InASackToTheRopeModel", "second", "()V"⟩, 59), (⟨"InASackToTheRopeModel", "rests", "()V"⟩, 59), (⟨"InASackToTheRopeModel", "riskNow", "()I"⟩, 59), (⟨"InASackToTheRopeModel", "puffs", "()V"⟩, 59), (⟨"InASackToTheRopeModel", "falls", "()V"⟩, 59), (⟨"InASackToTheRopeModel", "inOf", "(I)I"⟩, 59), (⟨"InASackToTheRopeModel", "in", "()I"⟩, 59), (⟨"InASackToTheRopeModel", "withRope", "(I)I"⟩, 59), (⟨"InASackToTheRopeModel", "firstIn", "()I"⟩, 59)]
theorem lw_r4 : ∀ q ∈ lw_privs_4, lw_okq q := List.forall_mem_cons.mpr ⟨lw_p48, List.forall_mem_cons.mpr ⟨lw_p49, List.forall_mem_cons.mpr ⟨lw_p50, List.forall_mem_cons.mpr ⟨lw_p51, List.forall_mem_cons.mpr ⟨lw_p52, List.forall_mem_cons.mpr ⟨lw_p53, List.forall_mem_cons.mpr ⟨lw_p54, List.forall_mem_cons.mpr ⟨lw_p55, List.forall_mem_cons.mpr ⟨lw_p56, List.forall_mem_cons.mpr ⟨lw_p57, List.forall_mem_cons.mpr ⟨lw_p58, List.forall_mem_cons.mpr ⟨lw_p59, List.forall_mem_cons.mpr ⟨lw_p60, List.forall_mem_cons.mpr ⟨lw_p61, List.forall_mem_cons.mpr ⟨lw_p62, List.forall_mem_cons.mpr ⟨lw_p63, fun _ h => absurd h List.not_mem_nil⟩⟩⟩⟩⟩⟩⟩⟩⟩⟩⟩⟩⟩⟩⟩⟩
theorem lw_p64 : lw_okq (⟨"InASackToTheRopeModel", "how", "(I)I"⟩, 59) := ⟨⟨by decide +kernel, by decide +kernel⟩, List.mem_of_getElem? (i := 909) (by decide +kernel), List.mem_of_getElem? (i := 1321) (by decide +kernel), List.mem_of_getElem? (i := 1322) (by decide +kernel)⟩
theorem lw_p65 : lw_okq (⟨"InASackToTheRopeModel", "inAs", "(II)I"⟩, 59) := ⟨⟨by decide +kernel, by decide +kernel⟩, List.mem_of_getElem? (i := 909) (by decide +kernel), List.mem_of_getElem? (i := 1325) (by decide +kernel), List.mem_of_getElem? (i := 1326) (by decide +kernel)⟩
theorem lw_p66 : lw_okq (⟨"InASackToTheRopeModel", "bestSack", "(I)I"⟩, 59) := ⟨⟨by decide +kernel, by decide +kernel⟩, List.mem_of_getElem? (i := 909) (by decide +kernel), List.mem_of_getElem? (i := 1329) (by decide +kernel), List.mem_of_getElem? (i := 1330) (by decide +kernel)⟩
theorem lw_p67 : lw_okq (⟨"InASackToTheRopeModel", "inWith", "(II)I"⟩, 59) := ⟨⟨by decide +kernel, by decide +kernel⟩, List.mem_of_getElem? (i := 909) (by decide +kernel), List.mem_of_getElem? (i := 1333) (by decide +kernel), List.mem_of_getElem? (i := 1334) (by decide +kernel)⟩
theorem lw_p68 : lw_okq (⟨"InASackToTheRopeModel", "inRolling", "(II)I"⟩, 59) := ⟨⟨by decide +kernel, by decide +kernel⟩, List.mem_of_getElem? (i := 909) (by decide +kernel), List.mem_of_getElem? (i := 1337) (by decide +kernel), List.mem_of_getElem? (i := 1338) (by decide +kernel)⟩
theorem lw_p69 : lw_okq (⟨"InASackToTheRopeModel", "gives", "(IIIIIII)V"⟩, 59) := ⟨⟨by decide +kernel, by decide +kernel⟩, List.mem_of_getElem? (i := 909) (by decide +kernel), List.mem_of_getElem? (i := 1345) (by decide +kernel), List.mem_of_getElem? (i := 1346) (by decide +kernel)⟩
theorem lw_p70 : lw_okq (⟨"InASackToTheRopeModel", "twoIn", "(III)I"⟩, 59) := ⟨⟨by decide +kernel, by decide +kernel⟩, List.mem_of_getElem? (i := 909) (by decide +kernel), List.mem_of_getElem? (i := 1353) (by decide +kernel), List.mem_of_getElem? (i := 1354) (by decide +kernel)⟩
theorem lw_p71 : lw_okq (⟨"InASackToTheRopeModel", "startOf", "(II)I"⟩, 59) := ⟨⟨by decide +kernel, by decide +kernel⟩, List.mem_of_getElem? (i := 909) (by decide +kernel), List.mem_of_getElem? (i := 1365) (by decide +kernel), List.mem_of_getElem? (i := 1366) (by decide +kernel)⟩
theorem lw_p72 : lw_okq (⟨"InASackToTheRopeModel", "inFrom", "(II)I"⟩, 59) := ⟨⟨by decide +kernel, by decide +kernel⟩, List.mem_of_getElem? (i := 909) (by decide +kernel), List.mem_of_getElem? (i := 1369) (by decide +kernel), List.mem_of_getElem? (i := 1370) (by decide +kernel)⟩
theorem lw_p73 : lw_okq (⟨"InASackToTheRopeModel", "noTen", "(I)I"⟩, 59) := ⟨⟨by decide +kernel, by decide +kernel⟩, List.mem_of_getElem? (i := 909) (by decide +kernel), List.mem_of_getElem? (i := 1373) (by decide +kernel), List.mem_of_getElem? (i := 1374) (by decide +kernel)⟩
theorem lw_p74 : lw_okq (⟨"InASackToTheRopeModel", "intAt", "(II)I"⟩, 59) := ⟨⟨by decide +kernel, by decide +kernel⟩, List.mem_of_getElem? (i := 909) (by decide +kernel), List.mem_of_getElem? (i := 1397) (by decide +kernel), List.mem_of_getElem? (i := 1398) (by decide +kernel)⟩
theorem lw_p75 : lw_okq (⟨"InASackToTheRopeModel", "raced", "()I"⟩, 59) := ⟨⟨by decide +kernel, by decide +kernel⟩, List.mem_of_getElem? (i := 909) (by decide +kernel), List.mem_of_getElem? (i := 1413) (by decide +kernel), List.mem_of_getElem? (i := 1414) (by decide +kernel)⟩
theorem lw_p76 : lw_okq (⟨"InASackToTheRopeModel", "secondInTruth", "()V"⟩, 59) := ⟨⟨by decide +kernel, by decide +kernel⟩, List.mem_of_getElem? (i := 909) (by decide +kernel), List.mem_of_getElem? (i := 1417) (by decide +kernel), List.mem_of_getElem? (i := 1418) (by decide +kernel)⟩
theorem lw_p77 : lw_okq (⟨"InASackToTheRopeModel", "draw", "(I)I"⟩, 59) := ⟨⟨by decide +kernel, by decide +kernel⟩, List.mem_of_getElem? (i := 909) (by decide +kernel), List.mem_of_getElem? (i := 1421) (by decide +kernel), List.mem_of_getElem? (i := 1422) (by decide +kernel)⟩
theorem lw_p78 : lw_okq (⟨"InASackToTheRopeModel", "hopping", "(II)I"⟩, 59) := ⟨⟨by decide +kernel, by decide +kernel⟩, List.mem_of_getElem? (i := 909) (by decide +kernel), List.mem_of_getElem? (i := 1438) (by decide +kernel), List.mem_of_getElem? (i := 1439) (by decide +kernel)⟩
theorem lw_p79 : lw_okq (⟨"InASackToTheRopeModel", "body", "(I)V"⟩, 59) := ⟨⟨by decide +kernel, by decide +kernel⟩, List.mem_of_getElem? (i := 909) (by decide +kernel), List.mem_of_getElem? (i := 1442) (by decide +kernel), List.mem_of_getElem? (i := 1443) (by decide +kernel)⟩
def lw_privs_5 : List (MethodName × Nat) := [(⟨"InASackToTheRopeModel", "how", "(I)I"⟩, 59), (⟨"InASackToTheRopeModel", "inAs", "(II)I"⟩, 59), (⟨"InASackToTheRopeModel", "bestSack", "(I)I"⟩, 59), (⟨"InASackToTheRopeModel", "inWith", "(II)I"⟩, 59), (⟨"InASackToTheRopeModel", "inRolling", "(II)I"⟩, 59), (⟨"InASackToTheRopeModel", "gives", "(IIIIIII)V"⟩, 59), (⟨"InASackToTheRopeModel", "twoIn", "(III)I"⟩, 59), (⟨"InASackToTheRopeModel", "startOf", "(II)I"⟩, 59), (⟨"InASackToTheRopeModel", "inFrom", "(II)I"⟩, 59), (⟨"InASackToTheRopeModel", "noTen", "(I)I"⟩, 59), (⟨"InASackToTheRopeModel", "intAt", "(II)I"⟩, 59), (⟨"InASackToTheRopeModel", "raced", "()I"⟩, 59), (⟨"InASackToTheRopeModel", "secondInTruth", "()V"⟩, 59), (⟨"InASackToTheRopeModel", "draw", "(I)I"⟩, 59), (⟨"InASackToTheRopeModel", "hopping", "(II)I"⟩, 59), (⟨"InASackToTheRopeModel", "body", "(I)V"⟩, 59)]
theorem lw_r5 : ∀ q ∈ lw_privs_5, lw_okq q := List.forall_mem_cons.mpr ⟨lw_p64, List.forall_mem_cons.mpr ⟨lw_p65, List.forall_mem_cons.mpr ⟨lw_p66, List.forall_mem_cons.mpr ⟨lw_p67, List.forall_mem_cons.mpr ⟨lw_p68, List.forall_mem_cons.mpr ⟨lw_p69, List.forall_mem_cons.mpr ⟨lw_p70, List.forall_mem_cons.mpr ⟨lw_p71, List.forall_mem_cons.mpr ⟨lw_p72, List.forall_mem_cons.mpr ⟨lw_p73, List.forall_mem_cons.mpr ⟨lw_p74, List.forall_mem_cons.mpr ⟨lw_p75, List.forall_mem_cons.mpr ⟨lw_p76, List.forall_mem_cons.mpr ⟨lw_p77, List.forall_mem_cons.mpr ⟨lw_p78, List.forall_mem_cons.mpr ⟨lw_p79, fun _ h => absurd h List.not_mem_nil⟩⟩⟩⟩⟩⟩⟩⟩⟩⟩⟩⟩⟩⟩⟩⟩
theorem lw_p80 : lw_okq (⟨"InASackToTheRopeModel", "falling", "(II)I"⟩, 59) := ⟨⟨by decide +kernel, by decide +kernel⟩, List.mem_of_getElem? (i := 909) (by decide +kernel), List.mem_of_getElem? (i := 1446) (by decide +kernel), List.mem_of_getElem? (i := 1447) (by decide +kernel)⟩
theorem lw_p81 : lw_okq (⟨"InASackToTheRopeModel", "rising", "(II)I"⟩, 59) := ⟨⟨by decide +kernel, by decide +kernel⟩, List.mem_of_getElem? (i := 909) (by decide +kernel), List.mem_of_getElem? (i := 1450) (by decide +kernel), List.mem_of_getElem? (i := 1451) (by decide +kernel)⟩
def lw_privs_6 : List (MethodName × Nat) := [(⟨"InASackToTheRopeModel", "falling", "(II)I"⟩, 59), (⟨"InASackToTheRopeModel", "rising", "(II)I"⟩, 59)]
theorem lw_r6 : ∀ q ∈ lw_privs_6, lw_okq q := List.forall_mem_cons.mpr ⟨lw_p80, List.forall_mem_cons.mpr ⟨lw_p81, fun _ h => absurd h List.not_mem_nil⟩⟩
def lw_privs : List (MethodName × Nat) := lw_privs_1 ++ (lw_privs_2 ++ (lw_privs_3 ++ (lw_privs_4 ++ (lw_privs_5 ++ (lw_privs_6)))))
def lw_tbl : List Cond := k2_sels lw_privs ++ tables_1
theorem lw_privs_ok : ∀ q ∈ lw_privs, lw_okq q := by
  show ∀ q ∈ lw_privs_1 ++ (lw_privs_2 ++ (lw_privs_3 ++ (lw_privs_4 ++ (lw_privs_5 ++ (lw_privs_6))))), lw_okq q
  exact List.forall_mem_append.mpr ⟨lw_r1, List.forall_mem_append.mpr ⟨lw_r2, List.forall_mem_append.mpr ⟨lw_r3, List.forall_mem_append.mpr ⟨lw_r4, List.forall_mem_append.mpr ⟨lw_r5, lw_r6⟩⟩⟩⟩⟩
end
section
def RX0 : String := "InASackToTheRope$Child"
def TX0 : u_T := fun k => match k with
  | 0 => ("InASackToTheRope$Child", "kind", "I", false)
  | 1 => ("InASackToTheRope$Child", "a", "I", false)
  | 2 => ("InASackToTheRope$Child", "legs", "I", false)
  | 3 => ("InASackToTheRope$Child", "sack", "I", false)
  | 4 => ("InASackToTheRope$Child", "ahead", "I", false)
  | _ => ("InASackToTheRope$Child", "won", "I", false)
def tyX0 : Nat → FieldType := fun k => match k with
  | 0 => .int
  | 1 => .int
  | 2 => .int
  | 3 => .int
  | 4 => .int
  | _ => .int
abbrev wsX00 : List Cond := u_ws RX0 TX0 6
theorem nmX0 : ∀ a, a < 6 → ∀ b, b < 6 → a ≠ b → (TX0 a).2.1 ≠ (TX0 b).2.1 := by decide +kernel
theorem tyX0_ok : ∀ k, k < 6 → parseFieldDescriptor (TX0 k).2.2.1 = some (tyX0 k) := by decide +kernel
abbrev cX0_init : ByteArray := prog_2_method_1_code
def yX0_init : MethodName := ⟨RX0, "<init>", "()V"⟩
abbrev cX0_become : ByteArray := prog_2_method_2_code
def yX0_become : MethodName := ⟨RX0, "become", "(LInASackToTheRope$Child;)V"⟩
def RX1 : String := "InASackToTheRope$Field"
def TX1 : u_T := fun k => match k with
  | 0 => ("InASackToTheRope$Field", "children", "[LInASackToTheRope$Child;", true)
  | 1 => ("InASackToTheRope$Field", "childCount", "I", false)
  | 2 => ("InASackToTheRope$Field", "sacks", "[LInASackToTheRope$Sack;", true)
  | 3 => ("InASackToTheRope$Field", "sackCount", "I", false)
  | 4 => ("InASackToTheRope$Field", "terms", "[I", true)
  | 5 => ("InASackToTheRope$Field", "rolls", "Z", false)
  | 6 => ("InASackToTheRope$Field", "races", "I", false)
  | _ => ("InASackToTheRope$Field", "seed", "I", false)
def tyX1 : Nat → FieldType := fun k => match k with
  | 0 => .array (.object "InASackToTheRope$Child")
  | 1 => .int
  | 2 => .array (.object "InASackToTheRope$Sack")
  | 3 => .int
  | 4 => .array .int
  | 5 => .boolean
  | 6 => .int
  | _ => .int
abbrev wsX10 : List Cond := u_ws RX1 TX1 8
theorem nmX1 : ∀ a, a < 8 → ∀ b, b < 8 → a ≠ b → (TX1 a).2.1 ≠ (TX1 b).2.1 := by decide +kernel
theorem tyX1_ok : ∀ k, k < 8 → parseFieldDescriptor (TX1 k).2.2.1 = some (tyX1 k) := by decide +kernel
abbrev cX1_init : ByteArray := prog_3_method_1_code
def yX1_init : MethodName := ⟨RX1, "<init>", "()V"⟩
abbrev cX1_hasChild : ByteArray := prog_3_method_2_code
def yX1_hasChild : MethodName := ⟨RX1, "hasChild", "(I)Z"⟩
abbrev cX1_hasSack : ByteArray := prog_3_method_3_code
def yX1_hasSack : MethodName := ⟨RX1, "hasSack", "(I)Z"⟩
abbrev cX1_addChild : ByteArray := prog_3_method_4_code
def yX1_addChild : MethodName := ⟨RX1, "addChild", "(III)I"⟩
abbrev cX1_addSack : ByteArray := prog_3_method_5_code
def yX1_addSack : MethodName := ⟨RX1, "addSack", "(II)I"⟩
abbrev cX1_setTerm : ByteArray := prog_3_method_6_code
def yX1_setTerm : MethodName := ⟨RX1, "setTerm", "(II)V"⟩
abbrev cX1_draw : ByteArray := prog_3_method_7_code
def yX1_draw : MethodName := ⟨RX1, "draw", "(I)I"⟩
abbrev cX1_become : ByteArray := prog_3_method_8_code
def yX1_become : MethodName := ⟨RX1, "become", "(LInASackToTheRope$Field;)V"⟩
def RX2 : String := "InASackToTheRope$Giving"
def TX2 : u_T := fun k => match k with
  | 0 => ("InASackToTheRope$Giving", "times", "[I", true)
  | 1 => ("InASackToTheRope$Giving", "tried", "[I", true)
  | 2 => ("InASackToTheRope$Giving", "best", "[I", true)
  | 3 => ("InASackToTheRope$Giving", "least", "I", false)
  | 4 => ("InASackToTheRope$Giving", "law", "I", false)
  | 5 => ("InASackToTheRope$Giving", "children", "I", false)
  | _ => ("InASackToTheRope$Giving", "sacks", "I", false)
def tyX2 : Nat → FieldType := fun k => match k with
  | 0 => .array .int
  | 1 => .array .int
  | 2 => .array .int
  | 3 => .int
  | 4 => .int
  | 5 => .int
  | _ => .int
abbrev wsX20 : List Cond := u_ws RX2 TX2 7
theorem nmX2 : ∀ a, a < 7 → ∀ b, b < 7 → a ≠ b → (TX2 a).2.1 ≠ (TX2 b).2.1 := by decide +kernel
theorem tyX2_ok : ∀ k, k < 7 → parseFieldDescriptor (TX2 k).2.2.1 = some (tyX2 k) := by decide +kernel
abbrev cX2_init : ByteArray := prog_4_method_1_code
def yX2_init : MethodName := ⟨RX2, "<init>", "()V"⟩
abbrev cX2_tell : ByteArray := prog_4_method_2_code
def yX2_tell : MethodName := ⟨RX2, "tell", "(III)V"⟩
abbrev cX2_find : ByteArray := prog_4_method_3_code
def yX2_find : MethodName := ⟨RX2, "find", "(III)V"⟩
abbrev cX2_giveFrom : ByteArray := prog_4_method_4_code
def yX2_giveFrom : MethodName := ⟨RX2, "giveFrom", "(LInASackToTheRope$Giving;IIIII)V"⟩
def RX3 : String := "InASackToTheRope$Moves"
def TX3 : u_T := fun k => match k with
  | 0 => ("InASackToTheRope$Moves", "bodies", "[I", true)
  | 1 => ("InASackToTheRope$Moves", "ran", "I", false)
  | 2 => ("InASackToTheRope$Moves", "kind", "I", false)
  | 3 => ("InASackToTheRope$Moves", "m", "I", false)
  | _ => ("InASackToTheRope$Moves", "k", "I", false)
def tyX3 : Nat → FieldType := fun k => match k with
  | 0 => .array .int
  | 1 => .int
  | 2 => .int
  | 3 => .int
  | _ => .int
abbrev wsX30 : List Cond := u_ws RX3 TX3 5
theorem nmX3 : ∀ a, a < 5 → ∀ b, b < 5 → a ≠ b → (TX3 a).2.1 ≠ (TX3 b).2.1 := by decide +kernel
theorem tyX3_ok : ∀ k, k < 5 → parseFieldDescriptor (TX3 k).2.2.1 = some (tyX3 k) := by decide +kernel
abbrev cX3_init : ByteArray := prog_5_method_1_code
def yX3_init : MethodName := ⟨RX3, "<init>", "()V"⟩
abbrev cX3_run : ByteArray := prog_5_method_2_code
def yX3_run : MethodName := ⟨RX3, "run", "(LInASackToTheRope$Child;III)I"⟩
abbrev cX3_forget : ByteArray := prog_5_method_3_code
def yX3_forget : MethodName := ⟨RX3, "forget", "()V"⟩
abbrev cX3_noted : ByteArray := prog_5_method_4_code
def yX3_noted : MethodName := ⟨RX3, "noted", "(I)I"⟩
abbrev cX3_note : ByteArray := prog_5_method_5_code
def yX3_note : MethodName := ⟨RX3, "note", "(I)V"⟩
abbrev cX3_holderOf : ByteArray := prog_5_method_6_code
def yX3_holderOf : MethodName := ⟨RX3, "holderOf", "(II)I"⟩
abbrev cX3_runFrom : ByteArray := prog_5_method_7_code
def yX3_runFrom : MethodName := ⟨RX3, "runFrom", "(LInASackToTheRope$Moves;IIII)I"⟩
def RX4 : String := "InASackToTheRope$Racer"
def TX4 : u_T := fun k => match k with
  | 0 => ("InASackToTheRope$Racer", "who", "LInASackToTheRope$Child;", true)
  | 1 => ("InASackToTheRope$Racer", "moreSlack", "I", false)
  | 2 => ("InASackToTheRope$Racer", "rolls", "Z", false)
  | 3 => ("InASackToTheRope$Racer", "way", "I", false)
  | 4 => ("InASackToTheRope$Racer", "up", "I", false)
  | 5 => ("InASackToTheRope$Racer", "rope", "I", false)
  | 6 => ("InASackToTheRope$Racer", "stride", "I", false)
  | 7 => ("InASackToTheRope$Racer", "puff", "I", false)
  | 8 => ("InASackToTheRope$Racer", "risk", "I", false)
  | 9 => ("InASackToTheRope$Racer", "at", "I", false)
  | 10 => ("InASackToTheRope$Racer", "breath", "I", false)
  | 11 => ("InASackToTheRope$Racer", "wobble", "I", false)
  | 12 => ("InASackToTheRope$Racer", "down", "I", false)
  | 13 => ("InASackToTheRope$Racer", "fell", "I", false)
  | 14 => ("InASackToTheRope$Racer", "firstFall", "I", false)
  | _ => ("InASackToTheRope$Racer", "seconds", "I", false)
def tyX4 : Nat → FieldType := fun k => match k with
  | 0 => .object "InASackToTheRope$Child"
  | 1 => .int
  | 2 => .boolean
  | 3 => .int
  | 4 => .int
  | 5 => .int
  | 6 => .int
  | 7 => .int
  | 8 => .int
  | 9 => .int
  | 10 => .int
  | 11 => .int
  | 12 => .int
  | 13 => .int
  | 14 => .int
  | _ => .int
abbrev wsX40 : List Cond := u_ws RX4 TX4 16
theorem nmX4 : ∀ a, a < 16 → ∀ b, b < 16 → a ≠ b → (TX4 a).2.1 ≠ (TX4 b).2.1 := by decide +kernel
theorem tyX4_ok : ∀ k, k < 16 → parseFieldDescriptor (TX4 k).2.2.1 = some (tyX4 k) := by decide +kernel
abbrev cX4_init : ByteArray := prog_6_method_1_code
def yX4_init : MethodName := ⟨RX4, "<init>", "()V"⟩
abbrev cX4_take : ByteArray := prog_6_method_2_code
def yX4_take : MethodName := ⟨RX4, "take", "(LInASackToTheRope$Field;I)V"⟩
abbrev cX4_begin : ByteArray := prog_6_method_3_code
def yX4_begin : MethodName := ⟨RX4, "begin", "(LInASackToTheRope$Field;)V"⟩
abbrev cX4_strideOf : ByteArray := prog_6_method_4_code
def yX4_strideOf : MethodName := ⟨RX4, "strideOf", "(LInASackToTheRope$Child;I)I"⟩
abbrev cX4_puffOf : ByteArray := prog_6_method_5_code
def yX4_puffOf : MethodName := ⟨RX4, "puffOf", "(I)I"⟩
abbrev cX4_riskNow : ByteArray := prog_6_method_6_code
def yX4_riskNow : MethodName := ⟨RX4, "riskNow", "()I"⟩
abbrev cX4_lie : ByteArray := prog_6_method_7_code
def yX4_lie : MethodName := ⟨RX4, "lie", "()V"⟩
abbrev cX4_hop : ByteArray := prog_6_method_8_code
def yX4_hop : MethodName := ⟨RX4, "hop", "(Z)V"⟩
abbrev cX4_goASecond : ByteArray := prog_6_method_9_code
def yX4_goASecond : MethodName := ⟨RX4, "goASecond", "()V"⟩
abbrev cX4_goToWay : ByteArray := prog_6_method_10_code
def yX4_goToWay : MethodName := ⟨RX4, "goToWay", "(I)V"⟩
abbrev cX4_timeNow : ByteArray := prog_6_method_11_code
def yX4_timeNow : MethodName := ⟨RX4, "timeNow", "()I"⟩
abbrev cX4_timeToRope : ByteArray := prog_6_method_12_code
def yX4_timeToRope : MethodName := ⟨RX4, "timeToRope", "(LInASackToTheRope$Field;)I"⟩
abbrev cX4_leastAheadFor : ByteArray := prog_6_method_13_code
def yX4_leastAheadFor : MethodName := ⟨RX4, "leastAheadFor", "(LInASackToTheRope$Field;I)I"⟩
def RX5 : String := "InASackToTheRope$Reader"
def TX5 : u_T := fun k => match k with
  | 0 => ("InASackToTheRope$Reader", "numbers", "[I", true)
  | 1 => ("InASackToTheRope$Reader", "place", "I", false)
  | _ => ("InASackToTheRope$Reader", "wrong", "I", false)
def tyX5 : Nat → FieldType := fun k => match k with
  | 0 => .array .int
  | 1 => .int
  | _ => .int
abbrev wsX50 : List Cond := u_ws RX5 TX5 3
theorem nmX5 : ∀ a, a < 3 → ∀ b, b < 3 → a ≠ b → (TX5 a).2.1 ≠ (TX5 b).2.1 := by decide +kernel
theorem tyX5_ok : ∀ k, k < 3 → parseFieldDescriptor (TX5 k).2.2.1 = some (tyX5 k) := by decide +kernel
abbrev cX5_init : ByteArray := prog_7_method_1_code
def yX5_init : MethodName := ⟨RX5, "<init>", "()V"⟩
abbrev cX5_read : ByteArray := prog_7_method_2_code
def yX5_read : MethodName := ⟨RX5, "read", "(LInASackToTheRope$Shelf;LInASackToTheRope$Field;)I"⟩
abbrev cX5_readItem : ByteArray := prog_7_method_3_code
def yX5_readItem : MethodName := ⟨RX5, "readItem", "(LInASackToTheRope$Shelf;LInASackToTheRope$Field;)V"⟩
abbrev cX5_readWord : ByteArray := prog_7_method_4_code
def yX5_readWord : MethodName := ⟨RX5, "readWord", "(LInASackToTheRope$Shelf;)I"⟩
abbrev cX5_lettersAlike : ByteArray := prog_7_method_5_code
def yX5_lettersAlike : MethodName := ⟨RX5, "lettersAlike", "(LInASackToTheRope$Shelf;Ljava/lang/String;)I"⟩
abbrev cX5_readNumber : ByteArray := prog_7_method_6_code
def yX5_readNumber : MethodName := ⟨RX5, "readNumber", "(LInASackToTheRope$Shelf;III)V"⟩
abbrev cX5_tell : ByteArray := prog_7_method_7_code
def yX5_tell : MethodName := ⟨RX5, "tell", "(LInASackToTheRope$Field;I)V"⟩
abbrev cX5_isDigit : ByteArray := prog_7_method_8_code
def yX5_isDigit : MethodName := ⟨RX5, "isDigit", "(I)Z"⟩
abbrev cX5_hasRoom : ByteArray := prog_7_method_9_code
def yX5_hasRoom : MethodName := ⟨RX5, "hasRoom", "(LInASackToTheRope$Field;I)Z"⟩
abbrev cX5_wordOf : ByteArray := prog_7_method_10_code
def yX5_wordOf : MethodName := ⟨RX5, "wordOf", "(I)Ljava/lang/String;"⟩
abbrev cX5_numbersOf : ByteArray := prog_7_method_11_code
def yX5_numbersOf : MethodName := ⟨RX5, "numbersOf", "(I)I"⟩
abbrev cX5_leastOf : ByteArray := prog_7_method_12_code
def yX5_leastOf : MethodName := ⟨RX5, "leastOf", "(II)I"⟩
abbrev cX5_mostOf : ByteArray := prog_7_method_13_code
def yX5_mostOf : MethodName := ⟨RX5, "mostOf", "(LInASackToTheRope$Field;II)I"⟩
def RX6 : String := "InASackToTheRope$Sack"
def TX6 : u_T := fun k => match k with
  | 0 => ("InASackToTheRope$Sack", "length", "I", false)
  | _ => ("InASackToTheRope$Sack", "holes", "I", false)
def tyX6 : Nat → FieldType := fun k => match k with
  | 0 => .int
  | _ => .int
abbrev wsX60 : List Cond := u_ws RX6 TX6 2
theorem nmX6 : ∀ a, a < 2 → ∀ b, b < 2 → a ≠ b → (TX6 a).2.1 ≠ (TX6 b).2.1 := by decide +kernel
theorem tyX6_ok : ∀ k, k < 2 → parseFieldDescriptor (TX6 k).2.2.1 = some (tyX6 k) := by decide +kernel
abbrev cX6_init : ByteArray := prog_8_method_1_code
def yX6_init : MethodName := ⟨RX6, "<init>", "()V"⟩
def RX7 : String := "InASackToTheRope$Shelf"
def TX7 : u_T := fun k => match k with
  | 0 => ("InASackToTheRope$Shelf", "held", "I", false)
  | 1 => ("InASackToTheRope$Shelf", "size", "I", false)
  | _ => ("InASackToTheRope$Shelf", "elements", "[J", true)
def tyX7 : Nat → FieldType := fun k => match k with
  | 0 => .int
  | 1 => .int
  | _ => .array .long
abbrev wsX70 : List Cond := u_ws RX7 TX7 3
theorem nmX7 : ∀ a, a < 3 → ∀ b, b < 3 → a ≠ b → (TX7 a).2.1 ≠ (TX7 b).2.1 := by decide +kernel
theorem tyX7_ok : ∀ k, k < 3 → parseFieldDescriptor (TX7 k).2.2.1 = some (tyX7 k) := by decide +kernel
abbrev cX7_init : ByteArray := prog_9_method_1_code
def yX7_init : MethodName := ⟨RX7, "<init>", "()V"⟩
abbrev cX7_hasRow : ByteArray := prog_9_method_2_code
def yX7_hasRow : MethodName := ⟨RX7, "hasRow", "()Z"⟩
abbrev cX7_hasChild : ByteArray := prog_9_method_3_code
def yX7_hasChild : MethodName := ⟨RX7, "hasChild", "()Z"⟩
abbrev cX7_has : ByteArray := prog_9_method_4_code
def yX7_has : MethodName := ⟨RX7, "has", "(I)Z"⟩
abbrev cX7_hasPart : ByteArray := prog_9_method_5_code
def yX7_hasPart : MethodName := ⟨RX7, "hasPart", "(II)Z"⟩
abbrev cX7_holdRow : ByteArray := prog_9_method_6_code
def yX7_holdRow : MethodName := ⟨RX7, "holdRow", "(II)V"⟩
abbrev cX7_holdChild : ByteArray := prog_9_method_7_code
def yX7_holdChild : MethodName := ⟨RX7, "holdChild", "(I)V"⟩
abbrev cX7_put : ByteArray := prog_9_method_8_code
def yX7_put : MethodName := ⟨RX7, "put", "(IJ)V"⟩
abbrev cX7_lowest : ByteArray := prog_9_method_9_code
def yX7_lowest : MethodName := ⟨RX7, "lowest", "(J)J"⟩
abbrev cX7_at : ByteArray := prog_9_method_10_code
def yX7_at : MethodName := ⟨RX7, "at", "(I)J"⟩
abbrev cX7_asInt : ByteArray := prog_9_method_11_code
def yX7_asInt : MethodName := ⟨RX7, "asInt", "(I)I"⟩
def RX8 : String := "InASackToTheRope"
def TX8 : u_T := fun k => match k with
  | 0 => ("InASackToTheRope", "now", "LInASackToTheRope$Field;", true)
  | 1 => ("InASackToTheRope", "draft", "LInASackToTheRope$Field;", true)
  | 2 => ("InASackToTheRope", "kept", "LInASackToTheRope$Field;", true)
  | 3 => ("InASackToTheRope", "isKept", "Z", false)
  | 4 => ("InASackToTheRope", "shelves", "[LInASackToTheRope$Shelf;", true)
  | 5 => ("InASackToTheRope", "alone", "LInASackToTheRope$Racer;", true)
  | 6 => ("InASackToTheRope", "racers", "[LInASackToTheRope$Racer;", true)
  | 7 => ("InASackToTheRope", "reader", "LInASackToTheRope$Reader;", true)
  | 8 => ("InASackToTheRope", "giving", "LInASackToTheRope$Giving;", true)
  | 9 => ("InASackToTheRope", "moves", "LInASackToTheRope$Moves;", true)
  | 10 => ("InASackToTheRope", "times", "[I", true)
  | 11 => ("InASackToTheRope", "goingOn", "[I", true)
  | 12 => ("InASackToTheRope", "refusals", "[I", true)
  | _ => ("InASackToTheRope", "lastFault", "I", false)
def tyX8 : Nat → FieldType := fun k => match k with
  | 0 => .object "InASackToTheRope$Field"
  | 1 => .object "InASackToTheRope$Field"
  | 2 => .object "InASackToTheRope$Field"
  | 3 => .boolean
  | 4 => .array (.object "InASackToTheRope$Shelf")
  | 5 => .object "InASackToTheRope$Racer"
  | 6 => .array (.object "InASackToTheRope$Racer")
  | 7 => .object "InASackToTheRope$Reader"
  | 8 => .object "InASackToTheRope$Giving"
  | 9 => .object "InASackToTheRope$Moves"
  | 10 => .array .int
  | 11 => .array .int
  | 12 => .array .int
  | _ => .int
abbrev wsX80 : List Cond := u_ws RX8 TX8 14
theorem nmX8 : ∀ a, a < 14 → ∀ b, b < 14 → a ≠ b → (TX8 a).2.1 ≠ (TX8 b).2.1 := by decide +kernel
theorem tyX8_ok : ∀ k, k < 14 → parseFieldDescriptor (TX8 k).2.2.1 = some (tyX8 k) := by decide +kernel
abbrev cX8_init : ByteArray := prog_1_method_1_code
def yX8_init : MethodName := ⟨RX8, "<init>", "()V"⟩
abbrev cX8_row : ByteArray := prog_1_method_2_code
def yX8_row : MethodName := ⟨RX8, "row", "(III)I"⟩
abbrev cX8_set : ByteArray := prog_1_method_3_code
def yX8_set : MethodName := ⟨RX8, "set", "(IIJ)I"⟩
abbrev cX8_copy : ByteArray := prog_1_method_4_code
def yX8_copy : MethodName := ⟨RX8, "copy", "(IIIII)I"⟩
abbrev cX8_element : ByteArray := prog_1_method_5_code
def yX8_element : MethodName := ⟨RX8, "element", "(II)J"⟩
abbrev cX8_show : ByteArray := prog_1_method_6_code
def yX8_show : MethodName := ⟨RX8, "show", "(II)I"⟩
abbrev cX8_holds : ByteArray := prog_1_method_7_code
def yX8_holds : MethodName := ⟨RX8, "holds", "(I)I"⟩
abbrev cX8_says : ByteArray := prog_1_method_8_code
def yX8_says : MethodName := ⟨RX8, "says", "(II)I"⟩
abbrev cX8_child : ByteArray := prog_1_method_9_code
def yX8_child : MethodName := ⟨RX8, "child", "(III)I"⟩
abbrev cX8_sack : ByteArray := prog_1_method_10_code
def yX8_sack : MethodName := ⟨RX8, "sack", "(II)I"⟩
abbrev cX8_childOf : ByteArray := prog_1_method_11_code
def yX8_childOf : MethodName := ⟨RX8, "childOf", "(II)I"⟩
abbrev cX8_sackOf : ByteArray := prog_1_method_12_code
def yX8_sackOf : MethodName := ⟨RX8, "sackOf", "(II)I"⟩
abbrev cX8_wears : ByteArray := prog_1_method_13_code
def yX8_wears : MethodName := ⟨RX8, "wears", "(II)I"⟩
abbrev cX8_ahead : ByteArray := prog_1_method_14_code
def yX8_ahead : MethodName := ⟨RX8, "ahead", "(II)I"⟩
abbrev cX8_ask : ByteArray := prog_1_method_15_code
def yX8_ask : MethodName := ⟨RX8, "ask", "(II)I"⟩
abbrev cX8_roll : ByteArray := prog_1_method_16_code
def yX8_roll : MethodName := ⟨RX8, "roll", "(Z)I"⟩
abbrev cX8_field : ByteArray := prog_1_method_17_code
def yX8_field : MethodName := ⟨RX8, "field", "(I)I"⟩
abbrev cX8_fault : ByteArray := prog_1_method_18_code
def yX8_fault : MethodName := ⟨RX8, "fault", "()I"⟩
abbrev cX8_behind : ByteArray := prog_1_method_19_code
def yX8_behind : MethodName := ⟨RX8, "behind", "(III)I"⟩
abbrev cX8_comesIn : ByteArray := prog_1_method_20_code
def yX8_comesIn : MethodName := ⟨RX8, "comesIn", "(I)I"⟩
abbrev cX8_wins : ByteArray := prog_1_method_21_code
def yX8_wins : MethodName := ⟨RX8, "wins", "(I)I"⟩
abbrev cX8_best : ByteArray := prog_1_method_22_code
def yX8_best : MethodName := ⟨RX8, "best", "(II)I"⟩
abbrev cX8_given : ByteArray := prog_1_method_23_code
def yX8_given : MethodName := ⟨RX8, "given", "(III)I"⟩
abbrev cX8_two : ByteArray := prog_1_method_24_code
def yX8_two : MethodName := ⟨RX8, "two", "(III)I"⟩
abbrev cX8_pair : ByteArray := prog_1_method_25_code
def yX8_pair : MethodName := ⟨RX8, "pair", "()I"⟩
abbrev cX8_start : ByteArray := prog_1_method_26_code
def yX8_start : MethodName := ⟨RX8, "start", "(II)I"⟩
abbrev cX8_atOnce : ByteArray := prog_1_method_27_code
def yX8_atOnce : MethodName := ⟨RX8, "atOnce", "()I"⟩
abbrev cX8_heats : ByteArray := prog_1_method_28_code
def yX8_heats : MethodName := ⟨RX8, "heats", "(II)I"⟩
abbrev cX8_legs : ByteArray := prog_1_method_29_code
def yX8_legs : MethodName := ⟨RX8, "legs", "(II)I"⟩
abbrev cX8_wall : ByteArray := prog_1_method_30_code
def yX8_wall : MethodName := ⟨RX8, "wall", "(I)I"⟩
abbrev cX8_judge : ByteArray := prog_1_method_31_code
def yX8_judge : MethodName := ⟨RX8, "judge", "(II)I"⟩
abbrev cX8_meant : ByteArray := prog_1_method_32_code
def yX8_meant : MethodName := ⟨RX8, "meant", "(I)I"⟩
abbrev cX8_worn : ByteArray := prog_1_method_33_code
def yX8_worn : MethodName := ⟨RX8, "worn", "(II)I"⟩
abbrev cX8_race : ByteArray := prog_1_method_34_code
def yX8_race : MethodName := ⟨RX8, "race", "()I"⟩
abbrev cX8_summer : ByteArray := prog_1_method_35_code
def yX8_summer : MethodName := ⟨RX8, "summer", "(II)I"⟩
abbrev cX8_seed : ByteArray := prog_1_method_36_code
def yX8_seed : MethodName := ⟨RX8, "seed", "(I)I"⟩
abbrev cX8_act : ByteArray := prog_1_method_37_code
def yX8_act : MethodName := ⟨RX8, "act", "(III)I"⟩
abbrev cX8_trace : ByteArray := prog_1_method_38_code
def yX8_trace : MethodName := ⟨RX8, "trace", "(I)I"⟩
abbrev cX8_image : ByteArray := prog_1_method_39_code
def yX8_image : MethodName := ⟨RX8, "image", "()I"⟩
abbrev cX8_restore : ByteArray := prog_1_method_40_code
def yX8_restore : MethodName := ⟨RX8, "restore", "()I"⟩
abbrev cX8_status : ByteArray := prog_1_method_41_code
def yX8_status : MethodName := ⟨RX8, "status", "(I)I"⟩
abbrev cX8_refuse : ByteArray := prog_1_method_42_code
def yX8_refuse : MethodName := ⟨RX8, "refuse", "(I)I"⟩
abbrev cX8_isShelf : ByteArray := prog_1_method_43_code
def yX8_isShelf : MethodName := ⟨RX8, "isShelf", "(I)Z"⟩
abbrev cX8_isKind : ByteArray := prog_1_method_44_code
def yX8_isKind : MethodName := ⟨RX8, "isKind", "(I)Z"⟩
abbrev cX8_isTerm : ByteArray := prog_1_method_45_code
def yX8_isTerm : MethodName := ⟨RX8, "isTerm", "(I)Z"⟩
abbrev cX8_isUnder : ByteArray := prog_1_method_46_code
def yX8_isUnder : MethodName := ⟨RX8, "isUnder", "(II)Z"⟩
abbrev cX8_bit : ByteArray := prog_1_method_47_code
def yX8_bit : MethodName := ⟨RX8, "bit", "(Z)I"⟩
abbrev cX8_areTwoSorts : ByteArray := prog_1_method_48_code
def yX8_areTwoSorts : MethodName := ⟨RX8, "areTwoSorts", "(LInASackToTheRope$Shelf;LInASackToTheRope$Shelf;)Z"⟩
abbrev cX8_whyNoRow : ByteArray := prog_1_method_49_code
def yX8_whyNoRow : MethodName := ⟨RX8, "whyNoRow", "(I)I"⟩
abbrev cX8_saysAs : ByteArray := prog_1_method_50_code
def yX8_saysAs : MethodName := ⟨RX8, "saysAs", "(II)I"⟩
abbrev cX8_timeOf : ByteArray := prog_1_method_51_code
def yX8_timeOf : MethodName := ⟨RX8, "timeOf", "(I)I"⟩
abbrev cX8_timeAs : ByteArray := prog_1_method_52_code
def yX8_timeAs : MethodName := ⟨RX8, "timeAs", "(II)I"⟩
abbrev cX8_timeIn : ByteArray := prog_1_method_53_code
def yX8_timeIn : MethodName := ⟨RX8, "timeIn", "(II)I"⟩
abbrev cX8_timeRolling : ByteArray := prog_1_method_54_code
def yX8_timeRolling : MethodName := ⟨RX8, "timeRolling", "(IZ)I"⟩
abbrev cX8_timeOfTwo : ByteArray := prog_1_method_55_code
def yX8_timeOfTwo : MethodName := ⟨RX8, "timeOfTwo", "(III)I"⟩
abbrev cX8_timeAll : ByteArray := prog_1_method_56_code
def yX8_timeAll : MethodName := ⟨RX8, "timeAll", "()V"⟩
abbrev cX8_winner : ByteArray := prog_1_method_57_code
def yX8_winner : MethodName := ⟨RX8, "winner", "()I"⟩
abbrev cX8_leadOf : ByteArray := prog_1_method_58_code
def yX8_leadOf : MethodName := ⟨RX8, "leadOf", "(I)I"⟩
abbrev cX8_bestKind : ByteArray := prog_1_method_59_code
def yX8_bestKind : MethodName := ⟨RX8, "bestKind", "(I)I"⟩
abbrev cX8_bestSack : ByteArray := prog_1_method_60_code
def yX8_bestSack : MethodName := ⟨RX8, "bestSack", "(I)I"⟩
abbrev cX8_leastAhead : ByteArray := prog_1_method_61_code
def yX8_leastAhead : MethodName := ⟨RX8, "leastAhead", "(II)I"⟩
abbrev cX8_heatsOfRound : ByteArray := prog_1_method_62_code
def yX8_heatsOfRound : MethodName := ⟨RX8, "heatsOfRound", "(II)I"⟩
abbrev cX8_wrongIn : ByteArray := prog_1_method_63_code
def yX8_wrongIn : MethodName := ⟨RX8, "wrongIn", "(LInASackToTheRope$Shelf;I)I"⟩
abbrev cX8_allAsTold : ByteArray := prog_1_method_64_code
def yX8_allAsTold : MethodName := ⟨RX8, "allAsTold", "(LInASackToTheRope$Shelf;I)Z"⟩
abbrev cX8_raceInTruth : ByteArray := prog_1_method_65_code
def yX8_raceInTruth : MethodName := ⟨RX8, "raceInTruth", "()I"⟩
abbrev cX8_secondInTruth : ByteArray := prog_1_method_66_code
def yX8_secondInTruth : MethodName := ⟨RX8, "secondInTruth", "()I"⟩
abbrev cX8_firstInTruth : ByteArray := prog_1_method_67_code
def yX8_firstInTruth : MethodName := ⟨RX8, "firstInTruth", "()I"⟩
def RX9 : String := "InASackToTheRopeModel"
def TX9 : u_T := fun k => match k with
  | 0 => ("InASackToTheRopeModel", "many", "I", false)
  | 1 => ("InASackToTheRopeModel", "sacks", "I", false)
  | 2 => ("InASackToTheRopeModel", "way", "I", false)
  | 3 => ("InASackToTheRopeModel", "up", "I", false)
  | 4 => ("InASackToTheRopeModel", "rope", "I", false)
  | 5 => ("InASackToTheRopeModel", "wind", "I", false)
  | 6 => ("InASackToTheRopeModel", "rolls", "I", false)
  | 7 => ("InASackToTheRopeModel", "races", "I", false)
  | 8 => ("InASackToTheRopeModel", "seed", "I", false)
  | 9 => ("InASackToTheRopeModel", "fault", "I", false)
  | 10 => ("InASackToTheRopeModel", "refused", "[I", true)
  | 11 => ("InASackToTheRopeModel", "kind", "[I", true)
  | 12 => ("InASackToTheRopeModel", "part", "[I", true)
  | 13 => ("InASackToTheRopeModel", "legs", "[I", true)
  | 14 => ("InASackToTheRopeModel", "sack", "[I", true)
  | 15 => ("InASackToTheRopeModel", "ahead", "[I", true)
  | 16 => ("InASackToTheRopeModel", "won", "[I", true)
  | 17 => ("InASackToTheRopeModel", "length", "[I", true)
  | 18 => ("InASackToTheRopeModel", "holes", "[I", true)
  | 19 => ("InASackToTheRopeModel", "held", "[I", true)
  | 20 => ("InASackToTheRopeModel", "sort", "[I", true)
  | 21 => ("InASackToTheRopeModel", "size", "[I", true)
  | 22 => ("InASackToTheRopeModel", "shown", "[I", true)
  | 23 => ("InASackToTheRopeModel", "cells", "[J", true)
  | 24 => ("InASackToTheRopeModel", "carried", "[J", true)
  | 25 => ("InASackToTheRopeModel", "words", "[I", true)
  | 26 => ("InASackToTheRopeModel", "numbers", "[I", true)
  | 27 => ("InASackToTheRopeModel", "tell", "[I", true)
  | 28 => ("InASackToTheRopeModel", "base", "I", false)
  | 29 => ("InASackToTheRopeModel", "at", "I", false)
  | 30 => ("InASackToTheRopeModel", "end", "I", false)
  | 31 => ("InASackToTheRopeModel", "number", "I", false)
  | 32 => ("InASackToTheRopeModel", "wrongAt", "I", false)
  | 33 => ("InASackToTheRopeModel", "was", "[I", true)
  | 34 => ("InASackToTheRopeModel", "kept", "[I", true)
  | 35 => ("InASackToTheRopeModel", "hopKind", "I", false)
  | 36 => ("InASackToTheRopeModel", "hopPart", "I", false)
  | 37 => ("InASackToTheRopeModel", "hopLegs", "I", false)
  | 38 => ("InASackToTheRopeModel", "hopSlack", "I", false)
  | 39 => ("InASackToTheRopeModel", "hopHoles", "I", false)
  | 40 => ("InASackToTheRopeModel", "hopAhead", "I", false)
  | 41 => ("InASackToTheRopeModel", "hopRolls", "I", false)
  | 42 => ("InASackToTheRopeModel", "place", "I", false)
  | 43 => ("InASackToTheRopeModel", "breath", "I", false)
  | 44 => ("InASackToTheRopeModel", "wobble", "I", false)
  | 45 => ("InASackToTheRopeModel", "down", "I", false)
  | 46 => ("InASackToTheRopeModel", "fell", "I", false)
  | 47 => ("InASackToTheRopeModel", "tables", "[I", true)
  | 48 => ("InASackToTheRopeModel", "gave", "[I", true)
  | 49 => ("InASackToTheRopeModel", "best", "[I", true)
  | 50 => ("InASackToTheRopeModel", "bestIs", "I", false)
  | 51 => ("InASackToTheRopeModel", "on", "[I", true)
  | 52 => ("InASackToTheRopeModel", "places", "[I", true)
  | 53 => ("InASackToTheRopeModel", "breaths", "[I", true)
  | 54 => ("InASackToTheRopeModel", "downs", "[I", true)
  | 55 => ("InASackToTheRopeModel", "ins", "[I", true)
  | 56 => ("InASackToTheRopeModel", "trace", "[I", true)
  | 57 => ("InASackToTheRopeModel", "ran", "I", false)
  | _ => ("InASackToTheRopeModel", "isKept", "Z", false)
def tyX9 : Nat → FieldType := fun k => match k with
  | 0 => .int
  | 1 => .int
  | 2 => .int
  | 3 => .int
  | 4 => .int
  | 5 => .int
  | 6 => .int
  | 7 => .int
  | 8 => .int
  | 9 => .int
  | 10 => .array .int
  | 11 => .array .int
  | 12 => .array .int
  | 13 => .array .int
  | 14 => .array .int
  | 15 => .array .int
  | 16 => .array .int
  | 17 => .array .int
  | 18 => .array .int
  | 19 => .array .int
  | 20 => .array .int
  | 21 => .array .int
  | 22 => .array .int
  | 23 => .array .long
  | 24 => .array .long
  | 25 => .array .int
  | 26 => .array .int
  | 27 => .array .int
  | 28 => .int
  | 29 => .int
  | 30 => .int
  | 31 => .int
  | 32 => .int
  | 33 => .array .int
  | 34 => .array .int
  | 35 => .int
  | 36 => .int
  | 37 => .int
  | 38 => .int
  | 39 => .int
  | 40 => .int
  | 41 => .int
  | 42 => .int
  | 43 => .int
  | 44 => .int
  | 45 => .int
  | 46 => .int
  | 47 => .array .int
  | 48 => .array .int
  | 49 => .array .int
  | 50 => .int
  | 51 => .array .int
  | 52 => .array .int
  | 53 => .array .int
  | 54 => .array .int
  | 55 => .array .int
  | 56 => .array .int
  | 57 => .int
  | _ => .boolean
abbrev wsX90 : List Cond := u_ws RX9 TX9 59
theorem nmX9 : ∀ a, a < 59 → ∀ b, b < 59 → a ≠ b → (TX9 a).2.1 ≠ (TX9 b).2.1 := by decide +kernel
theorem tyX9_ok : ∀ k, k < 59 → parseFieldDescriptor (TX9 k).2.2.1 = some (tyX9 k) := by decide +kernel
abbrev cX9_init : ByteArray := prog_11_method_1_code
def yX9_init : MethodName := ⟨RX9, "<init>", "()V"⟩
abbrev cX9_no : ByteArray := prog_11_method_2_code
def yX9_no : MethodName := ⟨RX9, "no", "(I)I"⟩
abbrev cX9_noTen : ByteArray := prog_11_method_3_code
def yX9_noTen : MethodName := ⟨RX9, "noTen", "(I)I"⟩
abbrev cX9_isShelf : ByteArray := prog_11_method_4_code
def yX9_isShelf : MethodName := ⟨RX9, "isShelf", "(I)Z"⟩
abbrev cX9_isChild : ByteArray := prog_11_method_5_code
def yX9_isChild : MethodName := ⟨RX9, "isChild", "(I)Z"⟩
abbrev cX9_isSack : ByteArray := prog_11_method_6_code
def yX9_isSack : MethodName := ⟨RX9, "isSack", "(I)Z"⟩
abbrev cX9_abs : ByteArray := prog_11_method_7_code
def yX9_abs : MethodName := ⟨RX9, "abs", "(I)I"⟩
abbrev cX9_row : ByteArray := prog_11_method_8_code
def yX9_row : MethodName := ⟨RX9, "row", "(III)I"⟩
abbrev cX9_set : ByteArray := prog_11_method_9_code
def yX9_set : MethodName := ⟨RX9, "set", "(IIJ)I"⟩
abbrev cX9_copy : ByteArray := prog_11_method_10_code
def yX9_copy : MethodName := ⟨RX9, "copy", "(IIIII)I"⟩
abbrev cX9_element : ByteArray := prog_11_method_11_code
def yX9_element : MethodName := ⟨RX9, "element", "(II)J"⟩
abbrev cX9_show : ByteArray := prog_11_method_12_code
def yX9_show : MethodName := ⟨RX9, "show", "(II)I"⟩
abbrev cX9_holds : ByteArray := prog_11_method_13_code
def yX9_holds : MethodName := ⟨RX9, "holds", "(I)I"⟩
abbrev cX9_says : ByteArray := prog_11_method_14_code
def yX9_says : MethodName := ⟨RX9, "says", "(II)I"⟩
abbrev cX9_wanted : ByteArray := prog_11_method_15_code
def yX9_wanted : MethodName := ⟨RX9, "wanted", "(I)I"⟩
abbrev cX9_intAt : ByteArray := prog_11_method_16_code
def yX9_intAt : MethodName := ⟨RX9, "intAt", "(II)I"⟩
abbrev cX9_addsChild : ByteArray := prog_11_method_17_code
def yX9_addsChild : MethodName := ⟨RX9, "addsChild", "(III)I"⟩
abbrev cX9_addsSack : ByteArray := prog_11_method_18_code
def yX9_addsSack : MethodName := ⟨RX9, "addsSack", "(II)I"⟩
abbrev cX9_child : ByteArray := prog_11_method_19_code
def yX9_child : MethodName := ⟨RX9, "child", "(III)I"⟩
abbrev cX9_sack : ByteArray := prog_11_method_20_code
def yX9_sack : MethodName := ⟨RX9, "sack", "(II)I"⟩
abbrev cX9_childOf : ByteArray := prog_11_method_21_code
def yX9_childOf : MethodName := ⟨RX9, "childOf", "(II)I"⟩
abbrev cX9_sackOf : ByteArray := prog_11_method_22_code
def yX9_sackOf : MethodName := ⟨RX9, "sackOf", "(II)I"⟩
abbrev cX9_wears : ByteArray := prog_11_method_23_code
def yX9_wears : MethodName := ⟨RX9, "wears", "(II)I"⟩
abbrev cX9_ahead : ByteArray := prog_11_method_24_code
def yX9_ahead : MethodName := ⟨RX9, "ahead", "(II)I"⟩
abbrev cX9_isAsked : ByteArray := prog_11_method_25_code
def yX9_isAsked : MethodName := ⟨RX9, "isAsked", "(II)Z"⟩
abbrev cX9_told : ByteArray := prog_11_method_26_code
def yX9_told : MethodName := ⟨RX9, "told", "(I)I"⟩
abbrev cX9_tells : ByteArray := prog_11_method_27_code
def yX9_tells : MethodName := ⟨RX9, "tells", "(II)V"⟩
abbrev cX9_ask : ByteArray := prog_11_method_28_code
def yX9_ask : MethodName := ⟨RX9, "ask", "(II)I"⟩
abbrev cX9_roll : ByteArray := prog_11_method_29_code
def yX9_roll : MethodName := ⟨RX9, "roll", "(Z)I"⟩
abbrev cX9_wrong : ByteArray := prog_11_method_30_code
def yX9_wrong : MethodName := ⟨RX9, "wrong", "(I)Z"⟩
abbrev cX9_stands : ByteArray := prog_11_method_31_code
def yX9_stands : MethodName := ⟨RX9, "stands", "(I)Z"⟩
abbrev cX9_word : ByteArray := prog_11_method_32_code
def yX9_word : MethodName := ⟨RX9, "word", "()I"⟩
abbrev cX9_isDigit : ByteArray := prog_11_method_33_code
def yX9_isDigit : MethodName := ⟨RX9, "isDigit", "()Z"⟩
abbrev cX9_reads : ByteArray := prog_11_method_34_code
def yX9_reads : MethodName := ⟨RX9, "reads", "()Z"⟩
abbrev cX9_isSo : ByteArray := prog_11_method_35_code
def yX9_isSo : MethodName := ⟨RX9, "isSo", "(II)Z"⟩
abbrev cX9_item : ByteArray := prog_11_method_36_code
def yX9_item : MethodName := ⟨RX9, "item", "()Z"⟩
abbrev cX9_carries : ByteArray := prog_11_method_37_code
def yX9_carries : MethodName := ⟨RX9, "carries", "([I[IIZ)I"⟩
abbrev cX9_all : ByteArray := prog_11_method_38_code
def yX9_all : MethodName := ⟨RX9, "all", "([IZ)V"⟩
abbrev cX9_field : ByteArray := prog_11_method_39_code
def yX9_field : MethodName := ⟨RX9, "field", "(I)I"⟩
abbrev cX9_fault : ByteArray := prog_11_method_40_code
def yX9_fault : MethodName := ⟨RX9, "fault", "()I"⟩
abbrev cX9_puts : ByteArray := prog_11_method_41_code
def yX9_puts : MethodName := ⟨RX9, "puts", "(I)V"⟩
abbrev cX9_putsIn : ByteArray := prog_11_method_42_code
def yX9_putsIn : MethodName := ⟨RX9, "putsIn", "(I)V"⟩
abbrev cX9_one : ByteArray := prog_11_method_43_code
def yX9_one : MethodName := ⟨RX9, "one", "(I)I"⟩
abbrev cX9_stride : ByteArray := prog_11_method_44_code
def yX9_stride : MethodName := ⟨RX9, "stride", "()I"⟩
abbrev cX9_puff : ByteArray := prog_11_method_45_code
def yX9_puff : MethodName := ⟨RX9, "puff", "()I"⟩
abbrev cX9_risk : ByteArray := prog_11_method_46_code
def yX9_risk : MethodName := ⟨RX9, "risk", "()I"⟩
abbrev cX9_riskNow : ByteArray := prog_11_method_47_code
def yX9_riskNow : MethodName := ⟨RX9, "riskNow", "()I"⟩
abbrev cX9_starts : ByteArray := prog_11_method_48_code
def yX9_starts : MethodName := ⟨RX9, "starts", "()V"⟩
abbrev cX9_falls : ByteArray := prog_11_method_49_code
def yX9_falls : MethodName := ⟨RX9, "falls", "()V"⟩
abbrev cX9_rests : ByteArray := prog_11_method_50_code
def yX9_rests : MethodName := ⟨RX9, "rests", "()V"⟩
abbrev cX9_puffs : ByteArray := prog_11_method_51_code
def yX9_puffs : MethodName := ⟨RX9, "puffs", "()V"⟩
abbrev cX9_second : ByteArray := prog_11_method_52_code
def yX9_second : MethodName := ⟨RX9, "second", "()V"⟩
abbrev cX9_withRope : ByteArray := prog_11_method_53_code
def yX9_withRope : MethodName := ⟨RX9, "withRope", "(I)I"⟩
abbrev cX9_in : ByteArray := prog_11_method_54_code
def yX9_in : MethodName := ⟨RX9, "in", "()I"⟩
abbrev cX9_inOf : ByteArray := prog_11_method_55_code
def yX9_inOf : MethodName := ⟨RX9, "inOf", "(I)I"⟩
abbrev cX9_inWith : ByteArray := prog_11_method_56_code
def yX9_inWith : MethodName := ⟨RX9, "inWith", "(II)I"⟩
abbrev cX9_inAs : ByteArray := prog_11_method_57_code
def yX9_inAs : MethodName := ⟨RX9, "inAs", "(II)I"⟩
abbrev cX9_inFrom : ByteArray := prog_11_method_58_code
def yX9_inFrom : MethodName := ⟨RX9, "inFrom", "(II)I"⟩
abbrev cX9_inRolling : ByteArray := prog_11_method_59_code
def yX9_inRolling : MethodName := ⟨RX9, "inRolling", "(II)I"⟩
abbrev cX9_behind : ByteArray := prog_11_method_60_code
def yX9_behind : MethodName := ⟨RX9, "behind", "(III)I"⟩
abbrev cX9_comesIn : ByteArray := prog_11_method_61_code
def yX9_comesIn : MethodName := ⟨RX9, "comesIn", "(I)I"⟩
abbrev cX9_firstIn : ByteArray := prog_11_method_62_code
def yX9_firstIn : MethodName := ⟨RX9, "firstIn", "()I"⟩
abbrev cX9_wins : ByteArray := prog_11_method_63_code
def yX9_wins : MethodName := ⟨RX9, "wins", "(I)I"⟩
abbrev cX9_how : ByteArray := prog_11_method_64_code
def yX9_how : MethodName := ⟨RX9, "how", "(I)I"⟩
abbrev cX9_bestSack : ByteArray := prog_11_method_65_code
def yX9_bestSack : MethodName := ⟨RX9, "bestSack", "(I)I"⟩
abbrev cX9_best : ByteArray := prog_11_method_66_code
def yX9_best : MethodName := ⟨RX9, "best", "(II)I"⟩
abbrev cX9_gives : ByteArray := prog_11_method_67_code
def yX9_gives : MethodName := ⟨RX9, "gives", "(IIIIIII)V"⟩
abbrev cX9_given : ByteArray := prog_11_method_68_code
def yX9_given : MethodName := ⟨RX9, "given", "(III)I"⟩
abbrev cX9_twoIn : ByteArray := prog_11_method_69_code
def yX9_twoIn : MethodName := ⟨RX9, "twoIn", "(III)I"⟩
abbrev cX9_two : ByteArray := prog_11_method_70_code
def yX9_two : MethodName := ⟨RX9, "two", "(III)I"⟩
abbrev cX9_pair : ByteArray := prog_11_method_71_code
def yX9_pair : MethodName := ⟨RX9, "pair", "()I"⟩
abbrev cX9_startOf : ByteArray := prog_11_method_72_code
def yX9_startOf : MethodName := ⟨RX9, "startOf", "(II)I"⟩
abbrev cX9_start : ByteArray := prog_11_method_73_code
def yX9_start : MethodName := ⟨RX9, "start", "(II)I"⟩
abbrev cX9_atOnce : ByteArray := prog_11_method_74_code
def yX9_atOnce : MethodName := ⟨RX9, "atOnce", "()I"⟩
abbrev cX9_heats : ByteArray := prog_11_method_75_code
def yX9_heats : MethodName := ⟨RX9, "heats", "(II)I"⟩
abbrev cX9_legs : ByteArray := prog_11_method_76_code
def yX9_legs : MethodName := ⟨RX9, "legs", "(II)I"⟩
abbrev cX9_wall : ByteArray := prog_11_method_77_code
def yX9_wall : MethodName := ⟨RX9, "wall", "(I)I"⟩
abbrev cX9_judge : ByteArray := prog_11_method_78_code
def yX9_judge : MethodName := ⟨RX9, "judge", "(II)I"⟩
abbrev cX9_meant : ByteArray := prog_11_method_79_code
def yX9_meant : MethodName := ⟨RX9, "meant", "(I)I"⟩
abbrev cX9_worn : ByteArray := prog_11_method_80_code
def yX9_worn : MethodName := ⟨RX9, "worn", "(II)I"⟩
abbrev cX9_draw : ByteArray := prog_11_method_81_code
def yX9_draw : MethodName := ⟨RX9, "draw", "(I)I"⟩
abbrev cX9_secondInTruth : ByteArray := prog_11_method_82_code
def yX9_secondInTruth : MethodName := ⟨RX9, "secondInTruth", "()V"⟩
abbrev cX9_raced : ByteArray := prog_11_method_83_code
def yX9_raced : MethodName := ⟨RX9, "raced", "()I"⟩
abbrev cX9_race : ByteArray := prog_11_method_84_code
def yX9_race : MethodName := ⟨RX9, "race", "()I"⟩
abbrev cX9_summer : ByteArray := prog_11_method_85_code
def yX9_summer : MethodName := ⟨RX9, "summer", "(II)I"⟩
abbrev cX9_seed : ByteArray := prog_11_method_86_code
def yX9_seed : MethodName := ⟨RX9, "seed", "(I)I"⟩
abbrev cX9_body : ByteArray := prog_11_method_87_code
def yX9_body : MethodName := ⟨RX9, "body", "(I)V"⟩
abbrev cX9_hopping : ByteArray := prog_11_method_88_code
def yX9_hopping : MethodName := ⟨RX9, "hopping", "(II)I"⟩
abbrev cX9_falling : ByteArray := prog_11_method_89_code
def yX9_falling : MethodName := ⟨RX9, "falling", "(II)I"⟩
abbrev cX9_rising : ByteArray := prog_11_method_90_code
def yX9_rising : MethodName := ⟨RX9, "rising", "(II)I"⟩
abbrev cX9_act : ByteArray := prog_11_method_91_code
def yX9_act : MethodName := ⟨RX9, "act", "(III)I"⟩
abbrev cX9_trace : ByteArray := prog_11_method_92_code
def yX9_trace : MethodName := ⟨RX9, "trace", "(I)I"⟩
abbrev cX9_image : ByteArray := prog_11_method_93_code
def yX9_image : MethodName := ⟨RX9, "image", "()I"⟩
abbrev cX9_restore : ByteArray := prog_11_method_94_code
def yX9_restore : MethodName := ⟨RX9, "restore", "()I"⟩
abbrev cX9_status : ByteArray := prog_11_method_95_code
def yX9_status : MethodName := ⟨RX9, "status", "(I)I"⟩
def RJx145de : String := "java/io/Serializable"
def TJx145de : u_T := fun k => match k with
  | _ => ("", "", "", false)
def RJx9f9b0 : String := "java/lang/CharSequence"
def TJx9f9b0 : u_T := fun k => match k with
  | _ => ("", "", "", false)
def RJxb160c : String := "java/lang/Comparable"
def TJxb160c : u_T := fun k => match k with
  | _ => ("", "", "", false)
def RJ9 : String := "java/lang/Math"
def TJ9 : u_T := fun k => match k with
  | _ => ("", "", "", false)
abbrev cJ9_abs_0f7a4 : ByteArray := prog_12_method_59_code
def yJ9_abs_0f7a4 : MethodName := ⟨RJ9, "abs", "(I)I"⟩
abbrev cJ9_max_7cf53 : ByteArray := prog_12_method_65_code
def yJ9_max_7cf53 : MethodName := ⟨RJ9, "max", "(II)I"⟩
abbrev cJ9_min_7cf53 : ByteArray := prog_12_method_69_code
def yJ9_min_7cf53 : MethodName := ⟨RJ9, "min", "(II)I"⟩
def RJ0 : String := "java/lang/String"
def TJ0 : u_T := fun k => match k with
  | _ => ("", "", "", false)
abbrev cJ0_length_8abf5 : ByteArray := prog_13_method_54_code
def yJ0_length_8abf5 : MethodName := ⟨RJ0, "length", "()I"⟩
abbrev cJ0_charAt_5068e : ByteArray := prog_13_method_56_code
def yJ0_charAt_5068e : MethodName := ⟨RJ0, "charAt", "(I)C"⟩
abbrev cJ0_coder_7d493 : ByteArray := prog_13_method_152_code
def yJ0_coder_7d493 : MethodName := ⟨RJ0, "coder", "()B"⟩
abbrev cJ0_isLatin1_aae02 : ByteArray := prog_13_method_154_code
def yJ0_isLatin1_aae02 : MethodName := ⟨RJ0, "isLatin1", "()Z"⟩
abbrev cJ0_checkIndex_df160 : ByteArray := prog_13_method_155_code
def yJ0_checkIndex_df160 : MethodName := ⟨RJ0, "checkIndex", "(II)V"⟩
def RJ1 : String := "java/lang/StringLatin1"
def TJ1 : u_T := fun k => match k with
  | _ => ("", "", "", false)
abbrev cJ1_charAt_3b067 : ByteArray := prog_14_method_2_code
def yJ1_charAt_3b067 : MethodName := ⟨RJ1, "charAt", "([BI)C"⟩
def RJ2 : String := "java/lang/StringUTF16"
def TJ2 : u_T := fun k => match k with
  | _ => ("", "", "", false)
abbrev cJ2_getChar_3b067 : ByteArray := prog_15_method_5_code
def yJ2_getChar_3b067 : MethodName := ⟨RJ2, "getChar", "([BI)C"⟩
abbrev cJ2_length_9d52b : ByteArray := prog_15_method_6_code
def yJ2_length_9d52b : MethodName := ⟨RJ2, "length", "([B)I"⟩
abbrev cJ2_charAt_3b067 : ByteArray := prog_15_method_83_code
def yJ2_charAt_3b067 : MethodName := ⟨RJ2, "charAt", "([BI)C"⟩
abbrev cJ2_checkIndex_2214a : ByteArray := prog_15_method_91_code
def yJ2_checkIndex_2214a : MethodName := ⟨RJ2, "checkIndex", "(I[B)V"⟩
def RJ10 : String := "java/lang/System"
def TJ10 : u_T := fun k => match k with
  | _ => ("", "", "", false)
def RJxfd54e : String := "java/lang/constant/Constable"
def TJxfd54e : u_T := fun k => match k with
  | _ => ("", "", "", false)
def RJx3cf43 : String := "java/lang/constant/ConstantDesc"
def TJx3cf43 : u_T := fun k => match k with
  | _ => ("", "", "", false)
def RJ7 : String := "java/util/Arrays"
def TJ7 : u_T := fun k => match k with
  | _ => ("", "", "", false)
abbrev cJ7_fill_d0a16 : ByteArray := prog_17_method_101_code
def yJ7_fill_d0a16 : MethodName := ⟨RJ7, "fill", "([JJ)V"⟩
def RJ3 : String := "jdk/internal/util/Preconditions"
def TJ3 : u_T := fun k => match k with
  | _ => ("", "", "", false)
abbrev cJ3_checkIndex_8e157 : ByteArray := prog_18_method_11_code
def yJ3_checkIndex_8e157 : MethodName := ⟨RJ3, "checkIndex", "(IILjava/util/function/BiFunction;)I"⟩
def RL : String := "InASackToTheRopeLaw"
abbrev cL_law : ByteArray := code
def yL_law : MethodName := ⟨RL, "law", "([I)Z"⟩
abbrev vwCl : List vw_C := [(RX0, TX0, 6), (RX1, TX1, 8), (RX2, TX2, 7), (RX3, TX3, 5), (RX4, TX4, 16), (RX5, TX5, 3), (RX6, TX6, 2), (RX7, TX7, 3), (RX8, TX8, 14), (RX9, TX9, 59)]
end
section
theorem dX0_init_0 : decode cX0_init 0 = .ok (.aload_n 0, 1) := by decide +kernel
theorem dX0_init_1 : decode cX0_init 1 = .ok (.invokespecial 1, 3) := by decide +kernel
theorem dX0_init_4 : decode cX0_init 4 = .ok (.return_, 1) := by decide +kernel
theorem dX0_become_0 : decode cX0_become 0 = .ok (.aload_n 0, 1) := by decide +kernel
theorem dX0_become_1 : decode cX0_become 1 = .ok (.aload_n 1, 1) := by decide +kernel
theorem dX0_become_2 : decode cX0_become 2 = .ok (.getfield 7, 3) := by decide +kernel
theorem dX0_become_5 : decode cX0_become 5 = .ok (.putfield 7, 3) := by decide +kernel
theorem dX0_become_8 : decode cX0_become 8 = .ok (.aload_n 0, 1) := by decide +kernel
theorem dX0_become_9 : decode cX0_become 9 = .ok (.aload_n 1, 1) := by decide +kernel
theorem dX0_become_10 : decode cX0_become 10 = .ok (.getfield 13, 3) := by decide +kernel
theorem dX0_become_13 : decode cX0_become 13 = .ok (.putfield 13, 3) := by decide +kernel
theorem dX0_become_16 : decode cX0_become 16 = .ok (.aload_n 0, 1) := by decide +kernel
theorem dX0_become_17 : decode cX0_become 17 = .ok (.aload_n 1, 1) := by decide +kernel
theorem dX0_become_18 : decode cX0_become 18 = .ok (.getfield 16, 3) := by decide +kernel
theorem dX0_become_21 : decode cX0_become 21 = .ok (.putfield 16, 3) := by decide +kernel
theorem dX0_become_24 : decode cX0_become 24 = .ok (.aload_n 0, 1) := by decide +kernel
theorem dX0_become_25 : decode cX0_become 25 = .ok (.aload_n 1, 1) := by decide +kernel
theorem dX0_become_26 : decode cX0_become 26 = .ok (.getfield 19, 3) := by decide +kernel
theorem dX0_become_29 : decode cX0_become 29 = .ok (.putfield 19, 3) := by decide +kernel
theorem dX0_become_32 : decode cX0_become 32 = .ok (.aload_n 0, 1) := by decide +kernel
theorem dX0_become_33 : decode cX0_become 33 = .ok (.aload_n 1, 1) := by decide +kernel
theorem dX0_become_34 : decode cX0_become 34 = .ok (.getfield 22, 3) := by decide +kernel
theorem dX0_become_37 : decode cX0_become 37 = .ok (.putfield 22, 3) := by decide +kernel
theorem dX0_become_40 : decode cX0_become 40 = .ok (.aload_n 0, 1) := by decide +kernel
theorem dX0_become_41 : decode cX0_become 41 = .ok (.aload_n 1, 1) := by decide +kernel
theorem dX0_become_42 : decode cX0_become 42 = .ok (.getfield 25, 3) := by decide +kernel
theorem dX0_become_45 : decode cX0_become 45 = .ok (.putfield 25, 3) := by decide +kernel
theorem dX0_become_48 : decode cX0_become 48 = .ok (.return_, 1) := by decide +kernel
theorem dX1_init_0 : decode cX1_init 0 = .ok (.aload_n 0, 1) := by decide +kernel
theorem dX1_init_1 : decode cX1_init 1 = .ok (.invokespecial 3, 3) := by decide +kernel
theorem dX1_init_4 : decode cX1_init 4 = .ok (.aload_n 0, 1) := by decide +kernel
theorem dX1_init_5 : decode cX1_init 5 = .ok (.bipush 8, 2) := by decide +kernel
theorem dX1_init_7 : decode cX1_init 7 = .ok (.anewarray 9, 3) := by decide +kernel
theorem dX1_init_10 : decode cX1_init 10 = .ok (.putfield 11, 3) := by decide +kernel
theorem dX1_init_13 : decode cX1_init 13 = .ok (.aload_n 0, 1) := by decide +kernel
theorem dX1_init_14 : decode cX1_init 14 = .ok (.bipush 8, 2) := by decide +kernel
theorem dX1_init_16 : decode cX1_init 16 = .ok (.anewarray 17, 3) := by decide +kernel
theorem dX1_init_19 : decode cX1_init 19 = .ok (.putfield 19, 3) := by decide +kernel
theorem dX1_init_22 : decode cX1_init 22 = .ok (.aload_n 0, 1) := by decide +kernel
theorem dX1_init_23 : decode cX1_init 23 = .ok (.iconst 4, 1) := by decide +kernel
theorem dX1_init_24 : decode cX1_init 24 = .ok (.newarray .int, 2) := by decide +kernel
theorem dX1_init_26 : decode cX1_init 26 = .ok (.dup, 1) := by decide +kernel
theorem dX1_init_27 : decode cX1_init 27 = .ok (.iconst 0, 1) := by decide +kernel
theorem dX1_init_28 : decode cX1_init 28 = .ok (.bipush 40, 2) := by decide +kernel
theorem dX1_init_30 : decode cX1_init 30 = .ok (.iastore, 1) := by decide +kernel
theorem dX1_init_31 : decode cX1_init 31 = .ok (.dup, 1) := by decide +kernel
theorem dX1_init_32 : decode cX1_init 32 = .ok (.iconst 1, 1) := by decide +kernel
theorem dX1_init_33 : decode cX1_init 33 = .ok (.iconst 5, 1) := by decide +kernel
theorem dX1_init_34 : decode cX1_init 34 = .ok (.iastore, 1) := by decide +kernel
theorem dX1_init_35 : decode cX1_init 35 = .ok (.dup, 1) := by decide +kernel
theorem dX1_init_36 : decode cX1_init 36 = .ok (.iconst 2, 1) := by decide +kernel
theorem dX1_init_37 : decode cX1_init 37 = .ok (.iconst 3, 1) := by decide +kernel
theorem dX1_init_38 : decode cX1_init 38 = .ok (.iastore, 1) := by decide +kernel
theorem dX1_init_39 : decode cX1_init 39 = .ok (.dup, 1) := by decide +kernel
theorem dX1_init_40 : decode cX1_init 40 = .ok (.iconst 3, 1) := by decide +kernel
theorem dX1_init_41 : decode cX1_init 41 = .ok (.bipush 20, 2) := by decide +kernel
theorem dX1_init_43 : decode cX1_init 43 = .ok (.iastore, 1) := by decide +kernel
theorem dX1_init_44 : decode cX1_init 44 = .ok (.putfield 23, 3) := by decide +kernel
theorem dX1_init_47 : decode cX1_init 47 = .ok (.aload_n 0, 1) := by decide +kernel
theorem dX1_init_48 : decode cX1_init 48 = .ok (.iconst 1, 1) := by decide +kernel
theorem dX1_init_49 : decode cX1_init 49 = .ok (.putfield 27, 3) := by decide +kernel
theorem dX1_init_52 : decode cX1_init 52 = .ok (.iconst 0, 1) := by decide +kernel
theorem dX1_init_53 : decode cX1_init 53 = .ok (.istore_n 1, 1) := by decide +kernel
theorem dX1_init_54 : decode cX1_init 54 = .ok (.iload_n 1, 1) := by decide +kernel
theorem dX1_init_55 : decode cX1_init 55 = .ok (.bipush 8, 2) := by decide +kernel
theorem dX1_init_57 : decode cX1_init 57 = .ok (.if_icmp .ge 22, 3) := by decide +kernel
theorem dX1_init_60 : decode cX1_init 60 = .ok (.aload_n 0, 1) := by decide +kernel
theorem dX1_init_61 : decode cX1_init 61 = .ok (.getfield 11, 3) := by decide +kernel
theorem dX1_init_64 : decode cX1_init 64 = .ok (.iload_n 1, 1) := by decide +kernel
theorem dX1_init_65 : decode cX1_init 65 = .ok (.new 9, 3) := by decide +kernel
theorem dX1_init_68 : decode cX1_init 68 = .ok (.dup, 1) := by decide +kernel
theorem dX1_init_69 : decode cX1_init 69 = .ok (.invokespecial 31, 3) := by decide +kernel
theorem dX1_init_72 : decode cX1_init 72 = .ok (.aastore, 1) := by decide +kernel
theorem dX1_init_73 : decode cX1_init 73 = .ok (.iinc 1 1, 3) := by decide +kernel
theorem dX1_init_76 : decode cX1_init 76 = .ok (.goto (-22), 3) := by decide +kernel
theorem dX1_init_79 : decode cX1_init 79 = .ok (.iconst 0, 1) := by decide +kernel
theorem dX1_init_80 : decode cX1_init 80 = .ok (.istore_n 1, 1) := by decide +kernel
theorem dX1_init_81 : decode cX1_init 81 = .ok (.iload_n 1, 1) := by decide +kernel
theorem dX1_init_82 : decode cX1_init 82 = .ok (.bipush 8, 2) := by decide +kernel
theorem dX1_init_84 : decode cX1_init 84 = .ok (.if_icmp .ge 22, 3) := by decide +kernel
theorem dX1_init_87 : decode cX1_init 87 = .ok (.aload_n 0, 1) := by decide +kernel
theorem dX1_init_88 : decode cX1_init 88 = .ok (.getfield 19, 3) := by decide +kernel
theorem dX1_init_91 : decode cX1_init 91 = .ok (.iload_n 1, 1) := by decide +kernel
theorem dX1_init_92 : decode cX1_init 92 = .ok (.new 17, 3) := by decide +kernel
theorem dX1_init_95 : decode cX1_init 95 = .ok (.dup, 1) := by decide +kernel
theorem dX1_init_96 : decode cX1_init 96 = .ok (.invokespecial 32, 3) := by decide +kernel
theorem dX1_init_99 : decode cX1_init 99 = .ok (.aastore, 1) := by decide +kernel
theorem dX1_init_100 : decode cX1_init 100 = .ok (.iinc 1 1, 3) := by decide +kernel
theorem dX1_init_103 : decode cX1_init 103 = .ok (.goto (-22), 3) := by decide +kernel
theorem dX1_init_106 : decode cX1_init 106 = .ok (.return_, 1) := by decide +kernel
theorem dX1_hasChild_0 : decode cX1_hasChild 0 = .ok (.iload_n 1, 1) := by decide +kernel
theorem dX1_hasChild_1 : decode cX1_hasChild 1 = .ok (.ifCond .lt 15, 3) := by decide +kernel
theorem dX1_hasChild_4 : decode cX1_hasChild 4 = .ok (.iload_n 1, 1) := by decide +kernel
theorem dX1_hasChild_5 : decode cX1_hasChild 5 = .ok (.aload_n 0, 1) := by decide +kernel
theorem dX1_hasChild_6 : decode cX1_hasChild 6 = .ok (.getfield 33, 3) := by decide +kernel
theorem dX1_hasChild_9 : decode cX1_hasChild 9 = .ok (.if_icmp .ge 7, 3) := by decide +kernel
theorem dX1_hasChild_12 : decode cX1_hasChild 12 = .ok (.iconst 1, 1) := by decide +kernel
theorem dX1_hasChild_13 : decode cX1_hasChild 13 = .ok (.goto 4, 3) := by decide +kernel
theorem dX1_hasChild_16 : decode cX1_hasChild 16 = .ok (.iconst 0, 1) := by decide +kernel
theorem dX1_hasChild_17 : decode cX1_hasChild 17 = .ok (.ireturn, 1) := by decide +kernel
theorem dX1_hasSack_0 : decode cX1_hasSack 0 = .ok (.iload_n 1, 1) := by decide +kernel
theorem dX1_hasSack_1 : decode cX1_hasSack 1 = .ok (.ifCond .lt 15, 3) := by decide +kernel
theorem dX1_hasSack_4 : decode cX1_hasSack 4 = .ok (.iload_n 1, 1) := by decide +kernel
theorem dX1_hasSack_5 : decode cX1_hasSack 5 = .ok (.aload_n 0, 1) := by decide +kernel
theorem dX1_hasSack_6 : decode cX1_hasSack 6 = .ok (.getfield 36, 3) := by decide +kernel
theorem dX1_hasSack_9 : decode cX1_hasSack 9 = .ok (.if_icmp .ge 7, 3) := by decide +kernel
theorem dX1_hasSack_12 : decode cX1_hasSack 12 = .ok (.iconst 1, 1) := by decide +kernel
theorem dX1_hasSack_13 : decode cX1_hasSack 13 = .ok (.goto 4, 3) := by decide +kernel
theorem dX1_hasSack_16 : decode cX1_hasSack 16 = .ok (.iconst 0, 1) := by decide +kernel
theorem dX1_hasSack_17 : decode cX1_hasSack 17 = .ok (.ireturn, 1) := by decide +kernel
theorem dX1_addChild_0 : decode cX1_addChild 0 = .ok (.aload_n 0, 1) := by decide +kernel
theorem dX1_addChild_1 : decode cX1_addChild 1 = .ok (.getfield 33, 3) := by decide +kernel
theorem dX1_addChild_4 : decode cX1_addChild 4 = .ok (.bipush 8, 2) := by decide +kernel
theorem dX1_addChild_6 : decode cX1_addChild 6 = .ok (.if_icmp .lt 5, 3) := by decide +kernel
theorem dX1_addChild_9 : decode cX1_addChild 9 = .ok (.iconst (-1), 1) := by decide +kernel
theorem dX1_addChild_10 : decode cX1_addChild 10 = .ok (.ireturn, 1) := by decide +kernel
theorem dX1_addChild_11 : decode cX1_addChild 11 = .ok (.aload_n 0, 1) := by decide +kernel
theorem dX1_addChild_12 : decode cX1_addChild 12 = .ok (.getfield 33, 3) := by decide +kernel
theorem dX1_addChild_15 : decode cX1_addChild 15 = .ok (.istore 4, 2) := by decide +kernel
theorem dX1_addChild_17 : decode cX1_addChild 17 = .ok (.aload_n 0, 1) := by decide +kernel
theorem dX1_addChild_18 : decode cX1_addChild 18 = .ok (.getfield 11, 3) := by decide +kernel
theorem dX1_addChild_21 : decode cX1_addChild 21 = .ok (.iload 4, 2) := by decide +kernel
theorem dX1_addChild_23 : decode cX1_addChild 23 = .ok (.aaload, 1) := by decide +kernel
theorem dX1_addChild_24 : decode cX1_addChild 24 = .ok (.astore 5, 2) := by decide +kernel
theorem dX1_addChild_26 : decode cX1_addChild 26 = .ok (.aload 5, 2) := by decide +kernel
theorem dX1_addChild_28 : decode cX1_addChild 28 = .ok (.iload_n 1, 1) := by decide +kernel
theorem dX1_addChild_29 : decode cX1_addChild 29 = .ok (.putfield 39, 3) := by decide +kernel
theorem dX1_addChild_32 : decode cX1_addChild 32 = .ok (.aload 5, 2) := by decide +kernel
theorem dX1_addChild_34 : decode cX1_addChild 34 = .ok (.iload_n 2, 1) := by decide +kernel
theorem dX1_addChild_35 : decode cX1_addChild 35 = .ok (.putfield 42, 3) := by decide +kernel
theorem dX1_addChild_38 : decode cX1_addChild 38 = .ok (.aload 5, 2) := by decide +kernel
theorem dX1_addChild_40 : decode cX1_addChild 40 = .ok (.iload_n 3, 1) := by decide +kernel
theorem dX1_addChild_41 : decode cX1_addChild 41 = .ok (.putfield 45, 3) := by decide +kernel
theorem dX1_addChild_44 : decode cX1_addChild 44 = .ok (.aload 5, 2) := by decide +kernel
theorem dX1_addChild_46 : decode cX1_addChild 46 = .ok (.aload_n 0, 1) := by decide +kernel
theorem dX1_addChild_47 : decode cX1_addChild 47 = .ok (.iload 4, 2) := by decide +kernel
theorem dX1_addChild_49 : decode cX1_addChild 49 = .ok (.invokevirtual 48, 3) := by decide +kernel
theorem dX1_addChild_52 : decode cX1_addChild 52 = .ok (.ifCond .eq 8, 3) := by decide +kernel
theorem dX1_addChild_55 : decode cX1_addChild 55 = .ok (.iload 4, 2) := by decide +kernel
theorem dX1_addChild_57 : decode cX1_addChild 57 = .ok (.goto 4, 3) := by decide +kernel
theorem dX1_addChild_60 : decode cX1_addChild 60 = .ok (.iconst 0, 1) := by decide +kernel
theorem dX1_addChild_61 : decode cX1_addChild 61 = .ok (.putfield 52, 3) := by decide +kernel
theorem dX1_addChild_64 : decode cX1_addChild 64 = .ok (.aload 5, 2) := by decide +kernel
theorem dX1_addChild_66 : decode cX1_addChild 66 = .ok (.iconst 0, 1) := by decide +kernel
theorem dX1_addChild_67 : decode cX1_addChild 67 = .ok (.putfield 55, 3) := by decide +kernel
theorem dX1_addChild_70 : decode cX1_addChild 70 = .ok (.aload 5, 2) := by decide +kernel
theorem dX1_addChild_72 : decode cX1_addChild 72 = .ok (.iconst 0, 1) := by decide +kernel
theorem dX1_addChild_73 : decode cX1_addChild 73 = .ok (.putfield 58, 3) := by decide +kernel
theorem dX1_addChild_76 : decode cX1_addChild 76 = .ok (.aload_n 0, 1) := by decide +kernel
theorem dX1_addChild_77 : decode cX1_addChild 77 = .ok (.dup, 1) := by decide +kernel
theorem dX1_addChild_78 : decode cX1_addChild 78 = .ok (.getfield 33, 3) := by decide +kernel
theorem dX1_addChild_81 : decode cX1_addChild 81 = .ok (.iconst 1, 1) := by decide +kernel
theorem dX1_addChild_82 : decode cX1_addChild 82 = .ok (.iadd, 1) := by decide +kernel
theorem dX1_addChild_83 : decode cX1_addChild 83 = .ok (.putfield 33, 3) := by decide +kernel
theorem dX1_addChild_86 : decode cX1_addChild 86 = .ok (.iload 4, 2) := by decide +kernel
theorem dX1_addChild_88 : decode cX1_addChild 88 = .ok (.ireturn, 1) := by decide +kernel
theorem dX1_addSack_0 : decode cX1_addSack 0 = .ok (.aload_n 0, 1) := by decide +kernel
theorem dX1_addSack_1 : decode cX1_addSack 1 = .ok (.getfield 36, 3) := by decide +kernel
theorem dX1_addSack_4 : decode cX1_addSack 4 = .ok (.bipush 8, 2) := by decide +kernel
theorem dX1_addSack_6 : decode cX1_addSack 6 = .ok (.if_icmp .lt 5, 3) := by decide +kernel
theorem dX1_addSack_9 : decode cX1_addSack 9 = .ok (.iconst (-1), 1) := by decide +kernel
theorem dX1_addSack_10 : decode cX1_addSack 10 = .ok (.ireturn, 1) := by decide +kernel
theorem dX1_addSack_11 : decode cX1_addSack 11 = .ok (.aload_n 0, 1) := by decide +kernel
theorem dX1_addSack_12 : decode cX1_addSack 12 = .ok (.getfield 19, 3) := by decide +kernel
theorem dX1_addSack_15 : decode cX1_addSack 15 = .ok (.aload_n 0, 1) := by decide +kernel
theorem dX1_addSack_16 : decode cX1_addSack 16 = .ok (.getfield 36, 3) := by decide +kernel
theorem dX1_addSack_19 : decode cX1_addSack 19 = .ok (.aaload, 1) := by decide +kernel
theorem dX1_addSack_20 : decode cX1_addSack 20 = .ok (.iload_n 1, 1) := by decide +kernel
theorem dX1_addSack_21 : decode cX1_addSack 21 = .ok (.putfield 61, 3) := by decide +kernel
theorem dX1_addSack_24 : decode cX1_addSack 24 = .ok (.aload_n 0, 1) := by decide +kernel
theorem dX1_addSack_25 : decode cX1_addSack 25 = .ok (.getfield 19, 3) := by decide +kernel
theorem dX1_addSack_28 : decode cX1_addSack 28 = .ok (.aload_n 0, 1) := by decide +kernel
theorem dX1_addSack_29 : decode cX1_addSack 29 = .ok (.getfield 36, 3) := by decide +kernel
theorem dX1_addSack_32 : decode cX1_addSack 32 = .ok (.aaload, 1) := by decide +kernel
theorem dX1_addSack_33 : decode cX1_addSack 33 = .ok (.iload_n 2, 1) := by decide +kernel
theorem dX1_addSack_34 : decode cX1_addSack 34 = .ok (.putfield 64, 3) := by decide +kernel
theorem dX1_addSack_37 : decode cX1_addSack 37 = .ok (.aload_n 0, 1) := by decide +kernel
theorem dX1_addSack_38 : decode cX1_addSack 38 = .ok (.dup, 1) := by decide +kernel
theorem dX1_addSack_39 : decode cX1_addSack 39 = .ok (.getfield 36, 3) := by decide +kernel
theorem dX1_addSack_42 : decode cX1_addSack 42 = .ok (.iconst 1, 1) := by decide +kernel
theorem dX1_addSack_43 : decode cX1_addSack 43 = .ok (.iadd, 1) := by decide +kernel
theorem dX1_addSack_44 : decode cX1_addSack 44 = .ok (.putfield 36, 3) := by decide +kernel
theorem dX1_addSack_47 : decode cX1_addSack 47 = .ok (.aload_n 0, 1) := by decide +kernel
theorem dX1_addSack_48 : decode cX1_addSack 48 = .ok (.getfield 36, 3) := by decide +kernel
theorem dX1_addSack_51 : decode cX1_addSack 51 = .ok (.iconst 1, 1) := by decide +kernel
theorem dX1_addSack_52 : decode cX1_addSack 52 = .ok (.isub, 1) := by decide +kernel
theorem dX1_addSack_53 : decode cX1_addSack 53 = .ok (.ireturn, 1) := by decide +kernel
theorem dX1_setTerm_0 : decode cX1_setTerm 0 = .ok (.iload_n 1, 1) := by decide +kernel
theorem dX1_setTerm_1 : decode cX1_setTerm 1 = .ok (.invokestatic 67, 3) := by decide +kernel
theorem dX1_setTerm_4 : decode cX1_setTerm 4 = .ok (.ifCond .eq 10, 3) := by decide +kernel
theorem dX1_setTerm_7 : decode cX1_setTerm 7 = .ok (.aload_n 0, 1) := by decide +kernel
theorem dX1_setTerm_8 : decode cX1_setTerm 8 = .ok (.getfield 23, 3) := by decide +kernel
theorem dX1_setTerm_11 : decode cX1_setTerm 11 = .ok (.iload_n 1, 1) := by decide +kernel
theorem dX1_setTerm_12 : decode cX1_setTerm 12 = .ok (.iload_n 2, 1) := by decide +kernel
theorem dX1_setTerm_13 : decode cX1_setTerm 13 = .ok (.iastore, 1) := by decide +kernel
theorem dX1_setTerm_14 : decode cX1_setTerm 14 = .ok (.return_, 1) := by decide +kernel
theorem dX1_draw_0 : decode cX1_draw 0 = .ok (.aload_n 0, 1) := by decide +kernel
theorem dX1_draw_1 : decode cX1_draw 1 = .ok (.aload_n 0, 1) := by decide +kernel
theorem dX1_draw_2 : decode cX1_draw 2 = .ok (.getfield 27, 3) := by decide +kernel
theorem dX1_draw_5 : decode cX1_draw 5 = .ok (.ldc 70, 2) := by decide +kernel
theorem dX1_draw_7 : decode cX1_draw 7 = .ok (.imul, 1) := by decide +kernel
theorem dX1_draw_8 : decode cX1_draw 8 = .ok (.sipush 12345, 3) := by decide +kernel
theorem dX1_draw_11 : decode cX1_draw 11 = .ok (.iadd, 1) := by decide +kernel
theorem dX1_draw_12 : decode cX1_draw 12 = .ok (.putfield 27, 3) := by decide +kernel
theorem dX1_draw_15 : decode cX1_draw 15 = .ok (.iload_n 1, 1) := by decide +kernel
theorem dX1_draw_16 : decode cX1_draw 16 = .ok (.ifCond .le 15, 3) := by decide +kernel
theorem dX1_draw_19 : decode cX1_draw 19 = .ok (.aload_n 0, 1) := by decide +kernel
theorem dX1_draw_20 : decode cX1_draw 20 = .ok (.getfield 27, 3) := by decide +kernel
theorem dX1_draw_23 : decode cX1_draw 23 = .ok (.bipush 16, 2) := by decide +kernel
theorem dX1_draw_25 : decode cX1_draw 25 = .ok (.iushr, 1) := by decide +kernel
theorem dX1_draw_26 : decode cX1_draw 26 = .ok (.iload_n 1, 1) := by decide +kernel
theorem dX1_draw_27 : decode cX1_draw 27 = .ok (.irem, 1) := by decide +kernel
theorem dX1_draw_28 : decode cX1_draw 28 = .ok (.goto 4, 3) := by decide +kernel
theorem dX1_draw_31 : decode cX1_draw 31 = .ok (.iconst 0, 1) := by decide +kernel
theorem dX1_draw_32 : decode cX1_draw 32 = .ok (.ireturn, 1) := by decide +kernel
theorem dX1_become_0 : decode cX1_become 0 = .ok (.aload_n 0, 1) := by decide +kernel
theorem dX1_become_1 : decode cX1_become 1 = .ok (.aload_n 1, 1) := by decide +kernel
theorem dX1_become_2 : decode cX1_become 2 = .ok (.getfield 33, 3) := by decide +kernel
theorem dX1_become_5 : decode cX1_become 5 = .ok (.putfield 33, 3) := by decide +kernel
theorem dX1_become_8 : decode cX1_become 8 = .ok (.iconst 0, 1) := by decide +kernel
theorem dX1_become_9 : decode cX1_become 9 = .ok (.istore_n 2, 1) := by decide +kernel
theorem dX1_become_10 : decode cX1_become 10 = .ok (.iload_n 2, 1) := by decide +kernel
theorem dX1_become_11 : decode cX1_become 11 = .ok (.bipush 8, 2) := by decide +kernel
theorem dX1_become_13 : decode cX1_become 13 = .ok (.if_icmp .ge 24, 3) := by decide +kernel
theorem dX1_become_16 : decode cX1_become 16 = .ok (.aload_n 0, 1) := by decide +kernel
theorem dX1_become_17 : decode cX1_become 17 = .ok (.getfield 11, 3) := by decide +kernel
theorem dX1_become_20 : decode cX1_become 20 = .ok (.iload_n 2, 1) := by decide +kernel
theorem dX1_become_21 : decode cX1_become 21 = .ok (.aaload, 1) := by decide +kernel
theorem dX1_become_22 : decode cX1_become 22 = .ok (.aload_n 1, 1) := by decide +kernel
theorem dX1_become_23 : decode cX1_become 23 = .ok (.getfield 11, 3) := by decide +kernel
theorem dX1_become_26 : decode cX1_become 26 = .ok (.iload_n 2, 1) := by decide +kernel
theorem dX1_become_27 : decode cX1_become 27 = .ok (.aaload, 1) := by decide +kernel
theorem dX1_become_28 : decode cX1_become 28 = .ok (.invokevirtual 71, 3) := by decide +kernel
theorem dX1_become_31 : decode cX1_become 31 = .ok (.iinc 2 1, 3) := by decide +kernel
theorem dX1_become_34 : decode cX1_become 34 = .ok (.goto (-24), 3) := by decide +kernel
theorem dX1_become_37 : decode cX1_become 37 = .ok (.aload_n 0, 1) := by decide +kernel
theorem dX1_become_38 : decode cX1_become 38 = .ok (.aload_n 1, 1) := by decide +kernel
theorem dX1_become_39 : decode cX1_become 39 = .ok (.getfield 36, 3) := by decide +kernel
theorem dX1_become_42 : decode cX1_become 42 = .ok (.putfield 36, 3) := by decide +kernel
theorem dX1_become_45 : decode cX1_become 45 = .ok (.iconst 0, 1) := by decide +kernel
theorem dX1_become_46 : decode cX1_become 46 = .ok (.istore_n 2, 1) := by decide +kernel
theorem dX1_become_47 : decode cX1_become 47 = .ok (.iload_n 2, 1) := by decide +kernel
theorem dX1_become_48 : decode cX1_become 48 = .ok (.bipush 8, 2) := by decide +kernel
theorem dX1_become_50 : decode cX1_become 50 = .ok (.if_icmp .ge 45, 3) := by decide +kernel
theorem dX1_become_53 : decode cX1_become 53 = .ok (.aload_n 0, 1) := by decide +kernel
theorem dX1_become_54 : decode cX1_become 54 = .ok (.getfield 19, 3) := by decide +kernel
theorem dX1_become_57 : decode cX1_become 57 = .ok (.iload_n 2, 1) := by decide +kernel
theorem dX1_become_58 : decode cX1_become 58 = .ok (.aaload, 1) := by decide +kernel
theorem dX1_become_59 : decode cX1_become 59 = .ok (.aload_n 1, 1) := by decide +kernel
theorem dX1_become_60 : decode cX1_become 60 = .ok (.getfield 19, 3) := by decide +kernel
theorem dX1_become_63 : decode cX1_become 63 = .ok (.iload_n 2, 1) := by decide +kernel
theorem dX1_become_64 : decode cX1_become 64 = .ok (.aaload, 1) := by decide +kernel
theorem dX1_become_65 : decode cX1_become 65 = .ok (.getfield 61, 3) := by decide +kernel
theorem dX1_become_68 : decode cX1_become 68 = .ok (.putfield 61, 3) := by decide +kernel
theorem dX1_become_71 : decode cX1_become 71 = .ok (.aload_n 0, 1) := by decide +kernel
theorem dX1_become_72 : decode cX1_become 72 = .ok (.getfield 19, 3) := by decide +kernel
theorem dX1_become_75 : decode cX1_become 75 = .ok (.iload_n 2, 1) := by decide +kernel
theorem dX1_become_76 : decode cX1_become 76 = .ok (.aaload, 1) := by decide +kernel
theorem dX1_become_77 : decode cX1_become 77 = .ok (.aload_n 1, 1) := by decide +kernel
theorem dX1_become_78 : decode cX1_become 78 = .ok (.getfield 19, 3) := by decide +kernel
theorem dX1_become_81 : decode cX1_become 81 = .ok (.iload_n 2, 1) := by decide +kernel
theorem dX1_become_82 : decode cX1_become 82 = .ok (.aaload, 1) := by decide +kernel
theorem dX1_become_83 : decode cX1_become 83 = .ok (.getfield 64, 3) := by decide +kernel
theorem dX1_become_86 : decode cX1_become 86 = .ok (.putfield 64, 3) := by decide +kernel
theorem dX1_become_89 : decode cX1_become 89 = .ok (.iinc 2 1, 3) := by decide +kernel
theorem dX1_become_92 : decode cX1_become 92 = .ok (.goto (-45), 3) := by decide +kernel
theorem dX1_become_95 : decode cX1_become 95 = .ok (.aload_n 1, 1) := by decide +kernel
theorem dX1_become_96 : decode cX1_become 96 = .ok (.getfield 23, 3) := by decide +kernel
theorem dX1_become_99 : decode cX1_become 99 = .ok (.iconst 0, 1) := by decide +kernel
theorem dX1_become_100 : decode cX1_become 100 = .ok (.aload_n 0, 1) := by decide +kernel
theorem dX1_become_101 : decode cX1_become 101 = .ok (.getfield 23, 3) := by decide +kernel
theorem dX1_become_104 : decode cX1_become 104 = .ok (.iconst 0, 1) := by decide +kernel
theorem dX1_become_105 : decode cX1_become 105 = .ok (.iconst 4, 1) := by decide +kernel
theorem dX1_become_106 : decode cX1_become 106 = .ok (.invokestatic 75, 3) := by decide +kernel
theorem dX1_become_109 : decode cX1_become 109 = .ok (.aload_n 0, 1) := by decide +kernel
theorem dX1_become_110 : decode cX1_become 110 = .ok (.aload_n 1, 1) := by decide +kernel
theorem dX1_become_111 : decode cX1_become 111 = .ok (.getfield 81, 3) := by decide +kernel
theorem dX1_become_114 : decode cX1_become 114 = .ok (.putfield 81, 3) := by decide +kernel
theorem dX1_become_117 : decode cX1_become 117 = .ok (.aload_n 0, 1) := by decide +kernel
theorem dX1_become_118 : decode cX1_become 118 = .ok (.aload_n 1, 1) := by decide +kernel
theorem dX1_become_119 : decode cX1_become 119 = .ok (.getfield 85, 3) := by decide +kernel
theorem dX1_become_122 : decode cX1_become 122 = .ok (.putfield 85, 3) := by decide +kernel
theorem dX1_become_125 : decode cX1_become 125 = .ok (.aload_n 0, 1) := by decide +kernel
theorem dX1_become_126 : decode cX1_become 126 = .ok (.aload_n 1, 1) := by decide +kernel
theorem dX1_become_127 : decode cX1_become 127 = .ok (.getfield 27, 3) := by decide +kernel
theorem dX1_become_130 : decode cX1_become 130 = .ok (.putfield 27, 3) := by decide +kernel
theorem dX1_become_133 : decode cX1_become 133 = .ok (.return_, 1) := by decide +kernel
theorem dX2_init_0 : decode cX2_init 0 = .ok (.aload_n 0, 1) := by decide +kernel
theorem dX2_init_1 : decode cX2_init 1 = .ok (.invokespecial 3, 3) := by decide +kernel
theorem dX2_init_4 : decode cX2_init 4 = .ok (.aload_n 0, 1) := by decide +kernel
theorem dX2_init_5 : decode cX2_init 5 = .ok (.bipush 40, 2) := by decide +kernel
theorem dX2_init_7 : decode cX2_init 7 = .ok (.newarray .int, 2) := by decide +kernel
theorem dX2_init_9 : decode cX2_init 9 = .ok (.putfield 9, 3) := by decide +kernel
theorem dX2_init_12 : decode cX2_init 12 = .ok (.aload_n 0, 1) := by decide +kernel
theorem dX2_init_13 : decode cX2_init 13 = .ok (.iconst 5, 1) := by decide +kernel
theorem dX2_init_14 : decode cX2_init 14 = .ok (.newarray .int, 2) := by decide +kernel
theorem dX2_init_16 : decode cX2_init 16 = .ok (.putfield 15, 3) := by decide +kernel
theorem dX2_init_19 : decode cX2_init 19 = .ok (.aload_n 0, 1) := by decide +kernel
theorem dX2_init_20 : decode cX2_init 20 = .ok (.iconst 5, 1) := by decide +kernel
theorem dX2_init_21 : decode cX2_init 21 = .ok (.newarray .int, 2) := by decide +kernel
theorem dX2_init_23 : decode cX2_init 23 = .ok (.putfield 18, 3) := by decide +kernel
theorem dX2_init_26 : decode cX2_init 26 = .ok (.return_, 1) := by decide +kernel
theorem dX2_tell_0 : decode cX2_tell 0 = .ok (.iload_n 1, 1) := by decide +kernel
theorem dX2_tell_1 : decode cX2_tell 1 = .ok (.ifCond .lt 30, 3) := by decide +kernel
theorem dX2_tell_4 : decode cX2_tell 4 = .ok (.iload_n 1, 1) := by decide +kernel
theorem dX2_tell_5 : decode cX2_tell 5 = .ok (.iconst 5, 1) := by decide +kernel
theorem dX2_tell_6 : decode cX2_tell 6 = .ok (.if_icmp .ge 25, 3) := by decide +kernel
theorem dX2_tell_9 : decode cX2_tell 9 = .ok (.iload_n 2, 1) := by decide +kernel
theorem dX2_tell_10 : decode cX2_tell 10 = .ok (.ifCond .lt 21, 3) := by decide +kernel
theorem dX2_tell_13 : decode cX2_tell 13 = .ok (.iload_n 2, 1) := by decide +kernel
theorem dX2_tell_14 : decode cX2_tell 14 = .ok (.bipush 8, 2) := by decide +kernel
theorem dX2_tell_16 : decode cX2_tell 16 = .ok (.if_icmp .ge 15, 3) := by decide +kernel
theorem dX2_tell_19 : decode cX2_tell 19 = .ok (.aload_n 0, 1) := by decide +kernel
theorem dX2_tell_20 : decode cX2_tell 20 = .ok (.getfield 9, 3) := by decide +kernel
theorem dX2_tell_23 : decode cX2_tell 23 = .ok (.iload_n 1, 1) := by decide +kernel
theorem dX2_tell_24 : decode cX2_tell 24 = .ok (.bipush 8, 2) := by decide +kernel
theorem dX2_tell_26 : decode cX2_tell 26 = .ok (.imul, 1) := by decide +kernel
theorem dX2_tell_27 : decode cX2_tell 27 = .ok (.iload_n 2, 1) := by decide +kernel
theorem dX2_tell_28 : decode cX2_tell 28 = .ok (.iadd, 1) := by decide +kernel
theorem dX2_tell_29 : decode cX2_tell 29 = .ok (.iload_n 3, 1) := by decide +kernel
theorem dX2_tell_30 : decode cX2_tell 30 = .ok (.iastore, 1) := by decide +kernel
theorem dX2_tell_31 : decode cX2_tell 31 = .ok (.return_, 1) := by decide +kernel
theorem dX2_find_0 : decode cX2_find 0 = .ok (.aload_n 0, 1) := by decide +kernel
theorem dX2_find_1 : decode cX2_find 1 = .ok (.iload_n 1, 1) := by decide +kernel
theorem dX2_find_2 : decode cX2_find 2 = .ok (.putfield 21, 3) := by decide +kernel
theorem dX2_find_5 : decode cX2_find 5 = .ok (.aload_n 0, 1) := by decide +kernel
theorem dX2_find_6 : decode cX2_find 6 = .ok (.iload_n 2, 1) := by decide +kernel
theorem dX2_find_7 : decode cX2_find 7 = .ok (.iconst 5, 1) := by decide +kernel
theorem dX2_find_8 : decode cX2_find 8 = .ok (.invokestatic 25, 3) := by decide +kernel
theorem dX2_find_11 : decode cX2_find 11 = .ok (.putfield 31, 3) := by decide +kernel
theorem dX2_find_14 : decode cX2_find 14 = .ok (.aload_n 0, 1) := by decide +kernel
theorem dX2_find_15 : decode cX2_find 15 = .ok (.iload_n 3, 1) := by decide +kernel
theorem dX2_find_16 : decode cX2_find 16 = .ok (.bipush 8, 2) := by decide +kernel
theorem dX2_find_18 : decode cX2_find 18 = .ok (.invokestatic 25, 3) := by decide +kernel
theorem dX2_find_21 : decode cX2_find 21 = .ok (.putfield 34, 3) := by decide +kernel
theorem dX2_find_24 : decode cX2_find 24 = .ok (.aload_n 0, 1) := by decide +kernel
theorem dX2_find_25 : decode cX2_find 25 = .ok (.ldc 39, 2) := by decide +kernel
theorem dX2_find_27 : decode cX2_find 27 = .ok (.putfield 40, 3) := by decide +kernel
theorem dX2_find_30 : decode cX2_find 30 = .ok (.aload_n 0, 1) := by decide +kernel
theorem dX2_find_31 : decode cX2_find 31 = .ok (.iconst 0, 1) := by decide +kernel
theorem dX2_find_32 : decode cX2_find 32 = .ok (.iconst 0, 1) := by decide +kernel
theorem dX2_find_33 : decode cX2_find 33 = .ok (.iconst 0, 1) := by decide +kernel
theorem dX2_find_34 : decode cX2_find 34 = .ok (.iconst 0, 1) := by decide +kernel
theorem dX2_find_35 : decode cX2_find 35 = .ok (.sipush 999, 3) := by decide +kernel
theorem dX2_find_38 : decode cX2_find 38 = .ok (.invokestatic 43, 3) := by decide +kernel
theorem dX2_find_41 : decode cX2_find 41 = .ok (.return_, 1) := by decide +kernel
theorem dX2_giveFrom_0 : decode cX2_giveFrom 0 = .ok (.aload_n 0, 1) := by decide +kernel
theorem dX2_giveFrom_1 : decode cX2_giveFrom 1 = .ok (.getfield 21, 3) := by decide +kernel
theorem dX2_giveFrom_4 : decode cX2_giveFrom 4 = .ok (.ifCond .ne 7, 3) := by decide +kernel
theorem dX2_giveFrom_7 : decode cX2_giveFrom 7 = .ok (.iload_n 3, 1) := by decide +kernel
theorem dX2_giveFrom_8 : decode cX2_giveFrom 8 = .ok (.goto 21, 3) := by decide +kernel
theorem dX2_giveFrom_11 : decode cX2_giveFrom 11 = .ok (.aload_n 0, 1) := by decide +kernel
theorem dX2_giveFrom_12 : decode cX2_giveFrom 12 = .ok (.getfield 21, 3) := by decide +kernel
theorem dX2_giveFrom_15 : decode cX2_giveFrom 15 = .ok (.iconst 1, 1) := by decide +kernel
theorem dX2_giveFrom_16 : decode cX2_giveFrom 16 = .ok (.if_icmp .ne 8, 3) := by decide +kernel
theorem dX2_giveFrom_19 : decode cX2_giveFrom 19 = .ok (.iload 4, 2) := by decide +kernel
theorem dX2_giveFrom_21 : decode cX2_giveFrom 21 = .ok (.goto 8, 3) := by decide +kernel
theorem dX2_giveFrom_24 : decode cX2_giveFrom 24 = .ok (.iload 4, 2) := by decide +kernel
theorem dX2_giveFrom_26 : decode cX2_giveFrom 26 = .ok (.iload 5, 2) := by decide +kernel
theorem dX2_giveFrom_28 : decode cX2_giveFrom 28 = .ok (.isub, 1) := by decide +kernel
theorem dX2_giveFrom_29 : decode cX2_giveFrom 29 = .ok (.istore 6, 2) := by decide +kernel
theorem dX2_giveFrom_31 : decode cX2_giveFrom 31 = .ok (.iload 6, 2) := by decide +kernel
theorem dX2_giveFrom_33 : decode cX2_giveFrom 33 = .ok (.aload_n 0, 1) := by decide +kernel
theorem dX2_giveFrom_34 : decode cX2_giveFrom 34 = .ok (.getfield 40, 3) := by decide +kernel
theorem dX2_giveFrom_37 : decode cX2_giveFrom 37 = .ok (.if_icmp .lt 4, 3) := by decide +kernel
theorem dX2_giveFrom_40 : decode cX2_giveFrom 40 = .ok (.return_, 1) := by decide +kernel
theorem dX2_giveFrom_41 : decode cX2_giveFrom 41 = .ok (.iload_n 1, 1) := by decide +kernel
theorem dX2_giveFrom_42 : decode cX2_giveFrom 42 = .ok (.aload_n 0, 1) := by decide +kernel
theorem dX2_giveFrom_43 : decode cX2_giveFrom 43 = .ok (.getfield 31, 3) := by decide +kernel
theorem dX2_giveFrom_46 : decode cX2_giveFrom 46 = .ok (.if_icmp .ge 8, 3) := by decide +kernel
theorem dX2_giveFrom_49 : decode cX2_giveFrom 49 = .ok (.iload_n 1, 1) := by decide +kernel
theorem dX2_giveFrom_50 : decode cX2_giveFrom 50 = .ok (.iconst 5, 1) := by decide +kernel
theorem dX2_giveFrom_51 : decode cX2_giveFrom 51 = .ok (.if_icmp .lt 24, 3) := by decide +kernel
theorem dX2_giveFrom_54 : decode cX2_giveFrom 54 = .ok (.aload_n 0, 1) := by decide +kernel
theorem dX2_giveFrom_55 : decode cX2_giveFrom 55 = .ok (.iload 6, 2) := by decide +kernel
theorem dX2_giveFrom_57 : decode cX2_giveFrom 57 = .ok (.putfield 40, 3) := by decide +kernel
theorem dX2_giveFrom_60 : decode cX2_giveFrom 60 = .ok (.aload_n 0, 1) := by decide +kernel
theorem dX2_giveFrom_61 : decode cX2_giveFrom 61 = .ok (.getfield 15, 3) := by decide +kernel
theorem dX2_giveFrom_64 : decode cX2_giveFrom 64 = .ok (.iconst 0, 1) := by decide +kernel
theorem dX2_giveFrom_65 : decode cX2_giveFrom 65 = .ok (.aload_n 0, 1) := by decide +kernel
theorem dX2_giveFrom_66 : decode cX2_giveFrom 66 = .ok (.getfield 18, 3) := by decide +kernel
theorem dX2_giveFrom_69 : decode cX2_giveFrom 69 = .ok (.iconst 0, 1) := by decide +kernel
theorem dX2_giveFrom_70 : decode cX2_giveFrom 70 = .ok (.iconst 5, 1) := by decide +kernel
theorem dX2_giveFrom_71 : decode cX2_giveFrom 71 = .ok (.invokestatic 47, 3) := by decide +kernel
theorem dX2_giveFrom_74 : decode cX2_giveFrom 74 = .ok (.return_, 1) := by decide +kernel
theorem dX2_giveFrom_75 : decode cX2_giveFrom 75 = .ok (.iconst 0, 1) := by decide +kernel
theorem dX2_giveFrom_76 : decode cX2_giveFrom 76 = .ok (.istore 7, 2) := by decide +kernel
theorem dX2_giveFrom_78 : decode cX2_giveFrom 78 = .ok (.iload 7, 2) := by decide +kernel
theorem dX2_giveFrom_80 : decode cX2_giveFrom 80 = .ok (.aload_n 0, 1) := by decide +kernel
theorem dX2_giveFrom_81 : decode cX2_giveFrom 81 = .ok (.getfield 34, 3) := by decide +kernel
theorem dX2_giveFrom_84 : decode cX2_giveFrom 84 = .ok (.if_icmp .ge 71, 3) := by decide +kernel
theorem dX2_giveFrom_87 : decode cX2_giveFrom 87 = .ok (.iload_n 2, 1) := by decide +kernel
theorem dX2_giveFrom_88 : decode cX2_giveFrom 88 = .ok (.iload 7, 2) := by decide +kernel
theorem dX2_giveFrom_90 : decode cX2_giveFrom 90 = .ok (.ishr, 1) := by decide +kernel
theorem dX2_giveFrom_91 : decode cX2_giveFrom 91 = .ok (.iconst 1, 1) := by decide +kernel
theorem dX2_giveFrom_92 : decode cX2_giveFrom 92 = .ok (.iand, 1) := by decide +kernel
theorem dX2_giveFrom_93 : decode cX2_giveFrom 93 = .ok (.ifCond .ne 56, 3) := by decide +kernel
theorem dX2_giveFrom_96 : decode cX2_giveFrom 96 = .ok (.aload_n 0, 1) := by decide +kernel
theorem dX2_giveFrom_97 : decode cX2_giveFrom 97 = .ok (.getfield 9, 3) := by decide +kernel
theorem dX2_giveFrom_100 : decode cX2_giveFrom 100 = .ok (.iload_n 1, 1) := by decide +kernel
theorem dX2_giveFrom_101 : decode cX2_giveFrom 101 = .ok (.bipush 8, 2) := by decide +kernel
theorem dX2_giveFrom_103 : decode cX2_giveFrom 103 = .ok (.imul, 1) := by decide +kernel
theorem dX2_giveFrom_104 : decode cX2_giveFrom 104 = .ok (.iload 7, 2) := by decide +kernel
theorem dX2_giveFrom_106 : decode cX2_giveFrom 106 = .ok (.iadd, 1) := by decide +kernel
theorem dX2_giveFrom_107 : decode cX2_giveFrom 107 = .ok (.iaload, 1) := by decide +kernel
theorem dX2_giveFrom_108 : decode cX2_giveFrom 108 = .ok (.istore 8, 2) := by decide +kernel
theorem dX2_giveFrom_110 : decode cX2_giveFrom 110 = .ok (.aload_n 0, 1) := by decide +kernel
theorem dX2_giveFrom_111 : decode cX2_giveFrom 111 = .ok (.getfield 15, 3) := by decide +kernel
theorem dX2_giveFrom_114 : decode cX2_giveFrom 114 = .ok (.iload_n 1, 1) := by decide +kernel
theorem dX2_giveFrom_115 : decode cX2_giveFrom 115 = .ok (.iload 7, 2) := by decide +kernel
theorem dX2_giveFrom_117 : decode cX2_giveFrom 117 = .ok (.iastore, 1) := by decide +kernel
theorem dX2_giveFrom_118 : decode cX2_giveFrom 118 = .ok (.aload_n 0, 1) := by decide +kernel
theorem dX2_giveFrom_119 : decode cX2_giveFrom 119 = .ok (.iload_n 1, 1) := by decide +kernel
theorem dX2_giveFrom_120 : decode cX2_giveFrom 120 = .ok (.iconst 1, 1) := by decide +kernel
theorem dX2_giveFrom_121 : decode cX2_giveFrom 121 = .ok (.iadd, 1) := by decide +kernel
theorem dX2_giveFrom_122 : decode cX2_giveFrom 122 = .ok (.iload_n 2, 1) := by decide +kernel
theorem dX2_giveFrom_123 : decode cX2_giveFrom 123 = .ok (.iconst 1, 1) := by decide +kernel
theorem dX2_giveFrom_124 : decode cX2_giveFrom 124 = .ok (.iload 7, 2) := by decide +kernel
theorem dX2_giveFrom_126 : decode cX2_giveFrom 126 = .ok (.ishl, 1) := by decide +kernel
theorem dX2_giveFrom_127 : decode cX2_giveFrom 127 = .ok (.ior, 1) := by decide +kernel
theorem dX2_giveFrom_128 : decode cX2_giveFrom 128 = .ok (.iload_n 3, 1) := by decide +kernel
theorem dX2_giveFrom_129 : decode cX2_giveFrom 129 = .ok (.iload 8, 2) := by decide +kernel
theorem dX2_giveFrom_131 : decode cX2_giveFrom 131 = .ok (.iadd, 1) := by decide +kernel
theorem dX2_giveFrom_132 : decode cX2_giveFrom 132 = .ok (.iload 4, 2) := by decide +kernel
theorem dX2_giveFrom_134 : decode cX2_giveFrom 134 = .ok (.iload 8, 2) := by decide +kernel
theorem dX2_giveFrom_136 : decode cX2_giveFrom 136 = .ok (.invokestatic 53, 3) := by decide +kernel
theorem dX2_giveFrom_139 : decode cX2_giveFrom 139 = .ok (.iload 5, 2) := by decide +kernel
theorem dX2_giveFrom_141 : decode cX2_giveFrom 141 = .ok (.iload 8, 2) := by decide +kernel
theorem dX2_giveFrom_143 : decode cX2_giveFrom 143 = .ok (.invokestatic 25, 3) := by decide +kernel
theorem dX2_giveFrom_146 : decode cX2_giveFrom 146 = .ok (.invokestatic 43, 3) := by decide +kernel
theorem dX2_giveFrom_149 : decode cX2_giveFrom 149 = .ok (.iinc 7 1, 3) := by decide +kernel
theorem dX2_giveFrom_152 : decode cX2_giveFrom 152 = .ok (.goto (-74), 3) := by decide +kernel
theorem dX2_giveFrom_155 : decode cX2_giveFrom 155 = .ok (.return_, 1) := by decide +kernel
theorem dX3_init_0 : decode cX3_init 0 = .ok (.aload_n 0, 1) := by decide +kernel
theorem dX3_init_1 : decode cX3_init 1 = .ok (.invokespecial 3, 3) := by decide +kernel
theorem dX3_init_4 : decode cX3_init 4 = .ok (.aload_n 0, 1) := by decide +kernel
theorem dX3_init_5 : decode cX3_init 5 = .ok (.bipush 20, 2) := by decide +kernel
theorem dX3_init_7 : decode cX3_init 7 = .ok (.newarray .int, 2) := by decide +kernel
theorem dX3_init_9 : decode cX3_init 9 = .ok (.putfield 11, 3) := by decide +kernel
theorem dX3_init_12 : decode cX3_init 12 = .ok (.return_, 1) := by decide +kernel
theorem dX3_run_0 : decode cX3_run 0 = .ok (.aload_n 0, 1) := by decide +kernel
theorem dX3_run_1 : decode cX3_run 1 = .ok (.aload_n 1, 1) := by decide +kernel
theorem dX3_run_2 : decode cX3_run 2 = .ok (.getfield 15, 3) := by decide +kernel
theorem dX3_run_5 : decode cX3_run 5 = .ok (.putfield 21, 3) := by decide +kernel
theorem dX3_run_8 : decode cX3_run 8 = .ok (.aload_n 0, 1) := by decide +kernel
theorem dX3_run_9 : decode cX3_run 9 = .ok (.iload_n 2, 1) := by decide +kernel
theorem dX3_run_10 : decode cX3_run 10 = .ok (.putfield 22, 3) := by decide +kernel
theorem dX3_run_13 : decode cX3_run 13 = .ok (.aload_n 0, 1) := by decide +kernel
theorem dX3_run_14 : decode cX3_run 14 = .ok (.aload_n 1, 1) := by decide +kernel
theorem dX3_run_15 : decode cX3_run 15 = .ok (.getfield 25, 3) := by decide +kernel
theorem dX3_run_18 : decode cX3_run 18 = .ok (.putfield 28, 3) := by decide +kernel
theorem dX3_run_21 : decode cX3_run 21 = .ok (.aload_n 0, 1) := by decide +kernel
theorem dX3_run_22 : decode cX3_run 22 = .ok (.iload_n 3, 1) := by decide +kernel
theorem dX3_run_23 : decode cX3_run 23 = .ok (.aload_n 0, 1) := by decide +kernel
theorem dX3_run_24 : decode cX3_run 24 = .ok (.getfield 21, 3) := by decide +kernel
theorem dX3_run_27 : decode cX3_run 27 = .ok (.iload 4, 2) := by decide +kernel
theorem dX3_run_29 : decode cX3_run 29 = .ok (.iconst 0, 1) := by decide +kernel
theorem dX3_run_30 : decode cX3_run 30 = .ok (.invokestatic 31, 3) := by decide +kernel
theorem dX3_run_33 : decode cX3_run 33 = .ok (.ireturn, 1) := by decide +kernel
theorem dX3_forget_0 : decode cX3_forget 0 = .ok (.aload_n 0, 1) := by decide +kernel
theorem dX3_forget_1 : decode cX3_forget 1 = .ok (.iconst 0, 1) := by decide +kernel
theorem dX3_forget_2 : decode cX3_forget 2 = .ok (.putfield 35, 3) := by decide +kernel
theorem dX3_forget_5 : decode cX3_forget 5 = .ok (.return_, 1) := by decide +kernel
theorem dX3_noted_0 : decode cX3_noted 0 = .ok (.iload_n 1, 1) := by decide +kernel
theorem dX3_noted_1 : decode cX3_noted 1 = .ok (.ifCond .lt 26, 3) := by decide +kernel
theorem dX3_noted_4 : decode cX3_noted 4 = .ok (.iload_n 1, 1) := by decide +kernel
theorem dX3_noted_5 : decode cX3_noted 5 = .ok (.aload_n 0, 1) := by decide +kernel
theorem dX3_noted_6 : decode cX3_noted 6 = .ok (.getfield 35, 3) := by decide +kernel
theorem dX3_noted_9 : decode cX3_noted 9 = .ok (.if_icmp .ge 18, 3) := by decide +kernel
theorem dX3_noted_12 : decode cX3_noted 12 = .ok (.iload_n 1, 1) := by decide +kernel
theorem dX3_noted_13 : decode cX3_noted 13 = .ok (.bipush 20, 2) := by decide +kernel
theorem dX3_noted_15 : decode cX3_noted 15 = .ok (.if_icmp .ge 12, 3) := by decide +kernel
theorem dX3_noted_18 : decode cX3_noted 18 = .ok (.aload_n 0, 1) := by decide +kernel
theorem dX3_noted_19 : decode cX3_noted 19 = .ok (.getfield 11, 3) := by decide +kernel
theorem dX3_noted_22 : decode cX3_noted 22 = .ok (.iload_n 1, 1) := by decide +kernel
theorem dX3_noted_23 : decode cX3_noted 23 = .ok (.iaload, 1) := by decide +kernel
theorem dX3_noted_24 : decode cX3_noted 24 = .ok (.goto 4, 3) := by decide +kernel
theorem dX3_noted_27 : decode cX3_noted 27 = .ok (.iconst (-1), 1) := by decide +kernel
theorem dX3_noted_28 : decode cX3_noted 28 = .ok (.ireturn, 1) := by decide +kernel
theorem dX3_note_0 : decode cX3_note 0 = .ok (.aload_n 0, 1) := by decide +kernel
theorem dX3_note_1 : decode cX3_note 1 = .ok (.getfield 35, 3) := by decide +kernel
theorem dX3_note_4 : decode cX3_note 4 = .ok (.bipush 20, 2) := by decide +kernel
theorem dX3_note_6 : decode cX3_note 6 = .ok (.if_icmp .ge 13, 3) := by decide +kernel
theorem dX3_note_9 : decode cX3_note 9 = .ok (.aload_n 0, 1) := by decide +kernel
theorem dX3_note_10 : decode cX3_note 10 = .ok (.getfield 11, 3) := by decide +kernel
theorem dX3_note_13 : decode cX3_note 13 = .ok (.aload_n 0, 1) := by decide +kernel
theorem dX3_note_14 : decode cX3_note 14 = .ok (.getfield 35, 3) := by decide +kernel
theorem dX3_note_17 : decode cX3_note 17 = .ok (.iload_n 1, 1) := by decide +kernel
theorem dX3_note_18 : decode cX3_note 18 = .ok (.iastore, 1) := by decide +kernel
theorem dX3_note_19 : decode cX3_note 19 = .ok (.aload_n 0, 1) := by decide +kernel
theorem dX3_note_20 : decode cX3_note 20 = .ok (.dup, 1) := by decide +kernel
theorem dX3_note_21 : decode cX3_note 21 = .ok (.getfield 35, 3) := by decide +kernel
theorem dX3_note_24 : decode cX3_note 24 = .ok (.iconst 1, 1) := by decide +kernel
theorem dX3_note_25 : decode cX3_note 25 = .ok (.iadd, 1) := by decide +kernel
theorem dX3_note_26 : decode cX3_note 26 = .ok (.putfield 35, 3) := by decide +kernel
theorem dX3_note_29 : decode cX3_note 29 = .ok (.return_, 1) := by decide +kernel
theorem dX3_holderOf_0 : decode cX3_holderOf 0 = .ok (.iload_n 1, 1) := by decide +kernel
theorem dX3_holderOf_1 : decode cX3_holderOf 1 = .ok (.istore_n 2, 1) := by decide +kernel
theorem dX3_holderOf_2 : decode cX3_holderOf 2 = .ok (.iconst 0, 1) := by decide +kernel
theorem dX3_holderOf_3 : decode cX3_holderOf 3 = .ok (.istore_n 3, 1) := by decide +kernel
theorem dX3_holderOf_4 : decode cX3_holderOf 4 = .ok (.iload_n 3, 1) := by decide +kernel
theorem dX3_holderOf_5 : decode cX3_holderOf 5 = .ok (.bipush 7, 2) := by decide +kernel
theorem dX3_holderOf_7 : decode cX3_holderOf 7 = .ok (.if_icmp .ge 35, 3) := by decide +kernel
theorem dX3_holderOf_10 : decode cX3_holderOf 10 = .ok (.iload_n 2, 1) := by decide +kernel
theorem dX3_holderOf_11 : decode cX3_holderOf 11 = .ok (.invokestatic 38, 3) := by decide +kernel
theorem dX3_holderOf_14 : decode cX3_holderOf 14 = .ok (.ifCond .eq 28, 3) := by decide +kernel
theorem dX3_holderOf_17 : decode cX3_holderOf 17 = .ok (.getstatic 42, 3) := by decide +kernel
theorem dX3_holderOf_20 : decode cX3_holderOf 20 = .ok (.iload_n 0, 1) := by decide +kernel
theorem dX3_holderOf_21 : decode cX3_holderOf 21 = .ok (.bipush 7, 2) := by decide +kernel
theorem dX3_holderOf_23 : decode cX3_holderOf 23 = .ok (.imul, 1) := by decide +kernel
theorem dX3_holderOf_24 : decode cX3_holderOf 24 = .ok (.iload_n 2, 1) := by decide +kernel
theorem dX3_holderOf_25 : decode cX3_holderOf 25 = .ok (.iadd, 1) := by decide +kernel
theorem dX3_holderOf_26 : decode cX3_holderOf 26 = .ok (.iaload, 1) := by decide +kernel
theorem dX3_holderOf_27 : decode cX3_holderOf 27 = .ok (.ifCond .ne 15, 3) := by decide +kernel
theorem dX3_holderOf_30 : decode cX3_holderOf 30 = .ok (.getstatic 45, 3) := by decide +kernel
theorem dX3_holderOf_33 : decode cX3_holderOf 33 = .ok (.iload_n 2, 1) := by decide +kernel
theorem dX3_holderOf_34 : decode cX3_holderOf 34 = .ok (.iaload, 1) := by decide +kernel
theorem dX3_holderOf_35 : decode cX3_holderOf 35 = .ok (.istore_n 2, 1) := by decide +kernel
theorem dX3_holderOf_36 : decode cX3_holderOf 36 = .ok (.iinc 3 1, 3) := by decide +kernel
theorem dX3_holderOf_39 : decode cX3_holderOf 39 = .ok (.goto (-35), 3) := by decide +kernel
theorem dX3_holderOf_42 : decode cX3_holderOf 42 = .ok (.iload_n 2, 1) := by decide +kernel
theorem dX3_holderOf_43 : decode cX3_holderOf 43 = .ok (.ireturn, 1) := by decide +kernel
theorem dX3_runFrom_0 : decode cX3_runFrom 0 = .ok (.iload 4, 2) := by decide +kernel
theorem dX3_runFrom_2 : decode cX3_runFrom 2 = .ok (.bipush 12, 2) := by decide +kernel
theorem dX3_runFrom_4 : decode cX3_runFrom 4 = .ok (.if_icmp .gt 19, 3) := by decide +kernel
theorem dX3_runFrom_7 : decode cX3_runFrom 7 = .ok (.iload_n 1, 1) := by decide +kernel
theorem dX3_runFrom_8 : decode cX3_runFrom 8 = .ok (.ifCond .lt 15, 3) := by decide +kernel
theorem dX3_runFrom_11 : decode cX3_runFrom 11 = .ok (.iload_n 1, 1) := by decide +kernel
theorem dX3_runFrom_12 : decode cX3_runFrom 12 = .ok (.iconst 3, 1) := by decide +kernel
theorem dX3_runFrom_13 : decode cX3_runFrom 13 = .ok (.if_icmp .ge 10, 3) := by decide +kernel
theorem dX3_runFrom_16 : decode cX3_runFrom 16 = .ok (.iload_n 2, 1) := by decide +kernel
theorem dX3_runFrom_17 : decode cX3_runFrom 17 = .ok (.invokestatic 38, 3) := by decide +kernel
theorem dX3_runFrom_20 : decode cX3_runFrom 20 = .ok (.ifCond .ne 5, 3) := by decide +kernel
theorem dX3_runFrom_23 : decode cX3_runFrom 23 = .ok (.iconst 0, 1) := by decide +kernel
theorem dX3_runFrom_24 : decode cX3_runFrom 24 = .ok (.ireturn, 1) := by decide +kernel
theorem dX3_runFrom_25 : decode cX3_runFrom 25 = .ok (.iload_n 1, 1) := by decide +kernel
theorem dX3_runFrom_26 : decode cX3_runFrom 26 = .ok (.iload_n 2, 1) := by decide +kernel
theorem dX3_runFrom_27 : decode cX3_runFrom 27 = .ok (.invokestatic 48, 3) := by decide +kernel
theorem dX3_runFrom_30 : decode cX3_runFrom 30 = .ok (.istore 5, 2) := by decide +kernel
theorem dX3_runFrom_32 : decode cX3_runFrom 32 = .ok (.iload 5, 2) := by decide +kernel
theorem dX3_runFrom_34 : decode cX3_runFrom 34 = .ok (.invokestatic 38, 3) := by decide +kernel
theorem dX3_runFrom_37 : decode cX3_runFrom 37 = .ok (.ifCond .ne 5, 3) := by decide +kernel
theorem dX3_runFrom_40 : decode cX3_runFrom 40 = .ok (.iconst 0, 1) := by decide +kernel
theorem dX3_runFrom_41 : decode cX3_runFrom 41 = .ok (.ireturn, 1) := by decide +kernel
theorem dX3_runFrom_42 : decode cX3_runFrom 42 = .ok (.getstatic 42, 3) := by decide +kernel
theorem dX3_runFrom_45 : decode cX3_runFrom 45 = .ok (.iload_n 1, 1) := by decide +kernel
theorem dX3_runFrom_46 : decode cX3_runFrom 46 = .ok (.bipush 7, 2) := by decide +kernel
theorem dX3_runFrom_48 : decode cX3_runFrom 48 = .ok (.imul, 1) := by decide +kernel
theorem dX3_runFrom_49 : decode cX3_runFrom 49 = .ok (.iload 5, 2) := by decide +kernel
theorem dX3_runFrom_51 : decode cX3_runFrom 51 = .ok (.iadd, 1) := by decide +kernel
theorem dX3_runFrom_52 : decode cX3_runFrom 52 = .ok (.iaload, 1) := by decide +kernel
theorem dX3_runFrom_53 : decode cX3_runFrom 53 = .ok (.istore 6, 2) := by decide +kernel
theorem dX3_runFrom_55 : decode cX3_runFrom 55 = .ok (.getstatic 45, 3) := by decide +kernel
theorem dX3_runFrom_58 : decode cX3_runFrom 58 = .ok (.iload 5, 2) := by decide +kernel
theorem dX3_runFrom_60 : decode cX3_runFrom 60 = .ok (.iaload, 1) := by decide +kernel
theorem dX3_runFrom_61 : decode cX3_runFrom 61 = .ok (.istore 7, 2) := by decide +kernel
theorem dX3_runFrom_63 : decode cX3_runFrom 63 = .ok (.iload 4, 2) := by decide +kernel
theorem dX3_runFrom_65 : decode cX3_runFrom 65 = .ok (.iconst 1, 1) := by decide +kernel
theorem dX3_runFrom_66 : decode cX3_runFrom 66 = .ok (.iadd, 1) := by decide +kernel
theorem dX3_runFrom_67 : decode cX3_runFrom 67 = .ok (.istore 8, 2) := by decide +kernel
theorem dX3_runFrom_69 : decode cX3_runFrom 69 = .ok (.aload_n 0, 1) := by decide +kernel
theorem dX3_runFrom_70 : decode cX3_runFrom 70 = .ok (.iload 6, 2) := by decide +kernel
theorem dX3_runFrom_72 : decode cX3_runFrom 72 = .ok (.invokevirtual 52, 3) := by decide +kernel
theorem dX3_runFrom_75 : decode cX3_runFrom 75 = .ok (.iload 6, 2) := by decide +kernel
theorem dX3_runFrom_77 : decode cX3_runFrom 77 = .ok (.lookupswitch 264 #[(10, 99), (11, 106), (12, 121), (20, 152), (30, 168), (40, 181), (50, 194), (51, 206), (60, 222), (70, 235), (71, 248)], 99) := by decide +kernel
theorem dX3_runFrom_176 : decode cX3_runFrom 176 = .ok (.iload_n 3, 1) := by decide +kernel
theorem dX3_runFrom_177 : decode cX3_runFrom 177 = .ok (.aload_n 0, 1) := by decide +kernel
theorem dX3_runFrom_178 : decode cX3_runFrom 178 = .ok (.getfield 22, 3) := by decide +kernel
theorem dX3_runFrom_181 : decode cX3_runFrom 181 = .ok (.iadd, 1) := by decide +kernel
theorem dX3_runFrom_182 : decode cX3_runFrom 182 = .ok (.ireturn, 1) := by decide +kernel
theorem dX3_runFrom_183 : decode cX3_runFrom 183 = .ok (.aload_n 0, 1) := by decide +kernel
theorem dX3_runFrom_184 : decode cX3_runFrom 184 = .ok (.iconst 0, 1) := by decide +kernel
theorem dX3_runFrom_185 : decode cX3_runFrom 185 = .ok (.aload_n 0, 1) := by decide +kernel
theorem dX3_runFrom_186 : decode cX3_runFrom 186 = .ok (.getfield 21, 3) := by decide +kernel
theorem dX3_runFrom_189 : decode cX3_runFrom 189 = .ok (.iload_n 3, 1) := by decide +kernel
theorem dX3_runFrom_190 : decode cX3_runFrom 190 = .ok (.iload 8, 2) := by decide +kernel
theorem dX3_runFrom_192 : decode cX3_runFrom 192 = .ok (.invokestatic 31, 3) := by decide +kernel
theorem dX3_runFrom_195 : decode cX3_runFrom 195 = .ok (.iconst 2, 1) := by decide +kernel
theorem dX3_runFrom_196 : decode cX3_runFrom 196 = .ok (.imul, 1) := by decide +kernel
theorem dX3_runFrom_197 : decode cX3_runFrom 197 = .ok (.ireturn, 1) := by decide +kernel
theorem dX3_runFrom_198 : decode cX3_runFrom 198 = .ok (.aload_n 0, 1) := by decide +kernel
theorem dX3_runFrom_199 : decode cX3_runFrom 199 = .ok (.iconst 1, 1) := by decide +kernel
theorem dX3_runFrom_200 : decode cX3_runFrom 200 = .ok (.aload_n 0, 1) := by decide +kernel
theorem dX3_runFrom_201 : decode cX3_runFrom 201 = .ok (.getfield 21, 3) := by decide +kernel
theorem dX3_runFrom_204 : decode cX3_runFrom 204 = .ok (.iload_n 3, 1) := by decide +kernel
theorem dX3_runFrom_205 : decode cX3_runFrom 205 = .ok (.iload 8, 2) := by decide +kernel
theorem dX3_runFrom_207 : decode cX3_runFrom 207 = .ok (.invokestatic 31, 3) := by decide +kernel
theorem dX3_runFrom_210 : decode cX3_runFrom 210 = .ok (.aload_n 0, 1) := by decide +kernel
theorem dX3_runFrom_211 : decode cX3_runFrom 211 = .ok (.iconst 0, 1) := by decide +kernel
theorem dX3_runFrom_212 : decode cX3_runFrom 212 = .ok (.aload_n 0, 1) := by decide +kernel
theorem dX3_runFrom_213 : decode cX3_runFrom 213 = .ok (.getfield 21, 3) := by decide +kernel
theorem dX3_runFrom_216 : decode cX3_runFrom 216 = .ok (.iload_n 3, 1) := by decide +kernel
theorem dX3_runFrom_217 : decode cX3_runFrom 217 = .ok (.aload_n 0, 1) := by decide +kernel
theorem dX3_runFrom_218 : decode cX3_runFrom 218 = .ok (.getfield 28, 3) := by decide +kernel
theorem dX3_runFrom_221 : decode cX3_runFrom 221 = .ok (.isub, 1) := by decide +kernel
theorem dX3_runFrom_222 : decode cX3_runFrom 222 = .ok (.iload 8, 2) := by decide +kernel
theorem dX3_runFrom_224 : decode cX3_runFrom 224 = .ok (.invokestatic 31, 3) := by decide +kernel
theorem dX3_runFrom_227 : decode cX3_runFrom 227 = .ok (.ixor, 1) := by decide +kernel
theorem dX3_runFrom_228 : decode cX3_runFrom 228 = .ok (.ireturn, 1) := by decide +kernel
theorem dX3_runFrom_229 : decode cX3_runFrom 229 = .ok (.aload_n 0, 1) := by decide +kernel
theorem dX3_runFrom_230 : decode cX3_runFrom 230 = .ok (.iconst 0, 1) := by decide +kernel
theorem dX3_runFrom_231 : decode cX3_runFrom 231 = .ok (.iload 7, 2) := by decide +kernel
theorem dX3_runFrom_233 : decode cX3_runFrom 233 = .ok (.iload_n 3, 1) := by decide +kernel
theorem dX3_runFrom_234 : decode cX3_runFrom 234 = .ok (.iload 8, 2) := by decide +kernel
theorem dX3_runFrom_236 : decode cX3_runFrom 236 = .ok (.invokestatic 31, 3) := by decide +kernel
theorem dX3_runFrom_239 : decode cX3_runFrom 239 = .ok (.aload_n 0, 1) := by decide +kernel
theorem dX3_runFrom_240 : decode cX3_runFrom 240 = .ok (.getfield 28, 3) := by decide +kernel
theorem dX3_runFrom_243 : decode cX3_runFrom 243 = .ok (.iadd, 1) := by decide +kernel
theorem dX3_runFrom_244 : decode cX3_runFrom 244 = .ok (.ireturn, 1) := by decide +kernel
theorem dX3_runFrom_245 : decode cX3_runFrom 245 = .ok (.aload_n 0, 1) := by decide +kernel
theorem dX3_runFrom_246 : decode cX3_runFrom 246 = .ok (.iconst 1, 1) := by decide +kernel
theorem dX3_runFrom_247 : decode cX3_runFrom 247 = .ok (.iload 7, 2) := by decide +kernel
theorem dX3_runFrom_249 : decode cX3_runFrom 249 = .ok (.iload_n 3, 1) := by decide +kernel
theorem dX3_runFrom_250 : decode cX3_runFrom 250 = .ok (.iload 8, 2) := by decide +kernel
theorem dX3_runFrom_252 : decode cX3_runFrom 252 = .ok (.invokestatic 31, 3) := by decide +kernel
theorem dX3_runFrom_255 : decode cX3_runFrom 255 = .ok (.iconst 3, 1) := by decide +kernel
theorem dX3_runFrom_256 : decode cX3_runFrom 256 = .ok (.imul, 1) := by decide +kernel
theorem dX3_runFrom_257 : decode cX3_runFrom 257 = .ok (.ireturn, 1) := by decide +kernel
theorem dX3_runFrom_258 : decode cX3_runFrom 258 = .ok (.aload_n 0, 1) := by decide +kernel
theorem dX3_runFrom_259 : decode cX3_runFrom 259 = .ok (.iconst 1, 1) := by decide +kernel
theorem dX3_runFrom_260 : decode cX3_runFrom 260 = .ok (.iload 7, 2) := by decide +kernel
theorem dX3_runFrom_262 : decode cX3_runFrom 262 = .ok (.iload_n 3, 1) := by decide +kernel
theorem dX3_runFrom_263 : decode cX3_runFrom 263 = .ok (.iconst 1, 1) := by decide +kernel
theorem dX3_runFrom_264 : decode cX3_runFrom 264 = .ok (.iadd, 1) := by decide +kernel
theorem dX3_runFrom_265 : decode cX3_runFrom 265 = .ok (.iload 8, 2) := by decide +kernel
theorem dX3_runFrom_267 : decode cX3_runFrom 267 = .ok (.invokestatic 31, 3) := by decide +kernel
theorem dX3_runFrom_270 : decode cX3_runFrom 270 = .ok (.ireturn, 1) := by decide +kernel
theorem dX3_runFrom_271 : decode cX3_runFrom 271 = .ok (.aload_n 0, 1) := by decide +kernel
theorem dX3_runFrom_272 : decode cX3_runFrom 272 = .ok (.iconst 2, 1) := by decide +kernel
theorem dX3_runFrom_273 : decode cX3_runFrom 273 = .ok (.iload 7, 2) := by decide +kernel
theorem dX3_runFrom_275 : decode cX3_runFrom 275 = .ok (.iload_n 3, 1) := by decide +kernel
theorem dX3_runFrom_276 : decode cX3_runFrom 276 = .ok (.iload 8, 2) := by decide +kernel
theorem dX3_runFrom_278 : decode cX3_runFrom 278 = .ok (.invokestatic 31, 3) := by decide +kernel
theorem dX3_runFrom_281 : decode cX3_runFrom 281 = .ok (.ineg, 1) := by decide +kernel
theorem dX3_runFrom_282 : decode cX3_runFrom 282 = .ok (.ireturn, 1) := by decide +kernel
theorem dX3_runFrom_283 : decode cX3_runFrom 283 = .ok (.aload_n 0, 1) := by decide +kernel
theorem dX3_runFrom_284 : decode cX3_runFrom 284 = .ok (.iconst 0, 1) := by decide +kernel
theorem dX3_runFrom_285 : decode cX3_runFrom 285 = .ok (.iload 7, 2) := by decide +kernel
theorem dX3_runFrom_287 : decode cX3_runFrom 287 = .ok (.iload_n 3, 1) := by decide +kernel
theorem dX3_runFrom_288 : decode cX3_runFrom 288 = .ok (.iload 8, 2) := by decide +kernel
theorem dX3_runFrom_290 : decode cX3_runFrom 290 = .ok (.invokestatic 31, 3) := by decide +kernel
theorem dX3_runFrom_293 : decode cX3_runFrom 293 = .ok (.aload_n 0, 1) := by decide +kernel
theorem dX3_runFrom_294 : decode cX3_runFrom 294 = .ok (.getfield 22, 3) := by decide +kernel
theorem dX3_runFrom_297 : decode cX3_runFrom 297 = .ok (.isub, 1) := by decide +kernel
theorem dX3_runFrom_298 : decode cX3_runFrom 298 = .ok (.ireturn, 1) := by decide +kernel
theorem dX3_runFrom_299 : decode cX3_runFrom 299 = .ok (.aload_n 0, 1) := by decide +kernel
theorem dX3_runFrom_300 : decode cX3_runFrom 300 = .ok (.iconst 2, 1) := by decide +kernel
theorem dX3_runFrom_301 : decode cX3_runFrom 301 = .ok (.iload 7, 2) := by decide +kernel
theorem dX3_runFrom_303 : decode cX3_runFrom 303 = .ok (.iload_n 3, 1) := by decide +kernel
theorem dX3_runFrom_304 : decode cX3_runFrom 304 = .ok (.iload 8, 2) := by decide +kernel
theorem dX3_runFrom_306 : decode cX3_runFrom 306 = .ok (.invokestatic 31, 3) := by decide +kernel
theorem dX3_runFrom_309 : decode cX3_runFrom 309 = .ok (.iconst 5, 1) := by decide +kernel
theorem dX3_runFrom_310 : decode cX3_runFrom 310 = .ok (.ixor, 1) := by decide +kernel
theorem dX3_runFrom_311 : decode cX3_runFrom 311 = .ok (.ireturn, 1) := by decide +kernel
theorem dX3_runFrom_312 : decode cX3_runFrom 312 = .ok (.aload_n 0, 1) := by decide +kernel
theorem dX3_runFrom_313 : decode cX3_runFrom 313 = .ok (.iconst 0, 1) := by decide +kernel
theorem dX3_runFrom_314 : decode cX3_runFrom 314 = .ok (.iload 7, 2) := by decide +kernel
theorem dX3_runFrom_316 : decode cX3_runFrom 316 = .ok (.iload_n 3, 1) := by decide +kernel
theorem dX3_runFrom_317 : decode cX3_runFrom 317 = .ok (.iload 8, 2) := by decide +kernel
theorem dX3_runFrom_319 : decode cX3_runFrom 319 = .ok (.invokestatic 31, 3) := by decide +kernel
theorem dX3_runFrom_322 : decode cX3_runFrom 322 = .ok (.iconst 2, 1) := by decide +kernel
theorem dX3_runFrom_323 : decode cX3_runFrom 323 = .ok (.imul, 1) := by decide +kernel
theorem dX3_runFrom_324 : decode cX3_runFrom 324 = .ok (.ireturn, 1) := by decide +kernel
theorem dX3_runFrom_325 : decode cX3_runFrom 325 = .ok (.aload_n 0, 1) := by decide +kernel
theorem dX3_runFrom_326 : decode cX3_runFrom 326 = .ok (.iconst 1, 1) := by decide +kernel
theorem dX3_runFrom_327 : decode cX3_runFrom 327 = .ok (.iload 7, 2) := by decide +kernel
theorem dX3_runFrom_329 : decode cX3_runFrom 329 = .ok (.iload_n 3, 1) := by decide +kernel
theorem dX3_runFrom_330 : decode cX3_runFrom 330 = .ok (.aload_n 0, 1) := by decide +kernel
theorem dX3_runFrom_331 : decode cX3_runFrom 331 = .ok (.getfield 28, 3) := by decide +kernel
theorem dX3_runFrom_334 : decode cX3_runFrom 334 = .ok (.isub, 1) := by decide +kernel
theorem dX3_runFrom_335 : decode cX3_runFrom 335 = .ok (.iload 8, 2) := by decide +kernel
theorem dX3_runFrom_337 : decode cX3_runFrom 337 = .ok (.invokestatic 31, 3) := by decide +kernel
theorem dX3_runFrom_340 : decode cX3_runFrom 340 = .ok (.ireturn, 1) := by decide +kernel
theorem dX3_runFrom_341 : decode cX3_runFrom 341 = .ok (.iconst 0, 1) := by decide +kernel
theorem dX3_runFrom_342 : decode cX3_runFrom 342 = .ok (.ireturn, 1) := by decide +kernel
theorem dX4_init_0 : decode cX4_init 0 = .ok (.aload_n 0, 1) := by decide +kernel
theorem dX4_init_1 : decode cX4_init 1 = .ok (.invokespecial 3, 3) := by decide +kernel
theorem dX4_init_4 : decode cX4_init 4 = .ok (.aload_n 0, 1) := by decide +kernel
theorem dX4_init_5 : decode cX4_init 5 = .ok (.new 9, 3) := by decide +kernel
theorem dX4_init_8 : decode cX4_init 8 = .ok (.dup, 1) := by decide +kernel
theorem dX4_init_9 : decode cX4_init 9 = .ok (.invokespecial 11, 3) := by decide +kernel
theorem dX4_init_12 : decode cX4_init 12 = .ok (.putfield 12, 3) := by decide +kernel
theorem dX4_init_15 : decode cX4_init 15 = .ok (.aload_n 0, 1) := by decide +kernel
theorem dX4_init_16 : decode cX4_init 16 = .ok (.iconst (-1), 1) := by decide +kernel
theorem dX4_init_17 : decode cX4_init 17 = .ok (.putfield 18, 3) := by decide +kernel
theorem dX4_init_20 : decode cX4_init 20 = .ok (.return_, 1) := by decide +kernel
theorem dX4_take_0 : decode cX4_take 0 = .ok (.aload_n 1, 1) := by decide +kernel
theorem dX4_take_1 : decode cX4_take 1 = .ok (.iload_n 2, 1) := by decide +kernel
theorem dX4_take_2 : decode cX4_take 2 = .ok (.invokevirtual 22, 3) := by decide +kernel
theorem dX4_take_5 : decode cX4_take 5 = .ok (.ifCond .eq 16, 3) := by decide +kernel
theorem dX4_take_8 : decode cX4_take 8 = .ok (.aload_n 0, 1) := by decide +kernel
theorem dX4_take_9 : decode cX4_take 9 = .ok (.getfield 12, 3) := by decide +kernel
theorem dX4_take_12 : decode cX4_take 12 = .ok (.aload_n 1, 1) := by decide +kernel
theorem dX4_take_13 : decode cX4_take 13 = .ok (.getfield 28, 3) := by decide +kernel
theorem dX4_take_16 : decode cX4_take 16 = .ok (.iload_n 2, 1) := by decide +kernel
theorem dX4_take_17 : decode cX4_take 17 = .ok (.aaload, 1) := by decide +kernel
theorem dX4_take_18 : decode cX4_take 18 = .ok (.invokevirtual 32, 3) := by decide +kernel
theorem dX4_take_21 : decode cX4_take 21 = .ok (.aload_n 0, 1) := by decide +kernel
theorem dX4_take_22 : decode cX4_take 22 = .ok (.iconst 0, 1) := by decide +kernel
theorem dX4_take_23 : decode cX4_take 23 = .ok (.putfield 36, 3) := by decide +kernel
theorem dX4_take_26 : decode cX4_take 26 = .ok (.aload_n 0, 1) := by decide +kernel
theorem dX4_take_27 : decode cX4_take 27 = .ok (.aload_n 1, 1) := by decide +kernel
theorem dX4_take_28 : decode cX4_take 28 = .ok (.getfield 39, 3) := by decide +kernel
theorem dX4_take_31 : decode cX4_take 31 = .ok (.putfield 43, 3) := by decide +kernel
theorem dX4_take_34 : decode cX4_take 34 = .ok (.return_, 1) := by decide +kernel
theorem dX4_begin_0 : decode cX4_begin 0 = .ok (.aload_n 1, 1) := by decide +kernel
theorem dX4_begin_1 : decode cX4_begin 1 = .ok (.aload_n 0, 1) := by decide +kernel
theorem dX4_begin_2 : decode cX4_begin 2 = .ok (.getfield 12, 3) := by decide +kernel
theorem dX4_begin_5 : decode cX4_begin 5 = .ok (.getfield 44, 3) := by decide +kernel
theorem dX4_begin_8 : decode cX4_begin 8 = .ok (.invokevirtual 47, 3) := by decide +kernel
theorem dX4_begin_11 : decode cX4_begin 11 = .ok (.istore_n 2, 1) := by decide +kernel
theorem dX4_begin_12 : decode cX4_begin 12 = .ok (.iload_n 2, 1) := by decide +kernel
theorem dX4_begin_13 : decode cX4_begin 13 = .ok (.ifCond .eq 37, 3) := by decide +kernel
theorem dX4_begin_16 : decode cX4_begin 16 = .ok (.aload_n 1, 1) := by decide +kernel
theorem dX4_begin_17 : decode cX4_begin 17 = .ok (.getfield 50, 3) := by decide +kernel
theorem dX4_begin_20 : decode cX4_begin 20 = .ok (.aload_n 0, 1) := by decide +kernel
theorem dX4_begin_21 : decode cX4_begin 21 = .ok (.getfield 12, 3) := by decide +kernel
theorem dX4_begin_24 : decode cX4_begin 24 = .ok (.getfield 44, 3) := by decide +kernel
theorem dX4_begin_27 : decode cX4_begin 27 = .ok (.aaload, 1) := by decide +kernel
theorem dX4_begin_28 : decode cX4_begin 28 = .ok (.getfield 54, 3) := by decide +kernel
theorem dX4_begin_31 : decode cX4_begin 31 = .ok (.aload_n 0, 1) := by decide +kernel
theorem dX4_begin_32 : decode cX4_begin 32 = .ok (.getfield 12, 3) := by decide +kernel
theorem dX4_begin_35 : decode cX4_begin 35 = .ok (.getfield 59, 3) := by decide +kernel
theorem dX4_begin_38 : decode cX4_begin 38 = .ok (.isub, 1) := by decide +kernel
theorem dX4_begin_39 : decode cX4_begin 39 = .ok (.invokestatic 62, 3) := by decide +kernel
theorem dX4_begin_42 : decode cX4_begin 42 = .ok (.aload_n 0, 1) := by decide +kernel
theorem dX4_begin_43 : decode cX4_begin 43 = .ok (.getfield 36, 3) := by decide +kernel
theorem dX4_begin_46 : decode cX4_begin 46 = .ok (.iadd, 1) := by decide +kernel
theorem dX4_begin_47 : decode cX4_begin 47 = .ok (.goto 4, 3) := by decide +kernel
theorem dX4_begin_50 : decode cX4_begin 50 = .ok (.iconst 0, 1) := by decide +kernel
theorem dX4_begin_51 : decode cX4_begin 51 = .ok (.istore_n 3, 1) := by decide +kernel
theorem dX4_begin_52 : decode cX4_begin 52 = .ok (.iload_n 2, 1) := by decide +kernel
theorem dX4_begin_53 : decode cX4_begin 53 = .ok (.ifCond .eq 21, 3) := by decide +kernel
theorem dX4_begin_56 : decode cX4_begin 56 = .ok (.aload_n 1, 1) := by decide +kernel
theorem dX4_begin_57 : decode cX4_begin 57 = .ok (.getfield 50, 3) := by decide +kernel
theorem dX4_begin_60 : decode cX4_begin 60 = .ok (.aload_n 0, 1) := by decide +kernel
theorem dX4_begin_61 : decode cX4_begin 61 = .ok (.getfield 12, 3) := by decide +kernel
theorem dX4_begin_64 : decode cX4_begin 64 = .ok (.getfield 44, 3) := by decide +kernel
theorem dX4_begin_67 : decode cX4_begin 67 = .ok (.aaload, 1) := by decide +kernel
theorem dX4_begin_68 : decode cX4_begin 68 = .ok (.getfield 68, 3) := by decide +kernel
theorem dX4_begin_71 : decode cX4_begin 71 = .ok (.goto 4, 3) := by decide +kernel
theorem dX4_begin_74 : decode cX4_begin 74 = .ok (.iconst 0, 1) := by decide +kernel
theorem dX4_begin_75 : decode cX4_begin 75 = .ok (.istore 4, 2) := by decide +kernel
theorem dX4_begin_77 : decode cX4_begin 77 = .ok (.aload_n 0, 1) := by decide +kernel
theorem dX4_begin_78 : decode cX4_begin 78 = .ok (.aload_n 0, 1) := by decide +kernel
theorem dX4_begin_79 : decode cX4_begin 79 = .ok (.getfield 12, 3) := by decide +kernel
theorem dX4_begin_82 : decode cX4_begin 82 = .ok (.iload_n 3, 1) := by decide +kernel
theorem dX4_begin_83 : decode cX4_begin 83 = .ok (.invokestatic 71, 3) := by decide +kernel
theorem dX4_begin_86 : decode cX4_begin 86 = .ok (.putfield 75, 3) := by decide +kernel
theorem dX4_begin_89 : decode cX4_begin 89 = .ok (.aload_n 0, 1) := by decide +kernel
theorem dX4_begin_90 : decode cX4_begin 90 = .ok (.aload_n 0, 1) := by decide +kernel
theorem dX4_begin_91 : decode cX4_begin 91 = .ok (.getfield 12, 3) := by decide +kernel
theorem dX4_begin_94 : decode cX4_begin 94 = .ok (.getfield 78, 3) := by decide +kernel
theorem dX4_begin_97 : decode cX4_begin 97 = .ok (.invokestatic 81, 3) := by decide +kernel
theorem dX4_begin_100 : decode cX4_begin 100 = .ok (.putfield 84, 3) := by decide +kernel
theorem dX4_begin_103 : decode cX4_begin 103 = .ok (.aload_n 0, 1) := by decide +kernel
theorem dX4_begin_104 : decode cX4_begin 104 = .ok (.iconst 5, 1) := by decide +kernel
theorem dX4_begin_105 : decode cX4_begin 105 = .ok (.iload_n 3, 1) := by decide +kernel
theorem dX4_begin_106 : decode cX4_begin 106 = .ok (.imul, 1) := by decide +kernel
theorem dX4_begin_107 : decode cX4_begin 107 = .ok (.iconst 3, 1) := by decide +kernel
theorem dX4_begin_108 : decode cX4_begin 108 = .ok (.iload 4, 2) := by decide +kernel
theorem dX4_begin_110 : decode cX4_begin 110 = .ok (.imul, 1) := by decide +kernel
theorem dX4_begin_111 : decode cX4_begin 111 = .ok (.iadd, 1) := by decide +kernel
theorem dX4_begin_112 : decode cX4_begin 112 = .ok (.aload_n 0, 1) := by decide +kernel
theorem dX4_begin_113 : decode cX4_begin 113 = .ok (.getfield 75, 3) := by decide +kernel
theorem dX4_begin_116 : decode cX4_begin 116 = .ok (.iadd, 1) := by decide +kernel
theorem dX4_begin_117 : decode cX4_begin 117 = .ok (.putfield 87, 3) := by decide +kernel
theorem dX4_begin_120 : decode cX4_begin 120 = .ok (.aload_n 0, 1) := by decide +kernel
theorem dX4_begin_121 : decode cX4_begin 121 = .ok (.getfield 12, 3) := by decide +kernel
theorem dX4_begin_124 : decode cX4_begin 124 = .ok (.getfield 78, 3) := by decide +kernel
theorem dX4_begin_127 : decode cX4_begin 127 = .ok (.iconst 4, 1) := by decide +kernel
theorem dX4_begin_128 : decode cX4_begin 128 = .ok (.invokestatic 90, 3) := by decide +kernel
theorem dX4_begin_131 : decode cX4_begin 131 = .ok (.ifCond .eq 13, 3) := by decide +kernel
theorem dX4_begin_134 : decode cX4_begin 134 = .ok (.aload_n 0, 1) := by decide +kernel
theorem dX4_begin_135 : decode cX4_begin 135 = .ok (.dup, 1) := by decide +kernel
theorem dX4_begin_136 : decode cX4_begin 136 = .ok (.getfield 87, 3) := by decide +kernel
theorem dX4_begin_139 : decode cX4_begin 139 = .ok (.iconst 2, 1) := by decide +kernel
theorem dX4_begin_140 : decode cX4_begin 140 = .ok (.idiv, 1) := by decide +kernel
theorem dX4_begin_141 : decode cX4_begin 141 = .ok (.putfield 87, 3) := by decide +kernel
theorem dX4_begin_144 : decode cX4_begin 144 = .ok (.aload_n 0, 1) := by decide +kernel
theorem dX4_begin_145 : decode cX4_begin 145 = .ok (.aload_n 1, 1) := by decide +kernel
theorem dX4_begin_146 : decode cX4_begin 146 = .ok (.getfield 94, 3) := by decide +kernel
theorem dX4_begin_149 : decode cX4_begin 149 = .ok (.iconst 0, 1) := by decide +kernel
theorem dX4_begin_150 : decode cX4_begin 150 = .ok (.iaload, 1) := by decide +kernel
theorem dX4_begin_151 : decode cX4_begin 151 = .ok (.putfield 98, 3) := by decide +kernel
theorem dX4_begin_154 : decode cX4_begin 154 = .ok (.aload_n 0, 1) := by decide +kernel
theorem dX4_begin_155 : decode cX4_begin 155 = .ok (.aload_n 1, 1) := by decide +kernel
theorem dX4_begin_156 : decode cX4_begin 156 = .ok (.getfield 94, 3) := by decide +kernel
theorem dX4_begin_159 : decode cX4_begin 159 = .ok (.iconst 1, 1) := by decide +kernel
theorem dX4_begin_160 : decode cX4_begin 160 = .ok (.iaload, 1) := by decide +kernel
theorem dX4_begin_161 : decode cX4_begin 161 = .ok (.putfield 101, 3) := by decide +kernel
theorem dX4_begin_164 : decode cX4_begin 164 = .ok (.aload_n 0, 1) := by decide +kernel
theorem dX4_begin_165 : decode cX4_begin 165 = .ok (.iconst 0, 1) := by decide +kernel
theorem dX4_begin_166 : decode cX4_begin 166 = .ok (.aload_n 1, 1) := by decide +kernel
theorem dX4_begin_167 : decode cX4_begin 167 = .ok (.getfield 94, 3) := by decide +kernel
theorem dX4_begin_170 : decode cX4_begin 170 = .ok (.iconst 2, 1) := by decide +kernel
theorem dX4_begin_171 : decode cX4_begin 171 = .ok (.iaload, 1) := by decide +kernel
theorem dX4_begin_172 : decode cX4_begin 172 = .ok (.aload_n 0, 1) := by decide +kernel
theorem dX4_begin_173 : decode cX4_begin 173 = .ok (.getfield 12, 3) := by decide +kernel
theorem dX4_begin_176 : decode cX4_begin 176 = .ok (.getfield 59, 3) := by decide +kernel
theorem dX4_begin_179 : decode cX4_begin 179 = .ok (.isub, 1) := by decide +kernel
theorem dX4_begin_180 : decode cX4_begin 180 = .ok (.invokestatic 104, 3) := by decide +kernel
theorem dX4_begin_183 : decode cX4_begin 183 = .ok (.putfield 108, 3) := by decide +kernel
theorem dX4_begin_186 : decode cX4_begin 186 = .ok (.aload_n 0, 1) := by decide +kernel
theorem dX4_begin_187 : decode cX4_begin 187 = .ok (.aload_n 1, 1) := by decide +kernel
theorem dX4_begin_188 : decode cX4_begin 188 = .ok (.getfield 94, 3) := by decide +kernel
theorem dX4_begin_191 : decode cX4_begin 191 = .ok (.iconst 3, 1) := by decide +kernel
theorem dX4_begin_192 : decode cX4_begin 192 = .ok (.iaload, 1) := by decide +kernel
theorem dX4_begin_193 : decode cX4_begin 193 = .ok (.putfield 111, 3) := by decide +kernel
theorem dX4_begin_196 : decode cX4_begin 196 = .ok (.aload_n 0, 1) := by decide +kernel
theorem dX4_begin_197 : decode cX4_begin 197 = .ok (.aload_n 0, 1) := by decide +kernel
theorem dX4_begin_198 : decode cX4_begin 198 = .ok (.getfield 12, 3) := by decide +kernel
theorem dX4_begin_201 : decode cX4_begin 201 = .ok (.getfield 114, 3) := by decide +kernel
theorem dX4_begin_204 : decode cX4_begin 204 = .ok (.putfield 117, 3) := by decide +kernel
theorem dX4_begin_207 : decode cX4_begin 207 = .ok (.aload_n 0, 1) := by decide +kernel
theorem dX4_begin_208 : decode cX4_begin 208 = .ok (.iconst 0, 1) := by decide +kernel
theorem dX4_begin_209 : decode cX4_begin 209 = .ok (.putfield 120, 3) := by decide +kernel
theorem dX4_begin_212 : decode cX4_begin 212 = .ok (.aload_n 0, 1) := by decide +kernel
theorem dX4_begin_213 : decode cX4_begin 213 = .ok (.iconst 0, 1) := by decide +kernel
theorem dX4_begin_214 : decode cX4_begin 214 = .ok (.putfield 123, 3) := by decide +kernel
theorem dX4_begin_217 : decode cX4_begin 217 = .ok (.aload_n 0, 1) := by decide +kernel
theorem dX4_begin_218 : decode cX4_begin 218 = .ok (.iconst 0, 1) := by decide +kernel
theorem dX4_begin_219 : decode cX4_begin 219 = .ok (.putfield 126, 3) := by decide +kernel
theorem dX4_begin_222 : decode cX4_begin 222 = .ok (.aload_n 0, 1) := by decide +kernel
theorem dX4_begin_223 : decode cX4_begin 223 = .ok (.iconst (-1), 1) := by decide +kernel
theorem dX4_begin_224 : decode cX4_begin 224 = .ok (.putfield 18, 3) := by decide +kernel
theorem dX4_begin_227 : decode cX4_begin 227 = .ok (.aload_n 0, 1) := by decide +kernel
theorem dX4_begin_228 : decode cX4_begin 228 = .ok (.iconst 0, 1) := by decide +kernel
theorem dX4_begin_229 : decode cX4_begin 229 = .ok (.putfield 129, 3) := by decide +kernel
theorem dX4_begin_232 : decode cX4_begin 232 = .ok (.return_, 1) := by decide +kernel
theorem dX4_strideOf_0 : decode cX4_strideOf 0 = .ok (.aload_n 0, 1) := by decide +kernel
theorem dX4_strideOf_1 : decode cX4_strideOf 1 = .ok (.getfield 78, 3) := by decide +kernel
theorem dX4_strideOf_4 : decode cX4_strideOf 4 = .ok (.tableswitch 101 1 6 #[40, 51, 58, 67, 80, 90], 40) := by decide +kernel
theorem dX4_strideOf_44 : decode cX4_strideOf 44 = .ok (.iconst 1, 1) := by decide +kernel
theorem dX4_strideOf_45 : decode cX4_strideOf 45 = .ok (.aload_n 0, 1) := by decide +kernel
theorem dX4_strideOf_46 : decode cX4_strideOf 46 = .ok (.getfield 59, 3) := by decide +kernel
theorem dX4_strideOf_49 : decode cX4_strideOf 49 = .ok (.iconst 1, 1) := by decide +kernel
theorem dX4_strideOf_50 : decode cX4_strideOf 50 = .ok (.isub, 1) := by decide +kernel
theorem dX4_strideOf_51 : decode cX4_strideOf 51 = .ok (.invokestatic 104, 3) := by decide +kernel
theorem dX4_strideOf_54 : decode cX4_strideOf 54 = .ok (.ireturn, 1) := by decide +kernel
theorem dX4_strideOf_55 : decode cX4_strideOf 55 = .ok (.aload_n 0, 1) := by decide +kernel
theorem dX4_strideOf_56 : decode cX4_strideOf 56 = .ok (.getfield 59, 3) := by decide +kernel
theorem dX4_strideOf_59 : decode cX4_strideOf 59 = .ok (.iconst 2, 1) := by decide +kernel
theorem dX4_strideOf_60 : decode cX4_strideOf 60 = .ok (.iadd, 1) := by decide +kernel
theorem dX4_strideOf_61 : decode cX4_strideOf 61 = .ok (.ireturn, 1) := by decide +kernel
theorem dX4_strideOf_62 : decode cX4_strideOf 62 = .ok (.aload_n 0, 1) := by decide +kernel
theorem dX4_strideOf_63 : decode cX4_strideOf 63 = .ok (.getfield 59, 3) := by decide +kernel
theorem dX4_strideOf_66 : decode cX4_strideOf 66 = .ok (.iconst 1, 1) := by decide +kernel
theorem dX4_strideOf_67 : decode cX4_strideOf 67 = .ok (.iadd, 1) := by decide +kernel
theorem dX4_strideOf_68 : decode cX4_strideOf 68 = .ok (.iconst 2, 1) := by decide +kernel
theorem dX4_strideOf_69 : decode cX4_strideOf 69 = .ok (.idiv, 1) := by decide +kernel
theorem dX4_strideOf_70 : decode cX4_strideOf 70 = .ok (.ireturn, 1) := by decide +kernel
theorem dX4_strideOf_71 : decode cX4_strideOf 71 = .ok (.iconst 1, 1) := by decide +kernel
theorem dX4_strideOf_72 : decode cX4_strideOf 72 = .ok (.aload_n 0, 1) := by decide +kernel
theorem dX4_strideOf_73 : decode cX4_strideOf 73 = .ok (.getfield 59, 3) := by decide +kernel
theorem dX4_strideOf_76 : decode cX4_strideOf 76 = .ok (.iconst 1, 1) := by decide +kernel
theorem dX4_strideOf_77 : decode cX4_strideOf 77 = .ok (.iadd, 1) := by decide +kernel
theorem dX4_strideOf_78 : decode cX4_strideOf 78 = .ok (.iload_n 1, 1) := by decide +kernel
theorem dX4_strideOf_79 : decode cX4_strideOf 79 = .ok (.isub, 1) := by decide +kernel
theorem dX4_strideOf_80 : decode cX4_strideOf 80 = .ok (.invokestatic 104, 3) := by decide +kernel
theorem dX4_strideOf_83 : decode cX4_strideOf 83 = .ok (.ireturn, 1) := by decide +kernel
theorem dX4_strideOf_84 : decode cX4_strideOf 84 = .ok (.aload_n 0, 1) := by decide +kernel
theorem dX4_strideOf_85 : decode cX4_strideOf 85 = .ok (.getfield 59, 3) := by decide +kernel
theorem dX4_strideOf_88 : decode cX4_strideOf 88 = .ok (.aload_n 0, 1) := by decide +kernel
theorem dX4_strideOf_89 : decode cX4_strideOf 89 = .ok (.getfield 132, 3) := by decide +kernel
theorem dX4_strideOf_92 : decode cX4_strideOf 92 = .ok (.iadd, 1) := by decide +kernel
theorem dX4_strideOf_93 : decode cX4_strideOf 93 = .ok (.ireturn, 1) := by decide +kernel
theorem dX4_strideOf_94 : decode cX4_strideOf 94 = .ok (.iconst 1, 1) := by decide +kernel
theorem dX4_strideOf_95 : decode cX4_strideOf 95 = .ok (.aload_n 0, 1) := by decide +kernel
theorem dX4_strideOf_96 : decode cX4_strideOf 96 = .ok (.getfield 59, 3) := by decide +kernel
theorem dX4_strideOf_99 : decode cX4_strideOf 99 = .ok (.iload_n 1, 1) := by decide +kernel
theorem dX4_strideOf_100 : decode cX4_strideOf 100 = .ok (.isub, 1) := by decide +kernel
theorem dX4_strideOf_101 : decode cX4_strideOf 101 = .ok (.invokestatic 104, 3) := by decide +kernel
theorem dX4_strideOf_104 : decode cX4_strideOf 104 = .ok (.ireturn, 1) := by decide +kernel
theorem dX4_strideOf_105 : decode cX4_strideOf 105 = .ok (.aload_n 0, 1) := by decide +kernel
theorem dX4_strideOf_106 : decode cX4_strideOf 106 = .ok (.getfield 59, 3) := by decide +kernel
theorem dX4_strideOf_109 : decode cX4_strideOf 109 = .ok (.ireturn, 1) := by decide +kernel
theorem dX4_puffOf_0 : decode cX4_puffOf 0 = .ok (.iload_n 0, 1) := by decide +kernel
theorem dX4_puffOf_1 : decode cX4_puffOf 1 = .ok (.tableswitch 45 1 5 #[35, 37, 39, 41, 43], 35) := by decide +kernel
theorem dX4_puffOf_36 : decode cX4_puffOf 36 = .ok (.iconst 1, 1) := by decide +kernel
theorem dX4_puffOf_37 : decode cX4_puffOf 37 = .ok (.ireturn, 1) := by decide +kernel
theorem dX4_puffOf_38 : decode cX4_puffOf 38 = .ok (.iconst 4, 1) := by decide +kernel
theorem dX4_puffOf_39 : decode cX4_puffOf 39 = .ok (.ireturn, 1) := by decide +kernel
theorem dX4_puffOf_40 : decode cX4_puffOf 40 = .ok (.iconst 0, 1) := by decide +kernel
theorem dX4_puffOf_41 : decode cX4_puffOf 41 = .ok (.ireturn, 1) := by decide +kernel
theorem dX4_puffOf_42 : decode cX4_puffOf 42 = .ok (.iconst 3, 1) := by decide +kernel
theorem dX4_puffOf_43 : decode cX4_puffOf 43 = .ok (.ireturn, 1) := by decide +kernel
theorem dX4_puffOf_44 : decode cX4_puffOf 44 = .ok (.iconst 5, 1) := by decide +kernel
theorem dX4_puffOf_45 : decode cX4_puffOf 45 = .ok (.ireturn, 1) := by decide +kernel
theorem dX4_puffOf_46 : decode cX4_puffOf 46 = .ok (.iconst 2, 1) := by decide +kernel
theorem dX4_puffOf_47 : decode cX4_puffOf 47 = .ok (.ireturn, 1) := by decide +kernel
theorem dX4_riskNow_0 : decode cX4_riskNow 0 = .ok (.aload_n 0, 1) := by decide +kernel
theorem dX4_riskNow_1 : decode cX4_riskNow 1 = .ok (.getfield 111, 3) := by decide +kernel
theorem dX4_riskNow_4 : decode cX4_riskNow 4 = .ok (.aload_n 0, 1) := by decide +kernel
theorem dX4_riskNow_5 : decode cX4_riskNow 5 = .ok (.getfield 84, 3) := by decide +kernel
theorem dX4_riskNow_8 : decode cX4_riskNow 8 = .ok (.if_icmp .ge 13, 3) := by decide +kernel
theorem dX4_riskNow_11 : decode cX4_riskNow 11 = .ok (.aload_n 0, 1) := by decide +kernel
theorem dX4_riskNow_12 : decode cX4_riskNow 12 = .ok (.getfield 87, 3) := by decide +kernel
theorem dX4_riskNow_15 : decode cX4_riskNow 15 = .ok (.bipush 20, 2) := by decide +kernel
theorem dX4_riskNow_17 : decode cX4_riskNow 17 = .ok (.iadd, 1) := by decide +kernel
theorem dX4_riskNow_18 : decode cX4_riskNow 18 = .ok (.goto 7, 3) := by decide +kernel
theorem dX4_riskNow_21 : decode cX4_riskNow 21 = .ok (.aload_n 0, 1) := by decide +kernel
theorem dX4_riskNow_22 : decode cX4_riskNow 22 = .ok (.getfield 87, 3) := by decide +kernel
theorem dX4_riskNow_25 : decode cX4_riskNow 25 = .ok (.ireturn, 1) := by decide +kernel
theorem dX4_lie_0 : decode cX4_lie 0 = .ok (.aload_n 0, 1) := by decide +kernel
theorem dX4_lie_1 : decode cX4_lie 1 = .ok (.dup, 1) := by decide +kernel
theorem dX4_lie_2 : decode cX4_lie 2 = .ok (.getfield 123, 3) := by decide +kernel
theorem dX4_lie_5 : decode cX4_lie 5 = .ok (.iconst 1, 1) := by decide +kernel
theorem dX4_lie_6 : decode cX4_lie 6 = .ok (.isub, 1) := by decide +kernel
theorem dX4_lie_7 : decode cX4_lie 7 = .ok (.putfield 123, 3) := by decide +kernel
theorem dX4_lie_10 : decode cX4_lie 10 = .ok (.aload_n 0, 1) := by decide +kernel
theorem dX4_lie_11 : decode cX4_lie 11 = .ok (.bipush 60, 2) := by decide +kernel
theorem dX4_lie_13 : decode cX4_lie 13 = .ok (.aload_n 0, 1) := by decide +kernel
theorem dX4_lie_14 : decode cX4_lie 14 = .ok (.getfield 111, 3) := by decide +kernel
theorem dX4_lie_17 : decode cX4_lie 17 = .ok (.iconst 2, 1) := by decide +kernel
theorem dX4_lie_18 : decode cX4_lie 18 = .ok (.iadd, 1) := by decide +kernel
theorem dX4_lie_19 : decode cX4_lie 19 = .ok (.invokestatic 135, 3) := by decide +kernel
theorem dX4_lie_22 : decode cX4_lie 22 = .ok (.putfield 111, 3) := by decide +kernel
theorem dX4_lie_25 : decode cX4_lie 25 = .ok (.aload_n 0, 1) := by decide +kernel
theorem dX4_lie_26 : decode cX4_lie 26 = .ok (.getfield 43, 3) := by decide +kernel
theorem dX4_lie_29 : decode cX4_lie 29 = .ok (.ifCond .eq 13, 3) := by decide +kernel
theorem dX4_lie_32 : decode cX4_lie 32 = .ok (.aload_n 0, 1) := by decide +kernel
theorem dX4_lie_33 : decode cX4_lie 33 = .ok (.dup, 1) := by decide +kernel
theorem dX4_lie_34 : decode cX4_lie 34 = .ok (.getfield 117, 3) := by decide +kernel
theorem dX4_lie_37 : decode cX4_lie 37 = .ok (.iconst 1, 1) := by decide +kernel
theorem dX4_lie_38 : decode cX4_lie 38 = .ok (.iadd, 1) := by decide +kernel
theorem dX4_lie_39 : decode cX4_lie 39 = .ok (.putfield 117, 3) := by decide +kernel
theorem dX4_lie_42 : decode cX4_lie 42 = .ok (.aload_n 0, 1) := by decide +kernel
theorem dX4_lie_43 : decode cX4_lie 43 = .ok (.dup, 1) := by decide +kernel
theorem dX4_lie_44 : decode cX4_lie 44 = .ok (.getfield 129, 3) := by decide +kernel
theorem dX4_lie_47 : decode cX4_lie 47 = .ok (.iconst 1, 1) := by decide +kernel
theorem dX4_lie_48 : decode cX4_lie 48 = .ok (.iadd, 1) := by decide +kernel
theorem dX4_lie_49 : decode cX4_lie 49 = .ok (.putfield 129, 3) := by decide +kernel
theorem dX4_lie_52 : decode cX4_lie 52 = .ok (.return_, 1) := by decide +kernel
theorem dX4_hop_0 : decode cX4_hop 0 = .ok (.aload_n 0, 1) := by decide +kernel
theorem dX4_hop_1 : decode cX4_hop 1 = .ok (.bipush 60, 2) := by decide +kernel
theorem dX4_hop_3 : decode cX4_hop 3 = .ok (.iconst 0, 1) := by decide +kernel
theorem dX4_hop_4 : decode cX4_hop 4 = .ok (.aload_n 0, 1) := by decide +kernel
theorem dX4_hop_5 : decode cX4_hop 5 = .ok (.getfield 111, 3) := by decide +kernel
theorem dX4_hop_8 : decode cX4_hop 8 = .ok (.aload_n 0, 1) := by decide +kernel
theorem dX4_hop_9 : decode cX4_hop 9 = .ok (.getfield 84, 3) := by decide +kernel
theorem dX4_hop_12 : decode cX4_hop 12 = .ok (.isub, 1) := by decide +kernel
theorem dX4_hop_13 : decode cX4_hop 13 = .ok (.invokestatic 104, 3) := by decide +kernel
theorem dX4_hop_16 : decode cX4_hop 16 = .ok (.iconst 1, 1) := by decide +kernel
theorem dX4_hop_17 : decode cX4_hop 17 = .ok (.iadd, 1) := by decide +kernel
theorem dX4_hop_18 : decode cX4_hop 18 = .ok (.invokestatic 135, 3) := by decide +kernel
theorem dX4_hop_21 : decode cX4_hop 21 = .ok (.putfield 111, 3) := by decide +kernel
theorem dX4_hop_24 : decode cX4_hop 24 = .ok (.iload_n 1, 1) := by decide +kernel
theorem dX4_hop_25 : decode cX4_hop 25 = .ok (.ifCond .eq 39, 3) := by decide +kernel
theorem dX4_hop_28 : decode cX4_hop 28 = .ok (.aload_n 0, 1) := by decide +kernel
theorem dX4_hop_29 : decode cX4_hop 29 = .ok (.getfield 126, 3) := by decide +kernel
theorem dX4_hop_32 : decode cX4_hop 32 = .ok (.ifCond .ne 11, 3) := by decide +kernel
theorem dX4_hop_35 : decode cX4_hop 35 = .ok (.aload_n 0, 1) := by decide +kernel
theorem dX4_hop_36 : decode cX4_hop 36 = .ok (.aload_n 0, 1) := by decide +kernel
theorem dX4_hop_37 : decode cX4_hop 37 = .ok (.getfield 117, 3) := by decide +kernel
theorem dX4_hop_40 : decode cX4_hop 40 = .ok (.putfield 18, 3) := by decide +kernel
theorem dX4_hop_43 : decode cX4_hop 43 = .ok (.aload_n 0, 1) := by decide +kernel
theorem dX4_hop_44 : decode cX4_hop 44 = .ok (.dup, 1) := by decide +kernel
theorem dX4_hop_45 : decode cX4_hop 45 = .ok (.getfield 126, 3) := by decide +kernel
theorem dX4_hop_48 : decode cX4_hop 48 = .ok (.iconst 1, 1) := by decide +kernel
theorem dX4_hop_49 : decode cX4_hop 49 = .ok (.iadd, 1) := by decide +kernel
theorem dX4_hop_50 : decode cX4_hop 50 = .ok (.putfield 126, 3) := by decide +kernel
theorem dX4_hop_53 : decode cX4_hop 53 = .ok (.aload_n 0, 1) := by decide +kernel
theorem dX4_hop_54 : decode cX4_hop 54 = .ok (.aload_n 0, 1) := by decide +kernel
theorem dX4_hop_55 : decode cX4_hop 55 = .ok (.getfield 101, 3) := by decide +kernel
theorem dX4_hop_58 : decode cX4_hop 58 = .ok (.putfield 123, 3) := by decide +kernel
theorem dX4_hop_61 : decode cX4_hop 61 = .ok (.goto 16, 3) := by decide +kernel
theorem dX4_hop_64 : decode cX4_hop 64 = .ok (.aload_n 0, 1) := by decide +kernel
theorem dX4_hop_65 : decode cX4_hop 65 = .ok (.dup, 1) := by decide +kernel
theorem dX4_hop_66 : decode cX4_hop 66 = .ok (.getfield 117, 3) := by decide +kernel
theorem dX4_hop_69 : decode cX4_hop 69 = .ok (.aload_n 0, 1) := by decide +kernel
theorem dX4_hop_70 : decode cX4_hop 70 = .ok (.getfield 75, 3) := by decide +kernel
theorem dX4_hop_73 : decode cX4_hop 73 = .ok (.iadd, 1) := by decide +kernel
theorem dX4_hop_74 : decode cX4_hop 74 = .ok (.putfield 117, 3) := by decide +kernel
theorem dX4_hop_77 : decode cX4_hop 77 = .ok (.aload_n 0, 1) := by decide +kernel
theorem dX4_hop_78 : decode cX4_hop 78 = .ok (.dup, 1) := by decide +kernel
theorem dX4_hop_79 : decode cX4_hop 79 = .ok (.getfield 129, 3) := by decide +kernel
theorem dX4_hop_82 : decode cX4_hop 82 = .ok (.iconst 1, 1) := by decide +kernel
theorem dX4_hop_83 : decode cX4_hop 83 = .ok (.iadd, 1) := by decide +kernel
theorem dX4_hop_84 : decode cX4_hop 84 = .ok (.putfield 129, 3) := by decide +kernel
theorem dX4_hop_87 : decode cX4_hop 87 = .ok (.return_, 1) := by decide +kernel
theorem dX4_goASecond_0 : decode cX4_goASecond 0 = .ok (.aload_n 0, 1) := by decide +kernel
theorem dX4_goASecond_1 : decode cX4_goASecond 1 = .ok (.getfield 123, 3) := by decide +kernel
theorem dX4_goASecond_4 : decode cX4_goASecond 4 = .ok (.ifCond .le 8, 3) := by decide +kernel
theorem dX4_goASecond_7 : decode cX4_goASecond 7 = .ok (.aload_n 0, 1) := by decide +kernel
theorem dX4_goASecond_8 : decode cX4_goASecond 8 = .ok (.invokevirtual 138, 3) := by decide +kernel
theorem dX4_goASecond_11 : decode cX4_goASecond 11 = .ok (.return_, 1) := by decide +kernel
theorem dX4_goASecond_12 : decode cX4_goASecond 12 = .ok (.aload_n 0, 1) := by decide +kernel
theorem dX4_goASecond_13 : decode cX4_goASecond 13 = .ok (.dup, 1) := by decide +kernel
theorem dX4_goASecond_14 : decode cX4_goASecond 14 = .ok (.getfield 120, 3) := by decide +kernel
theorem dX4_goASecond_17 : decode cX4_goASecond 17 = .ok (.aload_n 0, 1) := by decide +kernel
theorem dX4_goASecond_18 : decode cX4_goASecond 18 = .ok (.invokevirtual 141, 3) := by decide +kernel
theorem dX4_goASecond_21 : decode cX4_goASecond 21 = .ok (.iadd, 1) := by decide +kernel
theorem dX4_goASecond_22 : decode cX4_goASecond 22 = .ok (.putfield 120, 3) := by decide +kernel
theorem dX4_goASecond_25 : decode cX4_goASecond 25 = .ok (.aload_n 0, 1) := by decide +kernel
theorem dX4_goASecond_26 : decode cX4_goASecond 26 = .ok (.getfield 120, 3) := by decide +kernel
theorem dX4_goASecond_29 : decode cX4_goASecond 29 = .ok (.bipush 100, 2) := by decide +kernel
theorem dX4_goASecond_31 : decode cX4_goASecond 31 = .ok (.if_icmp .lt 7, 3) := by decide +kernel
theorem dX4_goASecond_34 : decode cX4_goASecond 34 = .ok (.iconst 1, 1) := by decide +kernel
theorem dX4_goASecond_35 : decode cX4_goASecond 35 = .ok (.goto 4, 3) := by decide +kernel
theorem dX4_goASecond_38 : decode cX4_goASecond 38 = .ok (.iconst 0, 1) := by decide +kernel
theorem dX4_goASecond_39 : decode cX4_goASecond 39 = .ok (.istore_n 1, 1) := by decide +kernel
theorem dX4_goASecond_40 : decode cX4_goASecond 40 = .ok (.iload_n 1, 1) := by decide +kernel
theorem dX4_goASecond_41 : decode cX4_goASecond 41 = .ok (.ifCond .eq 14, 3) := by decide +kernel
theorem dX4_goASecond_44 : decode cX4_goASecond 44 = .ok (.aload_n 0, 1) := by decide +kernel
theorem dX4_goASecond_45 : decode cX4_goASecond 45 = .ok (.dup, 1) := by decide +kernel
theorem dX4_goASecond_46 : decode cX4_goASecond 46 = .ok (.getfield 120, 3) := by decide +kernel
theorem dX4_goASecond_49 : decode cX4_goASecond 49 = .ok (.bipush 100, 2) := by decide +kernel
theorem dX4_goASecond_51 : decode cX4_goASecond 51 = .ok (.isub, 1) := by decide +kernel
theorem dX4_goASecond_52 : decode cX4_goASecond 52 = .ok (.putfield 120, 3) := by decide +kernel
theorem dX4_goASecond_55 : decode cX4_goASecond 55 = .ok (.aload_n 0, 1) := by decide +kernel
theorem dX4_goASecond_56 : decode cX4_goASecond 56 = .ok (.iload_n 1, 1) := by decide +kernel
theorem dX4_goASecond_57 : decode cX4_goASecond 57 = .ok (.invokevirtual 145, 3) := by decide +kernel
theorem dX4_goASecond_60 : decode cX4_goASecond 60 = .ok (.return_, 1) := by decide +kernel
theorem dX4_goToWay_0 : decode cX4_goToWay 0 = .ok (.iconst 0, 1) := by decide +kernel
theorem dX4_goToWay_1 : decode cX4_goToWay 1 = .ok (.istore_n 2, 1) := by decide +kernel
theorem dX4_goToWay_2 : decode cX4_goToWay 2 = .ok (.iload_n 2, 1) := by decide +kernel
theorem dX4_goToWay_3 : decode cX4_goToWay 3 = .ok (.iload_n 1, 1) := by decide +kernel
theorem dX4_goToWay_4 : decode cX4_goToWay 4 = .ok (.if_icmp .ge 24, 3) := by decide +kernel
theorem dX4_goToWay_7 : decode cX4_goToWay 7 = .ok (.aload_n 0, 1) := by decide +kernel
theorem dX4_goToWay_8 : decode cX4_goToWay 8 = .ok (.getfield 117, 3) := by decide +kernel
theorem dX4_goToWay_11 : decode cX4_goToWay 11 = .ok (.aload_n 0, 1) := by decide +kernel
theorem dX4_goToWay_12 : decode cX4_goToWay 12 = .ok (.getfield 98, 3) := by decide +kernel
theorem dX4_goToWay_15 : decode cX4_goToWay 15 = .ok (.if_icmp .ge 13, 3) := by decide +kernel
theorem dX4_goToWay_18 : decode cX4_goToWay 18 = .ok (.aload_n 0, 1) := by decide +kernel
theorem dX4_goToWay_19 : decode cX4_goToWay 19 = .ok (.invokevirtual 149, 3) := by decide +kernel
theorem dX4_goToWay_22 : decode cX4_goToWay 22 = .ok (.iinc 2 1, 3) := by decide +kernel
theorem dX4_goToWay_25 : decode cX4_goToWay 25 = .ok (.goto (-23), 3) := by decide +kernel
theorem dX4_goToWay_28 : decode cX4_goToWay 28 = .ok (.return_, 1) := by decide +kernel
theorem dX4_timeNow_0 : decode cX4_timeNow 0 = .ok (.aload_n 0, 1) := by decide +kernel
theorem dX4_timeNow_1 : decode cX4_timeNow 1 = .ok (.getfield 117, 3) := by decide +kernel
theorem dX4_timeNow_4 : decode cX4_timeNow 4 = .ok (.aload_n 0, 1) := by decide +kernel
theorem dX4_timeNow_5 : decode cX4_timeNow 5 = .ok (.getfield 98, 3) := by decide +kernel
theorem dX4_timeNow_8 : decode cX4_timeNow 8 = .ok (.if_icmp .ge 9, 3) := by decide +kernel
theorem dX4_timeNow_11 : decode cX4_timeNow 11 = .ok (.sipush 999, 3) := by decide +kernel
theorem dX4_timeNow_14 : decode cX4_timeNow 14 = .ok (.goto 18, 3) := by decide +kernel
theorem dX4_timeNow_17 : decode cX4_timeNow 17 = .ok (.sipush 999, 3) := by decide +kernel
theorem dX4_timeNow_20 : decode cX4_timeNow 20 = .ok (.aload_n 0, 1) := by decide +kernel
theorem dX4_timeNow_21 : decode cX4_timeNow 21 = .ok (.getfield 129, 3) := by decide +kernel
theorem dX4_timeNow_24 : decode cX4_timeNow 24 = .ok (.aload_n 0, 1) := by decide +kernel
theorem dX4_timeNow_25 : decode cX4_timeNow 25 = .ok (.getfield 108, 3) := by decide +kernel
theorem dX4_timeNow_28 : decode cX4_timeNow 28 = .ok (.iadd, 1) := by decide +kernel
theorem dX4_timeNow_29 : decode cX4_timeNow 29 = .ok (.invokestatic 135, 3) := by decide +kernel
theorem dX4_timeNow_32 : decode cX4_timeNow 32 = .ok (.ireturn, 1) := by decide +kernel
theorem dX4_timeToRope_0 : decode cX4_timeToRope 0 = .ok (.aload_n 0, 1) := by decide +kernel
theorem dX4_timeToRope_1 : decode cX4_timeToRope 1 = .ok (.aload_n 1, 1) := by decide +kernel
theorem dX4_timeToRope_2 : decode cX4_timeToRope 2 = .ok (.invokevirtual 152, 3) := by decide +kernel
theorem dX4_timeToRope_5 : decode cX4_timeToRope 5 = .ok (.aload_n 0, 1) := by decide +kernel
theorem dX4_timeToRope_6 : decode cX4_timeToRope 6 = .ok (.sipush 999, 3) := by decide +kernel
theorem dX4_timeToRope_9 : decode cX4_timeToRope 9 = .ok (.invokevirtual 156, 3) := by decide +kernel
theorem dX4_timeToRope_12 : decode cX4_timeToRope 12 = .ok (.aload_n 0, 1) := by decide +kernel
theorem dX4_timeToRope_13 : decode cX4_timeToRope 13 = .ok (.invokevirtual 160, 3) := by decide +kernel
theorem dX4_timeToRope_16 : decode cX4_timeToRope 16 = .ok (.ireturn, 1) := by decide +kernel
theorem dX4_leastAheadFor_0 : decode cX4_leastAheadFor 0 = .ok (.iload_n 2, 1) := by decide +kernel
theorem dX4_leastAheadFor_1 : decode cX4_leastAheadFor 1 = .ok (.sipush 999, 3) := by decide +kernel
theorem dX4_leastAheadFor_4 : decode cX4_leastAheadFor 4 = .ok (.if_icmp .lt 5, 3) := by decide +kernel
theorem dX4_leastAheadFor_7 : decode cX4_leastAheadFor 7 = .ok (.iconst 0, 1) := by decide +kernel
theorem dX4_leastAheadFor_8 : decode cX4_leastAheadFor 8 = .ok (.ireturn, 1) := by decide +kernel
theorem dX4_leastAheadFor_9 : decode cX4_leastAheadFor 9 = .ok (.aload_n 0, 1) := by decide +kernel
theorem dX4_leastAheadFor_10 : decode cX4_leastAheadFor 10 = .ok (.getfield 12, 3) := by decide +kernel
theorem dX4_leastAheadFor_13 : decode cX4_leastAheadFor 13 = .ok (.iconst 0, 1) := by decide +kernel
theorem dX4_leastAheadFor_14 : decode cX4_leastAheadFor 14 = .ok (.putfield 114, 3) := by decide +kernel
theorem dX4_leastAheadFor_17 : decode cX4_leastAheadFor 17 = .ok (.aload_n 0, 1) := by decide +kernel
theorem dX4_leastAheadFor_18 : decode cX4_leastAheadFor 18 = .ok (.aload_n 1, 1) := by decide +kernel
theorem dX4_leastAheadFor_19 : decode cX4_leastAheadFor 19 = .ok (.invokevirtual 152, 3) := by decide +kernel
theorem dX4_leastAheadFor_22 : decode cX4_leastAheadFor 22 = .ok (.iload_n 2, 1) := by decide +kernel
theorem dX4_leastAheadFor_23 : decode cX4_leastAheadFor 23 = .ok (.aload_n 0, 1) := by decide +kernel
theorem dX4_leastAheadFor_24 : decode cX4_leastAheadFor 24 = .ok (.getfield 108, 3) := by decide +kernel
theorem dX4_leastAheadFor_27 : decode cX4_leastAheadFor 27 = .ok (.isub, 1) := by decide +kernel
theorem dX4_leastAheadFor_28 : decode cX4_leastAheadFor 28 = .ok (.istore_n 3, 1) := by decide +kernel
theorem dX4_leastAheadFor_29 : decode cX4_leastAheadFor 29 = .ok (.iload_n 3, 1) := by decide +kernel
theorem dX4_leastAheadFor_30 : decode cX4_leastAheadFor 30 = .ok (.ifCond .ge 5, 3) := by decide +kernel
theorem dX4_leastAheadFor_33 : decode cX4_leastAheadFor 33 = .ok (.iconst (-1), 1) := by decide +kernel
theorem dX4_leastAheadFor_34 : decode cX4_leastAheadFor 34 = .ok (.ireturn, 1) := by decide +kernel
theorem dX4_leastAheadFor_35 : decode cX4_leastAheadFor 35 = .ok (.iconst 0, 1) := by decide +kernel
theorem dX4_leastAheadFor_36 : decode cX4_leastAheadFor 36 = .ok (.istore 4, 2) := by decide +kernel
theorem dX4_leastAheadFor_38 : decode cX4_leastAheadFor 38 = .ok (.iload 4, 2) := by decide +kernel
theorem dX4_leastAheadFor_40 : decode cX4_leastAheadFor 40 = .ok (.iload_n 3, 1) := by decide +kernel
theorem dX4_leastAheadFor_41 : decode cX4_leastAheadFor 41 = .ok (.if_icmp .ge 13, 3) := by decide +kernel
theorem dX4_leastAheadFor_44 : decode cX4_leastAheadFor 44 = .ok (.aload_n 0, 1) := by decide +kernel
theorem dX4_leastAheadFor_45 : decode cX4_leastAheadFor 45 = .ok (.invokevirtual 149, 3) := by decide +kernel
theorem dX4_leastAheadFor_48 : decode cX4_leastAheadFor 48 = .ok (.iinc 4 1, 3) := by decide +kernel
theorem dX4_leastAheadFor_51 : decode cX4_leastAheadFor 51 = .ok (.goto (-13), 3) := by decide +kernel
theorem dX4_leastAheadFor_54 : decode cX4_leastAheadFor 54 = .ok (.iconst 0, 1) := by decide +kernel
theorem dX4_leastAheadFor_55 : decode cX4_leastAheadFor 55 = .ok (.aload_n 0, 1) := by decide +kernel
theorem dX4_leastAheadFor_56 : decode cX4_leastAheadFor 56 = .ok (.getfield 98, 3) := by decide +kernel
theorem dX4_leastAheadFor_59 : decode cX4_leastAheadFor 59 = .ok (.aload_n 0, 1) := by decide +kernel
theorem dX4_leastAheadFor_60 : decode cX4_leastAheadFor 60 = .ok (.getfield 117, 3) := by decide +kernel
theorem dX4_leastAheadFor_63 : decode cX4_leastAheadFor 63 = .ok (.isub, 1) := by decide +kernel
theorem dX4_leastAheadFor_64 : decode cX4_leastAheadFor 64 = .ok (.invokestatic 104, 3) := by decide +kernel
theorem dX4_leastAheadFor_67 : decode cX4_leastAheadFor 67 = .ok (.istore 4, 2) := by decide +kernel
theorem dX4_leastAheadFor_69 : decode cX4_leastAheadFor 69 = .ok (.iload 4, 2) := by decide +kernel
theorem dX4_leastAheadFor_71 : decode cX4_leastAheadFor 71 = .ok (.bipush 99, 2) := by decide +kernel
theorem dX4_leastAheadFor_73 : decode cX4_leastAheadFor 73 = .ok (.if_icmp .le 7, 3) := by decide +kernel
theorem dX4_leastAheadFor_76 : decode cX4_leastAheadFor 76 = .ok (.iconst (-1), 1) := by decide +kernel
theorem dX4_leastAheadFor_77 : decode cX4_leastAheadFor 77 = .ok (.goto 5, 3) := by decide +kernel
theorem dX4_leastAheadFor_80 : decode cX4_leastAheadFor 80 = .ok (.iload 4, 2) := by decide +kernel
theorem dX4_leastAheadFor_82 : decode cX4_leastAheadFor 82 = .ok (.ireturn, 1) := by decide +kernel
theorem dX5_init_0 : decode cX5_init 0 = .ok (.aload_n 0, 1) := by decide +kernel
theorem dX5_init_1 : decode cX5_init 1 = .ok (.invokespecial 5, 3) := by decide +kernel
theorem dX5_init_4 : decode cX5_init 4 = .ok (.aload_n 0, 1) := by decide +kernel
theorem dX5_init_5 : decode cX5_init 5 = .ok (.iconst 3, 1) := by decide +kernel
theorem dX5_init_6 : decode cX5_init 6 = .ok (.newarray .int, 2) := by decide +kernel
theorem dX5_init_8 : decode cX5_init 8 = .ok (.putfield 11, 3) := by decide +kernel
theorem dX5_init_11 : decode cX5_init 11 = .ok (.aload_n 0, 1) := by decide +kernel
theorem dX5_init_12 : decode cX5_init 12 = .ok (.iconst (-1), 1) := by decide +kernel
theorem dX5_init_13 : decode cX5_init 13 = .ok (.putfield 15, 3) := by decide +kernel
theorem dX5_init_16 : decode cX5_init 16 = .ok (.return_, 1) := by decide +kernel
theorem dX5_read_0 : decode cX5_read 0 = .ok (.aload_n 0, 1) := by decide +kernel
theorem dX5_read_1 : decode cX5_read 1 = .ok (.iconst 0, 1) := by decide +kernel
theorem dX5_read_2 : decode cX5_read 2 = .ok (.putfield 19, 3) := by decide +kernel
theorem dX5_read_5 : decode cX5_read 5 = .ok (.aload_n 0, 1) := by decide +kernel
theorem dX5_read_6 : decode cX5_read 6 = .ok (.iconst (-1), 1) := by decide +kernel
theorem dX5_read_7 : decode cX5_read 7 = .ok (.putfield 15, 3) := by decide +kernel
theorem dX5_read_10 : decode cX5_read 10 = .ok (.iconst 1, 1) := by decide +kernel
theorem dX5_read_11 : decode cX5_read 11 = .ok (.istore_n 3, 1) := by decide +kernel
theorem dX5_read_12 : decode cX5_read 12 = .ok (.iload_n 3, 1) := by decide +kernel
theorem dX5_read_13 : decode cX5_read 13 = .ok (.sipush 160, 3) := by decide +kernel
theorem dX5_read_16 : decode cX5_read 16 = .ok (.if_icmp .gt 69, 3) := by decide +kernel
theorem dX5_read_19 : decode cX5_read 19 = .ok (.aload_n 0, 1) := by decide +kernel
theorem dX5_read_20 : decode cX5_read 20 = .ok (.aload_n 1, 1) := by decide +kernel
theorem dX5_read_21 : decode cX5_read 21 = .ok (.aload_n 2, 1) := by decide +kernel
theorem dX5_read_22 : decode cX5_read 22 = .ok (.invokevirtual 22, 3) := by decide +kernel
theorem dX5_read_25 : decode cX5_read 25 = .ok (.aload_n 0, 1) := by decide +kernel
theorem dX5_read_26 : decode cX5_read 26 = .ok (.getfield 15, 3) := by decide +kernel
theorem dX5_read_29 : decode cX5_read 29 = .ok (.iconst (-1), 1) := by decide +kernel
theorem dX5_read_30 : decode cX5_read 30 = .ok (.if_icmp .ne 14, 3) := by decide +kernel
theorem dX5_read_33 : decode cX5_read 33 = .ok (.aload_n 0, 1) := by decide +kernel
theorem dX5_read_34 : decode cX5_read 34 = .ok (.getfield 19, 3) := by decide +kernel
theorem dX5_read_37 : decode cX5_read 37 = .ok (.aload_n 1, 1) := by decide +kernel
theorem dX5_read_38 : decode cX5_read 38 = .ok (.getfield 26, 3) := by decide +kernel
theorem dX5_read_41 : decode cX5_read 41 = .ok (.if_icmp .lt 5, 3) := by decide +kernel
theorem dX5_read_44 : decode cX5_read 44 = .ok (.iload_n 3, 1) := by decide +kernel
theorem dX5_read_45 : decode cX5_read 45 = .ok (.ireturn, 1) := by decide +kernel
theorem dX5_read_46 : decode cX5_read 46 = .ok (.aload_n 1, 1) := by decide +kernel
theorem dX5_read_47 : decode cX5_read 47 = .ok (.aload_n 0, 1) := by decide +kernel
theorem dX5_read_48 : decode cX5_read 48 = .ok (.getfield 19, 3) := by decide +kernel
theorem dX5_read_51 : decode cX5_read 51 = .ok (.invokevirtual 31, 3) := by decide +kernel
theorem dX5_read_54 : decode cX5_read 54 = .ok (.bipush 59, 2) := by decide +kernel
theorem dX5_read_56 : decode cX5_read 56 = .ok (.if_icmp .eq 13, 3) := by decide +kernel
theorem dX5_read_59 : decode cX5_read 59 = .ok (.aload_n 0, 1) := by decide +kernel
theorem dX5_read_60 : decode cX5_read 60 = .ok (.aload_n 0, 1) := by decide +kernel
theorem dX5_read_61 : decode cX5_read 61 = .ok (.getfield 19, 3) := by decide +kernel
theorem dX5_read_64 : decode cX5_read 64 = .ok (.putfield 15, 3) := by decide +kernel
theorem dX5_read_67 : decode cX5_read 67 = .ok (.iload_n 3, 1) := by decide +kernel
theorem dX5_read_68 : decode cX5_read 68 = .ok (.ireturn, 1) := by decide +kernel
theorem dX5_read_69 : decode cX5_read 69 = .ok (.aload_n 0, 1) := by decide +kernel
theorem dX5_read_70 : decode cX5_read 70 = .ok (.dup, 1) := by decide +kernel
theorem dX5_read_71 : decode cX5_read 71 = .ok (.getfield 19, 3) := by decide +kernel
theorem dX5_read_74 : decode cX5_read 74 = .ok (.iconst 1, 1) := by decide +kernel
theorem dX5_read_75 : decode cX5_read 75 = .ok (.iadd, 1) := by decide +kernel
theorem dX5_read_76 : decode cX5_read 76 = .ok (.putfield 19, 3) := by decide +kernel
theorem dX5_read_79 : decode cX5_read 79 = .ok (.iinc 3 1, 3) := by decide +kernel
theorem dX5_read_82 : decode cX5_read 82 = .ok (.goto (-70), 3) := by decide +kernel
theorem dX5_read_85 : decode cX5_read 85 = .ok (.iconst 0, 1) := by decide +kernel
theorem dX5_read_86 : decode cX5_read 86 = .ok (.ireturn, 1) := by decide +kernel
theorem dX5_readItem_0 : decode cX5_readItem 0 = .ok (.aload_n 0, 1) := by decide +kernel
theorem dX5_readItem_1 : decode cX5_readItem 1 = .ok (.aload_n 1, 1) := by decide +kernel
theorem dX5_readItem_2 : decode cX5_readItem 2 = .ok (.invokevirtual 35, 3) := by decide +kernel
theorem dX5_readItem_5 : decode cX5_readItem 5 = .ok (.istore_n 3, 1) := by decide +kernel
theorem dX5_readItem_6 : decode cX5_readItem 6 = .ok (.iload_n 3, 1) := by decide +kernel
theorem dX5_readItem_7 : decode cX5_readItem 7 = .ok (.iconst (-1), 1) := by decide +kernel
theorem dX5_readItem_8 : decode cX5_readItem 8 = .ok (.if_icmp .ne 4, 3) := by decide +kernel
theorem dX5_readItem_11 : decode cX5_readItem 11 = .ok (.return_, 1) := by decide +kernel
theorem dX5_readItem_12 : decode cX5_readItem 12 = .ok (.aload_n 2, 1) := by decide +kernel
theorem dX5_readItem_13 : decode cX5_readItem 13 = .ok (.iload_n 3, 1) := by decide +kernel
theorem dX5_readItem_14 : decode cX5_readItem 14 = .ok (.invokestatic 39, 3) := by decide +kernel
theorem dX5_readItem_17 : decode cX5_readItem 17 = .ok (.ifCond .ne 12, 3) := by decide +kernel
theorem dX5_readItem_20 : decode cX5_readItem 20 = .ok (.aload_n 0, 1) := by decide +kernel
theorem dX5_readItem_21 : decode cX5_readItem 21 = .ok (.aload_n 0, 1) := by decide +kernel
theorem dX5_readItem_22 : decode cX5_readItem 22 = .ok (.getfield 19, 3) := by decide +kernel
theorem dX5_readItem_25 : decode cX5_readItem 25 = .ok (.putfield 15, 3) := by decide +kernel
theorem dX5_readItem_28 : decode cX5_readItem 28 = .ok (.return_, 1) := by decide +kernel
theorem dX5_readItem_29 : decode cX5_readItem 29 = .ok (.aload_n 0, 1) := by decide +kernel
theorem dX5_readItem_30 : decode cX5_readItem 30 = .ok (.dup, 1) := by decide +kernel
theorem dX5_readItem_31 : decode cX5_readItem 31 = .ok (.getfield 19, 3) := by decide +kernel
theorem dX5_readItem_34 : decode cX5_readItem 34 = .ok (.iload_n 3, 1) := by decide +kernel
theorem dX5_readItem_35 : decode cX5_readItem 35 = .ok (.invokestatic 43, 3) := by decide +kernel
theorem dX5_readItem_38 : decode cX5_readItem 38 = .ok (.invokevirtual 47, 3) := by decide +kernel
theorem dX5_readItem_41 : decode cX5_readItem 41 = .ok (.iadd, 1) := by decide +kernel
theorem dX5_readItem_42 : decode cX5_readItem 42 = .ok (.putfield 19, 3) := by decide +kernel
theorem dX5_readItem_45 : decode cX5_readItem 45 = .ok (.iload_n 3, 1) := by decide +kernel
theorem dX5_readItem_46 : decode cX5_readItem 46 = .ok (.invokestatic 53, 3) := by decide +kernel
theorem dX5_readItem_49 : decode cX5_readItem 49 = .ok (.istore 4, 2) := by decide +kernel
theorem dX5_readItem_51 : decode cX5_readItem 51 = .ok (.iconst 0, 1) := by decide +kernel
theorem dX5_readItem_52 : decode cX5_readItem 52 = .ok (.istore 5, 2) := by decide +kernel
theorem dX5_readItem_54 : decode cX5_readItem 54 = .ok (.iload 5, 2) := by decide +kernel
theorem dX5_readItem_56 : decode cX5_readItem 56 = .ok (.iload 4, 2) := by decide +kernel
theorem dX5_readItem_58 : decode cX5_readItem 58 = .ok (.if_icmp .ge 37, 3) := by decide +kernel
theorem dX5_readItem_61 : decode cX5_readItem 61 = .ok (.aload_n 0, 1) := by decide +kernel
theorem dX5_readItem_62 : decode cX5_readItem 62 = .ok (.getfield 15, 3) := by decide +kernel
theorem dX5_readItem_65 : decode cX5_readItem 65 = .ok (.iconst (-1), 1) := by decide +kernel
theorem dX5_readItem_66 : decode cX5_readItem 66 = .ok (.if_icmp .ne 29, 3) := by decide +kernel
theorem dX5_readItem_69 : decode cX5_readItem 69 = .ok (.aload_n 0, 1) := by decide +kernel
theorem dX5_readItem_70 : decode cX5_readItem 70 = .ok (.aload_n 1, 1) := by decide +kernel
theorem dX5_readItem_71 : decode cX5_readItem 71 = .ok (.iload 5, 2) := by decide +kernel
theorem dX5_readItem_73 : decode cX5_readItem 73 = .ok (.iload_n 3, 1) := by decide +kernel
theorem dX5_readItem_74 : decode cX5_readItem 74 = .ok (.iload 5, 2) := by decide +kernel
theorem dX5_readItem_76 : decode cX5_readItem 76 = .ok (.invokestatic 56, 3) := by decide +kernel
theorem dX5_readItem_79 : decode cX5_readItem 79 = .ok (.aload_n 2, 1) := by decide +kernel
theorem dX5_readItem_80 : decode cX5_readItem 80 = .ok (.iload_n 3, 1) := by decide +kernel
theorem dX5_readItem_81 : decode cX5_readItem 81 = .ok (.iload 5, 2) := by decide +kernel
theorem dX5_readItem_83 : decode cX5_readItem 83 = .ok (.invokestatic 60, 3) := by decide +kernel
theorem dX5_readItem_86 : decode cX5_readItem 86 = .ok (.invokevirtual 64, 3) := by decide +kernel
theorem dX5_readItem_89 : decode cX5_readItem 89 = .ok (.iinc 5 1, 3) := by decide +kernel
theorem dX5_readItem_92 : decode cX5_readItem 92 = .ok (.goto (-38), 3) := by decide +kernel
theorem dX5_readItem_95 : decode cX5_readItem 95 = .ok (.aload_n 0, 1) := by decide +kernel
theorem dX5_readItem_96 : decode cX5_readItem 96 = .ok (.getfield 15, 3) := by decide +kernel
theorem dX5_readItem_99 : decode cX5_readItem 99 = .ok (.iconst (-1), 1) := by decide +kernel
theorem dX5_readItem_100 : decode cX5_readItem 100 = .ok (.if_icmp .ne 9, 3) := by decide +kernel
theorem dX5_readItem_103 : decode cX5_readItem 103 = .ok (.aload_n 0, 1) := by decide +kernel
theorem dX5_readItem_104 : decode cX5_readItem 104 = .ok (.aload_n 2, 1) := by decide +kernel
theorem dX5_readItem_105 : decode cX5_readItem 105 = .ok (.iload_n 3, 1) := by decide +kernel
theorem dX5_readItem_106 : decode cX5_readItem 106 = .ok (.invokevirtual 68, 3) := by decide +kernel
theorem dX5_readItem_109 : decode cX5_readItem 109 = .ok (.return_, 1) := by decide +kernel
theorem dX5_readWord_0 : decode cX5_readWord 0 = .ok (.iconst 0, 1) := by decide +kernel
theorem dX5_readWord_1 : decode cX5_readWord 1 = .ok (.istore_n 2, 1) := by decide +kernel
theorem dX5_readWord_2 : decode cX5_readWord 2 = .ok (.iconst 0, 1) := by decide +kernel
theorem dX5_readWord_3 : decode cX5_readWord 3 = .ok (.istore_n 3, 1) := by decide +kernel
theorem dX5_readWord_4 : decode cX5_readWord 4 = .ok (.iload_n 3, 1) := by decide +kernel
theorem dX5_readWord_5 : decode cX5_readWord 5 = .ok (.bipush 8, 2) := by decide +kernel
theorem dX5_readWord_7 : decode cX5_readWord 7 = .ok (.if_icmp .ge 41, 3) := by decide +kernel
theorem dX5_readWord_10 : decode cX5_readWord 10 = .ok (.aload_n 0, 1) := by decide +kernel
theorem dX5_readWord_11 : decode cX5_readWord 11 = .ok (.aload_n 1, 1) := by decide +kernel
theorem dX5_readWord_12 : decode cX5_readWord 12 = .ok (.iload_n 3, 1) := by decide +kernel
theorem dX5_readWord_13 : decode cX5_readWord 13 = .ok (.invokestatic 43, 3) := by decide +kernel
theorem dX5_readWord_16 : decode cX5_readWord 16 = .ok (.invokevirtual 72, 3) := by decide +kernel
theorem dX5_readWord_19 : decode cX5_readWord 19 = .ok (.istore 4, 2) := by decide +kernel
theorem dX5_readWord_21 : decode cX5_readWord 21 = .ok (.iload 4, 2) := by decide +kernel
theorem dX5_readWord_23 : decode cX5_readWord 23 = .ok (.iload_n 3, 1) := by decide +kernel
theorem dX5_readWord_24 : decode cX5_readWord 24 = .ok (.invokestatic 43, 3) := by decide +kernel
theorem dX5_readWord_27 : decode cX5_readWord 27 = .ok (.invokevirtual 47, 3) := by decide +kernel
theorem dX5_readWord_30 : decode cX5_readWord 30 = .ok (.if_icmp .ne 5, 3) := by decide +kernel
theorem dX5_readWord_33 : decode cX5_readWord 33 = .ok (.iload_n 3, 1) := by decide +kernel
theorem dX5_readWord_34 : decode cX5_readWord 34 = .ok (.ireturn, 1) := by decide +kernel
theorem dX5_readWord_35 : decode cX5_readWord 35 = .ok (.iload_n 2, 1) := by decide +kernel
theorem dX5_readWord_36 : decode cX5_readWord 36 = .ok (.iload 4, 2) := by decide +kernel
theorem dX5_readWord_38 : decode cX5_readWord 38 = .ok (.invokestatic 76, 3) := by decide +kernel
theorem dX5_readWord_41 : decode cX5_readWord 41 = .ok (.istore_n 2, 1) := by decide +kernel
theorem dX5_readWord_42 : decode cX5_readWord 42 = .ok (.iinc 3 1, 3) := by decide +kernel
theorem dX5_readWord_45 : decode cX5_readWord 45 = .ok (.goto (-41), 3) := by decide +kernel
theorem dX5_readWord_48 : decode cX5_readWord 48 = .ok (.aload_n 0, 1) := by decide +kernel
theorem dX5_readWord_49 : decode cX5_readWord 49 = .ok (.aload_n 0, 1) := by decide +kernel
theorem dX5_readWord_50 : decode cX5_readWord 50 = .ok (.getfield 19, 3) := by decide +kernel
theorem dX5_readWord_53 : decode cX5_readWord 53 = .ok (.iload_n 2, 1) := by decide +kernel
theorem dX5_readWord_54 : decode cX5_readWord 54 = .ok (.iadd, 1) := by decide +kernel
theorem dX5_readWord_55 : decode cX5_readWord 55 = .ok (.putfield 15, 3) := by decide +kernel
theorem dX5_readWord_58 : decode cX5_readWord 58 = .ok (.iconst (-1), 1) := by decide +kernel
theorem dX5_readWord_59 : decode cX5_readWord 59 = .ok (.ireturn, 1) := by decide +kernel
theorem dX5_lettersAlike_0 : decode cX5_lettersAlike 0 = .ok (.iconst 0, 1) := by decide +kernel
theorem dX5_lettersAlike_1 : decode cX5_lettersAlike 1 = .ok (.istore_n 3, 1) := by decide +kernel
theorem dX5_lettersAlike_2 : decode cX5_lettersAlike 2 = .ok (.iload_n 3, 1) := by decide +kernel
theorem dX5_lettersAlike_3 : decode cX5_lettersAlike 3 = .ok (.aload_n 2, 1) := by decide +kernel
theorem dX5_lettersAlike_4 : decode cX5_lettersAlike 4 = .ok (.invokevirtual 47, 3) := by decide +kernel
theorem dX5_lettersAlike_7 : decode cX5_lettersAlike 7 = .ok (.if_icmp .ge 27, 3) := by decide +kernel
theorem dX5_lettersAlike_10 : decode cX5_lettersAlike 10 = .ok (.aload_n 1, 1) := by decide +kernel
theorem dX5_lettersAlike_11 : decode cX5_lettersAlike 11 = .ok (.aload_n 0, 1) := by decide +kernel
theorem dX5_lettersAlike_12 : decode cX5_lettersAlike 12 = .ok (.getfield 19, 3) := by decide +kernel
theorem dX5_lettersAlike_15 : decode cX5_lettersAlike 15 = .ok (.iload_n 3, 1) := by decide +kernel
theorem dX5_lettersAlike_16 : decode cX5_lettersAlike 16 = .ok (.iadd, 1) := by decide +kernel
theorem dX5_lettersAlike_17 : decode cX5_lettersAlike 17 = .ok (.invokevirtual 31, 3) := by decide +kernel
theorem dX5_lettersAlike_20 : decode cX5_lettersAlike 20 = .ok (.aload_n 2, 1) := by decide +kernel
theorem dX5_lettersAlike_21 : decode cX5_lettersAlike 21 = .ok (.iload_n 3, 1) := by decide +kernel
theorem dX5_lettersAlike_22 : decode cX5_lettersAlike 22 = .ok (.invokevirtual 81, 3) := by decide +kernel
theorem dX5_lettersAlike_25 : decode cX5_lettersAlike 25 = .ok (.if_icmp .ne 9, 3) := by decide +kernel
theorem dX5_lettersAlike_28 : decode cX5_lettersAlike 28 = .ok (.iinc 3 1, 3) := by decide +kernel
theorem dX5_lettersAlike_31 : decode cX5_lettersAlike 31 = .ok (.goto (-29), 3) := by decide +kernel
theorem dX5_lettersAlike_34 : decode cX5_lettersAlike 34 = .ok (.iload_n 3, 1) := by decide +kernel
theorem dX5_lettersAlike_35 : decode cX5_lettersAlike 35 = .ok (.ireturn, 1) := by decide +kernel
theorem dX5_readNumber_0 : decode cX5_readNumber 0 = .ok (.aload_n 1, 1) := by decide +kernel
theorem dX5_readNumber_1 : decode cX5_readNumber 1 = .ok (.aload_n 0, 1) := by decide +kernel
theorem dX5_readNumber_2 : decode cX5_readNumber 2 = .ok (.getfield 19, 3) := by decide +kernel
theorem dX5_readNumber_5 : decode cX5_readNumber 5 = .ok (.invokevirtual 31, 3) := by decide +kernel
theorem dX5_readNumber_8 : decode cX5_readNumber 8 = .ok (.bipush 32, 2) := by decide +kernel
theorem dX5_readNumber_10 : decode cX5_readNumber 10 = .ok (.if_icmp .eq 12, 3) := by decide +kernel
theorem dX5_readNumber_13 : decode cX5_readNumber 13 = .ok (.aload_n 0, 1) := by decide +kernel
theorem dX5_readNumber_14 : decode cX5_readNumber 14 = .ok (.aload_n 0, 1) := by decide +kernel
theorem dX5_readNumber_15 : decode cX5_readNumber 15 = .ok (.getfield 19, 3) := by decide +kernel
theorem dX5_readNumber_18 : decode cX5_readNumber 18 = .ok (.putfield 15, 3) := by decide +kernel
theorem dX5_readNumber_21 : decode cX5_readNumber 21 = .ok (.return_, 1) := by decide +kernel
theorem dX5_readNumber_22 : decode cX5_readNumber 22 = .ok (.aload_n 0, 1) := by decide +kernel
theorem dX5_readNumber_23 : decode cX5_readNumber 23 = .ok (.dup, 1) := by decide +kernel
theorem dX5_readNumber_24 : decode cX5_readNumber 24 = .ok (.getfield 19, 3) := by decide +kernel
theorem dX5_readNumber_27 : decode cX5_readNumber 27 = .ok (.iconst 1, 1) := by decide +kernel
theorem dX5_readNumber_28 : decode cX5_readNumber 28 = .ok (.iadd, 1) := by decide +kernel
theorem dX5_readNumber_29 : decode cX5_readNumber 29 = .ok (.putfield 19, 3) := by decide +kernel
theorem dX5_readNumber_32 : decode cX5_readNumber 32 = .ok (.aload_n 0, 1) := by decide +kernel
theorem dX5_readNumber_33 : decode cX5_readNumber 33 = .ok (.getfield 19, 3) := by decide +kernel
theorem dX5_readNumber_36 : decode cX5_readNumber 36 = .ok (.istore 5, 2) := by decide +kernel
theorem dX5_readNumber_38 : decode cX5_readNumber 38 = .ok (.iconst 0, 1) := by decide +kernel
theorem dX5_readNumber_39 : decode cX5_readNumber 39 = .ok (.istore 6, 2) := by decide +kernel
theorem dX5_readNumber_41 : decode cX5_readNumber 41 = .ok (.aload_n 0, 1) := by decide +kernel
theorem dX5_readNumber_42 : decode cX5_readNumber 42 = .ok (.getfield 19, 3) := by decide +kernel
theorem dX5_readNumber_45 : decode cX5_readNumber 45 = .ok (.iload 5, 2) := by decide +kernel
theorem dX5_readNumber_47 : decode cX5_readNumber 47 = .ok (.iconst 3, 1) := by decide +kernel
theorem dX5_readNumber_48 : decode cX5_readNumber 48 = .ok (.iadd, 1) := by decide +kernel
theorem dX5_readNumber_49 : decode cX5_readNumber 49 = .ok (.if_icmp .ge 49, 3) := by decide +kernel
theorem dX5_readNumber_52 : decode cX5_readNumber 52 = .ok (.aload_n 1, 1) := by decide +kernel
theorem dX5_readNumber_53 : decode cX5_readNumber 53 = .ok (.aload_n 0, 1) := by decide +kernel
theorem dX5_readNumber_54 : decode cX5_readNumber 54 = .ok (.getfield 19, 3) := by decide +kernel
theorem dX5_readNumber_57 : decode cX5_readNumber 57 = .ok (.invokevirtual 31, 3) := by decide +kernel
theorem dX5_readNumber_60 : decode cX5_readNumber 60 = .ok (.invokestatic 85, 3) := by decide +kernel
theorem dX5_readNumber_63 : decode cX5_readNumber 63 = .ok (.ifCond .eq 35, 3) := by decide +kernel
theorem dX5_readNumber_66 : decode cX5_readNumber 66 = .ok (.iload 6, 2) := by decide +kernel
theorem dX5_readNumber_68 : decode cX5_readNumber 68 = .ok (.bipush 10, 2) := by decide +kernel
theorem dX5_readNumber_70 : decode cX5_readNumber 70 = .ok (.imul, 1) := by decide +kernel
theorem dX5_readNumber_71 : decode cX5_readNumber 71 = .ok (.aload_n 1, 1) := by decide +kernel
theorem dX5_readNumber_72 : decode cX5_readNumber 72 = .ok (.aload_n 0, 1) := by decide +kernel
theorem dX5_readNumber_73 : decode cX5_readNumber 73 = .ok (.getfield 19, 3) := by decide +kernel
theorem dX5_readNumber_76 : decode cX5_readNumber 76 = .ok (.invokevirtual 31, 3) := by decide +kernel
theorem dX5_readNumber_79 : decode cX5_readNumber 79 = .ok (.iadd, 1) := by decide +kernel
theorem dX5_readNumber_80 : decode cX5_readNumber 80 = .ok (.bipush 48, 2) := by decide +kernel
theorem dX5_readNumber_82 : decode cX5_readNumber 82 = .ok (.isub, 1) := by decide +kernel
theorem dX5_readNumber_83 : decode cX5_readNumber 83 = .ok (.istore 6, 2) := by decide +kernel
theorem dX5_readNumber_85 : decode cX5_readNumber 85 = .ok (.aload_n 0, 1) := by decide +kernel
theorem dX5_readNumber_86 : decode cX5_readNumber 86 = .ok (.dup, 1) := by decide +kernel
theorem dX5_readNumber_87 : decode cX5_readNumber 87 = .ok (.getfield 19, 3) := by decide +kernel
theorem dX5_readNumber_90 : decode cX5_readNumber 90 = .ok (.iconst 1, 1) := by decide +kernel
theorem dX5_readNumber_91 : decode cX5_readNumber 91 = .ok (.iadd, 1) := by decide +kernel
theorem dX5_readNumber_92 : decode cX5_readNumber 92 = .ok (.putfield 19, 3) := by decide +kernel
theorem dX5_readNumber_95 : decode cX5_readNumber 95 = .ok (.goto (-54), 3) := by decide +kernel
theorem dX5_readNumber_98 : decode cX5_readNumber 98 = .ok (.aload_n 0, 1) := by decide +kernel
theorem dX5_readNumber_99 : decode cX5_readNumber 99 = .ok (.getfield 19, 3) := by decide +kernel
theorem dX5_readNumber_102 : decode cX5_readNumber 102 = .ok (.iload 5, 2) := by decide +kernel
theorem dX5_readNumber_104 : decode cX5_readNumber 104 = .ok (.if_icmp .eq 16, 3) := by decide +kernel
theorem dX5_readNumber_107 : decode cX5_readNumber 107 = .ok (.iload 6, 2) := by decide +kernel
theorem dX5_readNumber_109 : decode cX5_readNumber 109 = .ok (.iload_n 3, 1) := by decide +kernel
theorem dX5_readNumber_110 : decode cX5_readNumber 110 = .ok (.if_icmp .lt 10, 3) := by decide +kernel
theorem dX5_readNumber_113 : decode cX5_readNumber 113 = .ok (.iload 6, 2) := by decide +kernel
theorem dX5_readNumber_115 : decode cX5_readNumber 115 = .ok (.iload 4, 2) := by decide +kernel
theorem dX5_readNumber_117 : decode cX5_readNumber 117 = .ok (.if_icmp .le 12, 3) := by decide +kernel
theorem dX5_readNumber_120 : decode cX5_readNumber 120 = .ok (.aload_n 0, 1) := by decide +kernel
theorem dX5_readNumber_121 : decode cX5_readNumber 121 = .ok (.iload 5, 2) := by decide +kernel
theorem dX5_readNumber_123 : decode cX5_readNumber 123 = .ok (.putfield 15, 3) := by decide +kernel
theorem dX5_readNumber_126 : decode cX5_readNumber 126 = .ok (.goto 24, 3) := by decide +kernel
theorem dX5_readNumber_129 : decode cX5_readNumber 129 = .ok (.iload_n 2, 1) := by decide +kernel
theorem dX5_readNumber_130 : decode cX5_readNumber 130 = .ok (.ifCond .lt 20, 3) := by decide +kernel
theorem dX5_readNumber_133 : decode cX5_readNumber 133 = .ok (.iload_n 2, 1) := by decide +kernel
theorem dX5_readNumber_134 : decode cX5_readNumber 134 = .ok (.aload_n 0, 1) := by decide +kernel
theorem dX5_readNumber_135 : decode cX5_readNumber 135 = .ok (.getfield 11, 3) := by decide +kernel
theorem dX5_readNumber_138 : decode cX5_readNumber 138 = .ok (.arraylength, 1) := by decide +kernel
theorem dX5_readNumber_139 : decode cX5_readNumber 139 = .ok (.if_icmp .ge 11, 3) := by decide +kernel
theorem dX5_readNumber_142 : decode cX5_readNumber 142 = .ok (.aload_n 0, 1) := by decide +kernel
theorem dX5_readNumber_143 : decode cX5_readNumber 143 = .ok (.getfield 11, 3) := by decide +kernel
theorem dX5_readNumber_146 : decode cX5_readNumber 146 = .ok (.iload_n 2, 1) := by decide +kernel
theorem dX5_readNumber_147 : decode cX5_readNumber 147 = .ok (.iload 6, 2) := by decide +kernel
theorem dX5_readNumber_149 : decode cX5_readNumber 149 = .ok (.iastore, 1) := by decide +kernel
theorem dX5_readNumber_150 : decode cX5_readNumber 150 = .ok (.return_, 1) := by decide +kernel
theorem dX5_tell_0 : decode cX5_tell 0 = .ok (.iload_n 2, 1) := by decide +kernel
theorem dX5_tell_1 : decode cX5_tell 1 = .ok (.tableswitch 149 0 3 #[31, 57, 77, 113], 31) := by decide +kernel
theorem dX5_tell_32 : decode cX5_tell 32 = .ok (.aload_n 1, 1) := by decide +kernel
theorem dX5_tell_33 : decode cX5_tell 33 = .ok (.aload_n 0, 1) := by decide +kernel
theorem dX5_tell_34 : decode cX5_tell 34 = .ok (.getfield 11, 3) := by decide +kernel
theorem dX5_tell_37 : decode cX5_tell 37 = .ok (.iconst 0, 1) := by decide +kernel
theorem dX5_tell_38 : decode cX5_tell 38 = .ok (.iaload, 1) := by decide +kernel
theorem dX5_tell_39 : decode cX5_tell 39 = .ok (.aload_n 0, 1) := by decide +kernel
theorem dX5_tell_40 : decode cX5_tell 40 = .ok (.getfield 11, 3) := by decide +kernel
theorem dX5_tell_43 : decode cX5_tell 43 = .ok (.iconst 1, 1) := by decide +kernel
theorem dX5_tell_44 : decode cX5_tell 44 = .ok (.iaload, 1) := by decide +kernel
theorem dX5_tell_45 : decode cX5_tell 45 = .ok (.aload_n 0, 1) := by decide +kernel
theorem dX5_tell_46 : decode cX5_tell 46 = .ok (.getfield 11, 3) := by decide +kernel
theorem dX5_tell_49 : decode cX5_tell 49 = .ok (.iconst 2, 1) := by decide +kernel
theorem dX5_tell_50 : decode cX5_tell 50 = .ok (.iaload, 1) := by decide +kernel
theorem dX5_tell_51 : decode cX5_tell 51 = .ok (.invokevirtual 89, 3) := by decide +kernel
theorem dX5_tell_54 : decode cX5_tell 54 = .ok (.pop, 1) := by decide +kernel
theorem dX5_tell_55 : decode cX5_tell 55 = .ok (.goto 108, 3) := by decide +kernel
theorem dX5_tell_58 : decode cX5_tell 58 = .ok (.aload_n 1, 1) := by decide +kernel
theorem dX5_tell_59 : decode cX5_tell 59 = .ok (.aload_n 0, 1) := by decide +kernel
theorem dX5_tell_60 : decode cX5_tell 60 = .ok (.getfield 11, 3) := by decide +kernel
theorem dX5_tell_63 : decode cX5_tell 63 = .ok (.iconst 0, 1) := by decide +kernel
theorem dX5_tell_64 : decode cX5_tell 64 = .ok (.iaload, 1) := by decide +kernel
theorem dX5_tell_65 : decode cX5_tell 65 = .ok (.aload_n 0, 1) := by decide +kernel
theorem dX5_tell_66 : decode cX5_tell 66 = .ok (.getfield 11, 3) := by decide +kernel
theorem dX5_tell_69 : decode cX5_tell 69 = .ok (.iconst 1, 1) := by decide +kernel
theorem dX5_tell_70 : decode cX5_tell 70 = .ok (.iaload, 1) := by decide +kernel
theorem dX5_tell_71 : decode cX5_tell 71 = .ok (.invokevirtual 95, 3) := by decide +kernel
theorem dX5_tell_74 : decode cX5_tell 74 = .ok (.pop, 1) := by decide +kernel
theorem dX5_tell_75 : decode cX5_tell 75 = .ok (.goto 88, 3) := by decide +kernel
theorem dX5_tell_78 : decode cX5_tell 78 = .ok (.aload_n 1, 1) := by decide +kernel
theorem dX5_tell_79 : decode cX5_tell 79 = .ok (.aload_n 0, 1) := by decide +kernel
theorem dX5_tell_80 : decode cX5_tell 80 = .ok (.getfield 11, 3) := by decide +kernel
theorem dX5_tell_83 : decode cX5_tell 83 = .ok (.iconst 0, 1) := by decide +kernel
theorem dX5_tell_84 : decode cX5_tell 84 = .ok (.iaload, 1) := by decide +kernel
theorem dX5_tell_85 : decode cX5_tell 85 = .ok (.invokevirtual 98, 3) := by decide +kernel
theorem dX5_tell_88 : decode cX5_tell 88 = .ok (.ifCond .eq 75, 3) := by decide +kernel
theorem dX5_tell_91 : decode cX5_tell 91 = .ok (.aload_n 1, 1) := by decide +kernel
theorem dX5_tell_92 : decode cX5_tell 92 = .ok (.getfield 101, 3) := by decide +kernel
theorem dX5_tell_95 : decode cX5_tell 95 = .ok (.aload_n 0, 1) := by decide +kernel
theorem dX5_tell_96 : decode cX5_tell 96 = .ok (.getfield 11, 3) := by decide +kernel
theorem dX5_tell_99 : decode cX5_tell 99 = .ok (.iconst 0, 1) := by decide +kernel
theorem dX5_tell_100 : decode cX5_tell 100 = .ok (.iaload, 1) := by decide +kernel
theorem dX5_tell_101 : decode cX5_tell 101 = .ok (.aaload, 1) := by decide +kernel
theorem dX5_tell_102 : decode cX5_tell 102 = .ok (.aload_n 0, 1) := by decide +kernel
theorem dX5_tell_103 : decode cX5_tell 103 = .ok (.getfield 11, 3) := by decide +kernel
theorem dX5_tell_106 : decode cX5_tell 106 = .ok (.iconst 1, 1) := by decide +kernel
theorem dX5_tell_107 : decode cX5_tell 107 = .ok (.iaload, 1) := by decide +kernel
theorem dX5_tell_108 : decode cX5_tell 108 = .ok (.putfield 105, 3) := by decide +kernel
theorem dX5_tell_111 : decode cX5_tell 111 = .ok (.goto 52, 3) := by decide +kernel
theorem dX5_tell_114 : decode cX5_tell 114 = .ok (.aload_n 1, 1) := by decide +kernel
theorem dX5_tell_115 : decode cX5_tell 115 = .ok (.aload_n 0, 1) := by decide +kernel
theorem dX5_tell_116 : decode cX5_tell 116 = .ok (.getfield 11, 3) := by decide +kernel
theorem dX5_tell_119 : decode cX5_tell 119 = .ok (.iconst 0, 1) := by decide +kernel
theorem dX5_tell_120 : decode cX5_tell 120 = .ok (.iaload, 1) := by decide +kernel
theorem dX5_tell_121 : decode cX5_tell 121 = .ok (.invokevirtual 98, 3) := by decide +kernel
theorem dX5_tell_124 : decode cX5_tell 124 = .ok (.ifCond .eq 39, 3) := by decide +kernel
theorem dX5_tell_127 : decode cX5_tell 127 = .ok (.aload_n 1, 1) := by decide +kernel
theorem dX5_tell_128 : decode cX5_tell 128 = .ok (.getfield 101, 3) := by decide +kernel
theorem dX5_tell_131 : decode cX5_tell 131 = .ok (.aload_n 0, 1) := by decide +kernel
theorem dX5_tell_132 : decode cX5_tell 132 = .ok (.getfield 11, 3) := by decide +kernel
theorem dX5_tell_135 : decode cX5_tell 135 = .ok (.iconst 0, 1) := by decide +kernel
theorem dX5_tell_136 : decode cX5_tell 136 = .ok (.iaload, 1) := by decide +kernel
theorem dX5_tell_137 : decode cX5_tell 137 = .ok (.aaload, 1) := by decide +kernel
theorem dX5_tell_138 : decode cX5_tell 138 = .ok (.aload_n 0, 1) := by decide +kernel
theorem dX5_tell_139 : decode cX5_tell 139 = .ok (.getfield 11, 3) := by decide +kernel
theorem dX5_tell_142 : decode cX5_tell 142 = .ok (.iconst 1, 1) := by decide +kernel
theorem dX5_tell_143 : decode cX5_tell 143 = .ok (.iaload, 1) := by decide +kernel
theorem dX5_tell_144 : decode cX5_tell 144 = .ok (.putfield 110, 3) := by decide +kernel
theorem dX5_tell_147 : decode cX5_tell 147 = .ok (.goto 16, 3) := by decide +kernel
theorem dX5_tell_150 : decode cX5_tell 150 = .ok (.aload_n 1, 1) := by decide +kernel
theorem dX5_tell_151 : decode cX5_tell 151 = .ok (.iload_n 2, 1) := by decide +kernel
theorem dX5_tell_152 : decode cX5_tell 152 = .ok (.iconst 4, 1) := by decide +kernel
theorem dX5_tell_153 : decode cX5_tell 153 = .ok (.isub, 1) := by decide +kernel
theorem dX5_tell_154 : decode cX5_tell 154 = .ok (.aload_n 0, 1) := by decide +kernel
theorem dX5_tell_155 : decode cX5_tell 155 = .ok (.getfield 11, 3) := by decide +kernel
theorem dX5_tell_158 : decode cX5_tell 158 = .ok (.iconst 0, 1) := by decide +kernel
theorem dX5_tell_159 : decode cX5_tell 159 = .ok (.iaload, 1) := by decide +kernel
theorem dX5_tell_160 : decode cX5_tell 160 = .ok (.invokevirtual 113, 3) := by decide +kernel
theorem dX5_tell_163 : decode cX5_tell 163 = .ok (.return_, 1) := by decide +kernel
theorem dX5_isDigit_0 : decode cX5_isDigit 0 = .ok (.iload_n 0, 1) := by decide +kernel
theorem dX5_isDigit_1 : decode cX5_isDigit 1 = .ok (.bipush 48, 2) := by decide +kernel
theorem dX5_isDigit_3 : decode cX5_isDigit 3 = .ok (.if_icmp .lt 13, 3) := by decide +kernel
theorem dX5_isDigit_6 : decode cX5_isDigit 6 = .ok (.iload_n 0, 1) := by decide +kernel
theorem dX5_isDigit_7 : decode cX5_isDigit 7 = .ok (.bipush 57, 2) := by decide +kernel
theorem dX5_isDigit_9 : decode cX5_isDigit 9 = .ok (.if_icmp .gt 7, 3) := by decide +kernel
theorem dX5_isDigit_12 : decode cX5_isDigit 12 = .ok (.iconst 1, 1) := by decide +kernel
theorem dX5_isDigit_13 : decode cX5_isDigit 13 = .ok (.goto 4, 3) := by decide +kernel
theorem dX5_isDigit_16 : decode cX5_isDigit 16 = .ok (.iconst 0, 1) := by decide +kernel
theorem dX5_isDigit_17 : decode cX5_isDigit 17 = .ok (.ireturn, 1) := by decide +kernel
theorem dX5_hasRoom_0 : decode cX5_hasRoom 0 = .ok (.iload_n 1, 1) := by decide +kernel
theorem dX5_hasRoom_1 : decode cX5_hasRoom 1 = .ok (.lookupswitch 57 #[(0, 27), (1, 42)], 27) := by decide +kernel
theorem dX5_hasRoom_28 : decode cX5_hasRoom 28 = .ok (.aload_n 0, 1) := by decide +kernel
theorem dX5_hasRoom_29 : decode cX5_hasRoom 29 = .ok (.getfield 117, 3) := by decide +kernel
theorem dX5_hasRoom_32 : decode cX5_hasRoom 32 = .ok (.bipush 8, 2) := by decide +kernel
theorem dX5_hasRoom_34 : decode cX5_hasRoom 34 = .ok (.if_icmp .ge 7, 3) := by decide +kernel
theorem dX5_hasRoom_37 : decode cX5_hasRoom 37 = .ok (.iconst 1, 1) := by decide +kernel
theorem dX5_hasRoom_38 : decode cX5_hasRoom 38 = .ok (.goto 4, 3) := by decide +kernel
theorem dX5_hasRoom_41 : decode cX5_hasRoom 41 = .ok (.iconst 0, 1) := by decide +kernel
theorem dX5_hasRoom_42 : decode cX5_hasRoom 42 = .ok (.ireturn, 1) := by decide +kernel
theorem dX5_hasRoom_43 : decode cX5_hasRoom 43 = .ok (.aload_n 0, 1) := by decide +kernel
theorem dX5_hasRoom_44 : decode cX5_hasRoom 44 = .ok (.getfield 120, 3) := by decide +kernel
theorem dX5_hasRoom_47 : decode cX5_hasRoom 47 = .ok (.bipush 8, 2) := by decide +kernel
theorem dX5_hasRoom_49 : decode cX5_hasRoom 49 = .ok (.if_icmp .ge 7, 3) := by decide +kernel
theorem dX5_hasRoom_52 : decode cX5_hasRoom 52 = .ok (.iconst 1, 1) := by decide +kernel
theorem dX5_hasRoom_53 : decode cX5_hasRoom 53 = .ok (.goto 4, 3) := by decide +kernel
theorem dX5_hasRoom_56 : decode cX5_hasRoom 56 = .ok (.iconst 0, 1) := by decide +kernel
theorem dX5_hasRoom_57 : decode cX5_hasRoom 57 = .ok (.ireturn, 1) := by decide +kernel
theorem dX5_hasRoom_58 : decode cX5_hasRoom 58 = .ok (.iconst 1, 1) := by decide +kernel
theorem dX5_hasRoom_59 : decode cX5_hasRoom 59 = .ok (.ireturn, 1) := by decide +kernel
theorem dX5_wordOf_0 : decode cX5_wordOf 0 = .ok (.iload_n 0, 1) := by decide +kernel
theorem dX5_wordOf_1 : decode cX5_wordOf 1 = .ok (.tableswitch 64 0 6 #[43, 46, 49, 52, 55, 58, 61], 43) := by decide +kernel
theorem dX5_wordOf_44 : decode cX5_wordOf 44 = .ok (.ldc 123, 2) := by decide +kernel
theorem dX5_wordOf_46 : decode cX5_wordOf 46 = .ok (.areturn, 1) := by decide +kernel
theorem dX5_wordOf_47 : decode cX5_wordOf 47 = .ok (.ldc 125, 2) := by decide +kernel
theorem dX5_wordOf_49 : decode cX5_wordOf 49 = .ok (.areturn, 1) := by decide +kernel
theorem dX5_wordOf_50 : decode cX5_wordOf 50 = .ok (.ldc 126, 2) := by decide +kernel
theorem dX5_wordOf_52 : decode cX5_wordOf 52 = .ok (.areturn, 1) := by decide +kernel
theorem dX5_wordOf_53 : decode cX5_wordOf 53 = .ok (.ldc 128, 2) := by decide +kernel
theorem dX5_wordOf_55 : decode cX5_wordOf 55 = .ok (.areturn, 1) := by decide +kernel
theorem dX5_wordOf_56 : decode cX5_wordOf 56 = .ok (.ldc 129, 2) := by decide +kernel
theorem dX5_wordOf_58 : decode cX5_wordOf 58 = .ok (.areturn, 1) := by decide +kernel
theorem dX5_wordOf_59 : decode cX5_wordOf 59 = .ok (.ldc 131, 2) := by decide +kernel
theorem dX5_wordOf_61 : decode cX5_wordOf 61 = .ok (.areturn, 1) := by decide +kernel
theorem dX5_wordOf_62 : decode cX5_wordOf 62 = .ok (.ldc 133, 2) := by decide +kernel
theorem dX5_wordOf_64 : decode cX5_wordOf 64 = .ok (.areturn, 1) := by decide +kernel
theorem dX5_wordOf_65 : decode cX5_wordOf 65 = .ok (.ldc 135, 2) := by decide +kernel
theorem dX5_wordOf_67 : decode cX5_wordOf 67 = .ok (.areturn, 1) := by decide +kernel
theorem dX5_numbersOf_0 : decode cX5_numbersOf 0 = .ok (.iload_n 0, 1) := by decide +kernel
theorem dX5_numbersOf_1 : decode cX5_numbersOf 1 = .ok (.tableswitch 35 0 3 #[31, 33, 33, 33], 31) := by decide +kernel
theorem dX5_numbersOf_32 : decode cX5_numbersOf 32 = .ok (.iconst 3, 1) := by decide +kernel
theorem dX5_numbersOf_33 : decode cX5_numbersOf 33 = .ok (.ireturn, 1) := by decide +kernel
theorem dX5_numbersOf_34 : decode cX5_numbersOf 34 = .ok (.iconst 2, 1) := by decide +kernel
theorem dX5_numbersOf_35 : decode cX5_numbersOf 35 = .ok (.ireturn, 1) := by decide +kernel
theorem dX5_numbersOf_36 : decode cX5_numbersOf 36 = .ok (.iconst 1, 1) := by decide +kernel
theorem dX5_numbersOf_37 : decode cX5_numbersOf 37 = .ok (.ireturn, 1) := by decide +kernel
theorem dX5_leastOf_0 : decode cX5_leastOf 0 = .ok (.iload_n 0, 1) := by decide +kernel
theorem dX5_leastOf_1 : decode cX5_leastOf 1 = .ok (.tableswitch 54 0 3 #[31, 42, 52, 52], 31) := by decide +kernel
theorem dX5_leastOf_32 : decode cX5_leastOf 32 = .ok (.iload_n 1, 1) := by decide +kernel
theorem dX5_leastOf_33 : decode cX5_leastOf 33 = .ok (.iconst 2, 1) := by decide +kernel
theorem dX5_leastOf_34 : decode cX5_leastOf 34 = .ok (.if_icmp .ne 7, 3) := by decide +kernel
theorem dX5_leastOf_37 : decode cX5_leastOf 37 = .ok (.iconst 1, 1) := by decide +kernel
theorem dX5_leastOf_38 : decode cX5_leastOf 38 = .ok (.goto 4, 3) := by decide +kernel
theorem dX5_leastOf_41 : decode cX5_leastOf 41 = .ok (.iconst 0, 1) := by decide +kernel
theorem dX5_leastOf_42 : decode cX5_leastOf 42 = .ok (.ireturn, 1) := by decide +kernel
theorem dX5_leastOf_43 : decode cX5_leastOf 43 = .ok (.iload_n 1, 1) := by decide +kernel
theorem dX5_leastOf_44 : decode cX5_leastOf 44 = .ok (.ifCond .ne 7, 3) := by decide +kernel
theorem dX5_leastOf_47 : decode cX5_leastOf 47 = .ok (.iconst 1, 1) := by decide +kernel
theorem dX5_leastOf_48 : decode cX5_leastOf 48 = .ok (.goto 4, 3) := by decide +kernel
theorem dX5_leastOf_51 : decode cX5_leastOf 51 = .ok (.iconst 0, 1) := by decide +kernel
theorem dX5_leastOf_52 : decode cX5_leastOf 52 = .ok (.ireturn, 1) := by decide +kernel
theorem dX5_leastOf_53 : decode cX5_leastOf 53 = .ok (.iconst 0, 1) := by decide +kernel
theorem dX5_leastOf_54 : decode cX5_leastOf 54 = .ok (.ireturn, 1) := by decide +kernel
theorem dX5_leastOf_55 : decode cX5_leastOf 55 = .ok (.iload_n 0, 1) := by decide +kernel
theorem dX5_leastOf_56 : decode cX5_leastOf 56 = .ok (.iconst 4, 1) := by decide +kernel
theorem dX5_leastOf_57 : decode cX5_leastOf 57 = .ok (.isub, 1) := by decide +kernel
theorem dX5_leastOf_58 : decode cX5_leastOf 58 = .ok (.invokestatic 137, 3) := by decide +kernel
theorem dX5_leastOf_61 : decode cX5_leastOf 61 = .ok (.ifCond .eq 13, 3) := by decide +kernel
theorem dX5_leastOf_64 : decode cX5_leastOf 64 = .ok (.getstatic 140, 3) := by decide +kernel
theorem dX5_leastOf_67 : decode cX5_leastOf 67 = .ok (.iload_n 0, 1) := by decide +kernel
theorem dX5_leastOf_68 : decode cX5_leastOf 68 = .ok (.iconst 4, 1) := by decide +kernel
theorem dX5_leastOf_69 : decode cX5_leastOf 69 = .ok (.isub, 1) := by decide +kernel
theorem dX5_leastOf_70 : decode cX5_leastOf 70 = .ok (.iaload, 1) := by decide +kernel
theorem dX5_leastOf_71 : decode cX5_leastOf 71 = .ok (.goto 4, 3) := by decide +kernel
theorem dX5_leastOf_74 : decode cX5_leastOf 74 = .ok (.iconst 0, 1) := by decide +kernel
theorem dX5_leastOf_75 : decode cX5_leastOf 75 = .ok (.ireturn, 1) := by decide +kernel
theorem dX5_mostOf_0 : decode cX5_mostOf 0 = .ok (.iload_n 1, 1) := by decide +kernel
theorem dX5_mostOf_1 : decode cX5_mostOf 1 = .ok (.tableswitch 82 0 3 #[31, 43, 46, 66], 31) := by decide +kernel
theorem dX5_mostOf_32 : decode cX5_mostOf 32 = .ok (.iload_n 2, 1) := by decide +kernel
theorem dX5_mostOf_33 : decode cX5_mostOf 33 = .ok (.ifCond .ne 8, 3) := by decide +kernel
theorem dX5_mostOf_36 : decode cX5_mostOf 36 = .ok (.bipush 6, 2) := by decide +kernel
theorem dX5_mostOf_38 : decode cX5_mostOf 38 = .ok (.goto 5, 3) := by decide +kernel
theorem dX5_mostOf_41 : decode cX5_mostOf 41 = .ok (.bipush 9, 2) := by decide +kernel
theorem dX5_mostOf_43 : decode cX5_mostOf 43 = .ok (.ireturn, 1) := by decide +kernel
theorem dX5_mostOf_44 : decode cX5_mostOf 44 = .ok (.bipush 9, 2) := by decide +kernel
theorem dX5_mostOf_46 : decode cX5_mostOf 46 = .ok (.ireturn, 1) := by decide +kernel
theorem dX5_mostOf_47 : decode cX5_mostOf 47 = .ok (.iload_n 2, 1) := by decide +kernel
theorem dX5_mostOf_48 : decode cX5_mostOf 48 = .ok (.ifCond .ne 12, 3) := by decide +kernel
theorem dX5_mostOf_51 : decode cX5_mostOf 51 = .ok (.aload_n 0, 1) := by decide +kernel
theorem dX5_mostOf_52 : decode cX5_mostOf 52 = .ok (.getfield 117, 3) := by decide +kernel
theorem dX5_mostOf_55 : decode cX5_mostOf 55 = .ok (.iconst 1, 1) := by decide +kernel
theorem dX5_mostOf_56 : decode cX5_mostOf 56 = .ok (.isub, 1) := by decide +kernel
theorem dX5_mostOf_57 : decode cX5_mostOf 57 = .ok (.goto 9, 3) := by decide +kernel
theorem dX5_mostOf_60 : decode cX5_mostOf 60 = .ok (.aload_n 0, 1) := by decide +kernel
theorem dX5_mostOf_61 : decode cX5_mostOf 61 = .ok (.getfield 120, 3) := by decide +kernel
theorem dX5_mostOf_64 : decode cX5_mostOf 64 = .ok (.iconst 1, 1) := by decide +kernel
theorem dX5_mostOf_65 : decode cX5_mostOf 65 = .ok (.isub, 1) := by decide +kernel
theorem dX5_mostOf_66 : decode cX5_mostOf 66 = .ok (.ireturn, 1) := by decide +kernel
theorem dX5_mostOf_67 : decode cX5_mostOf 67 = .ok (.iload_n 2, 1) := by decide +kernel
theorem dX5_mostOf_68 : decode cX5_mostOf 68 = .ok (.ifCond .ne 12, 3) := by decide +kernel
theorem dX5_mostOf_71 : decode cX5_mostOf 71 = .ok (.aload_n 0, 1) := by decide +kernel
theorem dX5_mostOf_72 : decode cX5_mostOf 72 = .ok (.getfield 117, 3) := by decide +kernel
theorem dX5_mostOf_75 : decode cX5_mostOf 75 = .ok (.iconst 1, 1) := by decide +kernel
theorem dX5_mostOf_76 : decode cX5_mostOf 76 = .ok (.isub, 1) := by decide +kernel
theorem dX5_mostOf_77 : decode cX5_mostOf 77 = .ok (.goto 5, 3) := by decide +kernel
theorem dX5_mostOf_80 : decode cX5_mostOf 80 = .ok (.bipush 99, 2) := by decide +kernel
theorem dX5_mostOf_82 : decode cX5_mostOf 82 = .ok (.ireturn, 1) := by decide +kernel
theorem dX5_mostOf_83 : decode cX5_mostOf 83 = .ok (.iload_n 1, 1) := by decide +kernel
theorem dX5_mostOf_84 : decode cX5_mostOf 84 = .ok (.iconst 4, 1) := by decide +kernel
theorem dX5_mostOf_85 : decode cX5_mostOf 85 = .ok (.isub, 1) := by decide +kernel
theorem dX5_mostOf_86 : decode cX5_mostOf 86 = .ok (.invokestatic 137, 3) := by decide +kernel
theorem dX5_mostOf_89 : decode cX5_mostOf 89 = .ok (.ifCond .eq 13, 3) := by decide +kernel
theorem dX5_mostOf_92 : decode cX5_mostOf 92 = .ok (.getstatic 143, 3) := by decide +kernel
theorem dX5_mostOf_95 : decode cX5_mostOf 95 = .ok (.iload_n 1, 1) := by decide +kernel
theorem dX5_mostOf_96 : decode cX5_mostOf 96 = .ok (.iconst 4, 1) := by decide +kernel
theorem dX5_mostOf_97 : decode cX5_mostOf 97 = .ok (.isub, 1) := by decide +kernel
theorem dX5_mostOf_98 : decode cX5_mostOf 98 = .ok (.iaload, 1) := by decide +kernel
theorem dX5_mostOf_99 : decode cX5_mostOf 99 = .ok (.goto 4, 3) := by decide +kernel
theorem dX5_mostOf_102 : decode cX5_mostOf 102 = .ok (.iconst 0, 1) := by decide +kernel
theorem dX5_mostOf_103 : decode cX5_mostOf 103 = .ok (.ireturn, 1) := by decide +kernel
theorem dX6_init_0 : decode cX6_init 0 = .ok (.aload_n 0, 1) := by decide +kernel
theorem dX6_init_1 : decode cX6_init 1 = .ok (.invokespecial 1, 3) := by decide +kernel
theorem dX6_init_4 : decode cX6_init 4 = .ok (.return_, 1) := by decide +kernel
theorem dX7_init_0 : decode cX7_init 0 = .ok (.aload_n 0, 1) := by decide +kernel
theorem dX7_init_1 : decode cX7_init 1 = .ok (.invokespecial 3, 3) := by decide +kernel
theorem dX7_init_4 : decode cX7_init 4 = .ok (.aload_n 0, 1) := by decide +kernel
theorem dX7_init_5 : decode cX7_init 5 = .ok (.iconst (-1), 1) := by decide +kernel
theorem dX7_init_6 : decode cX7_init 6 = .ok (.putfield 9, 3) := by decide +kernel
theorem dX7_init_9 : decode cX7_init 9 = .ok (.aload_n 0, 1) := by decide +kernel
theorem dX7_init_10 : decode cX7_init 10 = .ok (.sipush 160, 3) := by decide +kernel
theorem dX7_init_13 : decode cX7_init 13 = .ok (.newarray .long, 2) := by decide +kernel
theorem dX7_init_15 : decode cX7_init 15 = .ok (.putfield 15, 3) := by decide +kernel
theorem dX7_init_18 : decode cX7_init 18 = .ok (.return_, 1) := by decide +kernel
theorem dX7_hasRow_0 : decode cX7_hasRow 0 = .ok (.aload_n 0, 1) := by decide +kernel
theorem dX7_hasRow_1 : decode cX7_hasRow 1 = .ok (.getfield 9, 3) := by decide +kernel
theorem dX7_hasRow_4 : decode cX7_hasRow 4 = .ok (.bipush 100, 2) := by decide +kernel
theorem dX7_hasRow_6 : decode cX7_hasRow 6 = .ok (.if_icmp .lt 7, 3) := by decide +kernel
theorem dX7_hasRow_9 : decode cX7_hasRow 9 = .ok (.iconst 1, 1) := by decide +kernel
theorem dX7_hasRow_10 : decode cX7_hasRow 10 = .ok (.goto 4, 3) := by decide +kernel
theorem dX7_hasRow_13 : decode cX7_hasRow 13 = .ok (.iconst 0, 1) := by decide +kernel
theorem dX7_hasRow_14 : decode cX7_hasRow 14 = .ok (.ireturn, 1) := by decide +kernel
theorem dX7_hasChild_0 : decode cX7_hasChild 0 = .ok (.aload_n 0, 1) := by decide +kernel
theorem dX7_hasChild_1 : decode cX7_hasChild 1 = .ok (.getfield 9, 3) := by decide +kernel
theorem dX7_hasChild_4 : decode cX7_hasChild 4 = .ok (.ifCond .lt 16, 3) := by decide +kernel
theorem dX7_hasChild_7 : decode cX7_hasChild 7 = .ok (.aload_n 0, 1) := by decide +kernel
theorem dX7_hasChild_8 : decode cX7_hasChild 8 = .ok (.getfield 9, 3) := by decide +kernel
theorem dX7_hasChild_11 : decode cX7_hasChild 11 = .ok (.bipush 100, 2) := by decide +kernel
theorem dX7_hasChild_13 : decode cX7_hasChild 13 = .ok (.if_icmp .ge 7, 3) := by decide +kernel
theorem dX7_hasChild_16 : decode cX7_hasChild 16 = .ok (.iconst 1, 1) := by decide +kernel
theorem dX7_hasChild_17 : decode cX7_hasChild 17 = .ok (.goto 4, 3) := by decide +kernel
theorem dX7_hasChild_20 : decode cX7_hasChild 20 = .ok (.iconst 0, 1) := by decide +kernel
theorem dX7_hasChild_21 : decode cX7_hasChild 21 = .ok (.ireturn, 1) := by decide +kernel
theorem dX7_has_0 : decode cX7_has 0 = .ok (.iload_n 1, 1) := by decide +kernel
theorem dX7_has_1 : decode cX7_has 1 = .ok (.ifCond .lt 15, 3) := by decide +kernel
theorem dX7_has_4 : decode cX7_has 4 = .ok (.iload_n 1, 1) := by decide +kernel
theorem dX7_has_5 : decode cX7_has 5 = .ok (.aload_n 0, 1) := by decide +kernel
theorem dX7_has_6 : decode cX7_has 6 = .ok (.getfield 19, 3) := by decide +kernel
theorem dX7_has_9 : decode cX7_has 9 = .ok (.if_icmp .ge 7, 3) := by decide +kernel
theorem dX7_has_12 : decode cX7_has 12 = .ok (.iconst 1, 1) := by decide +kernel
theorem dX7_has_13 : decode cX7_has 13 = .ok (.goto 4, 3) := by decide +kernel
theorem dX7_has_16 : decode cX7_has 16 = .ok (.iconst 0, 1) := by decide +kernel
theorem dX7_has_17 : decode cX7_has 17 = .ok (.ireturn, 1) := by decide +kernel
end
section
theorem dX7_hasPart_0 : decode cX7_hasPart 0 = .ok (.iload_n 1, 1) := by decide +kernel
theorem dX7_hasPart_1 : decode cX7_hasPart 1 = .ok (.ifCond .lt 21, 3) := by decide +kernel
theorem dX7_hasPart_4 : decode cX7_hasPart 4 = .ok (.iload_n 2, 1) := by decide +kernel
theorem dX7_hasPart_5 : decode cX7_hasPart 5 = .ok (.ifCond .lt 17, 3) := by decide +kernel
theorem dX7_hasPart_8 : decode cX7_hasPart 8 = .ok (.iload_n 1, 1) := by decide +kernel
theorem dX7_hasPart_9 : decode cX7_hasPart 9 = .ok (.aload_n 0, 1) := by decide +kernel
theorem dX7_hasPart_10 : decode cX7_hasPart 10 = .ok (.getfield 19, 3) := by decide +kernel
theorem dX7_hasPart_13 : decode cX7_hasPart 13 = .ok (.iload_n 2, 1) := by decide +kernel
theorem dX7_hasPart_14 : decode cX7_hasPart 14 = .ok (.isub, 1) := by decide +kernel
theorem dX7_hasPart_15 : decode cX7_hasPart 15 = .ok (.if_icmp .gt 7, 3) := by decide +kernel
theorem dX7_hasPart_18 : decode cX7_hasPart 18 = .ok (.iconst 1, 1) := by decide +kernel
theorem dX7_hasPart_19 : decode cX7_hasPart 19 = .ok (.goto 4, 3) := by decide +kernel
theorem dX7_hasPart_22 : decode cX7_hasPart 22 = .ok (.iconst 0, 1) := by decide +kernel
theorem dX7_hasPart_23 : decode cX7_hasPart 23 = .ok (.ireturn, 1) := by decide +kernel
theorem dX7_holdRow_0 : decode cX7_holdRow 0 = .ok (.aload_n 0, 1) := by decide +kernel
theorem dX7_holdRow_1 : decode cX7_holdRow 1 = .ok (.bipush 100, 2) := by decide +kernel
theorem dX7_holdRow_3 : decode cX7_holdRow 3 = .ok (.iload_n 1, 1) := by decide +kernel
theorem dX7_holdRow_4 : decode cX7_holdRow 4 = .ok (.iadd, 1) := by decide +kernel
theorem dX7_holdRow_5 : decode cX7_holdRow 5 = .ok (.putfield 9, 3) := by decide +kernel
theorem dX7_holdRow_8 : decode cX7_holdRow 8 = .ok (.aload_n 0, 1) := by decide +kernel
theorem dX7_holdRow_9 : decode cX7_holdRow 9 = .ok (.iload_n 2, 1) := by decide +kernel
theorem dX7_holdRow_10 : decode cX7_holdRow 10 = .ok (.putfield 19, 3) := by decide +kernel
theorem dX7_holdRow_13 : decode cX7_holdRow 13 = .ok (.aload_n 0, 1) := by decide +kernel
theorem dX7_holdRow_14 : decode cX7_holdRow 14 = .ok (.getfield 15, 3) := by decide +kernel
theorem dX7_holdRow_17 : decode cX7_holdRow 17 = .ok (.lconst 0, 1) := by decide +kernel
theorem dX7_holdRow_18 : decode cX7_holdRow 18 = .ok (.invokestatic 22, 3) := by decide +kernel
theorem dX7_holdRow_21 : decode cX7_holdRow 21 = .ok (.return_, 1) := by decide +kernel
theorem dX7_holdChild_0 : decode cX7_holdChild 0 = .ok (.aload_n 0, 1) := by decide +kernel
theorem dX7_holdChild_1 : decode cX7_holdChild 1 = .ok (.iload_n 1, 1) := by decide +kernel
theorem dX7_holdChild_2 : decode cX7_holdChild 2 = .ok (.putfield 9, 3) := by decide +kernel
theorem dX7_holdChild_5 : decode cX7_holdChild 5 = .ok (.aload_n 0, 1) := by decide +kernel
theorem dX7_holdChild_6 : decode cX7_holdChild 6 = .ok (.iconst 0, 1) := by decide +kernel
theorem dX7_holdChild_7 : decode cX7_holdChild 7 = .ok (.putfield 19, 3) := by decide +kernel
theorem dX7_holdChild_10 : decode cX7_holdChild 10 = .ok (.return_, 1) := by decide +kernel
theorem dX7_put_0 : decode cX7_put 0 = .ok (.aload_n 0, 1) := by decide +kernel
theorem dX7_put_1 : decode cX7_put 1 = .ok (.iload_n 1, 1) := by decide +kernel
theorem dX7_put_2 : decode cX7_put 2 = .ok (.invokevirtual 28, 3) := by decide +kernel
theorem dX7_put_5 : decode cX7_put 5 = .ok (.ifCond .eq 14, 3) := by decide +kernel
theorem dX7_put_8 : decode cX7_put 8 = .ok (.aload_n 0, 1) := by decide +kernel
theorem dX7_put_9 : decode cX7_put 9 = .ok (.getfield 15, 3) := by decide +kernel
theorem dX7_put_12 : decode cX7_put 12 = .ok (.iload_n 1, 1) := by decide +kernel
theorem dX7_put_13 : decode cX7_put 13 = .ok (.aload_n 0, 1) := by decide +kernel
theorem dX7_put_14 : decode cX7_put 14 = .ok (.lload_n 2, 1) := by decide +kernel
theorem dX7_put_15 : decode cX7_put 15 = .ok (.invokevirtual 32, 3) := by decide +kernel
theorem dX7_put_18 : decode cX7_put 18 = .ok (.lastore, 1) := by decide +kernel
theorem dX7_put_19 : decode cX7_put 19 = .ok (.return_, 1) := by decide +kernel
theorem dX7_lowest_0 : decode cX7_lowest 0 = .ok (.aload_n 0, 1) := by decide +kernel
theorem dX7_lowest_1 : decode cX7_lowest 1 = .ok (.getfield 9, 3) := by decide +kernel
theorem dX7_lowest_4 : decode cX7_lowest 4 = .ok (.bipush 100, 2) := by decide +kernel
theorem dX7_lowest_6 : decode cX7_lowest 6 = .ok (.isub, 1) := by decide +kernel
theorem dX7_lowest_7 : decode cX7_lowest 7 = .ok (.tableswitch 39 0 2 #[25, 30, 35], 25) := by decide +kernel
theorem dX7_lowest_32 : decode cX7_lowest 32 = .ok (.lload_n 1, 1) := by decide +kernel
theorem dX7_lowest_33 : decode cX7_lowest 33 = .ok (.l2i, 1) := by decide +kernel
theorem dX7_lowest_34 : decode cX7_lowest 34 = .ok (.i2b, 1) := by decide +kernel
theorem dX7_lowest_35 : decode cX7_lowest 35 = .ok (.i2l, 1) := by decide +kernel
theorem dX7_lowest_36 : decode cX7_lowest 36 = .ok (.lreturn, 1) := by decide +kernel
theorem dX7_lowest_37 : decode cX7_lowest 37 = .ok (.lload_n 1, 1) := by decide +kernel
theorem dX7_lowest_38 : decode cX7_lowest 38 = .ok (.l2i, 1) := by decide +kernel
theorem dX7_lowest_39 : decode cX7_lowest 39 = .ok (.i2s, 1) := by decide +kernel
theorem dX7_lowest_40 : decode cX7_lowest 40 = .ok (.i2l, 1) := by decide +kernel
theorem dX7_lowest_41 : decode cX7_lowest 41 = .ok (.lreturn, 1) := by decide +kernel
theorem dX7_lowest_42 : decode cX7_lowest 42 = .ok (.lload_n 1, 1) := by decide +kernel
theorem dX7_lowest_43 : decode cX7_lowest 43 = .ok (.l2i, 1) := by decide +kernel
theorem dX7_lowest_44 : decode cX7_lowest 44 = .ok (.i2l, 1) := by decide +kernel
theorem dX7_lowest_45 : decode cX7_lowest 45 = .ok (.lreturn, 1) := by decide +kernel
theorem dX7_lowest_46 : decode cX7_lowest 46 = .ok (.lload_n 1, 1) := by decide +kernel
theorem dX7_lowest_47 : decode cX7_lowest 47 = .ok (.lreturn, 1) := by decide +kernel
theorem dX7_at_0 : decode cX7_at 0 = .ok (.aload_n 0, 1) := by decide +kernel
theorem dX7_at_1 : decode cX7_at 1 = .ok (.iload_n 1, 1) := by decide +kernel
theorem dX7_at_2 : decode cX7_at 2 = .ok (.invokevirtual 28, 3) := by decide +kernel
theorem dX7_at_5 : decode cX7_at 5 = .ok (.ifCond .eq 12, 3) := by decide +kernel
theorem dX7_at_8 : decode cX7_at 8 = .ok (.aload_n 0, 1) := by decide +kernel
theorem dX7_at_9 : decode cX7_at 9 = .ok (.getfield 15, 3) := by decide +kernel
theorem dX7_at_12 : decode cX7_at 12 = .ok (.iload_n 1, 1) := by decide +kernel
theorem dX7_at_13 : decode cX7_at 13 = .ok (.laload, 1) := by decide +kernel
theorem dX7_at_14 : decode cX7_at 14 = .ok (.goto 4, 3) := by decide +kernel
theorem dX7_at_17 : decode cX7_at 17 = .ok (.lconst 0, 1) := by decide +kernel
theorem dX7_at_18 : decode cX7_at 18 = .ok (.lreturn, 1) := by decide +kernel
theorem dX7_asInt_0 : decode cX7_asInt 0 = .ok (.aload_n 0, 1) := by decide +kernel
theorem dX7_asInt_1 : decode cX7_asInt 1 = .ok (.iload_n 1, 1) := by decide +kernel
theorem dX7_asInt_2 : decode cX7_asInt 2 = .ok (.invokevirtual 36, 3) := by decide +kernel
theorem dX7_asInt_5 : decode cX7_asInt 5 = .ok (.l2i, 1) := by decide +kernel
theorem dX7_asInt_6 : decode cX7_asInt 6 = .ok (.ireturn, 1) := by decide +kernel
theorem dX8_init_0 : decode cX8_init 0 = .ok (.aload_n 0, 1) := by decide +kernel
theorem dX8_init_1 : decode cX8_init 1 = .ok (.invokespecial 1, 3) := by decide +kernel
theorem dX8_init_4 : decode cX8_init 4 = .ok (.aload_n 0, 1) := by decide +kernel
theorem dX8_init_5 : decode cX8_init 5 = .ok (.new 7, 3) := by decide +kernel
theorem dX8_init_8 : decode cX8_init 8 = .ok (.dup, 1) := by decide +kernel
theorem dX8_init_9 : decode cX8_init 9 = .ok (.invokespecial 9, 3) := by decide +kernel
theorem dX8_init_12 : decode cX8_init 12 = .ok (.putfield 10, 3) := by decide +kernel
theorem dX8_init_15 : decode cX8_init 15 = .ok (.aload_n 0, 1) := by decide +kernel
theorem dX8_init_16 : decode cX8_init 16 = .ok (.new 7, 3) := by decide +kernel
theorem dX8_init_19 : decode cX8_init 19 = .ok (.dup, 1) := by decide +kernel
theorem dX8_init_20 : decode cX8_init 20 = .ok (.invokespecial 9, 3) := by decide +kernel
theorem dX8_init_23 : decode cX8_init 23 = .ok (.putfield 16, 3) := by decide +kernel
theorem dX8_init_26 : decode cX8_init 26 = .ok (.aload_n 0, 1) := by decide +kernel
theorem dX8_init_27 : decode cX8_init 27 = .ok (.new 7, 3) := by decide +kernel
theorem dX8_init_30 : decode cX8_init 30 = .ok (.dup, 1) := by decide +kernel
theorem dX8_init_31 : decode cX8_init 31 = .ok (.invokespecial 9, 3) := by decide +kernel
theorem dX8_init_34 : decode cX8_init 34 = .ok (.putfield 19, 3) := by decide +kernel
theorem dX8_init_37 : decode cX8_init 37 = .ok (.aload_n 0, 1) := by decide +kernel
theorem dX8_init_38 : decode cX8_init 38 = .ok (.bipush 8, 2) := by decide +kernel
theorem dX8_init_40 : decode cX8_init 40 = .ok (.anewarray 22, 3) := by decide +kernel
theorem dX8_init_43 : decode cX8_init 43 = .ok (.putfield 24, 3) := by decide +kernel
theorem dX8_init_46 : decode cX8_init 46 = .ok (.aload_n 0, 1) := by decide +kernel
theorem dX8_init_47 : decode cX8_init 47 = .ok (.new 28, 3) := by decide +kernel
theorem dX8_init_50 : decode cX8_init 50 = .ok (.dup, 1) := by decide +kernel
theorem dX8_init_51 : decode cX8_init 51 = .ok (.invokespecial 30, 3) := by decide +kernel
theorem dX8_init_54 : decode cX8_init 54 = .ok (.putfield 31, 3) := by decide +kernel
theorem dX8_init_57 : decode cX8_init 57 = .ok (.aload_n 0, 1) := by decide +kernel
theorem dX8_init_58 : decode cX8_init 58 = .ok (.bipush 8, 2) := by decide +kernel
theorem dX8_init_60 : decode cX8_init 60 = .ok (.anewarray 28, 3) := by decide +kernel
theorem dX8_init_63 : decode cX8_init 63 = .ok (.putfield 35, 3) := by decide +kernel
theorem dX8_init_66 : decode cX8_init 66 = .ok (.aload_n 0, 1) := by decide +kernel
theorem dX8_init_67 : decode cX8_init 67 = .ok (.new 39, 3) := by decide +kernel
theorem dX8_init_70 : decode cX8_init 70 = .ok (.dup, 1) := by decide +kernel
theorem dX8_init_71 : decode cX8_init 71 = .ok (.invokespecial 41, 3) := by decide +kernel
theorem dX8_init_74 : decode cX8_init 74 = .ok (.putfield 42, 3) := by decide +kernel
theorem dX8_init_77 : decode cX8_init 77 = .ok (.aload_n 0, 1) := by decide +kernel
theorem dX8_init_78 : decode cX8_init 78 = .ok (.new 46, 3) := by decide +kernel
theorem dX8_init_81 : decode cX8_init 81 = .ok (.dup, 1) := by decide +kernel
theorem dX8_init_82 : decode cX8_init 82 = .ok (.invokespecial 48, 3) := by decide +kernel
theorem dX8_init_85 : decode cX8_init 85 = .ok (.putfield 49, 3) := by decide +kernel
theorem dX8_init_88 : decode cX8_init 88 = .ok (.aload_n 0, 1) := by decide +kernel
theorem dX8_init_89 : decode cX8_init 89 = .ok (.new 53, 3) := by decide +kernel
theorem dX8_init_92 : decode cX8_init 92 = .ok (.dup, 1) := by decide +kernel
theorem dX8_init_93 : decode cX8_init 93 = .ok (.invokespecial 55, 3) := by decide +kernel
theorem dX8_init_96 : decode cX8_init 96 = .ok (.putfield 56, 3) := by decide +kernel
theorem dX8_init_99 : decode cX8_init 99 = .ok (.aload_n 0, 1) := by decide +kernel
theorem dX8_init_100 : decode cX8_init 100 = .ok (.bipush 8, 2) := by decide +kernel
theorem dX8_init_102 : decode cX8_init 102 = .ok (.newarray .int, 2) := by decide +kernel
theorem dX8_init_104 : decode cX8_init 104 = .ok (.putfield 60, 3) := by decide +kernel
theorem dX8_init_107 : decode cX8_init 107 = .ok (.aload_n 0, 1) := by decide +kernel
theorem dX8_init_108 : decode cX8_init 108 = .ok (.bipush 8, 2) := by decide +kernel
theorem dX8_init_110 : decode cX8_init 110 = .ok (.newarray .int, 2) := by decide +kernel
theorem dX8_init_112 : decode cX8_init 112 = .ok (.putfield 64, 3) := by decide +kernel
theorem dX8_init_115 : decode cX8_init 115 = .ok (.aload_n 0, 1) := by decide +kernel
theorem dX8_init_116 : decode cX8_init 116 = .ok (.bipush 8, 2) := by decide +kernel
theorem dX8_init_118 : decode cX8_init 118 = .ok (.newarray .int, 2) := by decide +kernel
theorem dX8_init_120 : decode cX8_init 120 = .ok (.putfield 67, 3) := by decide +kernel
theorem dX8_init_123 : decode cX8_init 123 = .ok (.aload_n 0, 1) := by decide +kernel
theorem dX8_init_124 : decode cX8_init 124 = .ok (.iconst (-1), 1) := by decide +kernel
theorem dX8_init_125 : decode cX8_init 125 = .ok (.putfield 70, 3) := by decide +kernel
theorem dX8_init_128 : decode cX8_init 128 = .ok (.iconst 0, 1) := by decide +kernel
theorem dX8_init_129 : decode cX8_init 129 = .ok (.istore_n 1, 1) := by decide +kernel
theorem dX8_init_130 : decode cX8_init 130 = .ok (.iload_n 1, 1) := by decide +kernel
theorem dX8_init_131 : decode cX8_init 131 = .ok (.bipush 8, 2) := by decide +kernel
theorem dX8_init_133 : decode cX8_init 133 = .ok (.if_icmp .ge 22, 3) := by decide +kernel
theorem dX8_init_136 : decode cX8_init 136 = .ok (.aload_n 0, 1) := by decide +kernel
theorem dX8_init_137 : decode cX8_init 137 = .ok (.getfield 24, 3) := by decide +kernel
theorem dX8_init_140 : decode cX8_init 140 = .ok (.iload_n 1, 1) := by decide +kernel
theorem dX8_init_141 : decode cX8_init 141 = .ok (.new 22, 3) := by decide +kernel
theorem dX8_init_144 : decode cX8_init 144 = .ok (.dup, 1) := by decide +kernel
theorem dX8_init_145 : decode cX8_init 145 = .ok (.invokespecial 74, 3) := by decide +kernel
theorem dX8_init_148 : decode cX8_init 148 = .ok (.aastore, 1) := by decide +kernel
theorem dX8_init_149 : decode cX8_init 149 = .ok (.iinc 1 1, 3) := by decide +kernel
theorem dX8_init_152 : decode cX8_init 152 = .ok (.goto (-22), 3) := by decide +kernel
theorem dX8_init_155 : decode cX8_init 155 = .ok (.iconst 0, 1) := by decide +kernel
theorem dX8_init_156 : decode cX8_init 156 = .ok (.istore_n 1, 1) := by decide +kernel
theorem dX8_init_157 : decode cX8_init 157 = .ok (.iload_n 1, 1) := by decide +kernel
theorem dX8_init_158 : decode cX8_init 158 = .ok (.bipush 8, 2) := by decide +kernel
theorem dX8_init_160 : decode cX8_init 160 = .ok (.if_icmp .ge 22, 3) := by decide +kernel
theorem dX8_init_163 : decode cX8_init 163 = .ok (.aload_n 0, 1) := by decide +kernel
theorem dX8_init_164 : decode cX8_init 164 = .ok (.getfield 35, 3) := by decide +kernel
theorem dX8_init_167 : decode cX8_init 167 = .ok (.iload_n 1, 1) := by decide +kernel
theorem dX8_init_168 : decode cX8_init 168 = .ok (.new 28, 3) := by decide +kernel
theorem dX8_init_171 : decode cX8_init 171 = .ok (.dup, 1) := by decide +kernel
theorem dX8_init_172 : decode cX8_init 172 = .ok (.invokespecial 30, 3) := by decide +kernel
theorem dX8_init_175 : decode cX8_init 175 = .ok (.aastore, 1) := by decide +kernel
theorem dX8_init_176 : decode cX8_init 176 = .ok (.iinc 1 1, 3) := by decide +kernel
theorem dX8_init_179 : decode cX8_init 179 = .ok (.goto (-22), 3) := by decide +kernel
theorem dX8_init_182 : decode cX8_init 182 = .ok (.return_, 1) := by decide +kernel
theorem dX8_row_0 : decode cX8_row 0 = .ok (.iload_n 1, 1) := by decide +kernel
theorem dX8_row_1 : decode cX8_row 1 = .ok (.invokestatic 75, 3) := by decide +kernel
theorem dX8_row_4 : decode cX8_row 4 = .ok (.ifCond .ne 9, 3) := by decide +kernel
theorem dX8_row_7 : decode cX8_row 7 = .ok (.aload_n 0, 1) := by decide +kernel
theorem dX8_row_8 : decode cX8_row 8 = .ok (.iconst (-1), 1) := by decide +kernel
theorem dX8_row_9 : decode cX8_row 9 = .ok (.invokevirtual 79, 3) := by decide +kernel
theorem dX8_row_12 : decode cX8_row 12 = .ok (.ireturn, 1) := by decide +kernel
theorem dX8_row_13 : decode cX8_row 13 = .ok (.iload_n 3, 1) := by decide +kernel
theorem dX8_row_14 : decode cX8_row 14 = .ok (.ifCond .ge 10, 3) := by decide +kernel
theorem dX8_row_17 : decode cX8_row 17 = .ok (.aload_n 0, 1) := by decide +kernel
theorem dX8_row_18 : decode cX8_row 18 = .ok (.bipush (-4), 2) := by decide +kernel
theorem dX8_row_20 : decode cX8_row 20 = .ok (.invokevirtual 79, 3) := by decide +kernel
theorem dX8_row_23 : decode cX8_row 23 = .ok (.ireturn, 1) := by decide +kernel
theorem dX8_row_24 : decode cX8_row 24 = .ok (.iload_n 2, 1) := by decide +kernel
theorem dX8_row_25 : decode cX8_row 25 = .ok (.ifCond .lt 8, 3) := by decide +kernel
theorem dX8_row_28 : decode cX8_row 28 = .ok (.iload_n 2, 1) := by decide +kernel
theorem dX8_row_29 : decode cX8_row 29 = .ok (.iconst 4, 1) := by decide +kernel
theorem dX8_row_30 : decode cX8_row 30 = .ok (.if_icmp .lt 10, 3) := by decide +kernel
theorem dX8_row_33 : decode cX8_row 33 = .ok (.aload_n 0, 1) := by decide +kernel
theorem dX8_row_34 : decode cX8_row 34 = .ok (.bipush (-6), 2) := by decide +kernel
theorem dX8_row_36 : decode cX8_row 36 = .ok (.invokevirtual 79, 3) := by decide +kernel
theorem dX8_row_39 : decode cX8_row 39 = .ok (.ireturn, 1) := by decide +kernel
theorem dX8_row_40 : decode cX8_row 40 = .ok (.iload_n 3, 1) := by decide +kernel
theorem dX8_row_41 : decode cX8_row 41 = .ok (.sipush 160, 3) := by decide +kernel
theorem dX8_row_44 : decode cX8_row 44 = .ok (.if_icmp .le 10, 3) := by decide +kernel
theorem dX8_row_47 : decode cX8_row 47 = .ok (.aload_n 0, 1) := by decide +kernel
theorem dX8_row_48 : decode cX8_row 48 = .ok (.bipush (-7), 2) := by decide +kernel
theorem dX8_row_50 : decode cX8_row 50 = .ok (.invokevirtual 79, 3) := by decide +kernel
theorem dX8_row_53 : decode cX8_row 53 = .ok (.ireturn, 1) := by decide +kernel
theorem dX8_row_54 : decode cX8_row 54 = .ok (.aload_n 0, 1) := by decide +kernel
theorem dX8_row_55 : decode cX8_row 55 = .ok (.getfield 24, 3) := by decide +kernel
theorem dX8_row_58 : decode cX8_row 58 = .ok (.iload_n 1, 1) := by decide +kernel
theorem dX8_row_59 : decode cX8_row 59 = .ok (.aaload, 1) := by decide +kernel
theorem dX8_row_60 : decode cX8_row 60 = .ok (.iload_n 2, 1) := by decide +kernel
theorem dX8_row_61 : decode cX8_row 61 = .ok (.iload_n 3, 1) := by decide +kernel
theorem dX8_row_62 : decode cX8_row 62 = .ok (.invokevirtual 83, 3) := by decide +kernel
theorem dX8_row_65 : decode cX8_row 65 = .ok (.iconst 1, 1) := by decide +kernel
theorem dX8_row_66 : decode cX8_row 66 = .ok (.ireturn, 1) := by decide +kernel
theorem dX8_set_0 : decode cX8_set 0 = .ok (.aload_n 0, 1) := by decide +kernel
theorem dX8_set_1 : decode cX8_set 1 = .ok (.iload_n 1, 1) := by decide +kernel
theorem dX8_set_2 : decode cX8_set 2 = .ok (.invokevirtual 87, 3) := by decide +kernel
theorem dX8_set_5 : decode cX8_set 5 = .ok (.istore 5, 2) := by decide +kernel
theorem dX8_set_7 : decode cX8_set 7 = .ok (.iload 5, 2) := by decide +kernel
theorem dX8_set_9 : decode cX8_set 9 = .ok (.ifCond .eq 10, 3) := by decide +kernel
theorem dX8_set_12 : decode cX8_set 12 = .ok (.aload_n 0, 1) := by decide +kernel
theorem dX8_set_13 : decode cX8_set 13 = .ok (.iload 5, 2) := by decide +kernel
theorem dX8_set_15 : decode cX8_set 15 = .ok (.invokevirtual 79, 3) := by decide +kernel
theorem dX8_set_18 : decode cX8_set 18 = .ok (.ireturn, 1) := by decide +kernel
theorem dX8_set_19 : decode cX8_set 19 = .ok (.aload_n 0, 1) := by decide +kernel
theorem dX8_set_20 : decode cX8_set 20 = .ok (.getfield 24, 3) := by decide +kernel
theorem dX8_set_23 : decode cX8_set 23 = .ok (.iload_n 1, 1) := by decide +kernel
theorem dX8_set_24 : decode cX8_set 24 = .ok (.aaload, 1) := by decide +kernel
theorem dX8_set_25 : decode cX8_set 25 = .ok (.iload_n 2, 1) := by decide +kernel
theorem dX8_set_26 : decode cX8_set 26 = .ok (.invokevirtual 90, 3) := by decide +kernel
theorem dX8_set_29 : decode cX8_set 29 = .ok (.ifCond .ne 10, 3) := by decide +kernel
theorem dX8_set_32 : decode cX8_set 32 = .ok (.aload_n 0, 1) := by decide +kernel
theorem dX8_set_33 : decode cX8_set 33 = .ok (.bipush (-5), 2) := by decide +kernel
theorem dX8_set_35 : decode cX8_set 35 = .ok (.invokevirtual 79, 3) := by decide +kernel
theorem dX8_set_38 : decode cX8_set 38 = .ok (.ireturn, 1) := by decide +kernel
theorem dX8_set_39 : decode cX8_set 39 = .ok (.aload_n 0, 1) := by decide +kernel
theorem dX8_set_40 : decode cX8_set 40 = .ok (.getfield 24, 3) := by decide +kernel
theorem dX8_set_43 : decode cX8_set 43 = .ok (.iload_n 1, 1) := by decide +kernel
theorem dX8_set_44 : decode cX8_set 44 = .ok (.aaload, 1) := by decide +kernel
theorem dX8_set_45 : decode cX8_set 45 = .ok (.iload_n 2, 1) := by decide +kernel
theorem dX8_set_46 : decode cX8_set 46 = .ok (.lload_n 3, 1) := by decide +kernel
theorem dX8_set_47 : decode cX8_set 47 = .ok (.invokevirtual 93, 3) := by decide +kernel
theorem dX8_set_50 : decode cX8_set 50 = .ok (.iconst 1, 1) := by decide +kernel
theorem dX8_set_51 : decode cX8_set 51 = .ok (.ireturn, 1) := by decide +kernel
theorem dX8_copy_0 : decode cX8_copy 0 = .ok (.iload_n 1, 1) := by decide +kernel
theorem dX8_copy_1 : decode cX8_copy 1 = .ok (.invokestatic 75, 3) := by decide +kernel
theorem dX8_copy_4 : decode cX8_copy 4 = .ok (.ifCond .eq 10, 3) := by decide +kernel
theorem dX8_copy_7 : decode cX8_copy 7 = .ok (.iload_n 2, 1) := by decide +kernel
theorem dX8_copy_8 : decode cX8_copy 8 = .ok (.invokestatic 75, 3) := by decide +kernel
theorem dX8_copy_11 : decode cX8_copy 11 = .ok (.ifCond .ne 9, 3) := by decide +kernel
theorem dX8_copy_14 : decode cX8_copy 14 = .ok (.aload_n 0, 1) := by decide +kernel
theorem dX8_copy_15 : decode cX8_copy 15 = .ok (.iconst (-1), 1) := by decide +kernel
theorem dX8_copy_16 : decode cX8_copy 16 = .ok (.invokevirtual 79, 3) := by decide +kernel
theorem dX8_copy_19 : decode cX8_copy 19 = .ok (.ireturn, 1) := by decide +kernel
theorem dX8_copy_20 : decode cX8_copy 20 = .ok (.aload_n 0, 1) := by decide +kernel
theorem dX8_copy_21 : decode cX8_copy 21 = .ok (.getfield 24, 3) := by decide +kernel
theorem dX8_copy_24 : decode cX8_copy 24 = .ok (.iload_n 1, 1) := by decide +kernel
theorem dX8_copy_25 : decode cX8_copy 25 = .ok (.aaload, 1) := by decide +kernel
theorem dX8_copy_26 : decode cX8_copy 26 = .ok (.astore 6, 2) := by decide +kernel
theorem dX8_copy_28 : decode cX8_copy 28 = .ok (.aload_n 0, 1) := by decide +kernel
theorem dX8_copy_29 : decode cX8_copy 29 = .ok (.getfield 24, 3) := by decide +kernel
theorem dX8_copy_32 : decode cX8_copy 32 = .ok (.iload_n 2, 1) := by decide +kernel
theorem dX8_copy_33 : decode cX8_copy 33 = .ok (.aaload, 1) := by decide +kernel
theorem dX8_copy_34 : decode cX8_copy 34 = .ok (.astore 7, 2) := by decide +kernel
theorem dX8_copy_36 : decode cX8_copy 36 = .ok (.aload 6, 2) := by decide +kernel
theorem dX8_copy_38 : decode cX8_copy 38 = .ok (.invokevirtual 97, 3) := by decide +kernel
theorem dX8_copy_41 : decode cX8_copy 41 = .ok (.ifCond .ne 21, 3) := by decide +kernel
theorem dX8_copy_44 : decode cX8_copy 44 = .ok (.aload 7, 2) := by decide +kernel
theorem dX8_copy_46 : decode cX8_copy 46 = .ok (.invokevirtual 97, 3) := by decide +kernel
theorem dX8_copy_49 : decode cX8_copy 49 = .ok (.ifCond .ne 13, 3) := by decide +kernel
theorem dX8_copy_52 : decode cX8_copy 52 = .ok (.aload 6, 2) := by decide +kernel
theorem dX8_copy_54 : decode cX8_copy 54 = .ok (.aload 7, 2) := by decide +kernel
theorem dX8_copy_56 : decode cX8_copy 56 = .ok (.invokestatic 101, 3) := by decide +kernel
theorem dX8_copy_59 : decode cX8_copy 59 = .ok (.ifCond .eq 10, 3) := by decide +kernel
theorem dX8_copy_62 : decode cX8_copy 62 = .ok (.aload_n 0, 1) := by decide +kernel
theorem dX8_copy_63 : decode cX8_copy 63 = .ok (.bipush (-2), 2) := by decide +kernel
theorem dX8_copy_65 : decode cX8_copy 65 = .ok (.invokevirtual 79, 3) := by decide +kernel
theorem dX8_copy_68 : decode cX8_copy 68 = .ok (.ireturn, 1) := by decide +kernel
theorem dX8_copy_69 : decode cX8_copy 69 = .ok (.aload 6, 2) := by decide +kernel
theorem dX8_copy_71 : decode cX8_copy 71 = .ok (.invokevirtual 105, 3) := by decide +kernel
theorem dX8_copy_74 : decode cX8_copy 74 = .ok (.ifCond .eq 11, 3) := by decide +kernel
theorem dX8_copy_77 : decode cX8_copy 77 = .ok (.aload 7, 2) := by decide +kernel
theorem dX8_copy_79 : decode cX8_copy 79 = .ok (.invokevirtual 105, 3) := by decide +kernel
theorem dX8_copy_82 : decode cX8_copy 82 = .ok (.ifCond .ne 10, 3) := by decide +kernel
theorem dX8_copy_85 : decode cX8_copy 85 = .ok (.aload_n 0, 1) := by decide +kernel
theorem dX8_copy_86 : decode cX8_copy 86 = .ok (.bipush (-3), 2) := by decide +kernel
theorem dX8_copy_88 : decode cX8_copy 88 = .ok (.invokevirtual 79, 3) := by decide +kernel
theorem dX8_copy_91 : decode cX8_copy 91 = .ok (.ireturn, 1) := by decide +kernel
theorem dX8_copy_92 : decode cX8_copy 92 = .ok (.iload 5, 2) := by decide +kernel
theorem dX8_copy_94 : decode cX8_copy 94 = .ok (.ifCond .ge 10, 3) := by decide +kernel
theorem dX8_copy_97 : decode cX8_copy 97 = .ok (.aload_n 0, 1) := by decide +kernel
theorem dX8_copy_98 : decode cX8_copy 98 = .ok (.bipush (-4), 2) := by decide +kernel
theorem dX8_copy_100 : decode cX8_copy 100 = .ok (.invokevirtual 79, 3) := by decide +kernel
theorem dX8_copy_103 : decode cX8_copy 103 = .ok (.ireturn, 1) := by decide +kernel
theorem dX8_copy_104 : decode cX8_copy 104 = .ok (.aload 6, 2) := by decide +kernel
theorem dX8_copy_106 : decode cX8_copy 106 = .ok (.iload_n 3, 1) := by decide +kernel
theorem dX8_copy_107 : decode cX8_copy 107 = .ok (.iload 5, 2) := by decide +kernel
theorem dX8_copy_109 : decode cX8_copy 109 = .ok (.invokevirtual 108, 3) := by decide +kernel
theorem dX8_copy_112 : decode cX8_copy 112 = .ok (.ifCond .eq 15, 3) := by decide +kernel
theorem dX8_copy_115 : decode cX8_copy 115 = .ok (.aload 7, 2) := by decide +kernel
theorem dX8_copy_117 : decode cX8_copy 117 = .ok (.iload 4, 2) := by decide +kernel
theorem dX8_copy_119 : decode cX8_copy 119 = .ok (.iload 5, 2) := by decide +kernel
theorem dX8_copy_121 : decode cX8_copy 121 = .ok (.invokevirtual 108, 3) := by decide +kernel
theorem dX8_copy_124 : decode cX8_copy 124 = .ok (.ifCond .ne 10, 3) := by decide +kernel
theorem dX8_copy_127 : decode cX8_copy 127 = .ok (.aload_n 0, 1) := by decide +kernel
theorem dX8_copy_128 : decode cX8_copy 128 = .ok (.bipush (-5), 2) := by decide +kernel
theorem dX8_copy_130 : decode cX8_copy 130 = .ok (.invokevirtual 79, 3) := by decide +kernel
theorem dX8_copy_133 : decode cX8_copy 133 = .ok (.ireturn, 1) := by decide +kernel
theorem dX8_copy_134 : decode cX8_copy 134 = .ok (.aload 6, 2) := by decide +kernel
theorem dX8_copy_136 : decode cX8_copy 136 = .ok (.getfield 112, 3) := by decide +kernel
theorem dX8_copy_139 : decode cX8_copy 139 = .ok (.iload_n 3, 1) := by decide +kernel
theorem dX8_copy_140 : decode cX8_copy 140 = .ok (.aload 7, 2) := by decide +kernel
theorem dX8_copy_142 : decode cX8_copy 142 = .ok (.getfield 112, 3) := by decide +kernel
theorem dX8_copy_145 : decode cX8_copy 145 = .ok (.iload 4, 2) := by decide +kernel
theorem dX8_copy_147 : decode cX8_copy 147 = .ok (.iload 5, 2) := by decide +kernel
theorem dX8_copy_149 : decode cX8_copy 149 = .ok (.invokestatic 116, 3) := by decide +kernel
theorem dX8_copy_152 : decode cX8_copy 152 = .ok (.iconst 1, 1) := by decide +kernel
theorem dX8_copy_153 : decode cX8_copy 153 = .ok (.ireturn, 1) := by decide +kernel
theorem dX8_element_0 : decode cX8_element 0 = .ok (.iload_n 1, 1) := by decide +kernel
theorem dX8_element_1 : decode cX8_element 1 = .ok (.invokestatic 75, 3) := by decide +kernel
theorem dX8_element_4 : decode cX8_element 4 = .ok (.ifCond .eq 16, 3) := by decide +kernel
theorem dX8_element_7 : decode cX8_element 7 = .ok (.aload_n 0, 1) := by decide +kernel
theorem dX8_element_8 : decode cX8_element 8 = .ok (.getfield 24, 3) := by decide +kernel
theorem dX8_element_11 : decode cX8_element 11 = .ok (.iload_n 1, 1) := by decide +kernel
theorem dX8_element_12 : decode cX8_element 12 = .ok (.aaload, 1) := by decide +kernel
theorem dX8_element_13 : decode cX8_element 13 = .ok (.iload_n 2, 1) := by decide +kernel
theorem dX8_element_14 : decode cX8_element 14 = .ok (.invokevirtual 122, 3) := by decide +kernel
theorem dX8_element_17 : decode cX8_element 17 = .ok (.goto 4, 3) := by decide +kernel
theorem dX8_element_20 : decode cX8_element 20 = .ok (.lconst 0, 1) := by decide +kernel
theorem dX8_element_21 : decode cX8_element 21 = .ok (.lreturn, 1) := by decide +kernel
theorem dX8_show_0 : decode cX8_show 0 = .ok (.iload_n 1, 1) := by decide +kernel
theorem dX8_show_1 : decode cX8_show 1 = .ok (.invokestatic 75, 3) := by decide +kernel
theorem dX8_show_4 : decode cX8_show 4 = .ok (.ifCond .eq 19, 3) := by decide +kernel
theorem dX8_show_7 : decode cX8_show 7 = .ok (.iload_n 2, 1) := by decide +kernel
theorem dX8_show_8 : decode cX8_show 8 = .ok (.iconst (-1), 1) := by decide +kernel
theorem dX8_show_9 : decode cX8_show 9 = .ok (.if_icmp .eq 20, 3) := by decide +kernel
theorem dX8_show_12 : decode cX8_show 12 = .ok (.aload_n 0, 1) := by decide +kernel
theorem dX8_show_13 : decode cX8_show 13 = .ok (.getfield 10, 3) := by decide +kernel
theorem dX8_show_16 : decode cX8_show 16 = .ok (.iload_n 2, 1) := by decide +kernel
theorem dX8_show_17 : decode cX8_show 17 = .ok (.invokevirtual 126, 3) := by decide +kernel
theorem dX8_show_20 : decode cX8_show 20 = .ok (.ifCond .ne 9, 3) := by decide +kernel
theorem dX8_show_23 : decode cX8_show 23 = .ok (.aload_n 0, 1) := by decide +kernel
theorem dX8_show_24 : decode cX8_show 24 = .ok (.iconst (-1), 1) := by decide +kernel
theorem dX8_show_25 : decode cX8_show 25 = .ok (.invokevirtual 79, 3) := by decide +kernel
theorem dX8_show_28 : decode cX8_show 28 = .ok (.ireturn, 1) := by decide +kernel
theorem dX8_show_29 : decode cX8_show 29 = .ok (.aload_n 0, 1) := by decide +kernel
theorem dX8_show_30 : decode cX8_show 30 = .ok (.getfield 24, 3) := by decide +kernel
theorem dX8_show_33 : decode cX8_show 33 = .ok (.iload_n 1, 1) := by decide +kernel
theorem dX8_show_34 : decode cX8_show 34 = .ok (.aaload, 1) := by decide +kernel
theorem dX8_show_35 : decode cX8_show 35 = .ok (.iload_n 2, 1) := by decide +kernel
theorem dX8_show_36 : decode cX8_show 36 = .ok (.invokevirtual 128, 3) := by decide +kernel
theorem dX8_show_39 : decode cX8_show 39 = .ok (.iload_n 2, 1) := by decide +kernel
theorem dX8_show_40 : decode cX8_show 40 = .ok (.iconst (-1), 1) := by decide +kernel
theorem dX8_show_41 : decode cX8_show 41 = .ok (.if_icmp .ne 7, 3) := by decide +kernel
theorem dX8_show_44 : decode cX8_show 44 = .ok (.iconst 0, 1) := by decide +kernel
theorem dX8_show_45 : decode cX8_show 45 = .ok (.goto 4, 3) := by decide +kernel
theorem dX8_show_48 : decode cX8_show 48 = .ok (.iconst 1, 1) := by decide +kernel
theorem dX8_show_49 : decode cX8_show 49 = .ok (.ireturn, 1) := by decide +kernel
theorem dX8_holds_0 : decode cX8_holds 0 = .ok (.iload_n 1, 1) := by decide +kernel
theorem dX8_holds_1 : decode cX8_holds 1 = .ok (.invokestatic 75, 3) := by decide +kernel
theorem dX8_holds_4 : decode cX8_holds 4 = .ok (.ifCond .eq 15, 3) := by decide +kernel
theorem dX8_holds_7 : decode cX8_holds 7 = .ok (.aload_n 0, 1) := by decide +kernel
theorem dX8_holds_8 : decode cX8_holds 8 = .ok (.getfield 24, 3) := by decide +kernel
theorem dX8_holds_11 : decode cX8_holds 11 = .ok (.iload_n 1, 1) := by decide +kernel
theorem dX8_holds_12 : decode cX8_holds 12 = .ok (.aaload, 1) := by decide +kernel
theorem dX8_holds_13 : decode cX8_holds 13 = .ok (.getfield 132, 3) := by decide +kernel
theorem dX8_holds_16 : decode cX8_holds 16 = .ok (.goto 4, 3) := by decide +kernel
theorem dX8_holds_19 : decode cX8_holds 19 = .ok (.iconst (-1), 1) := by decide +kernel
theorem dX8_holds_20 : decode cX8_holds 20 = .ok (.ireturn, 1) := by decide +kernel
theorem dX8_says_0 : decode cX8_says 0 = .ok (.iload_n 1, 1) := by decide +kernel
theorem dX8_says_1 : decode cX8_says 1 = .ok (.invokestatic 75, 3) := by decide +kernel
theorem dX8_says_4 : decode cX8_says 4 = .ok (.ifCond .eq 10, 3) := by decide +kernel
theorem dX8_says_7 : decode cX8_says 7 = .ok (.iload_n 2, 1) := by decide +kernel
theorem dX8_says_8 : decode cX8_says 8 = .ok (.invokestatic 135, 3) := by decide +kernel
theorem dX8_says_11 : decode cX8_says 11 = .ok (.ifCond .ne 9, 3) := by decide +kernel
theorem dX8_says_14 : decode cX8_says 14 = .ok (.aload_n 0, 1) := by decide +kernel
theorem dX8_says_15 : decode cX8_says 15 = .ok (.iconst (-1), 1) := by decide +kernel
theorem dX8_says_16 : decode cX8_says 16 = .ok (.invokevirtual 79, 3) := by decide +kernel
theorem dX8_says_19 : decode cX8_says 19 = .ok (.ireturn, 1) := by decide +kernel
theorem dX8_says_20 : decode cX8_says 20 = .ok (.aload_n 0, 1) := by decide +kernel
theorem dX8_says_21 : decode cX8_says 21 = .ok (.getfield 24, 3) := by decide +kernel
theorem dX8_says_24 : decode cX8_says 24 = .ok (.iload_n 1, 1) := by decide +kernel
theorem dX8_says_25 : decode cX8_says 25 = .ok (.aaload, 1) := by decide +kernel
theorem dX8_says_26 : decode cX8_says 26 = .ok (.astore_n 3, 1) := by decide +kernel
theorem dX8_says_27 : decode cX8_says 27 = .ok (.aload_n 3, 1) := by decide +kernel
theorem dX8_says_28 : decode cX8_says 28 = .ok (.invokevirtual 105, 3) := by decide +kernel
theorem dX8_says_31 : decode cX8_says 31 = .ok (.ifCond .eq 10, 3) := by decide +kernel
theorem dX8_says_34 : decode cX8_says 34 = .ok (.aload_n 0, 1) := by decide +kernel
theorem dX8_says_35 : decode cX8_says 35 = .ok (.bipush (-2), 2) := by decide +kernel
theorem dX8_says_37 : decode cX8_says 37 = .ok (.invokevirtual 79, 3) := by decide +kernel
theorem dX8_says_40 : decode cX8_says 40 = .ok (.ireturn, 1) := by decide +kernel
theorem dX8_says_41 : decode cX8_says 41 = .ok (.aload_n 0, 1) := by decide +kernel
theorem dX8_says_42 : decode cX8_says 42 = .ok (.getfield 10, 3) := by decide +kernel
theorem dX8_says_45 : decode cX8_says 45 = .ok (.aload_n 3, 1) := by decide +kernel
theorem dX8_says_46 : decode cX8_says 46 = .ok (.getfield 132, 3) := by decide +kernel
theorem dX8_says_49 : decode cX8_says 49 = .ok (.invokevirtual 126, 3) := by decide +kernel
theorem dX8_says_52 : decode cX8_says 52 = .ok (.ifCond .ne 10, 3) := by decide +kernel
theorem dX8_says_55 : decode cX8_says 55 = .ok (.aload_n 0, 1) := by decide +kernel
theorem dX8_says_56 : decode cX8_says 56 = .ok (.bipush (-3), 2) := by decide +kernel
theorem dX8_says_58 : decode cX8_says 58 = .ok (.invokevirtual 79, 3) := by decide +kernel
theorem dX8_says_61 : decode cX8_says 61 = .ok (.ireturn, 1) := by decide +kernel
theorem dX8_says_62 : decode cX8_says 62 = .ok (.aload_n 0, 1) := by decide +kernel
theorem dX8_says_63 : decode cX8_says 63 = .ok (.getfield 10, 3) := by decide +kernel
theorem dX8_says_66 : decode cX8_says 66 = .ok (.getfield 138, 3) := by decide +kernel
theorem dX8_says_69 : decode cX8_says 69 = .ok (.aload_n 3, 1) := by decide +kernel
theorem dX8_says_70 : decode cX8_says 70 = .ok (.getfield 132, 3) := by decide +kernel
theorem dX8_says_73 : decode cX8_says 73 = .ok (.aaload, 1) := by decide +kernel
theorem dX8_says_74 : decode cX8_says 74 = .ok (.getfield 142, 3) := by decide +kernel
theorem dX8_says_77 : decode cX8_says 77 = .ok (.iload_n 2, 1) := by decide +kernel
theorem dX8_says_78 : decode cX8_says 78 = .ok (.invokestatic 147, 3) := by decide +kernel
theorem dX8_says_81 : decode cX8_says 81 = .ok (.ifCond .ne 10, 3) := by decide +kernel
theorem dX8_says_84 : decode cX8_says 84 = .ok (.aload_n 0, 1) := by decide +kernel
theorem dX8_says_85 : decode cX8_says 85 = .ok (.bipush (-2), 2) := by decide +kernel
theorem dX8_says_87 : decode cX8_says 87 = .ok (.invokevirtual 79, 3) := by decide +kernel
theorem dX8_says_90 : decode cX8_says 90 = .ok (.ireturn, 1) := by decide +kernel
theorem dX8_says_91 : decode cX8_says 91 = .ok (.aload_n 0, 1) := by decide +kernel
theorem dX8_says_92 : decode cX8_says 92 = .ok (.aload_n 3, 1) := by decide +kernel
theorem dX8_says_93 : decode cX8_says 93 = .ok (.getfield 132, 3) := by decide +kernel
theorem dX8_says_96 : decode cX8_says 96 = .ok (.iload_n 2, 1) := by decide +kernel
theorem dX8_says_97 : decode cX8_says 97 = .ok (.invokevirtual 150, 3) := by decide +kernel
theorem dX8_says_100 : decode cX8_says 100 = .ok (.ireturn, 1) := by decide +kernel
theorem dX8_child_0 : decode cX8_child 0 = .ok (.iload_n 1, 1) := by decide +kernel
theorem dX8_child_1 : decode cX8_child 1 = .ok (.invokestatic 135, 3) := by decide +kernel
theorem dX8_child_4 : decode cX8_child 4 = .ok (.ifCond .ne 9, 3) := by decide +kernel
theorem dX8_child_7 : decode cX8_child 7 = .ok (.aload_n 0, 1) := by decide +kernel
theorem dX8_child_8 : decode cX8_child 8 = .ok (.iconst (-1), 1) := by decide +kernel
theorem dX8_child_9 : decode cX8_child 9 = .ok (.invokevirtual 79, 3) := by decide +kernel
theorem dX8_child_12 : decode cX8_child 12 = .ok (.ireturn, 1) := by decide +kernel
theorem dX8_child_13 : decode cX8_child 13 = .ok (.iload_n 2, 1) := by decide +kernel
theorem dX8_child_14 : decode cX8_child 14 = .ok (.ifCond .lt 20, 3) := by decide +kernel
theorem dX8_child_17 : decode cX8_child 17 = .ok (.iload_n 2, 1) := by decide +kernel
theorem dX8_child_18 : decode cX8_child 18 = .ok (.bipush 9, 2) := by decide +kernel
theorem dX8_child_20 : decode cX8_child 20 = .ok (.if_icmp .gt 14, 3) := by decide +kernel
theorem dX8_child_23 : decode cX8_child 23 = .ok (.iload_n 3, 1) := by decide +kernel
theorem dX8_child_24 : decode cX8_child 24 = .ok (.iconst 1, 1) := by decide +kernel
theorem dX8_child_25 : decode cX8_child 25 = .ok (.if_icmp .lt 9, 3) := by decide +kernel
theorem dX8_child_28 : decode cX8_child 28 = .ok (.iload_n 3, 1) := by decide +kernel
theorem dX8_child_29 : decode cX8_child 29 = .ok (.bipush 9, 2) := by decide +kernel
theorem dX8_child_31 : decode cX8_child 31 = .ok (.if_icmp .le 10, 3) := by decide +kernel
theorem dX8_child_34 : decode cX8_child 34 = .ok (.aload_n 0, 1) := by decide +kernel
theorem dX8_child_35 : decode cX8_child 35 = .ok (.bipush (-6), 2) := by decide +kernel
theorem dX8_child_37 : decode cX8_child 37 = .ok (.invokevirtual 79, 3) := by decide +kernel
theorem dX8_child_40 : decode cX8_child 40 = .ok (.ireturn, 1) := by decide +kernel
theorem dX8_child_41 : decode cX8_child 41 = .ok (.aload_n 0, 1) := by decide +kernel
theorem dX8_child_42 : decode cX8_child 42 = .ok (.getfield 10, 3) := by decide +kernel
theorem dX8_child_45 : decode cX8_child 45 = .ok (.getfield 154, 3) := by decide +kernel
theorem dX8_child_48 : decode cX8_child 48 = .ok (.bipush 8, 2) := by decide +kernel
theorem dX8_child_50 : decode cX8_child 50 = .ok (.if_icmp .lt 10, 3) := by decide +kernel
theorem dX8_child_53 : decode cX8_child 53 = .ok (.aload_n 0, 1) := by decide +kernel
theorem dX8_child_54 : decode cX8_child 54 = .ok (.bipush (-7), 2) := by decide +kernel
theorem dX8_child_56 : decode cX8_child 56 = .ok (.invokevirtual 79, 3) := by decide +kernel
theorem dX8_child_59 : decode cX8_child 59 = .ok (.ireturn, 1) := by decide +kernel
theorem dX8_child_60 : decode cX8_child 60 = .ok (.aload_n 0, 1) := by decide +kernel
theorem dX8_child_61 : decode cX8_child 61 = .ok (.getfield 10, 3) := by decide +kernel
theorem dX8_child_64 : decode cX8_child 64 = .ok (.iload_n 1, 1) := by decide +kernel
theorem dX8_child_65 : decode cX8_child 65 = .ok (.iload_n 2, 1) := by decide +kernel
theorem dX8_child_66 : decode cX8_child 66 = .ok (.iload_n 3, 1) := by decide +kernel
theorem dX8_child_67 : decode cX8_child 67 = .ok (.invokevirtual 157, 3) := by decide +kernel
theorem dX8_child_70 : decode cX8_child 70 = .ok (.ireturn, 1) := by decide +kernel
theorem dX8_sack_0 : decode cX8_sack 0 = .ok (.iload_n 1, 1) := by decide +kernel
theorem dX8_sack_1 : decode cX8_sack 1 = .ok (.iconst 1, 1) := by decide +kernel
theorem dX8_sack_2 : decode cX8_sack 2 = .ok (.if_icmp .lt 19, 3) := by decide +kernel
theorem dX8_sack_5 : decode cX8_sack 5 = .ok (.iload_n 1, 1) := by decide +kernel
theorem dX8_sack_6 : decode cX8_sack 6 = .ok (.bipush 9, 2) := by decide +kernel
theorem dX8_sack_8 : decode cX8_sack 8 = .ok (.if_icmp .gt 13, 3) := by decide +kernel
theorem dX8_sack_11 : decode cX8_sack 11 = .ok (.iload_n 2, 1) := by decide +kernel
theorem dX8_sack_12 : decode cX8_sack 12 = .ok (.ifCond .lt 9, 3) := by decide +kernel
theorem dX8_sack_15 : decode cX8_sack 15 = .ok (.iload_n 2, 1) := by decide +kernel
theorem dX8_sack_16 : decode cX8_sack 16 = .ok (.bipush 9, 2) := by decide +kernel
theorem dX8_sack_18 : decode cX8_sack 18 = .ok (.if_icmp .le 10, 3) := by decide +kernel
theorem dX8_sack_21 : decode cX8_sack 21 = .ok (.aload_n 0, 1) := by decide +kernel
theorem dX8_sack_22 : decode cX8_sack 22 = .ok (.bipush (-6), 2) := by decide +kernel
theorem dX8_sack_24 : decode cX8_sack 24 = .ok (.invokevirtual 79, 3) := by decide +kernel
theorem dX8_sack_27 : decode cX8_sack 27 = .ok (.ireturn, 1) := by decide +kernel
theorem dX8_sack_28 : decode cX8_sack 28 = .ok (.aload_n 0, 1) := by decide +kernel
theorem dX8_sack_29 : decode cX8_sack 29 = .ok (.getfield 10, 3) := by decide +kernel
theorem dX8_sack_32 : decode cX8_sack 32 = .ok (.getfield 161, 3) := by decide +kernel
theorem dX8_sack_35 : decode cX8_sack 35 = .ok (.bipush 8, 2) := by decide +kernel
theorem dX8_sack_37 : decode cX8_sack 37 = .ok (.if_icmp .lt 10, 3) := by decide +kernel
theorem dX8_sack_40 : decode cX8_sack 40 = .ok (.aload_n 0, 1) := by decide +kernel
theorem dX8_sack_41 : decode cX8_sack 41 = .ok (.bipush (-7), 2) := by decide +kernel
theorem dX8_sack_43 : decode cX8_sack 43 = .ok (.invokevirtual 79, 3) := by decide +kernel
theorem dX8_sack_46 : decode cX8_sack 46 = .ok (.ireturn, 1) := by decide +kernel
theorem dX8_sack_47 : decode cX8_sack 47 = .ok (.aload_n 0, 1) := by decide +kernel
theorem dX8_sack_48 : decode cX8_sack 48 = .ok (.getfield 10, 3) := by decide +kernel
theorem dX8_sack_51 : decode cX8_sack 51 = .ok (.iload_n 1, 1) := by decide +kernel
theorem dX8_sack_52 : decode cX8_sack 52 = .ok (.iload_n 2, 1) := by decide +kernel
theorem dX8_sack_53 : decode cX8_sack 53 = .ok (.invokevirtual 164, 3) := by decide +kernel
theorem dX8_sack_56 : decode cX8_sack 56 = .ok (.ireturn, 1) := by decide +kernel
theorem dX8_childOf_0 : decode cX8_childOf 0 = .ok (.aload_n 0, 1) := by decide +kernel
theorem dX8_childOf_1 : decode cX8_childOf 1 = .ok (.getfield 10, 3) := by decide +kernel
theorem dX8_childOf_4 : decode cX8_childOf 4 = .ok (.iload_n 1, 1) := by decide +kernel
theorem dX8_childOf_5 : decode cX8_childOf 5 = .ok (.invokevirtual 126, 3) := by decide +kernel
theorem dX8_childOf_8 : decode cX8_childOf 8 = .ok (.ifCond .eq 13, 3) := by decide +kernel
theorem dX8_childOf_11 : decode cX8_childOf 11 = .ok (.iload_n 2, 1) := by decide +kernel
theorem dX8_childOf_12 : decode cX8_childOf 12 = .ok (.ifCond .lt 9, 3) := by decide +kernel
theorem dX8_childOf_15 : decode cX8_childOf 15 = .ok (.iload_n 2, 1) := by decide +kernel
theorem dX8_childOf_16 : decode cX8_childOf 16 = .ok (.bipush 8, 2) := by decide +kernel
theorem dX8_childOf_18 : decode cX8_childOf 18 = .ok (.if_icmp .le 10, 3) := by decide +kernel
theorem dX8_childOf_21 : decode cX8_childOf 21 = .ok (.aload_n 0, 1) := by decide +kernel
theorem dX8_childOf_22 : decode cX8_childOf 22 = .ok (.bipush (-5), 2) := by decide +kernel
theorem dX8_childOf_24 : decode cX8_childOf 24 = .ok (.invokevirtual 79, 3) := by decide +kernel
theorem dX8_childOf_27 : decode cX8_childOf 27 = .ok (.ireturn, 1) := by decide +kernel
theorem dX8_childOf_28 : decode cX8_childOf 28 = .ok (.aload_n 0, 1) := by decide +kernel
theorem dX8_childOf_29 : decode cX8_childOf 29 = .ok (.getfield 31, 3) := by decide +kernel
theorem dX8_childOf_32 : decode cX8_childOf 32 = .ok (.aload_n 0, 1) := by decide +kernel
theorem dX8_childOf_33 : decode cX8_childOf 33 = .ok (.getfield 10, 3) := by decide +kernel
theorem dX8_childOf_36 : decode cX8_childOf 36 = .ok (.iload_n 1, 1) := by decide +kernel
theorem dX8_childOf_37 : decode cX8_childOf 37 = .ok (.invokevirtual 167, 3) := by decide +kernel
theorem dX8_childOf_40 : decode cX8_childOf 40 = .ok (.aload_n 0, 1) := by decide +kernel
theorem dX8_childOf_41 : decode cX8_childOf 41 = .ok (.getfield 31, 3) := by decide +kernel
theorem dX8_childOf_44 : decode cX8_childOf 44 = .ok (.aload_n 0, 1) := by decide +kernel
theorem dX8_childOf_45 : decode cX8_childOf 45 = .ok (.getfield 10, 3) := by decide +kernel
theorem dX8_childOf_48 : decode cX8_childOf 48 = .ok (.invokevirtual 171, 3) := by decide +kernel
theorem dX8_childOf_51 : decode cX8_childOf 51 = .ok (.iload_n 2, 1) := by decide +kernel
theorem dX8_childOf_52 : decode cX8_childOf 52 = .ok (.tableswitch 127 0 7 #[48, 59, 70, 81, 92, 103, 111, 119], 48) := by decide +kernel
theorem dX8_childOf_100 : decode cX8_childOf 100 = .ok (.aload_n 0, 1) := by decide +kernel
theorem dX8_childOf_101 : decode cX8_childOf 101 = .ok (.getfield 31, 3) := by decide +kernel
theorem dX8_childOf_104 : decode cX8_childOf 104 = .ok (.getfield 175, 3) := by decide +kernel
theorem dX8_childOf_107 : decode cX8_childOf 107 = .ok (.getfield 142, 3) := by decide +kernel
theorem dX8_childOf_110 : decode cX8_childOf 110 = .ok (.ireturn, 1) := by decide +kernel
theorem dX8_childOf_111 : decode cX8_childOf 111 = .ok (.aload_n 0, 1) := by decide +kernel
theorem dX8_childOf_112 : decode cX8_childOf 112 = .ok (.getfield 31, 3) := by decide +kernel
theorem dX8_childOf_115 : decode cX8_childOf 115 = .ok (.getfield 175, 3) := by decide +kernel
theorem dX8_childOf_118 : decode cX8_childOf 118 = .ok (.getfield 179, 3) := by decide +kernel
theorem dX8_childOf_121 : decode cX8_childOf 121 = .ok (.ireturn, 1) := by decide +kernel
theorem dX8_childOf_122 : decode cX8_childOf 122 = .ok (.aload_n 0, 1) := by decide +kernel
theorem dX8_childOf_123 : decode cX8_childOf 123 = .ok (.getfield 31, 3) := by decide +kernel
theorem dX8_childOf_126 : decode cX8_childOf 126 = .ok (.getfield 175, 3) := by decide +kernel
theorem dX8_childOf_129 : decode cX8_childOf 129 = .ok (.getfield 182, 3) := by decide +kernel
theorem dX8_childOf_132 : decode cX8_childOf 132 = .ok (.ireturn, 1) := by decide +kernel
theorem dX8_childOf_133 : decode cX8_childOf 133 = .ok (.aload_n 0, 1) := by decide +kernel
theorem dX8_childOf_134 : decode cX8_childOf 134 = .ok (.getfield 31, 3) := by decide +kernel
theorem dX8_childOf_137 : decode cX8_childOf 137 = .ok (.getfield 175, 3) := by decide +kernel
theorem dX8_childOf_140 : decode cX8_childOf 140 = .ok (.getfield 185, 3) := by decide +kernel
theorem dX8_childOf_143 : decode cX8_childOf 143 = .ok (.ireturn, 1) := by decide +kernel
theorem dX8_childOf_144 : decode cX8_childOf 144 = .ok (.aload_n 0, 1) := by decide +kernel
theorem dX8_childOf_145 : decode cX8_childOf 145 = .ok (.getfield 31, 3) := by decide +kernel
theorem dX8_childOf_148 : decode cX8_childOf 148 = .ok (.getfield 175, 3) := by decide +kernel
theorem dX8_childOf_151 : decode cX8_childOf 151 = .ok (.getfield 188, 3) := by decide +kernel
theorem dX8_childOf_154 : decode cX8_childOf 154 = .ok (.ireturn, 1) := by decide +kernel
theorem dX8_childOf_155 : decode cX8_childOf 155 = .ok (.aload_n 0, 1) := by decide +kernel
theorem dX8_childOf_156 : decode cX8_childOf 156 = .ok (.getfield 31, 3) := by decide +kernel
theorem dX8_childOf_159 : decode cX8_childOf 159 = .ok (.getfield 191, 3) := by decide +kernel
theorem dX8_childOf_162 : decode cX8_childOf 162 = .ok (.ireturn, 1) := by decide +kernel
theorem dX8_childOf_163 : decode cX8_childOf 163 = .ok (.aload_n 0, 1) := by decide +kernel
theorem dX8_childOf_164 : decode cX8_childOf 164 = .ok (.getfield 31, 3) := by decide +kernel
theorem dX8_childOf_167 : decode cX8_childOf 167 = .ok (.getfield 194, 3) := by decide +kernel
theorem dX8_childOf_170 : decode cX8_childOf 170 = .ok (.ireturn, 1) := by decide +kernel
theorem dX8_childOf_171 : decode cX8_childOf 171 = .ok (.aload_n 0, 1) := by decide +kernel
theorem dX8_childOf_172 : decode cX8_childOf 172 = .ok (.getfield 31, 3) := by decide +kernel
theorem dX8_childOf_175 : decode cX8_childOf 175 = .ok (.getfield 197, 3) := by decide +kernel
theorem dX8_childOf_178 : decode cX8_childOf 178 = .ok (.ireturn, 1) := by decide +kernel
theorem dX8_childOf_179 : decode cX8_childOf 179 = .ok (.aload_n 0, 1) := by decide +kernel
theorem dX8_childOf_180 : decode cX8_childOf 180 = .ok (.getfield 31, 3) := by decide +kernel
theorem dX8_childOf_183 : decode cX8_childOf 183 = .ok (.getfield 175, 3) := by decide +kernel
theorem dX8_childOf_186 : decode cX8_childOf 186 = .ok (.getfield 200, 3) := by decide +kernel
theorem dX8_childOf_189 : decode cX8_childOf 189 = .ok (.ireturn, 1) := by decide +kernel
theorem dX8_sackOf_0 : decode cX8_sackOf 0 = .ok (.aload_n 0, 1) := by decide +kernel
theorem dX8_sackOf_1 : decode cX8_sackOf 1 = .ok (.getfield 10, 3) := by decide +kernel
theorem dX8_sackOf_4 : decode cX8_sackOf 4 = .ok (.iload_n 1, 1) := by decide +kernel
theorem dX8_sackOf_5 : decode cX8_sackOf 5 = .ok (.invokevirtual 203, 3) := by decide +kernel
theorem dX8_sackOf_8 : decode cX8_sackOf 8 = .ok (.ifCond .ne 9, 3) := by decide +kernel
theorem dX8_sackOf_11 : decode cX8_sackOf 11 = .ok (.aload_n 0, 1) := by decide +kernel
theorem dX8_sackOf_12 : decode cX8_sackOf 12 = .ok (.iconst (-1), 1) := by decide +kernel
theorem dX8_sackOf_13 : decode cX8_sackOf 13 = .ok (.invokevirtual 79, 3) := by decide +kernel
theorem dX8_sackOf_16 : decode cX8_sackOf 16 = .ok (.ireturn, 1) := by decide +kernel
theorem dX8_sackOf_17 : decode cX8_sackOf 17 = .ok (.iload_n 2, 1) := by decide +kernel
theorem dX8_sackOf_18 : decode cX8_sackOf 18 = .ok (.ifCond .lt 8, 3) := by decide +kernel
theorem dX8_sackOf_21 : decode cX8_sackOf 21 = .ok (.iload_n 2, 1) := by decide +kernel
theorem dX8_sackOf_22 : decode cX8_sackOf 22 = .ok (.iconst 1, 1) := by decide +kernel
theorem dX8_sackOf_23 : decode cX8_sackOf 23 = .ok (.if_icmp .le 10, 3) := by decide +kernel
theorem dX8_sackOf_26 : decode cX8_sackOf 26 = .ok (.aload_n 0, 1) := by decide +kernel
theorem dX8_sackOf_27 : decode cX8_sackOf 27 = .ok (.bipush (-5), 2) := by decide +kernel
theorem dX8_sackOf_29 : decode cX8_sackOf 29 = .ok (.invokevirtual 79, 3) := by decide +kernel
theorem dX8_sackOf_32 : decode cX8_sackOf 32 = .ok (.ireturn, 1) := by decide +kernel
theorem dX8_sackOf_33 : decode cX8_sackOf 33 = .ok (.iload_n 2, 1) := by decide +kernel
theorem dX8_sackOf_34 : decode cX8_sackOf 34 = .ok (.ifCond .ne 18, 3) := by decide +kernel
theorem dX8_sackOf_37 : decode cX8_sackOf 37 = .ok (.aload_n 0, 1) := by decide +kernel
theorem dX8_sackOf_38 : decode cX8_sackOf 38 = .ok (.getfield 10, 3) := by decide +kernel
theorem dX8_sackOf_41 : decode cX8_sackOf 41 = .ok (.getfield 206, 3) := by decide +kernel
theorem dX8_sackOf_44 : decode cX8_sackOf 44 = .ok (.iload_n 1, 1) := by decide +kernel
theorem dX8_sackOf_45 : decode cX8_sackOf 45 = .ok (.aaload, 1) := by decide +kernel
theorem dX8_sackOf_46 : decode cX8_sackOf 46 = .ok (.getfield 210, 3) := by decide +kernel
theorem dX8_sackOf_49 : decode cX8_sackOf 49 = .ok (.goto 15, 3) := by decide +kernel
theorem dX8_sackOf_52 : decode cX8_sackOf 52 = .ok (.aload_n 0, 1) := by decide +kernel
theorem dX8_sackOf_53 : decode cX8_sackOf 53 = .ok (.getfield 10, 3) := by decide +kernel
theorem dX8_sackOf_56 : decode cX8_sackOf 56 = .ok (.getfield 206, 3) := by decide +kernel
theorem dX8_sackOf_59 : decode cX8_sackOf 59 = .ok (.iload_n 1, 1) := by decide +kernel
theorem dX8_sackOf_60 : decode cX8_sackOf 60 = .ok (.aaload, 1) := by decide +kernel
theorem dX8_sackOf_61 : decode cX8_sackOf 61 = .ok (.getfield 215, 3) := by decide +kernel
theorem dX8_sackOf_64 : decode cX8_sackOf 64 = .ok (.ireturn, 1) := by decide +kernel
theorem dX8_wears_0 : decode cX8_wears 0 = .ok (.aload_n 0, 1) := by decide +kernel
theorem dX8_wears_1 : decode cX8_wears 1 = .ok (.getfield 10, 3) := by decide +kernel
theorem dX8_wears_4 : decode cX8_wears 4 = .ok (.iload_n 1, 1) := by decide +kernel
theorem dX8_wears_5 : decode cX8_wears 5 = .ok (.invokevirtual 126, 3) := by decide +kernel
theorem dX8_wears_8 : decode cX8_wears 8 = .ok (.ifCond .eq 14, 3) := by decide +kernel
theorem dX8_wears_11 : decode cX8_wears 11 = .ok (.aload_n 0, 1) := by decide +kernel
theorem dX8_wears_12 : decode cX8_wears 12 = .ok (.getfield 10, 3) := by decide +kernel
theorem dX8_wears_15 : decode cX8_wears 15 = .ok (.iload_n 2, 1) := by decide +kernel
theorem dX8_wears_16 : decode cX8_wears 16 = .ok (.invokevirtual 203, 3) := by decide +kernel
theorem dX8_wears_19 : decode cX8_wears 19 = .ok (.ifCond .ne 9, 3) := by decide +kernel
theorem dX8_wears_22 : decode cX8_wears 22 = .ok (.aload_n 0, 1) := by decide +kernel
theorem dX8_wears_23 : decode cX8_wears 23 = .ok (.iconst (-1), 1) := by decide +kernel
theorem dX8_wears_24 : decode cX8_wears 24 = .ok (.invokevirtual 79, 3) := by decide +kernel
theorem dX8_wears_27 : decode cX8_wears 27 = .ok (.ireturn, 1) := by decide +kernel
theorem dX8_wears_28 : decode cX8_wears 28 = .ok (.aload_n 0, 1) := by decide +kernel
theorem dX8_wears_29 : decode cX8_wears 29 = .ok (.getfield 10, 3) := by decide +kernel
theorem dX8_wears_32 : decode cX8_wears 32 = .ok (.getfield 138, 3) := by decide +kernel
theorem dX8_wears_35 : decode cX8_wears 35 = .ok (.iload_n 1, 1) := by decide +kernel
theorem dX8_wears_36 : decode cX8_wears 36 = .ok (.aaload, 1) := by decide +kernel
theorem dX8_wears_37 : decode cX8_wears 37 = .ok (.getfield 185, 3) := by decide +kernel
theorem dX8_wears_40 : decode cX8_wears 40 = .ok (.istore_n 3, 1) := by decide +kernel
theorem dX8_wears_41 : decode cX8_wears 41 = .ok (.aload_n 0, 1) := by decide +kernel
theorem dX8_wears_42 : decode cX8_wears 42 = .ok (.getfield 10, 3) := by decide +kernel
theorem dX8_wears_45 : decode cX8_wears 45 = .ok (.getfield 138, 3) := by decide +kernel
theorem dX8_wears_48 : decode cX8_wears 48 = .ok (.iload_n 1, 1) := by decide +kernel
theorem dX8_wears_49 : decode cX8_wears 49 = .ok (.aaload, 1) := by decide +kernel
theorem dX8_wears_50 : decode cX8_wears 50 = .ok (.iload_n 2, 1) := by decide +kernel
theorem dX8_wears_51 : decode cX8_wears 51 = .ok (.putfield 185, 3) := by decide +kernel
theorem dX8_wears_54 : decode cX8_wears 54 = .ok (.iload_n 3, 1) := by decide +kernel
theorem dX8_wears_55 : decode cX8_wears 55 = .ok (.ireturn, 1) := by decide +kernel
theorem dX8_ahead_0 : decode cX8_ahead 0 = .ok (.aload_n 0, 1) := by decide +kernel
theorem dX8_ahead_1 : decode cX8_ahead 1 = .ok (.getfield 10, 3) := by decide +kernel
theorem dX8_ahead_4 : decode cX8_ahead 4 = .ok (.iload_n 1, 1) := by decide +kernel
theorem dX8_ahead_5 : decode cX8_ahead 5 = .ok (.invokevirtual 126, 3) := by decide +kernel
theorem dX8_ahead_8 : decode cX8_ahead 8 = .ok (.ifCond .ne 9, 3) := by decide +kernel
theorem dX8_ahead_11 : decode cX8_ahead 11 = .ok (.aload_n 0, 1) := by decide +kernel
theorem dX8_ahead_12 : decode cX8_ahead 12 = .ok (.iconst (-1), 1) := by decide +kernel
theorem dX8_ahead_13 : decode cX8_ahead 13 = .ok (.invokevirtual 79, 3) := by decide +kernel
theorem dX8_ahead_16 : decode cX8_ahead 16 = .ok (.ireturn, 1) := by decide +kernel
theorem dX8_ahead_17 : decode cX8_ahead 17 = .ok (.iload_n 2, 1) := by decide +kernel
theorem dX8_ahead_18 : decode cX8_ahead 18 = .ok (.ifCond .lt 9, 3) := by decide +kernel
theorem dX8_ahead_21 : decode cX8_ahead 21 = .ok (.iload_n 2, 1) := by decide +kernel
theorem dX8_ahead_22 : decode cX8_ahead 22 = .ok (.bipush 99, 2) := by decide +kernel
theorem dX8_ahead_24 : decode cX8_ahead 24 = .ok (.if_icmp .le 10, 3) := by decide +kernel
theorem dX8_ahead_27 : decode cX8_ahead 27 = .ok (.aload_n 0, 1) := by decide +kernel
theorem dX8_ahead_28 : decode cX8_ahead 28 = .ok (.bipush (-6), 2) := by decide +kernel
theorem dX8_ahead_30 : decode cX8_ahead 30 = .ok (.invokevirtual 79, 3) := by decide +kernel
theorem dX8_ahead_33 : decode cX8_ahead 33 = .ok (.ireturn, 1) := by decide +kernel
theorem dX8_ahead_34 : decode cX8_ahead 34 = .ok (.aload_n 0, 1) := by decide +kernel
theorem dX8_ahead_35 : decode cX8_ahead 35 = .ok (.getfield 10, 3) := by decide +kernel
theorem dX8_ahead_38 : decode cX8_ahead 38 = .ok (.getfield 138, 3) := by decide +kernel
theorem dX8_ahead_41 : decode cX8_ahead 41 = .ok (.iload_n 1, 1) := by decide +kernel
theorem dX8_ahead_42 : decode cX8_ahead 42 = .ok (.aaload, 1) := by decide +kernel
theorem dX8_ahead_43 : decode cX8_ahead 43 = .ok (.getfield 188, 3) := by decide +kernel
theorem dX8_ahead_46 : decode cX8_ahead 46 = .ok (.istore_n 3, 1) := by decide +kernel
theorem dX8_ahead_47 : decode cX8_ahead 47 = .ok (.aload_n 0, 1) := by decide +kernel
theorem dX8_ahead_48 : decode cX8_ahead 48 = .ok (.getfield 10, 3) := by decide +kernel
theorem dX8_ahead_51 : decode cX8_ahead 51 = .ok (.getfield 138, 3) := by decide +kernel
theorem dX8_ahead_54 : decode cX8_ahead 54 = .ok (.iload_n 1, 1) := by decide +kernel
theorem dX8_ahead_55 : decode cX8_ahead 55 = .ok (.aaload, 1) := by decide +kernel
theorem dX8_ahead_56 : decode cX8_ahead 56 = .ok (.iload_n 2, 1) := by decide +kernel
theorem dX8_ahead_57 : decode cX8_ahead 57 = .ok (.putfield 188, 3) := by decide +kernel
theorem dX8_ahead_60 : decode cX8_ahead 60 = .ok (.iload_n 3, 1) := by decide +kernel
theorem dX8_ahead_61 : decode cX8_ahead 61 = .ok (.ireturn, 1) := by decide +kernel
theorem dX8_ask_0 : decode cX8_ask 0 = .ok (.iload_n 1, 1) := by decide +kernel
theorem dX8_ask_1 : decode cX8_ask 1 = .ok (.invokestatic 218, 3) := by decide +kernel
theorem dX8_ask_4 : decode cX8_ask 4 = .ok (.ifCond .eq 21, 3) := by decide +kernel
theorem dX8_ask_7 : decode cX8_ask 7 = .ok (.iload_n 2, 1) := by decide +kernel
theorem dX8_ask_8 : decode cX8_ask 8 = .ok (.getstatic 221, 3) := by decide +kernel
theorem dX8_ask_11 : decode cX8_ask 11 = .ok (.iload_n 1, 1) := by decide +kernel
theorem dX8_ask_12 : decode cX8_ask 12 = .ok (.iaload, 1) := by decide +kernel
theorem dX8_ask_13 : decode cX8_ask 13 = .ok (.if_icmp .lt 12, 3) := by decide +kernel
theorem dX8_ask_16 : decode cX8_ask 16 = .ok (.iload_n 2, 1) := by decide +kernel
theorem dX8_ask_17 : decode cX8_ask 17 = .ok (.getstatic 224, 3) := by decide +kernel
theorem dX8_ask_20 : decode cX8_ask 20 = .ok (.iload_n 1, 1) := by decide +kernel
theorem dX8_ask_21 : decode cX8_ask 21 = .ok (.iaload, 1) := by decide +kernel
theorem dX8_ask_22 : decode cX8_ask 22 = .ok (.if_icmp .le 10, 3) := by decide +kernel
theorem dX8_ask_25 : decode cX8_ask 25 = .ok (.aload_n 0, 1) := by decide +kernel
theorem dX8_ask_26 : decode cX8_ask 26 = .ok (.bipush (-6), 2) := by decide +kernel
theorem dX8_ask_28 : decode cX8_ask 28 = .ok (.invokevirtual 79, 3) := by decide +kernel
theorem dX8_ask_31 : decode cX8_ask 31 = .ok (.ireturn, 1) := by decide +kernel
theorem dX8_ask_32 : decode cX8_ask 32 = .ok (.aload_n 0, 1) := by decide +kernel
theorem dX8_ask_33 : decode cX8_ask 33 = .ok (.getfield 10, 3) := by decide +kernel
theorem dX8_ask_36 : decode cX8_ask 36 = .ok (.getfield 227, 3) := by decide +kernel
theorem dX8_ask_39 : decode cX8_ask 39 = .ok (.iload_n 1, 1) := by decide +kernel
theorem dX8_ask_40 : decode cX8_ask 40 = .ok (.iaload, 1) := by decide +kernel
theorem dX8_ask_41 : decode cX8_ask 41 = .ok (.istore_n 3, 1) := by decide +kernel
theorem dX8_ask_42 : decode cX8_ask 42 = .ok (.aload_n 0, 1) := by decide +kernel
theorem dX8_ask_43 : decode cX8_ask 43 = .ok (.getfield 10, 3) := by decide +kernel
theorem dX8_ask_46 : decode cX8_ask 46 = .ok (.iload_n 1, 1) := by decide +kernel
theorem dX8_ask_47 : decode cX8_ask 47 = .ok (.iload_n 2, 1) := by decide +kernel
theorem dX8_ask_48 : decode cX8_ask 48 = .ok (.invokevirtual 230, 3) := by decide +kernel
theorem dX8_ask_51 : decode cX8_ask 51 = .ok (.iload_n 3, 1) := by decide +kernel
theorem dX8_ask_52 : decode cX8_ask 52 = .ok (.ireturn, 1) := by decide +kernel
theorem dX8_roll_0 : decode cX8_roll 0 = .ok (.aload_n 0, 1) := by decide +kernel
theorem dX8_roll_1 : decode cX8_roll 1 = .ok (.getfield 10, 3) := by decide +kernel
theorem dX8_roll_4 : decode cX8_roll 4 = .ok (.getfield 233, 3) := by decide +kernel
theorem dX8_roll_7 : decode cX8_roll 7 = .ok (.istore_n 2, 1) := by decide +kernel
theorem dX8_roll_8 : decode cX8_roll 8 = .ok (.aload_n 0, 1) := by decide +kernel
theorem dX8_roll_9 : decode cX8_roll 9 = .ok (.getfield 10, 3) := by decide +kernel
theorem dX8_roll_12 : decode cX8_roll 12 = .ok (.iload_n 1, 1) := by decide +kernel
theorem dX8_roll_13 : decode cX8_roll 13 = .ok (.putfield 233, 3) := by decide +kernel
theorem dX8_roll_16 : decode cX8_roll 16 = .ok (.iload_n 2, 1) := by decide +kernel
theorem dX8_roll_17 : decode cX8_roll 17 = .ok (.invokestatic 237, 3) := by decide +kernel
theorem dX8_roll_20 : decode cX8_roll 20 = .ok (.ireturn, 1) := by decide +kernel
theorem dX8_field_0 : decode cX8_field 0 = .ok (.aload_n 0, 1) := by decide +kernel
theorem dX8_field_1 : decode cX8_field 1 = .ok (.iload_n 1, 1) := by decide +kernel
theorem dX8_field_2 : decode cX8_field 2 = .ok (.invokevirtual 87, 3) := by decide +kernel
theorem dX8_field_5 : decode cX8_field 5 = .ok (.istore_n 2, 1) := by decide +kernel
theorem dX8_field_6 : decode cX8_field 6 = .ok (.iload_n 2, 1) := by decide +kernel
theorem dX8_field_7 : decode cX8_field 7 = .ok (.ifCond .eq 9, 3) := by decide +kernel
theorem dX8_field_10 : decode cX8_field 10 = .ok (.aload_n 0, 1) := by decide +kernel
theorem dX8_field_11 : decode cX8_field 11 = .ok (.iload_n 2, 1) := by decide +kernel
theorem dX8_field_12 : decode cX8_field 12 = .ok (.invokevirtual 79, 3) := by decide +kernel
theorem dX8_field_15 : decode cX8_field 15 = .ok (.ireturn, 1) := by decide +kernel
theorem dX8_field_16 : decode cX8_field 16 = .ok (.aload_n 0, 1) := by decide +kernel
theorem dX8_field_17 : decode cX8_field 17 = .ok (.getfield 16, 3) := by decide +kernel
theorem dX8_field_20 : decode cX8_field 20 = .ok (.aload_n 0, 1) := by decide +kernel
theorem dX8_field_21 : decode cX8_field 21 = .ok (.getfield 10, 3) := by decide +kernel
theorem dX8_field_24 : decode cX8_field 24 = .ok (.invokevirtual 241, 3) := by decide +kernel
theorem dX8_field_27 : decode cX8_field 27 = .ok (.aload_n 0, 1) := by decide +kernel
theorem dX8_field_28 : decode cX8_field 28 = .ok (.getfield 42, 3) := by decide +kernel
theorem dX8_field_31 : decode cX8_field 31 = .ok (.aload_n 0, 1) := by decide +kernel
theorem dX8_field_32 : decode cX8_field 32 = .ok (.getfield 24, 3) := by decide +kernel
theorem dX8_field_35 : decode cX8_field 35 = .ok (.iload_n 1, 1) := by decide +kernel
theorem dX8_field_36 : decode cX8_field 36 = .ok (.aaload, 1) := by decide +kernel
theorem dX8_field_37 : decode cX8_field 37 = .ok (.aload_n 0, 1) := by decide +kernel
theorem dX8_field_38 : decode cX8_field 38 = .ok (.getfield 16, 3) := by decide +kernel
theorem dX8_field_41 : decode cX8_field 41 = .ok (.invokevirtual 244, 3) := by decide +kernel
theorem dX8_field_44 : decode cX8_field 44 = .ok (.istore_n 3, 1) := by decide +kernel
theorem dX8_field_45 : decode cX8_field 45 = .ok (.aload_n 0, 1) := by decide +kernel
theorem dX8_field_46 : decode cX8_field 46 = .ok (.aload_n 0, 1) := by decide +kernel
theorem dX8_field_47 : decode cX8_field 47 = .ok (.getfield 42, 3) := by decide +kernel
theorem dX8_field_50 : decode cX8_field 50 = .ok (.getfield 248, 3) := by decide +kernel
theorem dX8_field_53 : decode cX8_field 53 = .ok (.putfield 70, 3) := by decide +kernel
theorem dX8_field_56 : decode cX8_field 56 = .ok (.aload_n 0, 1) := by decide +kernel
theorem dX8_field_57 : decode cX8_field 57 = .ok (.getfield 70, 3) := by decide +kernel
theorem dX8_field_60 : decode cX8_field 60 = .ok (.iconst (-1), 1) := by decide +kernel
theorem dX8_field_61 : decode cX8_field 61 = .ok (.if_icmp .eq 10, 3) := by decide +kernel
theorem dX8_field_64 : decode cX8_field 64 = .ok (.aload_n 0, 1) := by decide +kernel
theorem dX8_field_65 : decode cX8_field 65 = .ok (.bipush (-6), 2) := by decide +kernel
theorem dX8_field_67 : decode cX8_field 67 = .ok (.invokevirtual 79, 3) := by decide +kernel
theorem dX8_field_70 : decode cX8_field 70 = .ok (.ireturn, 1) := by decide +kernel
theorem dX8_field_71 : decode cX8_field 71 = .ok (.aload_n 0, 1) := by decide +kernel
theorem dX8_field_72 : decode cX8_field 72 = .ok (.getfield 10, 3) := by decide +kernel
theorem dX8_field_75 : decode cX8_field 75 = .ok (.aload_n 0, 1) := by decide +kernel
theorem dX8_field_76 : decode cX8_field 76 = .ok (.getfield 16, 3) := by decide +kernel
theorem dX8_field_79 : decode cX8_field 79 = .ok (.invokevirtual 241, 3) := by decide +kernel
theorem dX8_field_82 : decode cX8_field 82 = .ok (.iload_n 3, 1) := by decide +kernel
theorem dX8_field_83 : decode cX8_field 83 = .ok (.ireturn, 1) := by decide +kernel
theorem dX8_fault_0 : decode cX8_fault 0 = .ok (.aload_n 0, 1) := by decide +kernel
theorem dX8_fault_1 : decode cX8_fault 1 = .ok (.getfield 70, 3) := by decide +kernel
theorem dX8_fault_4 : decode cX8_fault 4 = .ok (.ireturn, 1) := by decide +kernel
theorem dX8_behind_0 : decode cX8_behind 0 = .ok (.aload_n 0, 1) := by decide +kernel
theorem dX8_behind_1 : decode cX8_behind 1 = .ok (.getfield 10, 3) := by decide +kernel
theorem dX8_behind_4 : decode cX8_behind 4 = .ok (.iload_n 1, 1) := by decide +kernel
theorem dX8_behind_5 : decode cX8_behind 5 = .ok (.invokevirtual 126, 3) := by decide +kernel
theorem dX8_behind_8 : decode cX8_behind 8 = .ok (.ifCond .ne 9, 3) := by decide +kernel
theorem dX8_behind_11 : decode cX8_behind 11 = .ok (.aload_n 0, 1) := by decide +kernel
theorem dX8_behind_12 : decode cX8_behind 12 = .ok (.iconst (-1), 1) := by decide +kernel
theorem dX8_behind_13 : decode cX8_behind 13 = .ok (.invokevirtual 79, 3) := by decide +kernel
theorem dX8_behind_16 : decode cX8_behind 16 = .ok (.ireturn, 1) := by decide +kernel
theorem dX8_behind_17 : decode cX8_behind 17 = .ok (.iload_n 3, 1) := by decide +kernel
theorem dX8_behind_18 : decode cX8_behind 18 = .ok (.ifCond .lt 8, 3) := by decide +kernel
theorem dX8_behind_21 : decode cX8_behind 21 = .ok (.iload_n 3, 1) := by decide +kernel
theorem dX8_behind_22 : decode cX8_behind 22 = .ok (.iconst 4, 1) := by decide +kernel
theorem dX8_behind_23 : decode cX8_behind 23 = .ok (.if_icmp .le 10, 3) := by decide +kernel
theorem dX8_behind_26 : decode cX8_behind 26 = .ok (.aload_n 0, 1) := by decide +kernel
theorem dX8_behind_27 : decode cX8_behind 27 = .ok (.bipush (-5), 2) := by decide +kernel
theorem dX8_behind_29 : decode cX8_behind 29 = .ok (.invokevirtual 79, 3) := by decide +kernel
theorem dX8_behind_32 : decode cX8_behind 32 = .ok (.ireturn, 1) := by decide +kernel
theorem dX8_behind_33 : decode cX8_behind 33 = .ok (.iload_n 2, 1) := by decide +kernel
theorem dX8_behind_34 : decode cX8_behind 34 = .ok (.ifCond .lt 10, 3) := by decide +kernel
theorem dX8_behind_37 : decode cX8_behind 37 = .ok (.iload_n 2, 1) := by decide +kernel
theorem dX8_behind_38 : decode cX8_behind 38 = .ok (.sipush 999, 3) := by decide +kernel
theorem dX8_behind_41 : decode cX8_behind 41 = .ok (.if_icmp .le 10, 3) := by decide +kernel
theorem dX8_behind_44 : decode cX8_behind 44 = .ok (.aload_n 0, 1) := by decide +kernel
theorem dX8_behind_45 : decode cX8_behind 45 = .ok (.bipush (-6), 2) := by decide +kernel
theorem dX8_behind_47 : decode cX8_behind 47 = .ok (.invokevirtual 79, 3) := by decide +kernel
theorem dX8_behind_50 : decode cX8_behind 50 = .ok (.ireturn, 1) := by decide +kernel
theorem dX8_behind_51 : decode cX8_behind 51 = .ok (.aload_n 0, 1) := by decide +kernel
theorem dX8_behind_52 : decode cX8_behind 52 = .ok (.getfield 31, 3) := by decide +kernel
theorem dX8_behind_55 : decode cX8_behind 55 = .ok (.aload_n 0, 1) := by decide +kernel
theorem dX8_behind_56 : decode cX8_behind 56 = .ok (.getfield 10, 3) := by decide +kernel
theorem dX8_behind_59 : decode cX8_behind 59 = .ok (.iload_n 1, 1) := by decide +kernel
theorem dX8_behind_60 : decode cX8_behind 60 = .ok (.invokevirtual 167, 3) := by decide +kernel
theorem dX8_behind_63 : decode cX8_behind 63 = .ok (.aload_n 0, 1) := by decide +kernel
theorem dX8_behind_64 : decode cX8_behind 64 = .ok (.getfield 31, 3) := by decide +kernel
theorem dX8_behind_67 : decode cX8_behind 67 = .ok (.aload_n 0, 1) := by decide +kernel
theorem dX8_behind_68 : decode cX8_behind 68 = .ok (.getfield 10, 3) := by decide +kernel
theorem dX8_behind_71 : decode cX8_behind 71 = .ok (.invokevirtual 171, 3) := by decide +kernel
theorem dX8_behind_74 : decode cX8_behind 74 = .ok (.aload_n 0, 1) := by decide +kernel
theorem dX8_behind_75 : decode cX8_behind 75 = .ok (.getfield 31, 3) := by decide +kernel
theorem dX8_behind_78 : decode cX8_behind 78 = .ok (.iload_n 2, 1) := by decide +kernel
theorem dX8_behind_79 : decode cX8_behind 79 = .ok (.invokevirtual 251, 3) := by decide +kernel
theorem dX8_behind_82 : decode cX8_behind 82 = .ok (.iload_n 3, 1) := by decide +kernel
theorem dX8_behind_83 : decode cX8_behind 83 = .ok (.tableswitch 61 0 3 #[29, 37, 45, 53], 29) := by decide +kernel
theorem dX8_behind_112 : decode cX8_behind 112 = .ok (.aload_n 0, 1) := by decide +kernel
theorem dX8_behind_113 : decode cX8_behind 113 = .ok (.getfield 31, 3) := by decide +kernel
theorem dX8_behind_116 : decode cX8_behind 116 = .ok (.getfield 254, 3) := by decide +kernel
theorem dX8_behind_119 : decode cX8_behind 119 = .ok (.ireturn, 1) := by decide +kernel
theorem dX8_behind_120 : decode cX8_behind 120 = .ok (.aload_n 0, 1) := by decide +kernel
theorem dX8_behind_121 : decode cX8_behind 121 = .ok (.getfield 31, 3) := by decide +kernel
theorem dX8_behind_124 : decode cX8_behind 124 = .ok (.getfield 256, 3) := by decide +kernel
theorem dX8_behind_127 : decode cX8_behind 127 = .ok (.ireturn, 1) := by decide +kernel
theorem dX8_behind_128 : decode cX8_behind 128 = .ok (.aload_n 0, 1) := by decide +kernel
theorem dX8_behind_129 : decode cX8_behind 129 = .ok (.getfield 31, 3) := by decide +kernel
theorem dX8_behind_132 : decode cX8_behind 132 = .ok (.getfield 259, 3) := by decide +kernel
theorem dX8_behind_135 : decode cX8_behind 135 = .ok (.ireturn, 1) := by decide +kernel
theorem dX8_behind_136 : decode cX8_behind 136 = .ok (.aload_n 0, 1) := by decide +kernel
theorem dX8_behind_137 : decode cX8_behind 137 = .ok (.getfield 31, 3) := by decide +kernel
theorem dX8_behind_140 : decode cX8_behind 140 = .ok (.getfield 262, 3) := by decide +kernel
theorem dX8_behind_143 : decode cX8_behind 143 = .ok (.ireturn, 1) := by decide +kernel
theorem dX8_behind_144 : decode cX8_behind 144 = .ok (.aload_n 0, 1) := by decide +kernel
theorem dX8_behind_145 : decode cX8_behind 145 = .ok (.getfield 31, 3) := by decide +kernel
theorem dX8_behind_148 : decode cX8_behind 148 = .ok (.getfield 265, 3) := by decide +kernel
theorem dX8_behind_151 : decode cX8_behind 151 = .ok (.ireturn, 1) := by decide +kernel
theorem dX8_comesIn_0 : decode cX8_comesIn 0 = .ok (.aload_n 0, 1) := by decide +kernel
theorem dX8_comesIn_1 : decode cX8_comesIn 1 = .ok (.getfield 10, 3) := by decide +kernel
theorem dX8_comesIn_4 : decode cX8_comesIn 4 = .ok (.iload_n 1, 1) := by decide +kernel
theorem dX8_comesIn_5 : decode cX8_comesIn 5 = .ok (.invokevirtual 126, 3) := by decide +kernel
theorem dX8_comesIn_8 : decode cX8_comesIn 8 = .ok (.ifCond .eq 11, 3) := by decide +kernel
theorem dX8_comesIn_11 : decode cX8_comesIn 11 = .ok (.aload_n 0, 1) := by decide +kernel
theorem dX8_comesIn_12 : decode cX8_comesIn 12 = .ok (.iload_n 1, 1) := by decide +kernel
theorem dX8_comesIn_13 : decode cX8_comesIn 13 = .ok (.invokevirtual 268, 3) := by decide +kernel
theorem dX8_comesIn_16 : decode cX8_comesIn 16 = .ok (.goto 8, 3) := by decide +kernel
theorem dX8_comesIn_19 : decode cX8_comesIn 19 = .ok (.aload_n 0, 1) := by decide +kernel
theorem dX8_comesIn_20 : decode cX8_comesIn 20 = .ok (.iconst (-1), 1) := by decide +kernel
theorem dX8_comesIn_21 : decode cX8_comesIn 21 = .ok (.invokevirtual 79, 3) := by decide +kernel
theorem dX8_comesIn_24 : decode cX8_comesIn 24 = .ok (.ireturn, 1) := by decide +kernel
theorem dX8_wins_0 : decode cX8_wins 0 = .ok (.iload_n 1, 1) := by decide +kernel
theorem dX8_wins_1 : decode cX8_wins 1 = .ok (.ifCond .lt 18, 3) := by decide +kernel
theorem dX8_wins_4 : decode cX8_wins 4 = .ok (.iload_n 1, 1) := by decide +kernel
theorem dX8_wins_5 : decode cX8_wins 5 = .ok (.iconst 1, 1) := by decide +kernel
theorem dX8_wins_6 : decode cX8_wins 6 = .ok (.if_icmp .gt 13, 3) := by decide +kernel
theorem dX8_wins_9 : decode cX8_wins 9 = .ok (.aload_n 0, 1) := by decide +kernel
theorem dX8_wins_10 : decode cX8_wins 10 = .ok (.getfield 10, 3) := by decide +kernel
theorem dX8_wins_13 : decode cX8_wins 13 = .ok (.getfield 154, 3) := by decide +kernel
theorem dX8_wins_16 : decode cX8_wins 16 = .ok (.ifCond .ne 10, 3) := by decide +kernel
theorem dX8_wins_19 : decode cX8_wins 19 = .ok (.aload_n 0, 1) := by decide +kernel
theorem dX8_wins_20 : decode cX8_wins 20 = .ok (.bipush (-5), 2) := by decide +kernel
theorem dX8_wins_22 : decode cX8_wins 22 = .ok (.invokevirtual 79, 3) := by decide +kernel
theorem dX8_wins_25 : decode cX8_wins 25 = .ok (.ireturn, 1) := by decide +kernel
theorem dX8_wins_26 : decode cX8_wins 26 = .ok (.aload_n 0, 1) := by decide +kernel
theorem dX8_wins_27 : decode cX8_wins 27 = .ok (.invokevirtual 271, 3) := by decide +kernel
theorem dX8_wins_30 : decode cX8_wins 30 = .ok (.aload_n 0, 1) := by decide +kernel
theorem dX8_wins_31 : decode cX8_wins 31 = .ok (.invokevirtual 274, 3) := by decide +kernel
theorem dX8_wins_34 : decode cX8_wins 34 = .ok (.istore_n 2, 1) := by decide +kernel
theorem dX8_wins_35 : decode cX8_wins 35 = .ok (.iload_n 1, 1) := by decide +kernel
theorem dX8_wins_36 : decode cX8_wins 36 = .ok (.ifCond .ne 7, 3) := by decide +kernel
theorem dX8_wins_39 : decode cX8_wins 39 = .ok (.iload_n 2, 1) := by decide +kernel
theorem dX8_wins_40 : decode cX8_wins 40 = .ok (.goto 8, 3) := by decide +kernel
theorem dX8_wins_43 : decode cX8_wins 43 = .ok (.aload_n 0, 1) := by decide +kernel
theorem dX8_wins_44 : decode cX8_wins 44 = .ok (.iload_n 2, 1) := by decide +kernel
theorem dX8_wins_45 : decode cX8_wins 45 = .ok (.invokevirtual 278, 3) := by decide +kernel
theorem dX8_wins_48 : decode cX8_wins 48 = .ok (.ireturn, 1) := by decide +kernel
theorem dX8_best_0 : decode cX8_best 0 = .ok (.aload_n 0, 1) := by decide +kernel
theorem dX8_best_1 : decode cX8_best 1 = .ok (.getfield 10, 3) := by decide +kernel
theorem dX8_best_4 : decode cX8_best 4 = .ok (.iload_n 1, 1) := by decide +kernel
theorem dX8_best_5 : decode cX8_best 5 = .ok (.invokevirtual 126, 3) := by decide +kernel
theorem dX8_best_8 : decode cX8_best 8 = .ok (.ifCond .ne 9, 3) := by decide +kernel
theorem dX8_best_11 : decode cX8_best 11 = .ok (.aload_n 0, 1) := by decide +kernel
theorem dX8_best_12 : decode cX8_best 12 = .ok (.iconst (-1), 1) := by decide +kernel
theorem dX8_best_13 : decode cX8_best 13 = .ok (.invokevirtual 79, 3) := by decide +kernel
theorem dX8_best_16 : decode cX8_best 16 = .ok (.ireturn, 1) := by decide +kernel
theorem dX8_best_17 : decode cX8_best 17 = .ok (.iload_n 2, 1) := by decide +kernel
theorem dX8_best_18 : decode cX8_best 18 = .ok (.ifCond .lt 23, 3) := by decide +kernel
theorem dX8_best_21 : decode cX8_best 21 = .ok (.iload_n 2, 1) := by decide +kernel
theorem dX8_best_22 : decode cX8_best 22 = .ok (.iconst 3, 1) := by decide +kernel
theorem dX8_best_23 : decode cX8_best 23 = .ok (.if_icmp .gt 18, 3) := by decide +kernel
theorem dX8_best_26 : decode cX8_best 26 = .ok (.iload_n 2, 1) := by decide +kernel
theorem dX8_best_27 : decode cX8_best 27 = .ok (.iconst 2, 1) := by decide +kernel
theorem dX8_best_28 : decode cX8_best 28 = .ok (.if_icmp .ne 20, 3) := by decide +kernel
theorem dX8_best_31 : decode cX8_best 31 = .ok (.aload_n 0, 1) := by decide +kernel
theorem dX8_best_32 : decode cX8_best 32 = .ok (.getfield 10, 3) := by decide +kernel
theorem dX8_best_35 : decode cX8_best 35 = .ok (.getfield 161, 3) := by decide +kernel
theorem dX8_best_38 : decode cX8_best 38 = .ok (.ifCond .ne 10, 3) := by decide +kernel
theorem dX8_best_41 : decode cX8_best 41 = .ok (.aload_n 0, 1) := by decide +kernel
theorem dX8_best_42 : decode cX8_best 42 = .ok (.bipush (-5), 2) := by decide +kernel
theorem dX8_best_44 : decode cX8_best 44 = .ok (.invokevirtual 79, 3) := by decide +kernel
theorem dX8_best_47 : decode cX8_best 47 = .ok (.ireturn, 1) := by decide +kernel
theorem dX8_best_48 : decode cX8_best 48 = .ok (.iload_n 2, 1) := by decide +kernel
theorem dX8_best_49 : decode cX8_best 49 = .ok (.tableswitch 63 0 2 #[27, 33, 57], 27) := by decide +kernel
theorem dX8_best_76 : decode cX8_best 76 = .ok (.aload_n 0, 1) := by decide +kernel
theorem dX8_best_77 : decode cX8_best 77 = .ok (.iload_n 1, 1) := by decide +kernel
theorem dX8_best_78 : decode cX8_best 78 = .ok (.invokevirtual 281, 3) := by decide +kernel
theorem dX8_best_81 : decode cX8_best 81 = .ok (.ireturn, 1) := by decide +kernel
theorem dX8_best_82 : decode cX8_best 82 = .ok (.aload_n 0, 1) := by decide +kernel
theorem dX8_best_83 : decode cX8_best 83 = .ok (.iload_n 1, 1) := by decide +kernel
theorem dX8_best_84 : decode cX8_best 84 = .ok (.iconst 3, 1) := by decide +kernel
theorem dX8_best_85 : decode cX8_best 85 = .ok (.invokevirtual 284, 3) := by decide +kernel
theorem dX8_best_88 : decode cX8_best 88 = .ok (.aload_n 0, 1) := by decide +kernel
theorem dX8_best_89 : decode cX8_best 89 = .ok (.iload_n 1, 1) := by decide +kernel
theorem dX8_best_90 : decode cX8_best 90 = .ok (.iconst 5, 1) := by decide +kernel
theorem dX8_best_91 : decode cX8_best 91 = .ok (.invokevirtual 284, 3) := by decide +kernel
theorem dX8_best_94 : decode cX8_best 94 = .ok (.if_icmp .ge 7, 3) := by decide +kernel
theorem dX8_best_97 : decode cX8_best 97 = .ok (.iconst 1, 1) := by decide +kernel
theorem dX8_best_98 : decode cX8_best 98 = .ok (.goto 4, 3) := by decide +kernel
theorem dX8_best_101 : decode cX8_best 101 = .ok (.iconst 0, 1) := by decide +kernel
theorem dX8_best_102 : decode cX8_best 102 = .ok (.invokestatic 237, 3) := by decide +kernel
theorem dX8_best_105 : decode cX8_best 105 = .ok (.ireturn, 1) := by decide +kernel
theorem dX8_best_106 : decode cX8_best 106 = .ok (.aload_n 0, 1) := by decide +kernel
theorem dX8_best_107 : decode cX8_best 107 = .ok (.iload_n 1, 1) := by decide +kernel
theorem dX8_best_108 : decode cX8_best 108 = .ok (.invokevirtual 287, 3) := by decide +kernel
theorem dX8_best_111 : decode cX8_best 111 = .ok (.ireturn, 1) := by decide +kernel
theorem dX8_best_112 : decode cX8_best 112 = .ok (.aload_n 0, 1) := by decide +kernel
theorem dX8_best_113 : decode cX8_best 113 = .ok (.iload_n 1, 1) := by decide +kernel
theorem dX8_best_114 : decode cX8_best 114 = .ok (.iconst 1, 1) := by decide +kernel
theorem dX8_best_115 : decode cX8_best 115 = .ok (.invokevirtual 290, 3) := by decide +kernel
theorem dX8_best_118 : decode cX8_best 118 = .ok (.aload_n 0, 1) := by decide +kernel
theorem dX8_best_119 : decode cX8_best 119 = .ok (.iload_n 1, 1) := by decide +kernel
theorem dX8_best_120 : decode cX8_best 120 = .ok (.iconst 0, 1) := by decide +kernel
theorem dX8_best_121 : decode cX8_best 121 = .ok (.invokevirtual 290, 3) := by decide +kernel
theorem dX8_best_124 : decode cX8_best 124 = .ok (.if_icmp .ge 7, 3) := by decide +kernel
theorem dX8_best_127 : decode cX8_best 127 = .ok (.iconst 1, 1) := by decide +kernel
theorem dX8_best_128 : decode cX8_best 128 = .ok (.goto 4, 3) := by decide +kernel
theorem dX8_best_131 : decode cX8_best 131 = .ok (.iconst 0, 1) := by decide +kernel
theorem dX8_best_132 : decode cX8_best 132 = .ok (.invokestatic 237, 3) := by decide +kernel
theorem dX8_best_135 : decode cX8_best 135 = .ok (.ireturn, 1) := by decide +kernel
theorem dX8_given_0 : decode cX8_given 0 = .ok (.iload_n 1, 1) := by decide +kernel
theorem dX8_given_1 : decode cX8_given 1 = .ok (.ifCond .lt 40, 3) := by decide +kernel
theorem dX8_given_4 : decode cX8_given 4 = .ok (.iload_n 1, 1) := by decide +kernel
theorem dX8_given_5 : decode cX8_given 5 = .ok (.iconst 2, 1) := by decide +kernel
theorem dX8_given_6 : decode cX8_given 6 = .ok (.if_icmp .gt 35, 3) := by decide +kernel
theorem dX8_given_9 : decode cX8_given 9 = .ok (.iload_n 2, 1) := by decide +kernel
theorem dX8_given_10 : decode cX8_given 10 = .ok (.iconst 1, 1) := by decide +kernel
theorem dX8_given_11 : decode cX8_given 11 = .ok (.if_icmp .lt 30, 3) := by decide +kernel
theorem dX8_given_14 : decode cX8_given 14 = .ok (.iload_n 2, 1) := by decide +kernel
theorem dX8_given_15 : decode cX8_given 15 = .ok (.iconst 5, 1) := by decide +kernel
theorem dX8_given_16 : decode cX8_given 16 = .ok (.if_icmp .gt 25, 3) := by decide +kernel
theorem dX8_given_19 : decode cX8_given 19 = .ok (.iload_n 2, 1) := by decide +kernel
theorem dX8_given_20 : decode cX8_given 20 = .ok (.aload_n 0, 1) := by decide +kernel
theorem dX8_given_21 : decode cX8_given 21 = .ok (.getfield 10, 3) := by decide +kernel
theorem dX8_given_24 : decode cX8_given 24 = .ok (.getfield 154, 3) := by decide +kernel
theorem dX8_given_27 : decode cX8_given 27 = .ok (.if_icmp .gt 14, 3) := by decide +kernel
theorem dX8_given_30 : decode cX8_given 30 = .ok (.iload_n 2, 1) := by decide +kernel
theorem dX8_given_31 : decode cX8_given 31 = .ok (.aload_n 0, 1) := by decide +kernel
theorem dX8_given_32 : decode cX8_given 32 = .ok (.getfield 10, 3) := by decide +kernel
theorem dX8_given_35 : decode cX8_given 35 = .ok (.getfield 161, 3) := by decide +kernel
theorem dX8_given_38 : decode cX8_given 38 = .ok (.if_icmp .le 10, 3) := by decide +kernel
theorem dX8_given_41 : decode cX8_given 41 = .ok (.aload_n 0, 1) := by decide +kernel
theorem dX8_given_42 : decode cX8_given 42 = .ok (.bipush (-6), 2) := by decide +kernel
theorem dX8_given_44 : decode cX8_given 44 = .ok (.invokevirtual 79, 3) := by decide +kernel
theorem dX8_given_47 : decode cX8_given 47 = .ok (.ireturn, 1) := by decide +kernel
theorem dX8_given_48 : decode cX8_given 48 = .ok (.iload_n 3, 1) := by decide +kernel
theorem dX8_given_49 : decode cX8_given 49 = .ok (.iconst (-1), 1) := by decide +kernel
theorem dX8_given_50 : decode cX8_given 50 = .ok (.if_icmp .eq 19, 3) := by decide +kernel
theorem dX8_given_53 : decode cX8_given 53 = .ok (.iload_n 3, 1) := by decide +kernel
theorem dX8_given_54 : decode cX8_given 54 = .ok (.ifCond .lt 8, 3) := by decide +kernel
theorem dX8_given_57 : decode cX8_given 57 = .ok (.iload_n 3, 1) := by decide +kernel
theorem dX8_given_58 : decode cX8_given 58 = .ok (.iload_n 2, 1) := by decide +kernel
theorem dX8_given_59 : decode cX8_given 59 = .ok (.if_icmp .lt 10, 3) := by decide +kernel
theorem dX8_given_62 : decode cX8_given 62 = .ok (.aload_n 0, 1) := by decide +kernel
theorem dX8_given_63 : decode cX8_given 63 = .ok (.bipush (-5), 2) := by decide +kernel
theorem dX8_given_65 : decode cX8_given 65 = .ok (.invokevirtual 79, 3) := by decide +kernel
theorem dX8_given_68 : decode cX8_given 68 = .ok (.ireturn, 1) := by decide +kernel
theorem dX8_given_69 : decode cX8_given 69 = .ok (.iconst 0, 1) := by decide +kernel
theorem dX8_given_70 : decode cX8_given 70 = .ok (.istore 4, 2) := by decide +kernel
theorem dX8_given_72 : decode cX8_given 72 = .ok (.iload 4, 2) := by decide +kernel
theorem dX8_given_74 : decode cX8_given 74 = .ok (.iload_n 2, 1) := by decide +kernel
theorem dX8_given_75 : decode cX8_given 75 = .ok (.if_icmp .ge 49, 3) := by decide +kernel
theorem dX8_given_78 : decode cX8_given 78 = .ok (.iconst 0, 1) := by decide +kernel
theorem dX8_given_79 : decode cX8_given 79 = .ok (.istore 5, 2) := by decide +kernel
theorem dX8_given_81 : decode cX8_given 81 = .ok (.iload 5, 2) := by decide +kernel
theorem dX8_given_83 : decode cX8_given 83 = .ok (.aload_n 0, 1) := by decide +kernel
theorem dX8_given_84 : decode cX8_given 84 = .ok (.getfield 10, 3) := by decide +kernel
theorem dX8_given_87 : decode cX8_given 87 = .ok (.getfield 161, 3) := by decide +kernel
theorem dX8_given_90 : decode cX8_given 90 = .ok (.if_icmp .ge 28, 3) := by decide +kernel
theorem dX8_given_93 : decode cX8_given 93 = .ok (.aload_n 0, 1) := by decide +kernel
theorem dX8_given_94 : decode cX8_given 94 = .ok (.getfield 49, 3) := by decide +kernel
theorem dX8_given_97 : decode cX8_given 97 = .ok (.iload 4, 2) := by decide +kernel
theorem dX8_given_99 : decode cX8_given 99 = .ok (.iload 5, 2) := by decide +kernel
theorem dX8_given_101 : decode cX8_given 101 = .ok (.aload_n 0, 1) := by decide +kernel
theorem dX8_given_102 : decode cX8_given 102 = .ok (.iload 4, 2) := by decide +kernel
theorem dX8_given_104 : decode cX8_given 104 = .ok (.iload 5, 2) := by decide +kernel
theorem dX8_given_106 : decode cX8_given 106 = .ok (.invokevirtual 294, 3) := by decide +kernel
theorem dX8_given_109 : decode cX8_given 109 = .ok (.invokevirtual 297, 3) := by decide +kernel
theorem dX8_given_112 : decode cX8_given 112 = .ok (.iinc 5 1, 3) := by decide +kernel
theorem dX8_given_115 : decode cX8_given 115 = .ok (.goto (-34), 3) := by decide +kernel
theorem dX8_given_118 : decode cX8_given 118 = .ok (.iinc 4 1, 3) := by decide +kernel
theorem dX8_given_121 : decode cX8_given 121 = .ok (.goto (-49), 3) := by decide +kernel
theorem dX8_given_124 : decode cX8_given 124 = .ok (.aload_n 0, 1) := by decide +kernel
theorem dX8_given_125 : decode cX8_given 125 = .ok (.getfield 49, 3) := by decide +kernel
theorem dX8_given_128 : decode cX8_given 128 = .ok (.iload_n 1, 1) := by decide +kernel
theorem dX8_given_129 : decode cX8_given 129 = .ok (.iload_n 2, 1) := by decide +kernel
theorem dX8_given_130 : decode cX8_given 130 = .ok (.aload_n 0, 1) := by decide +kernel
theorem dX8_given_131 : decode cX8_given 131 = .ok (.getfield 10, 3) := by decide +kernel
theorem dX8_given_134 : decode cX8_given 134 = .ok (.getfield 161, 3) := by decide +kernel
theorem dX8_given_137 : decode cX8_given 137 = .ok (.invokevirtual 301, 3) := by decide +kernel
theorem dX8_given_140 : decode cX8_given 140 = .ok (.iload_n 3, 1) := by decide +kernel
theorem dX8_given_141 : decode cX8_given 141 = .ok (.iconst (-1), 1) := by decide +kernel
theorem dX8_given_142 : decode cX8_given 142 = .ok (.if_icmp .ne 13, 3) := by decide +kernel
theorem dX8_given_145 : decode cX8_given 145 = .ok (.aload_n 0, 1) := by decide +kernel
theorem dX8_given_146 : decode cX8_given 146 = .ok (.getfield 49, 3) := by decide +kernel
theorem dX8_given_149 : decode cX8_given 149 = .ok (.getfield 304, 3) := by decide +kernel
theorem dX8_given_152 : decode cX8_given 152 = .ok (.goto 12, 3) := by decide +kernel
theorem dX8_given_155 : decode cX8_given 155 = .ok (.aload_n 0, 1) := by decide +kernel
theorem dX8_given_156 : decode cX8_given 156 = .ok (.getfield 49, 3) := by decide +kernel
theorem dX8_given_159 : decode cX8_given 159 = .ok (.getfield 307, 3) := by decide +kernel
theorem dX8_given_162 : decode cX8_given 162 = .ok (.iload_n 3, 1) := by decide +kernel
theorem dX8_given_163 : decode cX8_given 163 = .ok (.iaload, 1) := by decide +kernel
theorem dX8_given_164 : decode cX8_given 164 = .ok (.ireturn, 1) := by decide +kernel
theorem dX8_two_0 : decode cX8_two 0 = .ok (.aload_n 0, 1) := by decide +kernel
theorem dX8_two_1 : decode cX8_two 1 = .ok (.getfield 10, 3) := by decide +kernel
theorem dX8_two_4 : decode cX8_two 4 = .ok (.iload_n 1, 1) := by decide +kernel
theorem dX8_two_5 : decode cX8_two 5 = .ok (.invokevirtual 126, 3) := by decide +kernel
theorem dX8_two_8 : decode cX8_two 8 = .ok (.ifCond .eq 25, 3) := by decide +kernel
theorem dX8_two_11 : decode cX8_two 11 = .ok (.aload_n 0, 1) := by decide +kernel
theorem dX8_two_12 : decode cX8_two 12 = .ok (.getfield 10, 3) := by decide +kernel
theorem dX8_two_15 : decode cX8_two 15 = .ok (.iload_n 2, 1) := by decide +kernel
theorem dX8_two_16 : decode cX8_two 16 = .ok (.invokevirtual 126, 3) := by decide +kernel
theorem dX8_two_19 : decode cX8_two 19 = .ok (.ifCond .eq 14, 3) := by decide +kernel
theorem dX8_two_22 : decode cX8_two 22 = .ok (.aload_n 0, 1) := by decide +kernel
theorem dX8_two_23 : decode cX8_two 23 = .ok (.getfield 10, 3) := by decide +kernel
theorem dX8_two_26 : decode cX8_two 26 = .ok (.iload_n 3, 1) := by decide +kernel
theorem dX8_two_27 : decode cX8_two 27 = .ok (.invokevirtual 203, 3) := by decide +kernel
theorem dX8_two_30 : decode cX8_two 30 = .ok (.ifCond .ne 9, 3) := by decide +kernel
theorem dX8_two_33 : decode cX8_two 33 = .ok (.aload_n 0, 1) := by decide +kernel
theorem dX8_two_34 : decode cX8_two 34 = .ok (.iconst (-1), 1) := by decide +kernel
theorem dX8_two_35 : decode cX8_two 35 = .ok (.invokevirtual 79, 3) := by decide +kernel
theorem dX8_two_38 : decode cX8_two 38 = .ok (.ireturn, 1) := by decide +kernel
theorem dX8_two_39 : decode cX8_two 39 = .ok (.iload_n 1, 1) := by decide +kernel
theorem dX8_two_40 : decode cX8_two 40 = .ok (.iload_n 2, 1) := by decide +kernel
theorem dX8_two_41 : decode cX8_two 41 = .ok (.if_icmp .ne 12, 3) := by decide +kernel
theorem dX8_two_44 : decode cX8_two 44 = .ok (.aload_n 0, 1) := by decide +kernel
theorem dX8_two_45 : decode cX8_two 45 = .ok (.bipush (-6), 2) := by decide +kernel
theorem dX8_two_47 : decode cX8_two 47 = .ok (.invokevirtual 79, 3) := by decide +kernel
theorem dX8_two_50 : decode cX8_two 50 = .ok (.goto 10, 3) := by decide +kernel
theorem dX8_two_53 : decode cX8_two 53 = .ok (.aload_n 0, 1) := by decide +kernel
theorem dX8_two_54 : decode cX8_two 54 = .ok (.iload_n 1, 1) := by decide +kernel
theorem dX8_two_55 : decode cX8_two 55 = .ok (.iload_n 2, 1) := by decide +kernel
theorem dX8_two_56 : decode cX8_two 56 = .ok (.iload_n 3, 1) := by decide +kernel
theorem dX8_two_57 : decode cX8_two 57 = .ok (.invokevirtual 310, 3) := by decide +kernel
theorem dX8_two_60 : decode cX8_two 60 = .ok (.ireturn, 1) := by decide +kernel
theorem dX8_pair_0 : decode cX8_pair 0 = .ok (.aload_n 0, 1) := by decide +kernel
theorem dX8_pair_1 : decode cX8_pair 1 = .ok (.getfield 10, 3) := by decide +kernel
theorem dX8_pair_4 : decode cX8_pair 4 = .ok (.getfield 154, 3) := by decide +kernel
theorem dX8_pair_7 : decode cX8_pair 7 = .ok (.iconst 2, 1) := by decide +kernel
theorem dX8_pair_8 : decode cX8_pair 8 = .ok (.if_icmp .lt 13, 3) := by decide +kernel
theorem dX8_pair_11 : decode cX8_pair 11 = .ok (.aload_n 0, 1) := by decide +kernel
theorem dX8_pair_12 : decode cX8_pair 12 = .ok (.getfield 10, 3) := by decide +kernel
theorem dX8_pair_15 : decode cX8_pair 15 = .ok (.getfield 161, 3) := by decide +kernel
theorem dX8_pair_18 : decode cX8_pair 18 = .ok (.ifCond .ne 10, 3) := by decide +kernel
theorem dX8_pair_21 : decode cX8_pair 21 = .ok (.aload_n 0, 1) := by decide +kernel
theorem dX8_pair_22 : decode cX8_pair 22 = .ok (.bipush (-5), 2) := by decide +kernel
theorem dX8_pair_24 : decode cX8_pair 24 = .ok (.invokevirtual 79, 3) := by decide +kernel
theorem dX8_pair_27 : decode cX8_pair 27 = .ok (.ireturn, 1) := by decide +kernel
theorem dX8_pair_28 : decode cX8_pair 28 = .ok (.iconst (-1), 1) := by decide +kernel
theorem dX8_pair_29 : decode cX8_pair 29 = .ok (.istore_n 1, 1) := by decide +kernel
theorem dX8_pair_30 : decode cX8_pair 30 = .ok (.sipush 1000, 3) := by decide +kernel
theorem dX8_pair_33 : decode cX8_pair 33 = .ok (.istore_n 2, 1) := by decide +kernel
theorem dX8_pair_34 : decode cX8_pair 34 = .ok (.iconst 0, 1) := by decide +kernel
theorem dX8_pair_35 : decode cX8_pair 35 = .ok (.istore_n 3, 1) := by decide +kernel
theorem dX8_pair_36 : decode cX8_pair 36 = .ok (.iload_n 3, 1) := by decide +kernel
theorem dX8_pair_37 : decode cX8_pair 37 = .ok (.aload_n 0, 1) := by decide +kernel
theorem dX8_pair_38 : decode cX8_pair 38 = .ok (.getfield 10, 3) := by decide +kernel
theorem dX8_pair_41 : decode cX8_pair 41 = .ok (.getfield 154, 3) := by decide +kernel
theorem dX8_pair_44 : decode cX8_pair 44 = .ok (.if_icmp .ge 70, 3) := by decide +kernel
theorem dX8_pair_47 : decode cX8_pair 47 = .ok (.iload_n 3, 1) := by decide +kernel
theorem dX8_pair_48 : decode cX8_pair 48 = .ok (.iconst 1, 1) := by decide +kernel
theorem dX8_pair_49 : decode cX8_pair 49 = .ok (.iadd, 1) := by decide +kernel
theorem dX8_pair_50 : decode cX8_pair 50 = .ok (.istore 4, 2) := by decide +kernel
theorem dX8_pair_52 : decode cX8_pair 52 = .ok (.iload 4, 2) := by decide +kernel
theorem dX8_pair_54 : decode cX8_pair 54 = .ok (.aload_n 0, 1) := by decide +kernel
theorem dX8_pair_55 : decode cX8_pair 55 = .ok (.getfield 10, 3) := by decide +kernel
theorem dX8_pair_58 : decode cX8_pair 58 = .ok (.getfield 154, 3) := by decide +kernel
theorem dX8_pair_61 : decode cX8_pair 61 = .ok (.if_icmp .ge 47, 3) := by decide +kernel
theorem dX8_pair_64 : decode cX8_pair 64 = .ok (.aload_n 0, 1) := by decide +kernel
theorem dX8_pair_65 : decode cX8_pair 65 = .ok (.iload_n 3, 1) := by decide +kernel
theorem dX8_pair_66 : decode cX8_pair 66 = .ok (.iload 4, 2) := by decide +kernel
theorem dX8_pair_68 : decode cX8_pair 68 = .ok (.aload_n 0, 1) := by decide +kernel
theorem dX8_pair_69 : decode cX8_pair 69 = .ok (.getfield 10, 3) := by decide +kernel
theorem dX8_pair_72 : decode cX8_pair 72 = .ok (.getfield 138, 3) := by decide +kernel
theorem dX8_pair_75 : decode cX8_pair 75 = .ok (.iload_n 3, 1) := by decide +kernel
theorem dX8_pair_76 : decode cX8_pair 76 = .ok (.aaload, 1) := by decide +kernel
theorem dX8_pair_77 : decode cX8_pair 77 = .ok (.getfield 185, 3) := by decide +kernel
theorem dX8_pair_80 : decode cX8_pair 80 = .ok (.invokevirtual 310, 3) := by decide +kernel
theorem dX8_pair_83 : decode cX8_pair 83 = .ok (.istore 5, 2) := by decide +kernel
theorem dX8_pair_85 : decode cX8_pair 85 = .ok (.iload 5, 2) := by decide +kernel
theorem dX8_pair_87 : decode cX8_pair 87 = .ok (.iload_n 2, 1) := by decide +kernel
theorem dX8_pair_88 : decode cX8_pair 88 = .ok (.if_icmp .ge 14, 3) := by decide +kernel
theorem dX8_pair_91 : decode cX8_pair 91 = .ok (.iload 5, 2) := by decide +kernel
theorem dX8_pair_93 : decode cX8_pair 93 = .ok (.istore_n 2, 1) := by decide +kernel
theorem dX8_pair_94 : decode cX8_pair 94 = .ok (.bipush 100, 2) := by decide +kernel
theorem dX8_pair_96 : decode cX8_pair 96 = .ok (.iload_n 3, 1) := by decide +kernel
theorem dX8_pair_97 : decode cX8_pair 97 = .ok (.imul, 1) := by decide +kernel
theorem dX8_pair_98 : decode cX8_pair 98 = .ok (.iload 4, 2) := by decide +kernel
theorem dX8_pair_100 : decode cX8_pair 100 = .ok (.iadd, 1) := by decide +kernel
theorem dX8_pair_101 : decode cX8_pair 101 = .ok (.istore_n 1, 1) := by decide +kernel
theorem dX8_pair_102 : decode cX8_pair 102 = .ok (.iinc 4 1, 3) := by decide +kernel
theorem dX8_pair_105 : decode cX8_pair 105 = .ok (.goto (-53), 3) := by decide +kernel
theorem dX8_pair_108 : decode cX8_pair 108 = .ok (.iinc 3 1, 3) := by decide +kernel
theorem dX8_pair_111 : decode cX8_pair 111 = .ok (.goto (-75), 3) := by decide +kernel
theorem dX8_pair_114 : decode cX8_pair 114 = .ok (.iload_n 1, 1) := by decide +kernel
theorem dX8_pair_115 : decode cX8_pair 115 = .ok (.ireturn, 1) := by decide +kernel
theorem dX8_start_0 : decode cX8_start 0 = .ok (.aload_n 0, 1) := by decide +kernel
theorem dX8_start_1 : decode cX8_start 1 = .ok (.getfield 10, 3) := by decide +kernel
theorem dX8_start_4 : decode cX8_start 4 = .ok (.iload_n 1, 1) := by decide +kernel
theorem dX8_start_5 : decode cX8_start 5 = .ok (.invokevirtual 126, 3) := by decide +kernel
theorem dX8_start_8 : decode cX8_start 8 = .ok (.ifCond .eq 14, 3) := by decide +kernel
theorem dX8_start_11 : decode cX8_start 11 = .ok (.aload_n 0, 1) := by decide +kernel
theorem dX8_start_12 : decode cX8_start 12 = .ok (.getfield 10, 3) := by decide +kernel
theorem dX8_start_15 : decode cX8_start 15 = .ok (.iload_n 2, 1) := by decide +kernel
theorem dX8_start_16 : decode cX8_start 16 = .ok (.invokevirtual 126, 3) := by decide +kernel
theorem dX8_start_19 : decode cX8_start 19 = .ok (.ifCond .ne 10, 3) := by decide +kernel
theorem dX8_start_22 : decode cX8_start 22 = .ok (.aload_n 0, 1) := by decide +kernel
theorem dX8_start_23 : decode cX8_start 23 = .ok (.bipush (-11), 2) := by decide +kernel
theorem dX8_start_25 : decode cX8_start 25 = .ok (.invokevirtual 79, 3) := by decide +kernel
theorem dX8_start_28 : decode cX8_start 28 = .ok (.ireturn, 1) := by decide +kernel
theorem dX8_start_29 : decode cX8_start 29 = .ok (.aload_n 0, 1) := by decide +kernel
theorem dX8_start_30 : decode cX8_start 30 = .ok (.iload_n 1, 1) := by decide +kernel
theorem dX8_start_31 : decode cX8_start 31 = .ok (.aload_n 0, 1) := by decide +kernel
theorem dX8_start_32 : decode cX8_start 32 = .ok (.iload_n 2, 1) := by decide +kernel
theorem dX8_start_33 : decode cX8_start 33 = .ok (.invokevirtual 268, 3) := by decide +kernel
theorem dX8_start_36 : decode cX8_start 36 = .ok (.invokevirtual 313, 3) := by decide +kernel
theorem dX8_start_39 : decode cX8_start 39 = .ok (.ireturn, 1) := by decide +kernel
theorem dX8_atOnce_0 : decode cX8_atOnce 0 = .ok (.aload_n 0, 1) := by decide +kernel
theorem dX8_atOnce_1 : decode cX8_atOnce 1 = .ok (.getfield 10, 3) := by decide +kernel
theorem dX8_atOnce_4 : decode cX8_atOnce 4 = .ok (.getfield 154, 3) := by decide +kernel
theorem dX8_atOnce_7 : decode cX8_atOnce 7 = .ok (.ifCond .ne 5, 3) := by decide +kernel
theorem dX8_atOnce_10 : decode cX8_atOnce 10 = .ok (.iconst 0, 1) := by decide +kernel
theorem dX8_atOnce_11 : decode cX8_atOnce 11 = .ok (.ireturn, 1) := by decide +kernel
theorem dX8_atOnce_12 : decode cX8_atOnce 12 = .ok (.aload_n 0, 1) := by decide +kernel
theorem dX8_atOnce_13 : decode cX8_atOnce 13 = .ok (.invokevirtual 271, 3) := by decide +kernel
theorem dX8_atOnce_16 : decode cX8_atOnce 16 = .ok (.aload_n 0, 1) := by decide +kernel
theorem dX8_atOnce_17 : decode cX8_atOnce 17 = .ok (.getfield 60, 3) := by decide +kernel
theorem dX8_atOnce_20 : decode cX8_atOnce 20 = .ok (.aload_n 0, 1) := by decide +kernel
theorem dX8_atOnce_21 : decode cX8_atOnce 21 = .ok (.invokevirtual 274, 3) := by decide +kernel
theorem dX8_atOnce_24 : decode cX8_atOnce 24 = .ok (.iaload, 1) := by decide +kernel
theorem dX8_atOnce_25 : decode cX8_atOnce 25 = .ok (.istore_n 1, 1) := by decide +kernel
theorem dX8_atOnce_26 : decode cX8_atOnce 26 = .ok (.iconst 0, 1) := by decide +kernel
theorem dX8_atOnce_27 : decode cX8_atOnce 27 = .ok (.istore_n 2, 1) := by decide +kernel
theorem dX8_atOnce_28 : decode cX8_atOnce 28 = .ok (.iconst 0, 1) := by decide +kernel
theorem dX8_atOnce_29 : decode cX8_atOnce 29 = .ok (.istore_n 3, 1) := by decide +kernel
theorem dX8_atOnce_30 : decode cX8_atOnce 30 = .ok (.iload_n 3, 1) := by decide +kernel
theorem dX8_atOnce_31 : decode cX8_atOnce 31 = .ok (.aload_n 0, 1) := by decide +kernel
theorem dX8_atOnce_32 : decode cX8_atOnce 32 = .ok (.getfield 10, 3) := by decide +kernel
theorem dX8_atOnce_35 : decode cX8_atOnce 35 = .ok (.getfield 154, 3) := by decide +kernel
theorem dX8_atOnce_38 : decode cX8_atOnce 38 = .ok (.if_icmp .ge 30, 3) := by decide +kernel
theorem dX8_atOnce_41 : decode cX8_atOnce 41 = .ok (.aload_n 0, 1) := by decide +kernel
theorem dX8_atOnce_42 : decode cX8_atOnce 42 = .ok (.iload_n 3, 1) := by decide +kernel
theorem dX8_atOnce_43 : decode cX8_atOnce 43 = .ok (.iload_n 1, 1) := by decide +kernel
theorem dX8_atOnce_44 : decode cX8_atOnce 44 = .ok (.invokevirtual 313, 3) := by decide +kernel
theorem dX8_atOnce_47 : decode cX8_atOnce 47 = .ok (.istore 4, 2) := by decide +kernel
theorem dX8_atOnce_49 : decode cX8_atOnce 49 = .ok (.iload 4, 2) := by decide +kernel
theorem dX8_atOnce_51 : decode cX8_atOnce 51 = .ok (.iconst (-1), 1) := by decide +kernel
theorem dX8_atOnce_52 : decode cX8_atOnce 52 = .ok (.if_icmp .ne 5, 3) := by decide +kernel
theorem dX8_atOnce_55 : decode cX8_atOnce 55 = .ok (.iconst (-1), 1) := by decide +kernel
theorem dX8_atOnce_56 : decode cX8_atOnce 56 = .ok (.ireturn, 1) := by decide +kernel
theorem dX8_atOnce_57 : decode cX8_atOnce 57 = .ok (.iload_n 2, 1) := by decide +kernel
theorem dX8_atOnce_58 : decode cX8_atOnce 58 = .ok (.iload 4, 2) := by decide +kernel
theorem dX8_atOnce_60 : decode cX8_atOnce 60 = .ok (.iadd, 1) := by decide +kernel
theorem dX8_atOnce_61 : decode cX8_atOnce 61 = .ok (.istore_n 2, 1) := by decide +kernel
theorem dX8_atOnce_62 : decode cX8_atOnce 62 = .ok (.iinc 3 1, 3) := by decide +kernel
theorem dX8_atOnce_65 : decode cX8_atOnce 65 = .ok (.goto (-35), 3) := by decide +kernel
theorem dX8_atOnce_68 : decode cX8_atOnce 68 = .ok (.iload_n 2, 1) := by decide +kernel
theorem dX8_atOnce_69 : decode cX8_atOnce 69 = .ok (.ireturn, 1) := by decide +kernel
theorem dX8_heats_0 : decode cX8_heats 0 = .ok (.iload_n 2, 1) := by decide +kernel
theorem dX8_heats_1 : decode cX8_heats 1 = .ok (.ifCond .lt 18, 3) := by decide +kernel
theorem dX8_heats_4 : decode cX8_heats 4 = .ok (.iload_n 2, 1) := by decide +kernel
theorem dX8_heats_5 : decode cX8_heats 5 = .ok (.iconst 1, 1) := by decide +kernel
theorem dX8_heats_6 : decode cX8_heats 6 = .ok (.if_icmp .gt 13, 3) := by decide +kernel
theorem dX8_heats_9 : decode cX8_heats 9 = .ok (.aload_n 0, 1) := by decide +kernel
theorem dX8_heats_10 : decode cX8_heats 10 = .ok (.getfield 10, 3) := by decide +kernel
theorem dX8_heats_13 : decode cX8_heats 13 = .ok (.getfield 154, 3) := by decide +kernel
theorem dX8_heats_16 : decode cX8_heats 16 = .ok (.ifCond .ne 10, 3) := by decide +kernel
theorem dX8_heats_19 : decode cX8_heats 19 = .ok (.aload_n 0, 1) := by decide +kernel
theorem dX8_heats_20 : decode cX8_heats 20 = .ok (.bipush (-5), 2) := by decide +kernel
theorem dX8_heats_22 : decode cX8_heats 22 = .ok (.invokevirtual 79, 3) := by decide +kernel
theorem dX8_heats_25 : decode cX8_heats 25 = .ok (.ireturn, 1) := by decide +kernel
theorem dX8_heats_26 : decode cX8_heats 26 = .ok (.iload_n 1, 1) := by decide +kernel
theorem dX8_heats_27 : decode cX8_heats 27 = .ok (.iconst 2, 1) := by decide +kernel
theorem dX8_heats_28 : decode cX8_heats 28 = .ok (.if_icmp .lt 8, 3) := by decide +kernel
theorem dX8_heats_31 : decode cX8_heats 31 = .ok (.iload_n 1, 1) := by decide +kernel
theorem dX8_heats_32 : decode cX8_heats 32 = .ok (.iconst 4, 1) := by decide +kernel
theorem dX8_heats_33 : decode cX8_heats 33 = .ok (.if_icmp .le 10, 3) := by decide +kernel
theorem dX8_heats_36 : decode cX8_heats 36 = .ok (.aload_n 0, 1) := by decide +kernel
theorem dX8_heats_37 : decode cX8_heats 37 = .ok (.bipush (-6), 2) := by decide +kernel
theorem dX8_heats_39 : decode cX8_heats 39 = .ok (.invokevirtual 79, 3) := by decide +kernel
theorem dX8_heats_42 : decode cX8_heats 42 = .ok (.ireturn, 1) := by decide +kernel
theorem dX8_heats_43 : decode cX8_heats 43 = .ok (.aload_n 0, 1) := by decide +kernel
theorem dX8_heats_44 : decode cX8_heats 44 = .ok (.invokevirtual 271, 3) := by decide +kernel
theorem dX8_heats_47 : decode cX8_heats 47 = .ok (.iconst 0, 1) := by decide +kernel
theorem dX8_heats_48 : decode cX8_heats 48 = .ok (.istore_n 3, 1) := by decide +kernel
theorem dX8_heats_49 : decode cX8_heats 49 = .ok (.iload_n 3, 1) := by decide +kernel
theorem dX8_heats_50 : decode cX8_heats 50 = .ok (.aload_n 0, 1) := by decide +kernel
theorem dX8_heats_51 : decode cX8_heats 51 = .ok (.getfield 10, 3) := by decide +kernel
theorem dX8_heats_54 : decode cX8_heats 54 = .ok (.getfield 154, 3) := by decide +kernel
theorem dX8_heats_57 : decode cX8_heats 57 = .ok (.if_icmp .ge 16, 3) := by decide +kernel
theorem dX8_heats_60 : decode cX8_heats 60 = .ok (.aload_n 0, 1) := by decide +kernel
theorem dX8_heats_61 : decode cX8_heats 61 = .ok (.getfield 64, 3) := by decide +kernel
theorem dX8_heats_64 : decode cX8_heats 64 = .ok (.iload_n 3, 1) := by decide +kernel
theorem dX8_heats_65 : decode cX8_heats 65 = .ok (.iload_n 3, 1) := by decide +kernel
theorem dX8_heats_66 : decode cX8_heats 66 = .ok (.iastore, 1) := by decide +kernel
theorem dX8_heats_67 : decode cX8_heats 67 = .ok (.iinc 3 1, 3) := by decide +kernel
theorem dX8_heats_70 : decode cX8_heats 70 = .ok (.goto (-21), 3) := by decide +kernel
theorem dX8_heats_73 : decode cX8_heats 73 = .ok (.aload_n 0, 1) := by decide +kernel
theorem dX8_heats_74 : decode cX8_heats 74 = .ok (.getfield 10, 3) := by decide +kernel
theorem dX8_heats_77 : decode cX8_heats 77 = .ok (.getfield 154, 3) := by decide +kernel
theorem dX8_heats_80 : decode cX8_heats 80 = .ok (.istore_n 3, 1) := by decide +kernel
theorem dX8_heats_81 : decode cX8_heats 81 = .ok (.iconst 0, 1) := by decide +kernel
theorem dX8_heats_82 : decode cX8_heats 82 = .ok (.istore 4, 2) := by decide +kernel
theorem dX8_heats_84 : decode cX8_heats 84 = .ok (.iconst 0, 1) := by decide +kernel
theorem dX8_heats_85 : decode cX8_heats 85 = .ok (.istore 5, 2) := by decide +kernel
theorem dX8_heats_87 : decode cX8_heats 87 = .ok (.iload 5, 2) := by decide +kernel
theorem dX8_heats_89 : decode cX8_heats 89 = .ok (.bipush 8, 2) := by decide +kernel
theorem dX8_heats_91 : decode cX8_heats 91 = .ok (.if_icmp .ge 27, 3) := by decide +kernel
theorem dX8_heats_94 : decode cX8_heats 94 = .ok (.iload_n 3, 1) := by decide +kernel
theorem dX8_heats_95 : decode cX8_heats 95 = .ok (.iconst 1, 1) := by decide +kernel
theorem dX8_heats_96 : decode cX8_heats 96 = .ok (.if_icmp .le 22, 3) := by decide +kernel
theorem dX8_heats_99 : decode cX8_heats 99 = .ok (.aload_n 0, 1) := by decide +kernel
theorem dX8_heats_100 : decode cX8_heats 100 = .ok (.iload_n 3, 1) := by decide +kernel
theorem dX8_heats_101 : decode cX8_heats 101 = .ok (.iload_n 1, 1) := by decide +kernel
theorem dX8_heats_102 : decode cX8_heats 102 = .ok (.invokevirtual 316, 3) := by decide +kernel
theorem dX8_heats_105 : decode cX8_heats 105 = .ok (.istore_n 3, 1) := by decide +kernel
theorem dX8_heats_106 : decode cX8_heats 106 = .ok (.iload 4, 2) := by decide +kernel
theorem dX8_heats_108 : decode cX8_heats 108 = .ok (.iload_n 3, 1) := by decide +kernel
theorem dX8_heats_109 : decode cX8_heats 109 = .ok (.iadd, 1) := by decide +kernel
theorem dX8_heats_110 : decode cX8_heats 110 = .ok (.istore 4, 2) := by decide +kernel
theorem dX8_heats_112 : decode cX8_heats 112 = .ok (.iinc 5 1, 3) := by decide +kernel
theorem dX8_heats_115 : decode cX8_heats 115 = .ok (.goto (-28), 3) := by decide +kernel
theorem dX8_heats_118 : decode cX8_heats 118 = .ok (.iload_n 2, 1) := by decide +kernel
theorem dX8_heats_119 : decode cX8_heats 119 = .ok (.ifCond .ne 12, 3) := by decide +kernel
theorem dX8_heats_122 : decode cX8_heats 122 = .ok (.aload_n 0, 1) := by decide +kernel
theorem dX8_heats_123 : decode cX8_heats 123 = .ok (.getfield 64, 3) := by decide +kernel
theorem dX8_heats_126 : decode cX8_heats 126 = .ok (.iconst 0, 1) := by decide +kernel
theorem dX8_heats_127 : decode cX8_heats 127 = .ok (.iaload, 1) := by decide +kernel
theorem dX8_heats_128 : decode cX8_heats 128 = .ok (.goto 5, 3) := by decide +kernel
theorem dX8_heats_131 : decode cX8_heats 131 = .ok (.iload 4, 2) := by decide +kernel
theorem dX8_heats_133 : decode cX8_heats 133 = .ok (.ireturn, 1) := by decide +kernel
theorem dX8_legs_0 : decode cX8_legs 0 = .ok (.aload_n 0, 1) := by decide +kernel
theorem dX8_legs_1 : decode cX8_legs 1 = .ok (.getfield 10, 3) := by decide +kernel
theorem dX8_legs_4 : decode cX8_legs 4 = .ok (.iload_n 1, 1) := by decide +kernel
theorem dX8_legs_5 : decode cX8_legs 5 = .ok (.invokevirtual 126, 3) := by decide +kernel
theorem dX8_legs_8 : decode cX8_legs 8 = .ok (.ifCond .ne 10, 3) := by decide +kernel
theorem dX8_legs_11 : decode cX8_legs 11 = .ok (.aload_n 0, 1) := by decide +kernel
theorem dX8_legs_12 : decode cX8_legs 12 = .ok (.bipush (-11), 2) := by decide +kernel
theorem dX8_legs_14 : decode cX8_legs 14 = .ok (.invokevirtual 79, 3) := by decide +kernel
theorem dX8_legs_17 : decode cX8_legs 17 = .ok (.ireturn, 1) := by decide +kernel
theorem dX8_legs_18 : decode cX8_legs 18 = .ok (.iload_n 2, 1) := by decide +kernel
theorem dX8_legs_19 : decode cX8_legs 19 = .ok (.ifCond .ge 10, 3) := by decide +kernel
theorem dX8_legs_22 : decode cX8_legs 22 = .ok (.aload_n 0, 1) := by decide +kernel
theorem dX8_legs_23 : decode cX8_legs 23 = .ok (.bipush (-16), 2) := by decide +kernel
theorem dX8_legs_25 : decode cX8_legs 25 = .ok (.invokevirtual 79, 3) := by decide +kernel
theorem dX8_legs_28 : decode cX8_legs 28 = .ok (.ireturn, 1) := by decide +kernel
theorem dX8_legs_29 : decode cX8_legs 29 = .ok (.iconst 1, 1) := by decide +kernel
theorem dX8_legs_30 : decode cX8_legs 30 = .ok (.istore_n 3, 1) := by decide +kernel
theorem dX8_legs_31 : decode cX8_legs 31 = .ok (.iload_n 3, 1) := by decide +kernel
theorem dX8_legs_32 : decode cX8_legs 32 = .ok (.bipush 9, 2) := by decide +kernel
theorem dX8_legs_34 : decode cX8_legs 34 = .ok (.if_icmp .gt 49, 3) := by decide +kernel
theorem dX8_legs_37 : decode cX8_legs 37 = .ok (.aload_n 0, 1) := by decide +kernel
theorem dX8_legs_38 : decode cX8_legs 38 = .ok (.getfield 31, 3) := by decide +kernel
theorem dX8_legs_41 : decode cX8_legs 41 = .ok (.aload_n 0, 1) := by decide +kernel
theorem dX8_legs_42 : decode cX8_legs 42 = .ok (.getfield 10, 3) := by decide +kernel
theorem dX8_legs_45 : decode cX8_legs 45 = .ok (.iload_n 1, 1) := by decide +kernel
theorem dX8_legs_46 : decode cX8_legs 46 = .ok (.invokevirtual 167, 3) := by decide +kernel
theorem dX8_legs_49 : decode cX8_legs 49 = .ok (.aload_n 0, 1) := by decide +kernel
theorem dX8_legs_50 : decode cX8_legs 50 = .ok (.getfield 31, 3) := by decide +kernel
theorem dX8_legs_53 : decode cX8_legs 53 = .ok (.getfield 175, 3) := by decide +kernel
theorem dX8_legs_56 : decode cX8_legs 56 = .ok (.iload_n 3, 1) := by decide +kernel
theorem dX8_legs_57 : decode cX8_legs 57 = .ok (.putfield 182, 3) := by decide +kernel
theorem dX8_legs_60 : decode cX8_legs 60 = .ok (.aload_n 0, 1) := by decide +kernel
theorem dX8_legs_61 : decode cX8_legs 61 = .ok (.getfield 31, 3) := by decide +kernel
theorem dX8_legs_64 : decode cX8_legs 64 = .ok (.aload_n 0, 1) := by decide +kernel
theorem dX8_legs_65 : decode cX8_legs 65 = .ok (.getfield 10, 3) := by decide +kernel
theorem dX8_legs_68 : decode cX8_legs 68 = .ok (.invokevirtual 319, 3) := by decide +kernel
theorem dX8_legs_71 : decode cX8_legs 71 = .ok (.iload_n 2, 1) := by decide +kernel
theorem dX8_legs_72 : decode cX8_legs 72 = .ok (.if_icmp .gt 5, 3) := by decide +kernel
theorem dX8_legs_75 : decode cX8_legs 75 = .ok (.iload_n 3, 1) := by decide +kernel
theorem dX8_legs_76 : decode cX8_legs 76 = .ok (.ireturn, 1) := by decide +kernel
theorem dX8_legs_77 : decode cX8_legs 77 = .ok (.iinc 3 1, 3) := by decide +kernel
theorem dX8_legs_80 : decode cX8_legs 80 = .ok (.goto (-49), 3) := by decide +kernel
theorem dX8_legs_83 : decode cX8_legs 83 = .ok (.iconst (-1), 1) := by decide +kernel
theorem dX8_legs_84 : decode cX8_legs 84 = .ok (.ireturn, 1) := by decide +kernel
theorem dX8_wall_0 : decode cX8_wall 0 = .ok (.aload_n 0, 1) := by decide +kernel
theorem dX8_wall_1 : decode cX8_wall 1 = .ok (.getfield 10, 3) := by decide +kernel
theorem dX8_wall_4 : decode cX8_wall 4 = .ok (.iload_n 1, 1) := by decide +kernel
theorem dX8_wall_5 : decode cX8_wall 5 = .ok (.invokevirtual 126, 3) := by decide +kernel
theorem dX8_wall_8 : decode cX8_wall 8 = .ok (.ifCond .ne 10, 3) := by decide +kernel
theorem dX8_wall_11 : decode cX8_wall 11 = .ok (.aload_n 0, 1) := by decide +kernel
theorem dX8_wall_12 : decode cX8_wall 12 = .ok (.bipush (-11), 2) := by decide +kernel
theorem dX8_wall_14 : decode cX8_wall 14 = .ok (.invokevirtual 79, 3) := by decide +kernel
theorem dX8_wall_17 : decode cX8_wall 17 = .ok (.ireturn, 1) := by decide +kernel
theorem dX8_wall_18 : decode cX8_wall 18 = .ok (.aload_n 0, 1) := by decide +kernel
theorem dX8_wall_19 : decode cX8_wall 19 = .ok (.getfield 31, 3) := by decide +kernel
theorem dX8_wall_22 : decode cX8_wall 22 = .ok (.aload_n 0, 1) := by decide +kernel
theorem dX8_wall_23 : decode cX8_wall 23 = .ok (.getfield 10, 3) := by decide +kernel
theorem dX8_wall_26 : decode cX8_wall 26 = .ok (.iload_n 1, 1) := by decide +kernel
theorem dX8_wall_27 : decode cX8_wall 27 = .ok (.invokevirtual 167, 3) := by decide +kernel
theorem dX8_wall_30 : decode cX8_wall 30 = .ok (.aload_n 0, 1) := by decide +kernel
theorem dX8_wall_31 : decode cX8_wall 31 = .ok (.getfield 31, 3) := by decide +kernel
theorem dX8_wall_34 : decode cX8_wall 34 = .ok (.aload_n 0, 1) := by decide +kernel
theorem dX8_wall_35 : decode cX8_wall 35 = .ok (.getfield 10, 3) := by decide +kernel
theorem dX8_wall_38 : decode cX8_wall 38 = .ok (.invokevirtual 171, 3) := by decide +kernel
theorem dX8_wall_41 : decode cX8_wall 41 = .ok (.aload_n 0, 1) := by decide +kernel
theorem dX8_wall_42 : decode cX8_wall 42 = .ok (.getfield 31, 3) := by decide +kernel
theorem dX8_wall_45 : decode cX8_wall 45 = .ok (.sipush 999, 3) := by decide +kernel
theorem dX8_wall_48 : decode cX8_wall 48 = .ok (.invokevirtual 251, 3) := by decide +kernel
theorem dX8_wall_51 : decode cX8_wall 51 = .ok (.aload_n 0, 1) := by decide +kernel
theorem dX8_wall_52 : decode cX8_wall 52 = .ok (.getfield 31, 3) := by decide +kernel
theorem dX8_wall_55 : decode cX8_wall 55 = .ok (.getfield 323, 3) := by decide +kernel
theorem dX8_wall_58 : decode cX8_wall 58 = .ok (.ireturn, 1) := by decide +kernel
theorem dX8_judge_0 : decode cX8_judge 0 = .ok (.aload_n 0, 1) := by decide +kernel
theorem dX8_judge_1 : decode cX8_judge 1 = .ok (.iload_n 1, 1) := by decide +kernel
theorem dX8_judge_2 : decode cX8_judge 2 = .ok (.invokevirtual 87, 3) := by decide +kernel
theorem dX8_judge_5 : decode cX8_judge 5 = .ok (.istore_n 3, 1) := by decide +kernel
theorem dX8_judge_6 : decode cX8_judge 6 = .ok (.iload_n 3, 1) := by decide +kernel
theorem dX8_judge_7 : decode cX8_judge 7 = .ok (.ifCond .eq 12, 3) := by decide +kernel
theorem dX8_judge_10 : decode cX8_judge 10 = .ok (.aload_n 0, 1) := by decide +kernel
theorem dX8_judge_11 : decode cX8_judge 11 = .ok (.bipush (-10), 2) := by decide +kernel
theorem dX8_judge_13 : decode cX8_judge 13 = .ok (.iload_n 3, 1) := by decide +kernel
theorem dX8_judge_14 : decode cX8_judge 14 = .ok (.iadd, 1) := by decide +kernel
theorem dX8_judge_15 : decode cX8_judge 15 = .ok (.invokevirtual 79, 3) := by decide +kernel
theorem dX8_judge_18 : decode cX8_judge 18 = .ok (.ireturn, 1) := by decide +kernel
theorem dX8_judge_19 : decode cX8_judge 19 = .ok (.iload_n 2, 1) := by decide +kernel
theorem dX8_judge_20 : decode cX8_judge 20 = .ok (.ifCond .ge 10, 3) := by decide +kernel
theorem dX8_judge_23 : decode cX8_judge 23 = .ok (.aload_n 0, 1) := by decide +kernel
theorem dX8_judge_24 : decode cX8_judge 24 = .ok (.bipush (-14), 2) := by decide +kernel
theorem dX8_judge_26 : decode cX8_judge 26 = .ok (.invokevirtual 79, 3) := by decide +kernel
theorem dX8_judge_29 : decode cX8_judge 29 = .ok (.ireturn, 1) := by decide +kernel
theorem dX8_judge_30 : decode cX8_judge 30 = .ok (.iload_n 2, 1) := by decide +kernel
theorem dX8_judge_31 : decode cX8_judge 31 = .ok (.aload_n 0, 1) := by decide +kernel
theorem dX8_judge_32 : decode cX8_judge 32 = .ok (.getfield 24, 3) := by decide +kernel
theorem dX8_judge_35 : decode cX8_judge 35 = .ok (.iload_n 1, 1) := by decide +kernel
theorem dX8_judge_36 : decode cX8_judge 36 = .ok (.aaload, 1) := by decide +kernel
theorem dX8_judge_37 : decode cX8_judge 37 = .ok (.getfield 326, 3) := by decide +kernel
theorem dX8_judge_40 : decode cX8_judge 40 = .ok (.if_icmp .le 10, 3) := by decide +kernel
theorem dX8_judge_43 : decode cX8_judge 43 = .ok (.aload_n 0, 1) := by decide +kernel
theorem dX8_judge_44 : decode cX8_judge 44 = .ok (.bipush (-15), 2) := by decide +kernel
theorem dX8_judge_46 : decode cX8_judge 46 = .ok (.invokevirtual 79, 3) := by decide +kernel
theorem dX8_judge_49 : decode cX8_judge 49 = .ok (.ireturn, 1) := by decide +kernel
theorem dX8_judge_50 : decode cX8_judge 50 = .ok (.iload_n 2, 1) := by decide +kernel
theorem dX8_judge_51 : decode cX8_judge 51 = .ok (.bipush 8, 2) := by decide +kernel
theorem dX8_judge_53 : decode cX8_judge 53 = .ok (.if_icmp .le 10, 3) := by decide +kernel
theorem dX8_judge_56 : decode cX8_judge 56 = .ok (.aload_n 0, 1) := by decide +kernel
theorem dX8_judge_57 : decode cX8_judge 57 = .ok (.bipush (-16), 2) := by decide +kernel
theorem dX8_judge_59 : decode cX8_judge 59 = .ok (.invokevirtual 79, 3) := by decide +kernel
theorem dX8_judge_62 : decode cX8_judge 62 = .ok (.ireturn, 1) := by decide +kernel
theorem dX8_judge_63 : decode cX8_judge 63 = .ok (.aload_n 0, 1) := by decide +kernel
theorem dX8_judge_64 : decode cX8_judge 64 = .ok (.aload_n 0, 1) := by decide +kernel
theorem dX8_judge_65 : decode cX8_judge 65 = .ok (.getfield 24, 3) := by decide +kernel
theorem dX8_judge_68 : decode cX8_judge 68 = .ok (.iload_n 1, 1) := by decide +kernel
theorem dX8_judge_69 : decode cX8_judge 69 = .ok (.aaload, 1) := by decide +kernel
theorem dX8_judge_70 : decode cX8_judge 70 = .ok (.iload_n 2, 1) := by decide +kernel
theorem dX8_judge_71 : decode cX8_judge 71 = .ok (.invokevirtual 329, 3) := by decide +kernel
theorem dX8_judge_74 : decode cX8_judge 74 = .ok (.ireturn, 1) := by decide +kernel
theorem dX8_meant_0 : decode cX8_meant 0 = .ok (.aload_n 0, 1) := by decide +kernel
theorem dX8_meant_1 : decode cX8_meant 1 = .ok (.iload_n 1, 1) := by decide +kernel
theorem dX8_meant_2 : decode cX8_meant 2 = .ok (.invokevirtual 87, 3) := by decide +kernel
theorem dX8_meant_5 : decode cX8_meant 5 = .ok (.istore_n 2, 1) := by decide +kernel
theorem dX8_meant_6 : decode cX8_meant 6 = .ok (.iload_n 2, 1) := by decide +kernel
theorem dX8_meant_7 : decode cX8_meant 7 = .ok (.ifCond .eq 9, 3) := by decide +kernel
theorem dX8_meant_10 : decode cX8_meant 10 = .ok (.aload_n 0, 1) := by decide +kernel
theorem dX8_meant_11 : decode cX8_meant 11 = .ok (.iload_n 2, 1) := by decide +kernel
theorem dX8_meant_12 : decode cX8_meant 12 = .ok (.invokevirtual 79, 3) := by decide +kernel
theorem dX8_meant_15 : decode cX8_meant 15 = .ok (.ireturn, 1) := by decide +kernel
theorem dX8_meant_16 : decode cX8_meant 16 = .ok (.aload_n 0, 1) := by decide +kernel
theorem dX8_meant_17 : decode cX8_meant 17 = .ok (.getfield 24, 3) := by decide +kernel
theorem dX8_meant_20 : decode cX8_meant 20 = .ok (.iload_n 1, 1) := by decide +kernel
theorem dX8_meant_21 : decode cX8_meant 21 = .ok (.aaload, 1) := by decide +kernel
theorem dX8_meant_22 : decode cX8_meant 22 = .ok (.getfield 326, 3) := by decide +kernel
theorem dX8_meant_25 : decode cX8_meant 25 = .ok (.aload_n 0, 1) := by decide +kernel
theorem dX8_meant_26 : decode cX8_meant 26 = .ok (.getfield 10, 3) := by decide +kernel
theorem dX8_meant_29 : decode cX8_meant 29 = .ok (.getfield 154, 3) := by decide +kernel
theorem dX8_meant_32 : decode cX8_meant 32 = .ok (.if_icmp .ge 10, 3) := by decide +kernel
theorem dX8_meant_35 : decode cX8_meant 35 = .ok (.aload_n 0, 1) := by decide +kernel
theorem dX8_meant_36 : decode cX8_meant 36 = .ok (.bipush (-5), 2) := by decide +kernel
theorem dX8_meant_38 : decode cX8_meant 38 = .ok (.invokevirtual 79, 3) := by decide +kernel
theorem dX8_meant_41 : decode cX8_meant 41 = .ok (.ireturn, 1) := by decide +kernel
theorem dX8_meant_42 : decode cX8_meant 42 = .ok (.iconst 0, 1) := by decide +kernel
theorem dX8_meant_43 : decode cX8_meant 43 = .ok (.istore_n 3, 1) := by decide +kernel
theorem dX8_meant_44 : decode cX8_meant 44 = .ok (.iconst 0, 1) := by decide +kernel
theorem dX8_meant_45 : decode cX8_meant 45 = .ok (.istore 4, 2) := by decide +kernel
theorem dX8_meant_47 : decode cX8_meant 47 = .ok (.iload 4, 2) := by decide +kernel
theorem dX8_meant_49 : decode cX8_meant 49 = .ok (.bipush 7, 2) := by decide +kernel
theorem dX8_meant_51 : decode cX8_meant 51 = .ok (.if_icmp .ge 31, 3) := by decide +kernel
theorem dX8_meant_54 : decode cX8_meant 54 = .ok (.aload_n 0, 1) := by decide +kernel
theorem dX8_meant_55 : decode cX8_meant 55 = .ok (.aload_n 0, 1) := by decide +kernel
theorem dX8_meant_56 : decode cX8_meant 56 = .ok (.getfield 24, 3) := by decide +kernel
theorem dX8_meant_59 : decode cX8_meant 59 = .ok (.iload_n 1, 1) := by decide +kernel
theorem dX8_meant_60 : decode cX8_meant 60 = .ok (.aaload, 1) := by decide +kernel
theorem dX8_meant_61 : decode cX8_meant 61 = .ok (.iload 4, 2) := by decide +kernel
theorem dX8_meant_63 : decode cX8_meant 63 = .ok (.invokevirtual 333, 3) := by decide +kernel
theorem dX8_meant_66 : decode cX8_meant 66 = .ok (.ifCond .eq 10, 3) := by decide +kernel
theorem dX8_meant_69 : decode cX8_meant 69 = .ok (.iload_n 3, 1) := by decide +kernel
theorem dX8_meant_70 : decode cX8_meant 70 = .ok (.iconst 1, 1) := by decide +kernel
theorem dX8_meant_71 : decode cX8_meant 71 = .ok (.iload 4, 2) := by decide +kernel
theorem dX8_meant_73 : decode cX8_meant 73 = .ok (.ishl, 1) := by decide +kernel
theorem dX8_meant_74 : decode cX8_meant 74 = .ok (.ior, 1) := by decide +kernel
theorem dX8_meant_75 : decode cX8_meant 75 = .ok (.istore_n 3, 1) := by decide +kernel
theorem dX8_meant_76 : decode cX8_meant 76 = .ok (.iinc 4 1, 3) := by decide +kernel
theorem dX8_meant_79 : decode cX8_meant 79 = .ok (.goto (-32), 3) := by decide +kernel
theorem dX8_meant_82 : decode cX8_meant 82 = .ok (.iload_n 3, 1) := by decide +kernel
theorem dX8_meant_83 : decode cX8_meant 83 = .ok (.ireturn, 1) := by decide +kernel
theorem dX8_worn_0 : decode cX8_worn 0 = .ok (.aload_n 0, 1) := by decide +kernel
theorem dX8_worn_1 : decode cX8_worn 1 = .ok (.getfield 10, 3) := by decide +kernel
theorem dX8_worn_4 : decode cX8_worn 4 = .ok (.iload_n 1, 1) := by decide +kernel
theorem dX8_worn_5 : decode cX8_worn 5 = .ok (.invokevirtual 126, 3) := by decide +kernel
theorem dX8_worn_8 : decode cX8_worn 8 = .ok (.ifCond .ne 9, 3) := by decide +kernel
theorem dX8_worn_11 : decode cX8_worn 11 = .ok (.aload_n 0, 1) := by decide +kernel
theorem dX8_worn_12 : decode cX8_worn 12 = .ok (.iconst (-1), 1) := by decide +kernel
theorem dX8_worn_13 : decode cX8_worn 13 = .ok (.invokevirtual 79, 3) := by decide +kernel
theorem dX8_worn_16 : decode cX8_worn 16 = .ok (.ireturn, 1) := by decide +kernel
theorem dX8_worn_17 : decode cX8_worn 17 = .ok (.iconst 0, 1) := by decide +kernel
theorem dX8_worn_18 : decode cX8_worn 18 = .ok (.istore_n 3, 1) := by decide +kernel
theorem dX8_worn_19 : decode cX8_worn 19 = .ok (.iconst 0, 1) := by decide +kernel
theorem dX8_worn_20 : decode cX8_worn 20 = .ok (.istore 4, 2) := by decide +kernel
theorem dX8_worn_22 : decode cX8_worn 22 = .ok (.iload 4, 2) := by decide +kernel
theorem dX8_worn_24 : decode cX8_worn 24 = .ok (.aload_n 0, 1) := by decide +kernel
theorem dX8_worn_25 : decode cX8_worn 25 = .ok (.getfield 10, 3) := by decide +kernel
theorem dX8_worn_28 : decode cX8_worn 28 = .ok (.getfield 161, 3) := by decide +kernel
theorem dX8_worn_31 : decode cX8_worn 31 = .ok (.if_icmp .ge 27, 3) := by decide +kernel
theorem dX8_worn_34 : decode cX8_worn 34 = .ok (.aload_n 0, 1) := by decide +kernel
theorem dX8_worn_35 : decode cX8_worn 35 = .ok (.iload_n 1, 1) := by decide +kernel
theorem dX8_worn_36 : decode cX8_worn 36 = .ok (.iload 4, 2) := by decide +kernel
theorem dX8_worn_38 : decode cX8_worn 38 = .ok (.invokevirtual 294, 3) := by decide +kernel
theorem dX8_worn_41 : decode cX8_worn 41 = .ok (.iload_n 2, 1) := by decide +kernel
theorem dX8_worn_42 : decode cX8_worn 42 = .ok (.if_icmp .ne 10, 3) := by decide +kernel
theorem dX8_worn_45 : decode cX8_worn 45 = .ok (.iload_n 3, 1) := by decide +kernel
theorem dX8_worn_46 : decode cX8_worn 46 = .ok (.iconst 1, 1) := by decide +kernel
theorem dX8_worn_47 : decode cX8_worn 47 = .ok (.iload 4, 2) := by decide +kernel
theorem dX8_worn_49 : decode cX8_worn 49 = .ok (.ishl, 1) := by decide +kernel
theorem dX8_worn_50 : decode cX8_worn 50 = .ok (.ior, 1) := by decide +kernel
theorem dX8_worn_51 : decode cX8_worn 51 = .ok (.istore_n 3, 1) := by decide +kernel
theorem dX8_worn_52 : decode cX8_worn 52 = .ok (.iinc 4 1, 3) := by decide +kernel
theorem dX8_worn_55 : decode cX8_worn 55 = .ok (.goto (-33), 3) := by decide +kernel
theorem dX8_worn_58 : decode cX8_worn 58 = .ok (.iload_n 3, 1) := by decide +kernel
theorem dX8_worn_59 : decode cX8_worn 59 = .ok (.ireturn, 1) := by decide +kernel
theorem dX8_race_0 : decode cX8_race 0 = .ok (.aload_n 0, 1) := by decide +kernel
theorem dX8_race_1 : decode cX8_race 1 = .ok (.getfield 10, 3) := by decide +kernel
theorem dX8_race_4 : decode cX8_race 4 = .ok (.getfield 154, 3) := by decide +kernel
theorem dX8_race_7 : decode cX8_race 7 = .ok (.ifCond .ne 12, 3) := by decide +kernel
theorem dX8_race_10 : decode cX8_race 10 = .ok (.aload_n 0, 1) := by decide +kernel
theorem dX8_race_11 : decode cX8_race 11 = .ok (.bipush (-15), 2) := by decide +kernel
theorem dX8_race_13 : decode cX8_race 13 = .ok (.invokevirtual 79, 3) := by decide +kernel
theorem dX8_race_16 : decode cX8_race 16 = .ok (.goto 7, 3) := by decide +kernel
theorem dX8_race_19 : decode cX8_race 19 = .ok (.aload_n 0, 1) := by decide +kernel
theorem dX8_race_20 : decode cX8_race 20 = .ok (.invokevirtual 337, 3) := by decide +kernel
theorem dX8_race_23 : decode cX8_race 23 = .ok (.ireturn, 1) := by decide +kernel
theorem dX8_summer_0 : decode cX8_summer 0 = .ok (.aload_n 0, 1) := by decide +kernel
theorem dX8_summer_1 : decode cX8_summer 1 = .ok (.getfield 10, 3) := by decide +kernel
theorem dX8_summer_4 : decode cX8_summer 4 = .ok (.iload_n 2, 1) := by decide +kernel
theorem dX8_summer_5 : decode cX8_summer 5 = .ok (.invokevirtual 126, 3) := by decide +kernel
theorem dX8_summer_8 : decode cX8_summer 8 = .ok (.ifCond .ne 9, 3) := by decide +kernel
theorem dX8_summer_11 : decode cX8_summer 11 = .ok (.aload_n 0, 1) := by decide +kernel
theorem dX8_summer_12 : decode cX8_summer 12 = .ok (.iconst (-1), 1) := by decide +kernel
theorem dX8_summer_13 : decode cX8_summer 13 = .ok (.invokevirtual 79, 3) := by decide +kernel
theorem dX8_summer_16 : decode cX8_summer 16 = .ok (.ireturn, 1) := by decide +kernel
theorem dX8_summer_17 : decode cX8_summer 17 = .ok (.iload_n 1, 1) := by decide +kernel
theorem dX8_summer_18 : decode cX8_summer 18 = .ok (.iconst 1, 1) := by decide +kernel
theorem dX8_summer_19 : decode cX8_summer 19 = .ok (.if_icmp .lt 9, 3) := by decide +kernel
theorem dX8_summer_22 : decode cX8_summer 22 = .ok (.iload_n 1, 1) := by decide +kernel
theorem dX8_summer_23 : decode cX8_summer 23 = .ok (.bipush 30, 2) := by decide +kernel
theorem dX8_summer_25 : decode cX8_summer 25 = .ok (.if_icmp .le 10, 3) := by decide +kernel
theorem dX8_summer_28 : decode cX8_summer 28 = .ok (.aload_n 0, 1) := by decide +kernel
theorem dX8_summer_29 : decode cX8_summer 29 = .ok (.bipush (-6), 2) := by decide +kernel
theorem dX8_summer_31 : decode cX8_summer 31 = .ok (.invokevirtual 79, 3) := by decide +kernel
theorem dX8_summer_34 : decode cX8_summer 34 = .ok (.ireturn, 1) := by decide +kernel
theorem dX8_summer_35 : decode cX8_summer 35 = .ok (.iconst 0, 1) := by decide +kernel
theorem dX8_summer_36 : decode cX8_summer 36 = .ok (.istore_n 3, 1) := by decide +kernel
theorem dX8_summer_37 : decode cX8_summer 37 = .ok (.iconst 0, 1) := by decide +kernel
theorem dX8_summer_38 : decode cX8_summer 38 = .ok (.istore 4, 2) := by decide +kernel
theorem dX8_summer_40 : decode cX8_summer 40 = .ok (.iload 4, 2) := by decide +kernel
theorem dX8_summer_42 : decode cX8_summer 42 = .ok (.iload_n 1, 1) := by decide +kernel
theorem dX8_summer_43 : decode cX8_summer 43 = .ok (.if_icmp .ge 20, 3) := by decide +kernel
theorem dX8_summer_46 : decode cX8_summer 46 = .ok (.aload_n 0, 1) := by decide +kernel
theorem dX8_summer_47 : decode cX8_summer 47 = .ok (.invokevirtual 337, 3) := by decide +kernel
theorem dX8_summer_50 : decode cX8_summer 50 = .ok (.iload_n 2, 1) := by decide +kernel
theorem dX8_summer_51 : decode cX8_summer 51 = .ok (.if_icmp .ne 6, 3) := by decide +kernel
theorem dX8_summer_54 : decode cX8_summer 54 = .ok (.iinc 3 1, 3) := by decide +kernel
theorem dX8_summer_57 : decode cX8_summer 57 = .ok (.iinc 4 1, 3) := by decide +kernel
theorem dX8_summer_60 : decode cX8_summer 60 = .ok (.goto (-20), 3) := by decide +kernel
theorem dX8_summer_63 : decode cX8_summer 63 = .ok (.iload_n 3, 1) := by decide +kernel
theorem dX8_summer_64 : decode cX8_summer 64 = .ok (.ireturn, 1) := by decide +kernel
theorem dX8_seed_0 : decode cX8_seed 0 = .ok (.aload_n 0, 1) := by decide +kernel
theorem dX8_seed_1 : decode cX8_seed 1 = .ok (.getfield 10, 3) := by decide +kernel
theorem dX8_seed_4 : decode cX8_seed 4 = .ok (.getfield 340, 3) := by decide +kernel
theorem dX8_seed_7 : decode cX8_seed 7 = .ok (.istore_n 2, 1) := by decide +kernel
theorem dX8_seed_8 : decode cX8_seed 8 = .ok (.aload_n 0, 1) := by decide +kernel
theorem dX8_seed_9 : decode cX8_seed 9 = .ok (.getfield 10, 3) := by decide +kernel
theorem dX8_seed_12 : decode cX8_seed 12 = .ok (.iload_n 1, 1) := by decide +kernel
theorem dX8_seed_13 : decode cX8_seed 13 = .ok (.putfield 340, 3) := by decide +kernel
theorem dX8_seed_16 : decode cX8_seed 16 = .ok (.iload_n 2, 1) := by decide +kernel
theorem dX8_seed_17 : decode cX8_seed 17 = .ok (.ireturn, 1) := by decide +kernel
theorem dX8_act_0 : decode cX8_act 0 = .ok (.aload_n 0, 1) := by decide +kernel
theorem dX8_act_1 : decode cX8_act 1 = .ok (.getfield 56, 3) := by decide +kernel
theorem dX8_act_4 : decode cX8_act 4 = .ok (.invokevirtual 343, 3) := by decide +kernel
theorem dX8_act_7 : decode cX8_act 7 = .ok (.aload_n 0, 1) := by decide +kernel
theorem dX8_act_8 : decode cX8_act 8 = .ok (.getfield 10, 3) := by decide +kernel
theorem dX8_act_11 : decode cX8_act 11 = .ok (.iload_n 1, 1) := by decide +kernel
theorem dX8_act_12 : decode cX8_act 12 = .ok (.invokevirtual 126, 3) := by decide +kernel
theorem dX8_act_15 : decode cX8_act 15 = .ok (.ifCond .eq 12, 3) := by decide +kernel
theorem dX8_act_18 : decode cX8_act 18 = .ok (.iload_n 2, 1) := by decide +kernel
theorem dX8_act_19 : decode cX8_act 19 = .ok (.ifCond .lt 8, 3) := by decide +kernel
theorem dX8_act_22 : decode cX8_act 22 = .ok (.iload_n 2, 1) := by decide +kernel
theorem dX8_act_23 : decode cX8_act 23 = .ok (.iconst 3, 1) := by decide +kernel
theorem dX8_act_24 : decode cX8_act 24 = .ok (.if_icmp .lt 5, 3) := by decide +kernel
theorem dX8_act_27 : decode cX8_act 27 = .ok (.iconst 0, 1) := by decide +kernel
theorem dX8_act_28 : decode cX8_act 28 = .ok (.ireturn, 1) := by decide +kernel
theorem dX8_act_29 : decode cX8_act 29 = .ok (.aload_n 0, 1) := by decide +kernel
theorem dX8_act_30 : decode cX8_act 30 = .ok (.getfield 56, 3) := by decide +kernel
theorem dX8_act_33 : decode cX8_act 33 = .ok (.aload_n 0, 1) := by decide +kernel
theorem dX8_act_34 : decode cX8_act 34 = .ok (.getfield 10, 3) := by decide +kernel
theorem dX8_act_37 : decode cX8_act 37 = .ok (.getfield 138, 3) := by decide +kernel
theorem dX8_act_40 : decode cX8_act 40 = .ok (.iload_n 1, 1) := by decide +kernel
theorem dX8_act_41 : decode cX8_act 41 = .ok (.aaload, 1) := by decide +kernel
theorem dX8_act_42 : decode cX8_act 42 = .ok (.iload_n 1, 1) := by decide +kernel
theorem dX8_act_43 : decode cX8_act 43 = .ok (.iload_n 2, 1) := by decide +kernel
theorem dX8_act_44 : decode cX8_act 44 = .ok (.iload_n 3, 1) := by decide +kernel
theorem dX8_act_45 : decode cX8_act 45 = .ok (.invokevirtual 346, 3) := by decide +kernel
theorem dX8_act_48 : decode cX8_act 48 = .ok (.ireturn, 1) := by decide +kernel
theorem dX8_trace_0 : decode cX8_trace 0 = .ok (.aload_n 0, 1) := by decide +kernel
theorem dX8_trace_1 : decode cX8_trace 1 = .ok (.getfield 56, 3) := by decide +kernel
theorem dX8_trace_4 : decode cX8_trace 4 = .ok (.iload_n 1, 1) := by decide +kernel
theorem dX8_trace_5 : decode cX8_trace 5 = .ok (.invokevirtual 350, 3) := by decide +kernel
theorem dX8_trace_8 : decode cX8_trace 8 = .ok (.ireturn, 1) := by decide +kernel
theorem dX8_image_0 : decode cX8_image 0 = .ok (.aload_n 0, 1) := by decide +kernel
theorem dX8_image_1 : decode cX8_image 1 = .ok (.getfield 19, 3) := by decide +kernel
theorem dX8_image_4 : decode cX8_image 4 = .ok (.aload_n 0, 1) := by decide +kernel
theorem dX8_image_5 : decode cX8_image 5 = .ok (.getfield 10, 3) := by decide +kernel
theorem dX8_image_8 : decode cX8_image 8 = .ok (.invokevirtual 241, 3) := by decide +kernel
theorem dX8_image_11 : decode cX8_image 11 = .ok (.aload_n 0, 1) := by decide +kernel
theorem dX8_image_12 : decode cX8_image 12 = .ok (.iconst 1, 1) := by decide +kernel
theorem dX8_image_13 : decode cX8_image 13 = .ok (.putfield 353, 3) := by decide +kernel
theorem dX8_image_16 : decode cX8_image 16 = .ok (.aload_n 0, 1) := by decide +kernel
theorem dX8_image_17 : decode cX8_image 17 = .ok (.getfield 19, 3) := by decide +kernel
theorem dX8_image_20 : decode cX8_image 20 = .ok (.getfield 154, 3) := by decide +kernel
theorem dX8_image_23 : decode cX8_image 23 = .ok (.ireturn, 1) := by decide +kernel
theorem dX8_restore_0 : decode cX8_restore 0 = .ok (.aload_n 0, 1) := by decide +kernel
theorem dX8_restore_1 : decode cX8_restore 1 = .ok (.getfield 353, 3) := by decide +kernel
theorem dX8_restore_4 : decode cX8_restore 4 = .ok (.ifCond .ne 10, 3) := by decide +kernel
theorem dX8_restore_7 : decode cX8_restore 7 = .ok (.aload_n 0, 1) := by decide +kernel
theorem dX8_restore_8 : decode cX8_restore 8 = .ok (.bipush (-6), 2) := by decide +kernel
theorem dX8_restore_10 : decode cX8_restore 10 = .ok (.invokevirtual 79, 3) := by decide +kernel
theorem dX8_restore_13 : decode cX8_restore 13 = .ok (.ireturn, 1) := by decide +kernel
theorem dX8_restore_14 : decode cX8_restore 14 = .ok (.aload_n 0, 1) := by decide +kernel
theorem dX8_restore_15 : decode cX8_restore 15 = .ok (.getfield 10, 3) := by decide +kernel
theorem dX8_restore_18 : decode cX8_restore 18 = .ok (.aload_n 0, 1) := by decide +kernel
theorem dX8_restore_19 : decode cX8_restore 19 = .ok (.getfield 19, 3) := by decide +kernel
theorem dX8_restore_22 : decode cX8_restore 22 = .ok (.invokevirtual 241, 3) := by decide +kernel
theorem dX8_restore_25 : decode cX8_restore 25 = .ok (.iconst 0, 1) := by decide +kernel
theorem dX8_restore_26 : decode cX8_restore 26 = .ok (.istore_n 1, 1) := by decide +kernel
theorem dX8_restore_27 : decode cX8_restore 27 = .ok (.iload_n 1, 1) := by decide +kernel
theorem dX8_restore_28 : decode cX8_restore 28 = .ok (.bipush 8, 2) := by decide +kernel
theorem dX8_restore_30 : decode cX8_restore 30 = .ok (.if_icmp .ge 50, 3) := by decide +kernel
theorem dX8_restore_33 : decode cX8_restore 33 = .ok (.aload_n 0, 1) := by decide +kernel
theorem dX8_restore_34 : decode cX8_restore 34 = .ok (.getfield 24, 3) := by decide +kernel
theorem dX8_restore_37 : decode cX8_restore 37 = .ok (.iload_n 1, 1) := by decide +kernel
theorem dX8_restore_38 : decode cX8_restore 38 = .ok (.aaload, 1) := by decide +kernel
theorem dX8_restore_39 : decode cX8_restore 39 = .ok (.invokevirtual 97, 3) := by decide +kernel
theorem dX8_restore_42 : decode cX8_restore 42 = .ok (.ifCond .eq 32, 3) := by decide +kernel
theorem dX8_restore_45 : decode cX8_restore 45 = .ok (.aload_n 0, 1) := by decide +kernel
theorem dX8_restore_46 : decode cX8_restore 46 = .ok (.getfield 10, 3) := by decide +kernel
theorem dX8_restore_49 : decode cX8_restore 49 = .ok (.aload_n 0, 1) := by decide +kernel
theorem dX8_restore_50 : decode cX8_restore 50 = .ok (.getfield 24, 3) := by decide +kernel
theorem dX8_restore_53 : decode cX8_restore 53 = .ok (.iload_n 1, 1) := by decide +kernel
theorem dX8_restore_54 : decode cX8_restore 54 = .ok (.aaload, 1) := by decide +kernel
theorem dX8_restore_55 : decode cX8_restore 55 = .ok (.getfield 132, 3) := by decide +kernel
theorem dX8_restore_58 : decode cX8_restore 58 = .ok (.invokevirtual 126, 3) := by decide +kernel
theorem dX8_restore_61 : decode cX8_restore 61 = .ok (.ifCond .ne 13, 3) := by decide +kernel
theorem dX8_restore_64 : decode cX8_restore 64 = .ok (.aload_n 0, 1) := by decide +kernel
theorem dX8_restore_65 : decode cX8_restore 65 = .ok (.getfield 24, 3) := by decide +kernel
theorem dX8_restore_68 : decode cX8_restore 68 = .ok (.iload_n 1, 1) := by decide +kernel
theorem dX8_restore_69 : decode cX8_restore 69 = .ok (.aaload, 1) := by decide +kernel
theorem dX8_restore_70 : decode cX8_restore 70 = .ok (.iconst (-1), 1) := by decide +kernel
theorem dX8_restore_71 : decode cX8_restore 71 = .ok (.invokevirtual 128, 3) := by decide +kernel
theorem dX8_restore_74 : decode cX8_restore 74 = .ok (.iinc 1 1, 3) := by decide +kernel
theorem dX8_restore_77 : decode cX8_restore 77 = .ok (.goto (-50), 3) := by decide +kernel
theorem dX8_restore_80 : decode cX8_restore 80 = .ok (.aload_n 0, 1) := by decide +kernel
theorem dX8_restore_81 : decode cX8_restore 81 = .ok (.getfield 10, 3) := by decide +kernel
theorem dX8_restore_84 : decode cX8_restore 84 = .ok (.getfield 154, 3) := by decide +kernel
theorem dX8_restore_87 : decode cX8_restore 87 = .ok (.ireturn, 1) := by decide +kernel
theorem dX8_status_0 : decode cX8_status 0 = .ok (.iload_n 1, 1) := by decide +kernel
theorem dX8_status_1 : decode cX8_status 1 = .ok (.bipush 10, 2) := by decide +kernel
theorem dX8_status_3 : decode cX8_status 3 = .ok (.if_icmp .le 19, 3) := by decide +kernel
theorem dX8_status_6 : decode cX8_status 6 = .ok (.iload_n 1, 1) := by decide +kernel
theorem dX8_status_7 : decode cX8_status 7 = .ok (.bipush 17, 2) := by decide +kernel
theorem dX8_status_9 : decode cX8_status 9 = .ok (.if_icmp .gt 13, 3) := by decide +kernel
theorem dX8_status_12 : decode cX8_status 12 = .ok (.aload_n 0, 1) := by decide +kernel
theorem dX8_status_13 : decode cX8_status 13 = .ok (.getfield 67, 3) := by decide +kernel
theorem dX8_status_16 : decode cX8_status 16 = .ok (.iload_n 1, 1) := by decide +kernel
theorem dX8_status_17 : decode cX8_status 17 = .ok (.bipush 10, 2) := by decide +kernel
theorem dX8_status_19 : decode cX8_status 19 = .ok (.isub, 1) := by decide +kernel
theorem dX8_status_20 : decode cX8_status 20 = .ok (.iaload, 1) := by decide +kernel
theorem dX8_status_21 : decode cX8_status 21 = .ok (.ireturn, 1) := by decide +kernel
theorem dX8_status_22 : decode cX8_status 22 = .ok (.iload_n 1, 1) := by decide +kernel
theorem dX8_status_23 : decode cX8_status 23 = .ok (.tableswitch 144 0 9 #[53, 61, 69, 79, 89, 99, 109, 120, 128, 136], 53) := by decide +kernel
theorem dX8_status_76 : decode cX8_status 76 = .ok (.aload_n 0, 1) := by decide +kernel
theorem dX8_status_77 : decode cX8_status 77 = .ok (.getfield 10, 3) := by decide +kernel
theorem dX8_status_80 : decode cX8_status 80 = .ok (.getfield 154, 3) := by decide +kernel
theorem dX8_status_83 : decode cX8_status 83 = .ok (.ireturn, 1) := by decide +kernel
theorem dX8_status_84 : decode cX8_status 84 = .ok (.aload_n 0, 1) := by decide +kernel
theorem dX8_status_85 : decode cX8_status 85 = .ok (.getfield 10, 3) := by decide +kernel
theorem dX8_status_88 : decode cX8_status 88 = .ok (.getfield 161, 3) := by decide +kernel
theorem dX8_status_91 : decode cX8_status 91 = .ok (.ireturn, 1) := by decide +kernel
theorem dX8_status_92 : decode cX8_status 92 = .ok (.aload_n 0, 1) := by decide +kernel
theorem dX8_status_93 : decode cX8_status 93 = .ok (.getfield 10, 3) := by decide +kernel
theorem dX8_status_96 : decode cX8_status 96 = .ok (.getfield 227, 3) := by decide +kernel
theorem dX8_status_99 : decode cX8_status 99 = .ok (.iconst 0, 1) := by decide +kernel
theorem dX8_status_100 : decode cX8_status 100 = .ok (.iaload, 1) := by decide +kernel
theorem dX8_status_101 : decode cX8_status 101 = .ok (.ireturn, 1) := by decide +kernel
theorem dX8_status_102 : decode cX8_status 102 = .ok (.aload_n 0, 1) := by decide +kernel
theorem dX8_status_103 : decode cX8_status 103 = .ok (.getfield 10, 3) := by decide +kernel
theorem dX8_status_106 : decode cX8_status 106 = .ok (.getfield 227, 3) := by decide +kernel
theorem dX8_status_109 : decode cX8_status 109 = .ok (.iconst 1, 1) := by decide +kernel
theorem dX8_status_110 : decode cX8_status 110 = .ok (.iaload, 1) := by decide +kernel
theorem dX8_status_111 : decode cX8_status 111 = .ok (.ireturn, 1) := by decide +kernel
theorem dX8_status_112 : decode cX8_status 112 = .ok (.aload_n 0, 1) := by decide +kernel
theorem dX8_status_113 : decode cX8_status 113 = .ok (.getfield 10, 3) := by decide +kernel
theorem dX8_status_116 : decode cX8_status 116 = .ok (.getfield 227, 3) := by decide +kernel
theorem dX8_status_119 : decode cX8_status 119 = .ok (.iconst 2, 1) := by decide +kernel
theorem dX8_status_120 : decode cX8_status 120 = .ok (.iaload, 1) := by decide +kernel
end
section
theorem dX8_status_121 : decode cX8_status 121 = .ok (.ireturn, 1) := by decide +kernel
theorem dX8_status_122 : decode cX8_status 122 = .ok (.aload_n 0, 1) := by decide +kernel
theorem dX8_status_123 : decode cX8_status 123 = .ok (.getfield 10, 3) := by decide +kernel
theorem dX8_status_126 : decode cX8_status 126 = .ok (.getfield 227, 3) := by decide +kernel
theorem dX8_status_129 : decode cX8_status 129 = .ok (.iconst 3, 1) := by decide +kernel
theorem dX8_status_130 : decode cX8_status 130 = .ok (.iaload, 1) := by decide +kernel
theorem dX8_status_131 : decode cX8_status 131 = .ok (.ireturn, 1) := by decide +kernel
theorem dX8_status_132 : decode cX8_status 132 = .ok (.aload_n 0, 1) := by decide +kernel
theorem dX8_status_133 : decode cX8_status 133 = .ok (.getfield 10, 3) := by decide +kernel
theorem dX8_status_136 : decode cX8_status 136 = .ok (.getfield 233, 3) := by decide +kernel
theorem dX8_status_139 : decode cX8_status 139 = .ok (.invokestatic 237, 3) := by decide +kernel
theorem dX8_status_142 : decode cX8_status 142 = .ok (.ireturn, 1) := by decide +kernel
theorem dX8_status_143 : decode cX8_status 143 = .ok (.aload_n 0, 1) := by decide +kernel
theorem dX8_status_144 : decode cX8_status 144 = .ok (.getfield 10, 3) := by decide +kernel
theorem dX8_status_147 : decode cX8_status 147 = .ok (.getfield 356, 3) := by decide +kernel
theorem dX8_status_150 : decode cX8_status 150 = .ok (.ireturn, 1) := by decide +kernel
theorem dX8_status_151 : decode cX8_status 151 = .ok (.aload_n 0, 1) := by decide +kernel
theorem dX8_status_152 : decode cX8_status 152 = .ok (.getfield 10, 3) := by decide +kernel
theorem dX8_status_155 : decode cX8_status 155 = .ok (.getfield 340, 3) := by decide +kernel
theorem dX8_status_158 : decode cX8_status 158 = .ok (.ireturn, 1) := by decide +kernel
theorem dX8_status_159 : decode cX8_status 159 = .ok (.aload_n 0, 1) := by decide +kernel
theorem dX8_status_160 : decode cX8_status 160 = .ok (.getfield 56, 3) := by decide +kernel
theorem dX8_status_163 : decode cX8_status 163 = .ok (.getfield 359, 3) := by decide +kernel
theorem dX8_status_166 : decode cX8_status 166 = .ok (.ireturn, 1) := by decide +kernel
theorem dX8_status_167 : decode cX8_status 167 = .ok (.iconst (-1), 1) := by decide +kernel
theorem dX8_status_168 : decode cX8_status 168 = .ok (.ireturn, 1) := by decide +kernel
theorem dX8_refuse_0 : decode cX8_refuse 0 = .ok (.iload_n 1, 1) := by decide +kernel
theorem dX8_refuse_1 : decode cX8_refuse 1 = .ok (.bipush (-10), 2) := by decide +kernel
theorem dX8_refuse_3 : decode cX8_refuse 3 = .ok (.if_icmp .gt 10, 3) := by decide +kernel
theorem dX8_refuse_6 : decode cX8_refuse 6 = .ok (.bipush (-10), 2) := by decide +kernel
theorem dX8_refuse_8 : decode cX8_refuse 8 = .ok (.iload_n 1, 1) := by decide +kernel
theorem dX8_refuse_9 : decode cX8_refuse 9 = .ok (.isub, 1) := by decide +kernel
theorem dX8_refuse_10 : decode cX8_refuse 10 = .ok (.goto 5, 3) := by decide +kernel
theorem dX8_refuse_13 : decode cX8_refuse 13 = .ok (.iload_n 1, 1) := by decide +kernel
theorem dX8_refuse_14 : decode cX8_refuse 14 = .ok (.ineg, 1) := by decide +kernel
theorem dX8_refuse_15 : decode cX8_refuse 15 = .ok (.istore_n 2, 1) := by decide +kernel
theorem dX8_refuse_16 : decode cX8_refuse 16 = .ok (.iload_n 2, 1) := by decide +kernel
theorem dX8_refuse_17 : decode cX8_refuse 17 = .ok (.ifCond .le 19, 3) := by decide +kernel
theorem dX8_refuse_20 : decode cX8_refuse 20 = .ok (.iload_n 2, 1) := by decide +kernel
theorem dX8_refuse_21 : decode cX8_refuse 21 = .ok (.bipush 7, 2) := by decide +kernel
theorem dX8_refuse_23 : decode cX8_refuse 23 = .ok (.if_icmp .gt 13, 3) := by decide +kernel
theorem dX8_refuse_26 : decode cX8_refuse 26 = .ok (.aload_n 0, 1) := by decide +kernel
theorem dX8_refuse_27 : decode cX8_refuse 27 = .ok (.getfield 67, 3) := by decide +kernel
theorem dX8_refuse_30 : decode cX8_refuse 30 = .ok (.iload_n 2, 1) := by decide +kernel
theorem dX8_refuse_31 : decode cX8_refuse 31 = .ok (.dup2, 1) := by decide +kernel
theorem dX8_refuse_32 : decode cX8_refuse 32 = .ok (.iaload, 1) := by decide +kernel
theorem dX8_refuse_33 : decode cX8_refuse 33 = .ok (.iconst 1, 1) := by decide +kernel
theorem dX8_refuse_34 : decode cX8_refuse 34 = .ok (.iadd, 1) := by decide +kernel
theorem dX8_refuse_35 : decode cX8_refuse 35 = .ok (.iastore, 1) := by decide +kernel
theorem dX8_refuse_36 : decode cX8_refuse 36 = .ok (.iload_n 1, 1) := by decide +kernel
theorem dX8_refuse_37 : decode cX8_refuse 37 = .ok (.ireturn, 1) := by decide +kernel
theorem dX8_isShelf_0 : decode cX8_isShelf 0 = .ok (.iload_n 0, 1) := by decide +kernel
theorem dX8_isShelf_1 : decode cX8_isShelf 1 = .ok (.ifCond .lt 13, 3) := by decide +kernel
theorem dX8_isShelf_4 : decode cX8_isShelf 4 = .ok (.iload_n 0, 1) := by decide +kernel
theorem dX8_isShelf_5 : decode cX8_isShelf 5 = .ok (.bipush 8, 2) := by decide +kernel
theorem dX8_isShelf_7 : decode cX8_isShelf 7 = .ok (.if_icmp .ge 7, 3) := by decide +kernel
theorem dX8_isShelf_10 : decode cX8_isShelf 10 = .ok (.iconst 1, 1) := by decide +kernel
theorem dX8_isShelf_11 : decode cX8_isShelf 11 = .ok (.goto 4, 3) := by decide +kernel
theorem dX8_isShelf_14 : decode cX8_isShelf 14 = .ok (.iconst 0, 1) := by decide +kernel
theorem dX8_isShelf_15 : decode cX8_isShelf 15 = .ok (.ireturn, 1) := by decide +kernel
theorem dX8_isKind_0 : decode cX8_isKind 0 = .ok (.iload_n 0, 1) := by decide +kernel
theorem dX8_isKind_1 : decode cX8_isKind 1 = .ok (.ifCond .lt 13, 3) := by decide +kernel
theorem dX8_isKind_4 : decode cX8_isKind 4 = .ok (.iload_n 0, 1) := by decide +kernel
theorem dX8_isKind_5 : decode cX8_isKind 5 = .ok (.bipush 7, 2) := by decide +kernel
theorem dX8_isKind_7 : decode cX8_isKind 7 = .ok (.if_icmp .ge 7, 3) := by decide +kernel
theorem dX8_isKind_10 : decode cX8_isKind 10 = .ok (.iconst 1, 1) := by decide +kernel
theorem dX8_isKind_11 : decode cX8_isKind 11 = .ok (.goto 4, 3) := by decide +kernel
theorem dX8_isKind_14 : decode cX8_isKind 14 = .ok (.iconst 0, 1) := by decide +kernel
theorem dX8_isKind_15 : decode cX8_isKind 15 = .ok (.ireturn, 1) := by decide +kernel
theorem dX8_isTerm_0 : decode cX8_isTerm 0 = .ok (.iload_n 0, 1) := by decide +kernel
theorem dX8_isTerm_1 : decode cX8_isTerm 1 = .ok (.ifCond .lt 12, 3) := by decide +kernel
theorem dX8_isTerm_4 : decode cX8_isTerm 4 = .ok (.iload_n 0, 1) := by decide +kernel
theorem dX8_isTerm_5 : decode cX8_isTerm 5 = .ok (.iconst 4, 1) := by decide +kernel
theorem dX8_isTerm_6 : decode cX8_isTerm 6 = .ok (.if_icmp .ge 7, 3) := by decide +kernel
theorem dX8_isTerm_9 : decode cX8_isTerm 9 = .ok (.iconst 1, 1) := by decide +kernel
theorem dX8_isTerm_10 : decode cX8_isTerm 10 = .ok (.goto 4, 3) := by decide +kernel
theorem dX8_isTerm_13 : decode cX8_isTerm 13 = .ok (.iconst 0, 1) := by decide +kernel
theorem dX8_isTerm_14 : decode cX8_isTerm 14 = .ok (.ireturn, 1) := by decide +kernel
theorem dX8_isUnder_0 : decode cX8_isUnder 0 = .ok (.iload_n 0, 1) := by decide +kernel
theorem dX8_isUnder_1 : decode cX8_isUnder 1 = .ok (.istore_n 2, 1) := by decide +kernel
theorem dX8_isUnder_2 : decode cX8_isUnder 2 = .ok (.iconst 0, 1) := by decide +kernel
theorem dX8_isUnder_3 : decode cX8_isUnder 3 = .ok (.istore_n 3, 1) := by decide +kernel
theorem dX8_isUnder_4 : decode cX8_isUnder 4 = .ok (.iload_n 3, 1) := by decide +kernel
theorem dX8_isUnder_5 : decode cX8_isUnder 5 = .ok (.bipush 7, 2) := by decide +kernel
theorem dX8_isUnder_7 : decode cX8_isUnder 7 = .ok (.if_icmp .ge 29, 3) := by decide +kernel
theorem dX8_isUnder_10 : decode cX8_isUnder 10 = .ok (.iload_n 2, 1) := by decide +kernel
theorem dX8_isUnder_11 : decode cX8_isUnder 11 = .ok (.invokestatic 135, 3) := by decide +kernel
theorem dX8_isUnder_14 : decode cX8_isUnder 14 = .ok (.ifCond .eq 22, 3) := by decide +kernel
theorem dX8_isUnder_17 : decode cX8_isUnder 17 = .ok (.iload_n 2, 1) := by decide +kernel
theorem dX8_isUnder_18 : decode cX8_isUnder 18 = .ok (.iload_n 1, 1) := by decide +kernel
theorem dX8_isUnder_19 : decode cX8_isUnder 19 = .ok (.if_icmp .ne 5, 3) := by decide +kernel
theorem dX8_isUnder_22 : decode cX8_isUnder 22 = .ok (.iconst 1, 1) := by decide +kernel
theorem dX8_isUnder_23 : decode cX8_isUnder 23 = .ok (.ireturn, 1) := by decide +kernel
theorem dX8_isUnder_24 : decode cX8_isUnder 24 = .ok (.getstatic 362, 3) := by decide +kernel
theorem dX8_isUnder_27 : decode cX8_isUnder 27 = .ok (.iload_n 2, 1) := by decide +kernel
theorem dX8_isUnder_28 : decode cX8_isUnder 28 = .ok (.iaload, 1) := by decide +kernel
theorem dX8_isUnder_29 : decode cX8_isUnder 29 = .ok (.istore_n 2, 1) := by decide +kernel
theorem dX8_isUnder_30 : decode cX8_isUnder 30 = .ok (.iinc 3 1, 3) := by decide +kernel
theorem dX8_isUnder_33 : decode cX8_isUnder 33 = .ok (.goto (-29), 3) := by decide +kernel
theorem dX8_isUnder_36 : decode cX8_isUnder 36 = .ok (.iconst 0, 1) := by decide +kernel
theorem dX8_isUnder_37 : decode cX8_isUnder 37 = .ok (.ireturn, 1) := by decide +kernel
theorem dX8_bit_0 : decode cX8_bit 0 = .ok (.iload_n 0, 1) := by decide +kernel
theorem dX8_bit_1 : decode cX8_bit 1 = .ok (.ifCond .eq 7, 3) := by decide +kernel
theorem dX8_bit_4 : decode cX8_bit 4 = .ok (.iconst 1, 1) := by decide +kernel
theorem dX8_bit_5 : decode cX8_bit 5 = .ok (.goto 4, 3) := by decide +kernel
theorem dX8_bit_8 : decode cX8_bit 8 = .ok (.iconst 0, 1) := by decide +kernel
theorem dX8_bit_9 : decode cX8_bit 9 = .ok (.ireturn, 1) := by decide +kernel
theorem dX8_areTwoSorts_0 : decode cX8_areTwoSorts 0 = .ok (.aload_n 0, 1) := by decide +kernel
theorem dX8_areTwoSorts_1 : decode cX8_areTwoSorts 1 = .ok (.invokevirtual 105, 3) := by decide +kernel
theorem dX8_areTwoSorts_4 : decode cX8_areTwoSorts 4 = .ok (.ifCond .eq 25, 3) := by decide +kernel
theorem dX8_areTwoSorts_7 : decode cX8_areTwoSorts 7 = .ok (.aload_n 1, 1) := by decide +kernel
theorem dX8_areTwoSorts_8 : decode cX8_areTwoSorts 8 = .ok (.invokevirtual 105, 3) := by decide +kernel
theorem dX8_areTwoSorts_11 : decode cX8_areTwoSorts 11 = .ok (.ifCond .eq 18, 3) := by decide +kernel
theorem dX8_areTwoSorts_14 : decode cX8_areTwoSorts 14 = .ok (.aload_n 0, 1) := by decide +kernel
theorem dX8_areTwoSorts_15 : decode cX8_areTwoSorts 15 = .ok (.getfield 132, 3) := by decide +kernel
theorem dX8_areTwoSorts_18 : decode cX8_areTwoSorts 18 = .ok (.aload_n 1, 1) := by decide +kernel
theorem dX8_areTwoSorts_19 : decode cX8_areTwoSorts 19 = .ok (.getfield 132, 3) := by decide +kernel
theorem dX8_areTwoSorts_22 : decode cX8_areTwoSorts 22 = .ok (.if_icmp .eq 7, 3) := by decide +kernel
theorem dX8_areTwoSorts_25 : decode cX8_areTwoSorts 25 = .ok (.iconst 1, 1) := by decide +kernel
theorem dX8_areTwoSorts_26 : decode cX8_areTwoSorts 26 = .ok (.goto 4, 3) := by decide +kernel
theorem dX8_areTwoSorts_29 : decode cX8_areTwoSorts 29 = .ok (.iconst 0, 1) := by decide +kernel
theorem dX8_areTwoSorts_30 : decode cX8_areTwoSorts 30 = .ok (.ireturn, 1) := by decide +kernel
theorem dX8_whyNoRow_0 : decode cX8_whyNoRow 0 = .ok (.iload_n 1, 1) := by decide +kernel
theorem dX8_whyNoRow_1 : decode cX8_whyNoRow 1 = .ok (.invokestatic 75, 3) := by decide +kernel
theorem dX8_whyNoRow_4 : decode cX8_whyNoRow 4 = .ok (.ifCond .ne 5, 3) := by decide +kernel
theorem dX8_whyNoRow_7 : decode cX8_whyNoRow 7 = .ok (.iconst (-1), 1) := by decide +kernel
theorem dX8_whyNoRow_8 : decode cX8_whyNoRow 8 = .ok (.ireturn, 1) := by decide +kernel
theorem dX8_whyNoRow_9 : decode cX8_whyNoRow 9 = .ok (.aload_n 0, 1) := by decide +kernel
theorem dX8_whyNoRow_10 : decode cX8_whyNoRow 10 = .ok (.getfield 24, 3) := by decide +kernel
theorem dX8_whyNoRow_13 : decode cX8_whyNoRow 13 = .ok (.iload_n 1, 1) := by decide +kernel
theorem dX8_whyNoRow_14 : decode cX8_whyNoRow 14 = .ok (.aaload, 1) := by decide +kernel
theorem dX8_whyNoRow_15 : decode cX8_whyNoRow 15 = .ok (.invokevirtual 97, 3) := by decide +kernel
theorem dX8_whyNoRow_18 : decode cX8_whyNoRow 18 = .ok (.ifCond .eq 6, 3) := by decide +kernel
theorem dX8_whyNoRow_21 : decode cX8_whyNoRow 21 = .ok (.bipush (-2), 2) := by decide +kernel
theorem dX8_whyNoRow_23 : decode cX8_whyNoRow 23 = .ok (.ireturn, 1) := by decide +kernel
theorem dX8_whyNoRow_24 : decode cX8_whyNoRow 24 = .ok (.aload_n 0, 1) := by decide +kernel
theorem dX8_whyNoRow_25 : decode cX8_whyNoRow 25 = .ok (.getfield 24, 3) := by decide +kernel
theorem dX8_whyNoRow_28 : decode cX8_whyNoRow 28 = .ok (.iload_n 1, 1) := by decide +kernel
theorem dX8_whyNoRow_29 : decode cX8_whyNoRow 29 = .ok (.aaload, 1) := by decide +kernel
theorem dX8_whyNoRow_30 : decode cX8_whyNoRow 30 = .ok (.invokevirtual 105, 3) := by decide +kernel
theorem dX8_whyNoRow_33 : decode cX8_whyNoRow 33 = .ok (.ifCond .eq 7, 3) := by decide +kernel
theorem dX8_whyNoRow_36 : decode cX8_whyNoRow 36 = .ok (.iconst 0, 1) := by decide +kernel
theorem dX8_whyNoRow_37 : decode cX8_whyNoRow 37 = .ok (.goto 5, 3) := by decide +kernel
theorem dX8_whyNoRow_40 : decode cX8_whyNoRow 40 = .ok (.bipush (-3), 2) := by decide +kernel
theorem dX8_whyNoRow_42 : decode cX8_whyNoRow 42 = .ok (.ireturn, 1) := by decide +kernel
theorem dX8_saysAs_0 : decode cX8_saysAs 0 = .ok (.aload_n 0, 1) := by decide +kernel
theorem dX8_saysAs_1 : decode cX8_saysAs 1 = .ok (.getfield 31, 3) := by decide +kernel
theorem dX8_saysAs_4 : decode cX8_saysAs 4 = .ok (.aload_n 0, 1) := by decide +kernel
theorem dX8_saysAs_5 : decode cX8_saysAs 5 = .ok (.getfield 10, 3) := by decide +kernel
theorem dX8_saysAs_8 : decode cX8_saysAs 8 = .ok (.iload_n 1, 1) := by decide +kernel
theorem dX8_saysAs_9 : decode cX8_saysAs 9 = .ok (.invokevirtual 167, 3) := by decide +kernel
theorem dX8_saysAs_12 : decode cX8_saysAs 12 = .ok (.aload_n 0, 1) := by decide +kernel
theorem dX8_saysAs_13 : decode cX8_saysAs 13 = .ok (.getfield 31, 3) := by decide +kernel
theorem dX8_saysAs_16 : decode cX8_saysAs 16 = .ok (.aload_n 0, 1) := by decide +kernel
theorem dX8_saysAs_17 : decode cX8_saysAs 17 = .ok (.getfield 10, 3) := by decide +kernel
theorem dX8_saysAs_20 : decode cX8_saysAs 20 = .ok (.invokevirtual 171, 3) := by decide +kernel
theorem dX8_saysAs_23 : decode cX8_saysAs 23 = .ok (.iload_n 2, 1) := by decide +kernel
theorem dX8_saysAs_24 : decode cX8_saysAs 24 = .ok (.tableswitch 67 0 5 #[40, 51, 59, 51, 67, 59], 40) := by decide +kernel
theorem dX8_saysAs_64 : decode cX8_saysAs 64 = .ok (.aload_n 0, 1) := by decide +kernel
theorem dX8_saysAs_65 : decode cX8_saysAs 65 = .ok (.getfield 31, 3) := by decide +kernel
theorem dX8_saysAs_68 : decode cX8_saysAs 68 = .ok (.getfield 175, 3) := by decide +kernel
theorem dX8_saysAs_71 : decode cX8_saysAs 71 = .ok (.getfield 182, 3) := by decide +kernel
theorem dX8_saysAs_74 : decode cX8_saysAs 74 = .ok (.ireturn, 1) := by decide +kernel
theorem dX8_saysAs_75 : decode cX8_saysAs 75 = .ok (.aload_n 0, 1) := by decide +kernel
theorem dX8_saysAs_76 : decode cX8_saysAs 76 = .ok (.getfield 31, 3) := by decide +kernel
theorem dX8_saysAs_79 : decode cX8_saysAs 79 = .ok (.getfield 194, 3) := by decide +kernel
theorem dX8_saysAs_82 : decode cX8_saysAs 82 = .ok (.ireturn, 1) := by decide +kernel
theorem dX8_saysAs_83 : decode cX8_saysAs 83 = .ok (.aload_n 0, 1) := by decide +kernel
theorem dX8_saysAs_84 : decode cX8_saysAs 84 = .ok (.getfield 31, 3) := by decide +kernel
theorem dX8_saysAs_87 : decode cX8_saysAs 87 = .ok (.getfield 191, 3) := by decide +kernel
theorem dX8_saysAs_90 : decode cX8_saysAs 90 = .ok (.ireturn, 1) := by decide +kernel
theorem dX8_saysAs_91 : decode cX8_saysAs 91 = .ok (.aload_n 0, 1) := by decide +kernel
theorem dX8_saysAs_92 : decode cX8_saysAs 92 = .ok (.getfield 31, 3) := by decide +kernel
theorem dX8_saysAs_95 : decode cX8_saysAs 95 = .ok (.getfield 197, 3) := by decide +kernel
theorem dX8_saysAs_98 : decode cX8_saysAs 98 = .ok (.ireturn, 1) := by decide +kernel
theorem dX8_timeOf_0 : decode cX8_timeOf 0 = .ok (.aload_n 0, 1) := by decide +kernel
theorem dX8_timeOf_1 : decode cX8_timeOf 1 = .ok (.getfield 31, 3) := by decide +kernel
theorem dX8_timeOf_4 : decode cX8_timeOf 4 = .ok (.aload_n 0, 1) := by decide +kernel
theorem dX8_timeOf_5 : decode cX8_timeOf 5 = .ok (.getfield 10, 3) := by decide +kernel
theorem dX8_timeOf_8 : decode cX8_timeOf 8 = .ok (.iload_n 1, 1) := by decide +kernel
theorem dX8_timeOf_9 : decode cX8_timeOf 9 = .ok (.invokevirtual 167, 3) := by decide +kernel
theorem dX8_timeOf_12 : decode cX8_timeOf 12 = .ok (.aload_n 0, 1) := by decide +kernel
theorem dX8_timeOf_13 : decode cX8_timeOf 13 = .ok (.getfield 31, 3) := by decide +kernel
theorem dX8_timeOf_16 : decode cX8_timeOf 16 = .ok (.aload_n 0, 1) := by decide +kernel
theorem dX8_timeOf_17 : decode cX8_timeOf 17 = .ok (.getfield 10, 3) := by decide +kernel
theorem dX8_timeOf_20 : decode cX8_timeOf 20 = .ok (.invokevirtual 319, 3) := by decide +kernel
theorem dX8_timeOf_23 : decode cX8_timeOf 23 = .ok (.ireturn, 1) := by decide +kernel
theorem dX8_timeAs_0 : decode cX8_timeAs 0 = .ok (.aload_n 0, 1) := by decide +kernel
theorem dX8_timeAs_1 : decode cX8_timeAs 1 = .ok (.getfield 31, 3) := by decide +kernel
theorem dX8_timeAs_4 : decode cX8_timeAs 4 = .ok (.aload_n 0, 1) := by decide +kernel
theorem dX8_timeAs_5 : decode cX8_timeAs 5 = .ok (.getfield 10, 3) := by decide +kernel
theorem dX8_timeAs_8 : decode cX8_timeAs 8 = .ok (.iload_n 1, 1) := by decide +kernel
theorem dX8_timeAs_9 : decode cX8_timeAs 9 = .ok (.invokevirtual 167, 3) := by decide +kernel
theorem dX8_timeAs_12 : decode cX8_timeAs 12 = .ok (.aload_n 0, 1) := by decide +kernel
theorem dX8_timeAs_13 : decode cX8_timeAs 13 = .ok (.getfield 31, 3) := by decide +kernel
theorem dX8_timeAs_16 : decode cX8_timeAs 16 = .ok (.getfield 175, 3) := by decide +kernel
theorem dX8_timeAs_19 : decode cX8_timeAs 19 = .ok (.iload_n 2, 1) := by decide +kernel
theorem dX8_timeAs_20 : decode cX8_timeAs 20 = .ok (.putfield 142, 3) := by decide +kernel
theorem dX8_timeAs_23 : decode cX8_timeAs 23 = .ok (.aload_n 0, 1) := by decide +kernel
theorem dX8_timeAs_24 : decode cX8_timeAs 24 = .ok (.getfield 31, 3) := by decide +kernel
theorem dX8_timeAs_27 : decode cX8_timeAs 27 = .ok (.aload_n 0, 1) := by decide +kernel
theorem dX8_timeAs_28 : decode cX8_timeAs 28 = .ok (.getfield 10, 3) := by decide +kernel
theorem dX8_timeAs_31 : decode cX8_timeAs 31 = .ok (.invokevirtual 319, 3) := by decide +kernel
theorem dX8_timeAs_34 : decode cX8_timeAs 34 = .ok (.ireturn, 1) := by decide +kernel
theorem dX8_timeIn_0 : decode cX8_timeIn 0 = .ok (.aload_n 0, 1) := by decide +kernel
theorem dX8_timeIn_1 : decode cX8_timeIn 1 = .ok (.getfield 31, 3) := by decide +kernel
theorem dX8_timeIn_4 : decode cX8_timeIn 4 = .ok (.aload_n 0, 1) := by decide +kernel
theorem dX8_timeIn_5 : decode cX8_timeIn 5 = .ok (.getfield 10, 3) := by decide +kernel
theorem dX8_timeIn_8 : decode cX8_timeIn 8 = .ok (.iload_n 1, 1) := by decide +kernel
theorem dX8_timeIn_9 : decode cX8_timeIn 9 = .ok (.invokevirtual 167, 3) := by decide +kernel
theorem dX8_timeIn_12 : decode cX8_timeIn 12 = .ok (.aload_n 0, 1) := by decide +kernel
theorem dX8_timeIn_13 : decode cX8_timeIn 13 = .ok (.getfield 31, 3) := by decide +kernel
theorem dX8_timeIn_16 : decode cX8_timeIn 16 = .ok (.getfield 175, 3) := by decide +kernel
theorem dX8_timeIn_19 : decode cX8_timeIn 19 = .ok (.iload_n 2, 1) := by decide +kernel
theorem dX8_timeIn_20 : decode cX8_timeIn 20 = .ok (.putfield 185, 3) := by decide +kernel
theorem dX8_timeIn_23 : decode cX8_timeIn 23 = .ok (.aload_n 0, 1) := by decide +kernel
theorem dX8_timeIn_24 : decode cX8_timeIn 24 = .ok (.getfield 31, 3) := by decide +kernel
theorem dX8_timeIn_27 : decode cX8_timeIn 27 = .ok (.aload_n 0, 1) := by decide +kernel
theorem dX8_timeIn_28 : decode cX8_timeIn 28 = .ok (.getfield 10, 3) := by decide +kernel
theorem dX8_timeIn_31 : decode cX8_timeIn 31 = .ok (.invokevirtual 319, 3) := by decide +kernel
theorem dX8_timeIn_34 : decode cX8_timeIn 34 = .ok (.ireturn, 1) := by decide +kernel
theorem dX8_timeRolling_0 : decode cX8_timeRolling 0 = .ok (.aload_n 0, 1) := by decide +kernel
theorem dX8_timeRolling_1 : decode cX8_timeRolling 1 = .ok (.getfield 31, 3) := by decide +kernel
theorem dX8_timeRolling_4 : decode cX8_timeRolling 4 = .ok (.aload_n 0, 1) := by decide +kernel
theorem dX8_timeRolling_5 : decode cX8_timeRolling 5 = .ok (.getfield 10, 3) := by decide +kernel
theorem dX8_timeRolling_8 : decode cX8_timeRolling 8 = .ok (.iload_n 1, 1) := by decide +kernel
theorem dX8_timeRolling_9 : decode cX8_timeRolling 9 = .ok (.invokevirtual 167, 3) := by decide +kernel
theorem dX8_timeRolling_12 : decode cX8_timeRolling 12 = .ok (.aload_n 0, 1) := by decide +kernel
theorem dX8_timeRolling_13 : decode cX8_timeRolling 13 = .ok (.getfield 31, 3) := by decide +kernel
theorem dX8_timeRolling_16 : decode cX8_timeRolling 16 = .ok (.iload_n 2, 1) := by decide +kernel
theorem dX8_timeRolling_17 : decode cX8_timeRolling 17 = .ok (.putfield 365, 3) := by decide +kernel
theorem dX8_timeRolling_20 : decode cX8_timeRolling 20 = .ok (.aload_n 0, 1) := by decide +kernel
theorem dX8_timeRolling_21 : decode cX8_timeRolling 21 = .ok (.getfield 31, 3) := by decide +kernel
theorem dX8_timeRolling_24 : decode cX8_timeRolling 24 = .ok (.aload_n 0, 1) := by decide +kernel
theorem dX8_timeRolling_25 : decode cX8_timeRolling 25 = .ok (.getfield 10, 3) := by decide +kernel
theorem dX8_timeRolling_28 : decode cX8_timeRolling 28 = .ok (.invokevirtual 319, 3) := by decide +kernel
theorem dX8_timeRolling_31 : decode cX8_timeRolling 31 = .ok (.ireturn, 1) := by decide +kernel
theorem dX8_timeOfTwo_0 : decode cX8_timeOfTwo 0 = .ok (.aload_n 0, 1) := by decide +kernel
theorem dX8_timeOfTwo_1 : decode cX8_timeOfTwo 1 = .ok (.getfield 10, 3) := by decide +kernel
theorem dX8_timeOfTwo_4 : decode cX8_timeOfTwo 4 = .ok (.getfield 138, 3) := by decide +kernel
theorem dX8_timeOfTwo_7 : decode cX8_timeOfTwo 7 = .ok (.iload_n 1, 1) := by decide +kernel
theorem dX8_timeOfTwo_8 : decode cX8_timeOfTwo 8 = .ok (.aaload, 1) := by decide +kernel
theorem dX8_timeOfTwo_9 : decode cX8_timeOfTwo 9 = .ok (.getfield 182, 3) := by decide +kernel
theorem dX8_timeOfTwo_12 : decode cX8_timeOfTwo 12 = .ok (.istore 4, 2) := by decide +kernel
theorem dX8_timeOfTwo_14 : decode cX8_timeOfTwo 14 = .ok (.aload_n 0, 1) := by decide +kernel
theorem dX8_timeOfTwo_15 : decode cX8_timeOfTwo 15 = .ok (.getfield 10, 3) := by decide +kernel
theorem dX8_timeOfTwo_18 : decode cX8_timeOfTwo 18 = .ok (.getfield 138, 3) := by decide +kernel
theorem dX8_timeOfTwo_21 : decode cX8_timeOfTwo 21 = .ok (.iload_n 2, 1) := by decide +kernel
theorem dX8_timeOfTwo_22 : decode cX8_timeOfTwo 22 = .ok (.aaload, 1) := by decide +kernel
theorem dX8_timeOfTwo_23 : decode cX8_timeOfTwo 23 = .ok (.getfield 182, 3) := by decide +kernel
theorem dX8_timeOfTwo_26 : decode cX8_timeOfTwo 26 = .ok (.istore 5, 2) := by decide +kernel
theorem dX8_timeOfTwo_28 : decode cX8_timeOfTwo 28 = .ok (.aload_n 0, 1) := by decide +kernel
theorem dX8_timeOfTwo_29 : decode cX8_timeOfTwo 29 = .ok (.getfield 31, 3) := by decide +kernel
theorem dX8_timeOfTwo_32 : decode cX8_timeOfTwo 32 = .ok (.aload_n 0, 1) := by decide +kernel
theorem dX8_timeOfTwo_33 : decode cX8_timeOfTwo 33 = .ok (.getfield 10, 3) := by decide +kernel
theorem dX8_timeOfTwo_36 : decode cX8_timeOfTwo 36 = .ok (.iload_n 1, 1) := by decide +kernel
theorem dX8_timeOfTwo_37 : decode cX8_timeOfTwo 37 = .ok (.invokevirtual 167, 3) := by decide +kernel
theorem dX8_timeOfTwo_40 : decode cX8_timeOfTwo 40 = .ok (.aload_n 0, 1) := by decide +kernel
theorem dX8_timeOfTwo_41 : decode cX8_timeOfTwo 41 = .ok (.getfield 31, 3) := by decide +kernel
theorem dX8_timeOfTwo_44 : decode cX8_timeOfTwo 44 = .ok (.getfield 175, 3) := by decide +kernel
theorem dX8_timeOfTwo_47 : decode cX8_timeOfTwo 47 = .ok (.iload 4, 2) := by decide +kernel
theorem dX8_timeOfTwo_49 : decode cX8_timeOfTwo 49 = .ok (.iload 5, 2) := by decide +kernel
theorem dX8_timeOfTwo_51 : decode cX8_timeOfTwo 51 = .ok (.invokestatic 366, 3) := by decide +kernel
theorem dX8_timeOfTwo_54 : decode cX8_timeOfTwo 54 = .ok (.putfield 182, 3) := by decide +kernel
theorem dX8_timeOfTwo_57 : decode cX8_timeOfTwo 57 = .ok (.aload_n 0, 1) := by decide +kernel
theorem dX8_timeOfTwo_58 : decode cX8_timeOfTwo 58 = .ok (.getfield 31, 3) := by decide +kernel
theorem dX8_timeOfTwo_61 : decode cX8_timeOfTwo 61 = .ok (.getfield 175, 3) := by decide +kernel
theorem dX8_timeOfTwo_64 : decode cX8_timeOfTwo 64 = .ok (.iload_n 3, 1) := by decide +kernel
theorem dX8_timeOfTwo_65 : decode cX8_timeOfTwo 65 = .ok (.putfield 185, 3) := by decide +kernel
theorem dX8_timeOfTwo_68 : decode cX8_timeOfTwo 68 = .ok (.aload_n 0, 1) := by decide +kernel
theorem dX8_timeOfTwo_69 : decode cX8_timeOfTwo 69 = .ok (.getfield 31, 3) := by decide +kernel
theorem dX8_timeOfTwo_72 : decode cX8_timeOfTwo 72 = .ok (.iload 4, 2) := by decide +kernel
theorem dX8_timeOfTwo_74 : decode cX8_timeOfTwo 74 = .ok (.iload 5, 2) := by decide +kernel
theorem dX8_timeOfTwo_76 : decode cX8_timeOfTwo 76 = .ok (.isub, 1) := by decide +kernel
theorem dX8_timeOfTwo_77 : decode cX8_timeOfTwo 77 = .ok (.invokestatic 371, 3) := by decide +kernel
theorem dX8_timeOfTwo_80 : decode cX8_timeOfTwo 80 = .ok (.putfield 374, 3) := by decide +kernel
theorem dX8_timeOfTwo_83 : decode cX8_timeOfTwo 83 = .ok (.aload_n 0, 1) := by decide +kernel
theorem dX8_timeOfTwo_84 : decode cX8_timeOfTwo 84 = .ok (.getfield 31, 3) := by decide +kernel
theorem dX8_timeOfTwo_87 : decode cX8_timeOfTwo 87 = .ok (.aload_n 0, 1) := by decide +kernel
theorem dX8_timeOfTwo_88 : decode cX8_timeOfTwo 88 = .ok (.getfield 10, 3) := by decide +kernel
theorem dX8_timeOfTwo_91 : decode cX8_timeOfTwo 91 = .ok (.invokevirtual 319, 3) := by decide +kernel
theorem dX8_timeOfTwo_94 : decode cX8_timeOfTwo 94 = .ok (.ireturn, 1) := by decide +kernel
theorem dX8_timeAll_0 : decode cX8_timeAll 0 = .ok (.iconst 0, 1) := by decide +kernel
theorem dX8_timeAll_1 : decode cX8_timeAll 1 = .ok (.istore_n 1, 1) := by decide +kernel
theorem dX8_timeAll_2 : decode cX8_timeAll 2 = .ok (.iload_n 1, 1) := by decide +kernel
theorem dX8_timeAll_3 : decode cX8_timeAll 3 = .ok (.aload_n 0, 1) := by decide +kernel
theorem dX8_timeAll_4 : decode cX8_timeAll 4 = .ok (.getfield 10, 3) := by decide +kernel
theorem dX8_timeAll_7 : decode cX8_timeAll 7 = .ok (.getfield 154, 3) := by decide +kernel
theorem dX8_timeAll_10 : decode cX8_timeAll 10 = .ok (.if_icmp .ge 20, 3) := by decide +kernel
theorem dX8_timeAll_13 : decode cX8_timeAll 13 = .ok (.aload_n 0, 1) := by decide +kernel
theorem dX8_timeAll_14 : decode cX8_timeAll 14 = .ok (.getfield 60, 3) := by decide +kernel
theorem dX8_timeAll_17 : decode cX8_timeAll 17 = .ok (.iload_n 1, 1) := by decide +kernel
theorem dX8_timeAll_18 : decode cX8_timeAll 18 = .ok (.aload_n 0, 1) := by decide +kernel
theorem dX8_timeAll_19 : decode cX8_timeAll 19 = .ok (.iload_n 1, 1) := by decide +kernel
theorem dX8_timeAll_20 : decode cX8_timeAll 20 = .ok (.invokevirtual 268, 3) := by decide +kernel
theorem dX8_timeAll_23 : decode cX8_timeAll 23 = .ok (.iastore, 1) := by decide +kernel
theorem dX8_timeAll_24 : decode cX8_timeAll 24 = .ok (.iinc 1 1, 3) := by decide +kernel
theorem dX8_timeAll_27 : decode cX8_timeAll 27 = .ok (.goto (-25), 3) := by decide +kernel
theorem dX8_timeAll_30 : decode cX8_timeAll 30 = .ok (.return_, 1) := by decide +kernel
theorem dX8_winner_0 : decode cX8_winner 0 = .ok (.iconst 0, 1) := by decide +kernel
theorem dX8_winner_1 : decode cX8_winner 1 = .ok (.istore_n 1, 1) := by decide +kernel
theorem dX8_winner_2 : decode cX8_winner 2 = .ok (.iconst 1, 1) := by decide +kernel
theorem dX8_winner_3 : decode cX8_winner 3 = .ok (.istore_n 2, 1) := by decide +kernel
theorem dX8_winner_4 : decode cX8_winner 4 = .ok (.iload_n 2, 1) := by decide +kernel
theorem dX8_winner_5 : decode cX8_winner 5 = .ok (.aload_n 0, 1) := by decide +kernel
theorem dX8_winner_6 : decode cX8_winner 6 = .ok (.getfield 10, 3) := by decide +kernel
theorem dX8_winner_9 : decode cX8_winner 9 = .ok (.getfield 154, 3) := by decide +kernel
theorem dX8_winner_12 : decode cX8_winner 12 = .ok (.if_icmp .ge 26, 3) := by decide +kernel
theorem dX8_winner_15 : decode cX8_winner 15 = .ok (.aload_n 0, 1) := by decide +kernel
theorem dX8_winner_16 : decode cX8_winner 16 = .ok (.getfield 60, 3) := by decide +kernel
theorem dX8_winner_19 : decode cX8_winner 19 = .ok (.iload_n 2, 1) := by decide +kernel
theorem dX8_winner_20 : decode cX8_winner 20 = .ok (.iaload, 1) := by decide +kernel
theorem dX8_winner_21 : decode cX8_winner 21 = .ok (.aload_n 0, 1) := by decide +kernel
theorem dX8_winner_22 : decode cX8_winner 22 = .ok (.getfield 60, 3) := by decide +kernel
theorem dX8_winner_25 : decode cX8_winner 25 = .ok (.iload_n 1, 1) := by decide +kernel
theorem dX8_winner_26 : decode cX8_winner 26 = .ok (.iaload, 1) := by decide +kernel
theorem dX8_winner_27 : decode cX8_winner 27 = .ok (.if_icmp .ge 5, 3) := by decide +kernel
theorem dX8_winner_30 : decode cX8_winner 30 = .ok (.iload_n 2, 1) := by decide +kernel
theorem dX8_winner_31 : decode cX8_winner 31 = .ok (.istore_n 1, 1) := by decide +kernel
theorem dX8_winner_32 : decode cX8_winner 32 = .ok (.iinc 2 1, 3) := by decide +kernel
theorem dX8_winner_35 : decode cX8_winner 35 = .ok (.goto (-31), 3) := by decide +kernel
theorem dX8_winner_38 : decode cX8_winner 38 = .ok (.iload_n 1, 1) := by decide +kernel
theorem dX8_winner_39 : decode cX8_winner 39 = .ok (.ireturn, 1) := by decide +kernel
theorem dX8_leadOf_0 : decode cX8_leadOf 0 = .ok (.sipush 1000, 3) := by decide +kernel
theorem dX8_leadOf_3 : decode cX8_leadOf 3 = .ok (.istore_n 2, 1) := by decide +kernel
theorem dX8_leadOf_4 : decode cX8_leadOf 4 = .ok (.iconst 0, 1) := by decide +kernel
theorem dX8_leadOf_5 : decode cX8_leadOf 5 = .ok (.istore_n 3, 1) := by decide +kernel
theorem dX8_leadOf_6 : decode cX8_leadOf 6 = .ok (.iload_n 3, 1) := by decide +kernel
theorem dX8_leadOf_7 : decode cX8_leadOf 7 = .ok (.aload_n 0, 1) := by decide +kernel
theorem dX8_leadOf_8 : decode cX8_leadOf 8 = .ok (.getfield 10, 3) := by decide +kernel
theorem dX8_leadOf_11 : decode cX8_leadOf 11 = .ok (.getfield 154, 3) := by decide +kernel
theorem dX8_leadOf_14 : decode cX8_leadOf 14 = .ok (.if_icmp .ge 25, 3) := by decide +kernel
theorem dX8_leadOf_17 : decode cX8_leadOf 17 = .ok (.iload_n 3, 1) := by decide +kernel
theorem dX8_leadOf_18 : decode cX8_leadOf 18 = .ok (.iload_n 1, 1) := by decide +kernel
theorem dX8_leadOf_19 : decode cX8_leadOf 19 = .ok (.if_icmp .eq 14, 3) := by decide +kernel
theorem dX8_leadOf_22 : decode cX8_leadOf 22 = .ok (.iload_n 2, 1) := by decide +kernel
theorem dX8_leadOf_23 : decode cX8_leadOf 23 = .ok (.aload_n 0, 1) := by decide +kernel
theorem dX8_leadOf_24 : decode cX8_leadOf 24 = .ok (.getfield 60, 3) := by decide +kernel
theorem dX8_leadOf_27 : decode cX8_leadOf 27 = .ok (.iload_n 3, 1) := by decide +kernel
theorem dX8_leadOf_28 : decode cX8_leadOf 28 = .ok (.iaload, 1) := by decide +kernel
theorem dX8_leadOf_29 : decode cX8_leadOf 29 = .ok (.invokestatic 366, 3) := by decide +kernel
theorem dX8_leadOf_32 : decode cX8_leadOf 32 = .ok (.istore_n 2, 1) := by decide +kernel
theorem dX8_leadOf_33 : decode cX8_leadOf 33 = .ok (.iinc 3 1, 3) := by decide +kernel
theorem dX8_leadOf_36 : decode cX8_leadOf 36 = .ok (.goto (-30), 3) := by decide +kernel
theorem dX8_leadOf_39 : decode cX8_leadOf 39 = .ok (.iload_n 2, 1) := by decide +kernel
theorem dX8_leadOf_40 : decode cX8_leadOf 40 = .ok (.sipush 999, 3) := by decide +kernel
theorem dX8_leadOf_43 : decode cX8_leadOf 43 = .ok (.if_icmp .le 7, 3) := by decide +kernel
theorem dX8_leadOf_46 : decode cX8_leadOf 46 = .ok (.iconst 0, 1) := by decide +kernel
theorem dX8_leadOf_47 : decode cX8_leadOf 47 = .ok (.goto 11, 3) := by decide +kernel
theorem dX8_leadOf_50 : decode cX8_leadOf 50 = .ok (.iload_n 2, 1) := by decide +kernel
theorem dX8_leadOf_51 : decode cX8_leadOf 51 = .ok (.aload_n 0, 1) := by decide +kernel
theorem dX8_leadOf_52 : decode cX8_leadOf 52 = .ok (.getfield 60, 3) := by decide +kernel
theorem dX8_leadOf_55 : decode cX8_leadOf 55 = .ok (.iload_n 1, 1) := by decide +kernel
theorem dX8_leadOf_56 : decode cX8_leadOf 56 = .ok (.iaload, 1) := by decide +kernel
theorem dX8_leadOf_57 : decode cX8_leadOf 57 = .ok (.isub, 1) := by decide +kernel
theorem dX8_leadOf_58 : decode cX8_leadOf 58 = .ok (.ireturn, 1) := by decide +kernel
theorem dX8_bestKind_0 : decode cX8_bestKind 0 = .ok (.iconst (-1), 1) := by decide +kernel
theorem dX8_bestKind_1 : decode cX8_bestKind 1 = .ok (.istore_n 2, 1) := by decide +kernel
theorem dX8_bestKind_2 : decode cX8_bestKind 2 = .ok (.sipush 1000, 3) := by decide +kernel
theorem dX8_bestKind_5 : decode cX8_bestKind 5 = .ok (.istore_n 3, 1) := by decide +kernel
theorem dX8_bestKind_6 : decode cX8_bestKind 6 = .ok (.iconst 0, 1) := by decide +kernel
theorem dX8_bestKind_7 : decode cX8_bestKind 7 = .ok (.istore 4, 2) := by decide +kernel
theorem dX8_bestKind_9 : decode cX8_bestKind 9 = .ok (.iload 4, 2) := by decide +kernel
theorem dX8_bestKind_11 : decode cX8_bestKind 11 = .ok (.bipush 7, 2) := by decide +kernel
theorem dX8_bestKind_13 : decode cX8_bestKind 13 = .ok (.if_icmp .ge 30, 3) := by decide +kernel
theorem dX8_bestKind_16 : decode cX8_bestKind 16 = .ok (.aload_n 0, 1) := by decide +kernel
theorem dX8_bestKind_17 : decode cX8_bestKind 17 = .ok (.iload_n 1, 1) := by decide +kernel
theorem dX8_bestKind_18 : decode cX8_bestKind 18 = .ok (.iload 4, 2) := by decide +kernel
theorem dX8_bestKind_20 : decode cX8_bestKind 20 = .ok (.invokevirtual 284, 3) := by decide +kernel
theorem dX8_bestKind_23 : decode cX8_bestKind 23 = .ok (.istore 5, 2) := by decide +kernel
theorem dX8_bestKind_25 : decode cX8_bestKind 25 = .ok (.iload 5, 2) := by decide +kernel
theorem dX8_bestKind_27 : decode cX8_bestKind 27 = .ok (.iload_n 3, 1) := by decide +kernel
theorem dX8_bestKind_28 : decode cX8_bestKind 28 = .ok (.if_icmp .ge 9, 3) := by decide +kernel
theorem dX8_bestKind_31 : decode cX8_bestKind 31 = .ok (.iload 5, 2) := by decide +kernel
theorem dX8_bestKind_33 : decode cX8_bestKind 33 = .ok (.istore_n 3, 1) := by decide +kernel
theorem dX8_bestKind_34 : decode cX8_bestKind 34 = .ok (.iload 4, 2) := by decide +kernel
theorem dX8_bestKind_36 : decode cX8_bestKind 36 = .ok (.istore_n 2, 1) := by decide +kernel
theorem dX8_bestKind_37 : decode cX8_bestKind 37 = .ok (.iinc 4 1, 3) := by decide +kernel
theorem dX8_bestKind_40 : decode cX8_bestKind 40 = .ok (.goto (-31), 3) := by decide +kernel
theorem dX8_bestKind_43 : decode cX8_bestKind 43 = .ok (.iload_n 2, 1) := by decide +kernel
theorem dX8_bestKind_44 : decode cX8_bestKind 44 = .ok (.ireturn, 1) := by decide +kernel
theorem dX8_bestSack_0 : decode cX8_bestSack 0 = .ok (.iconst (-1), 1) := by decide +kernel
theorem dX8_bestSack_1 : decode cX8_bestSack 1 = .ok (.istore_n 2, 1) := by decide +kernel
theorem dX8_bestSack_2 : decode cX8_bestSack 2 = .ok (.sipush 1000, 3) := by decide +kernel
theorem dX8_bestSack_5 : decode cX8_bestSack 5 = .ok (.istore_n 3, 1) := by decide +kernel
theorem dX8_bestSack_6 : decode cX8_bestSack 6 = .ok (.iconst 0, 1) := by decide +kernel
theorem dX8_bestSack_7 : decode cX8_bestSack 7 = .ok (.istore 4, 2) := by decide +kernel
theorem dX8_bestSack_9 : decode cX8_bestSack 9 = .ok (.iload 4, 2) := by decide +kernel
theorem dX8_bestSack_11 : decode cX8_bestSack 11 = .ok (.aload_n 0, 1) := by decide +kernel
theorem dX8_bestSack_12 : decode cX8_bestSack 12 = .ok (.getfield 10, 3) := by decide +kernel
theorem dX8_bestSack_15 : decode cX8_bestSack 15 = .ok (.getfield 161, 3) := by decide +kernel
theorem dX8_bestSack_18 : decode cX8_bestSack 18 = .ok (.if_icmp .ge 30, 3) := by decide +kernel
theorem dX8_bestSack_21 : decode cX8_bestSack 21 = .ok (.aload_n 0, 1) := by decide +kernel
theorem dX8_bestSack_22 : decode cX8_bestSack 22 = .ok (.iload_n 1, 1) := by decide +kernel
theorem dX8_bestSack_23 : decode cX8_bestSack 23 = .ok (.iload 4, 2) := by decide +kernel
theorem dX8_bestSack_25 : decode cX8_bestSack 25 = .ok (.invokevirtual 294, 3) := by decide +kernel
theorem dX8_bestSack_28 : decode cX8_bestSack 28 = .ok (.istore 5, 2) := by decide +kernel
theorem dX8_bestSack_30 : decode cX8_bestSack 30 = .ok (.iload 5, 2) := by decide +kernel
theorem dX8_bestSack_32 : decode cX8_bestSack 32 = .ok (.iload_n 3, 1) := by decide +kernel
theorem dX8_bestSack_33 : decode cX8_bestSack 33 = .ok (.if_icmp .ge 9, 3) := by decide +kernel
theorem dX8_bestSack_36 : decode cX8_bestSack 36 = .ok (.iload 5, 2) := by decide +kernel
theorem dX8_bestSack_38 : decode cX8_bestSack 38 = .ok (.istore_n 3, 1) := by decide +kernel
theorem dX8_bestSack_39 : decode cX8_bestSack 39 = .ok (.iload 4, 2) := by decide +kernel
theorem dX8_bestSack_41 : decode cX8_bestSack 41 = .ok (.istore_n 2, 1) := by decide +kernel
theorem dX8_bestSack_42 : decode cX8_bestSack 42 = .ok (.iinc 4 1, 3) := by decide +kernel
theorem dX8_bestSack_45 : decode cX8_bestSack 45 = .ok (.goto (-36), 3) := by decide +kernel
theorem dX8_bestSack_48 : decode cX8_bestSack 48 = .ok (.iload_n 2, 1) := by decide +kernel
theorem dX8_bestSack_49 : decode cX8_bestSack 49 = .ok (.ireturn, 1) := by decide +kernel
theorem dX8_leastAhead_0 : decode cX8_leastAhead 0 = .ok (.aload_n 0, 1) := by decide +kernel
theorem dX8_leastAhead_1 : decode cX8_leastAhead 1 = .ok (.getfield 31, 3) := by decide +kernel
theorem dX8_leastAhead_4 : decode cX8_leastAhead 4 = .ok (.aload_n 0, 1) := by decide +kernel
theorem dX8_leastAhead_5 : decode cX8_leastAhead 5 = .ok (.getfield 10, 3) := by decide +kernel
theorem dX8_leastAhead_8 : decode cX8_leastAhead 8 = .ok (.iload_n 1, 1) := by decide +kernel
theorem dX8_leastAhead_9 : decode cX8_leastAhead 9 = .ok (.invokevirtual 167, 3) := by decide +kernel
theorem dX8_leastAhead_12 : decode cX8_leastAhead 12 = .ok (.aload_n 0, 1) := by decide +kernel
theorem dX8_leastAhead_13 : decode cX8_leastAhead 13 = .ok (.getfield 31, 3) := by decide +kernel
theorem dX8_leastAhead_16 : decode cX8_leastAhead 16 = .ok (.aload_n 0, 1) := by decide +kernel
theorem dX8_leastAhead_17 : decode cX8_leastAhead 17 = .ok (.getfield 10, 3) := by decide +kernel
theorem dX8_leastAhead_20 : decode cX8_leastAhead 20 = .ok (.iload_n 2, 1) := by decide +kernel
theorem dX8_leastAhead_21 : decode cX8_leastAhead 21 = .ok (.invokevirtual 377, 3) := by decide +kernel
theorem dX8_leastAhead_24 : decode cX8_leastAhead 24 = .ok (.ireturn, 1) := by decide +kernel
theorem dX8_heatsOfRound_0 : decode cX8_heatsOfRound 0 = .ok (.iconst 0, 1) := by decide +kernel
theorem dX8_heatsOfRound_1 : decode cX8_heatsOfRound 1 = .ok (.istore_n 3, 1) := by decide +kernel
theorem dX8_heatsOfRound_2 : decode cX8_heatsOfRound 2 = .ok (.iconst 0, 1) := by decide +kernel
theorem dX8_heatsOfRound_3 : decode cX8_heatsOfRound 3 = .ok (.istore 4, 2) := by decide +kernel
theorem dX8_heatsOfRound_5 : decode cX8_heatsOfRound 5 = .ok (.iconst 0, 1) := by decide +kernel
theorem dX8_heatsOfRound_6 : decode cX8_heatsOfRound 6 = .ok (.istore 5, 2) := by decide +kernel
theorem dX8_heatsOfRound_8 : decode cX8_heatsOfRound 8 = .ok (.iload 5, 2) := by decide +kernel
theorem dX8_heatsOfRound_10 : decode cX8_heatsOfRound 10 = .ok (.iload_n 1, 1) := by decide +kernel
theorem dX8_heatsOfRound_11 : decode cX8_heatsOfRound 11 = .ok (.if_icmp .ge 67, 3) := by decide +kernel
theorem dX8_heatsOfRound_14 : decode cX8_heatsOfRound 14 = .ok (.aload_n 0, 1) := by decide +kernel
theorem dX8_heatsOfRound_15 : decode cX8_heatsOfRound 15 = .ok (.getfield 64, 3) := by decide +kernel
theorem dX8_heatsOfRound_18 : decode cX8_heatsOfRound 18 = .ok (.iload 5, 2) := by decide +kernel
theorem dX8_heatsOfRound_20 : decode cX8_heatsOfRound 20 = .ok (.iaload, 1) := by decide +kernel
theorem dX8_heatsOfRound_21 : decode cX8_heatsOfRound 21 = .ok (.istore 6, 2) := by decide +kernel
theorem dX8_heatsOfRound_23 : decode cX8_heatsOfRound 23 = .ok (.iload 5, 2) := by decide +kernel
theorem dX8_heatsOfRound_25 : decode cX8_heatsOfRound 25 = .ok (.iload_n 3, 1) := by decide +kernel
theorem dX8_heatsOfRound_26 : decode cX8_heatsOfRound 26 = .ok (.iload_n 2, 1) := by decide +kernel
theorem dX8_heatsOfRound_27 : decode cX8_heatsOfRound 27 = .ok (.imul, 1) := by decide +kernel
theorem dX8_heatsOfRound_28 : decode cX8_heatsOfRound 28 = .ok (.if_icmp .ne 13, 3) := by decide +kernel
theorem dX8_heatsOfRound_31 : decode cX8_heatsOfRound 31 = .ok (.iinc 3 1, 3) := by decide +kernel
theorem dX8_heatsOfRound_34 : decode cX8_heatsOfRound 34 = .ok (.iload 6, 2) := by decide +kernel
theorem dX8_heatsOfRound_36 : decode cX8_heatsOfRound 36 = .ok (.istore 4, 2) := by decide +kernel
theorem dX8_heatsOfRound_38 : decode cX8_heatsOfRound 38 = .ok (.goto 24, 3) := by decide +kernel
theorem dX8_heatsOfRound_41 : decode cX8_heatsOfRound 41 = .ok (.aload_n 0, 1) := by decide +kernel
theorem dX8_heatsOfRound_42 : decode cX8_heatsOfRound 42 = .ok (.getfield 60, 3) := by decide +kernel
theorem dX8_heatsOfRound_45 : decode cX8_heatsOfRound 45 = .ok (.iload 6, 2) := by decide +kernel
theorem dX8_heatsOfRound_47 : decode cX8_heatsOfRound 47 = .ok (.iaload, 1) := by decide +kernel
theorem dX8_heatsOfRound_48 : decode cX8_heatsOfRound 48 = .ok (.aload_n 0, 1) := by decide +kernel
theorem dX8_heatsOfRound_49 : decode cX8_heatsOfRound 49 = .ok (.getfield 60, 3) := by decide +kernel
theorem dX8_heatsOfRound_52 : decode cX8_heatsOfRound 52 = .ok (.iload 4, 2) := by decide +kernel
theorem dX8_heatsOfRound_54 : decode cX8_heatsOfRound 54 = .ok (.iaload, 1) := by decide +kernel
theorem dX8_heatsOfRound_55 : decode cX8_heatsOfRound 55 = .ok (.if_icmp .ge 7, 3) := by decide +kernel
theorem dX8_heatsOfRound_58 : decode cX8_heatsOfRound 58 = .ok (.iload 6, 2) := by decide +kernel
theorem dX8_heatsOfRound_60 : decode cX8_heatsOfRound 60 = .ok (.istore 4, 2) := by decide +kernel
theorem dX8_heatsOfRound_62 : decode cX8_heatsOfRound 62 = .ok (.aload_n 0, 1) := by decide +kernel
theorem dX8_heatsOfRound_63 : decode cX8_heatsOfRound 63 = .ok (.getfield 64, 3) := by decide +kernel
theorem dX8_heatsOfRound_66 : decode cX8_heatsOfRound 66 = .ok (.iload_n 3, 1) := by decide +kernel
theorem dX8_heatsOfRound_67 : decode cX8_heatsOfRound 67 = .ok (.iconst 1, 1) := by decide +kernel
theorem dX8_heatsOfRound_68 : decode cX8_heatsOfRound 68 = .ok (.isub, 1) := by decide +kernel
theorem dX8_heatsOfRound_69 : decode cX8_heatsOfRound 69 = .ok (.iload 4, 2) := by decide +kernel
theorem dX8_heatsOfRound_71 : decode cX8_heatsOfRound 71 = .ok (.iastore, 1) := by decide +kernel
theorem dX8_heatsOfRound_72 : decode cX8_heatsOfRound 72 = .ok (.iinc 5 1, 3) := by decide +kernel
theorem dX8_heatsOfRound_75 : decode cX8_heatsOfRound 75 = .ok (.goto (-67), 3) := by decide +kernel
theorem dX8_heatsOfRound_78 : decode cX8_heatsOfRound 78 = .ok (.iload_n 3, 1) := by decide +kernel
theorem dX8_heatsOfRound_79 : decode cX8_heatsOfRound 79 = .ok (.ireturn, 1) := by decide +kernel
theorem dX8_wrongIn_0 : decode cX8_wrongIn 0 = .ok (.iconst 0, 1) := by decide +kernel
theorem dX8_wrongIn_1 : decode cX8_wrongIn 1 = .ok (.istore_n 3, 1) := by decide +kernel
theorem dX8_wrongIn_2 : decode cX8_wrongIn 2 = .ok (.iconst 0, 1) := by decide +kernel
theorem dX8_wrongIn_3 : decode cX8_wrongIn 3 = .ok (.istore 4, 2) := by decide +kernel
theorem dX8_wrongIn_5 : decode cX8_wrongIn 5 = .ok (.iconst 0, 1) := by decide +kernel
theorem dX8_wrongIn_6 : decode cX8_wrongIn 6 = .ok (.istore 5, 2) := by decide +kernel
theorem dX8_wrongIn_8 : decode cX8_wrongIn 8 = .ok (.iload 5, 2) := by decide +kernel
theorem dX8_wrongIn_10 : decode cX8_wrongIn 10 = .ok (.iload_n 2, 1) := by decide +kernel
theorem dX8_wrongIn_11 : decode cX8_wrongIn 11 = .ok (.if_icmp .ge 71, 3) := by decide +kernel
theorem dX8_wrongIn_14 : decode cX8_wrongIn 14 = .ok (.aload_n 1, 1) := by decide +kernel
theorem dX8_wrongIn_15 : decode cX8_wrongIn 15 = .ok (.iload 5, 2) := by decide +kernel
theorem dX8_wrongIn_17 : decode cX8_wrongIn 17 = .ok (.invokevirtual 381, 3) := by decide +kernel
theorem dX8_wrongIn_20 : decode cX8_wrongIn 20 = .ok (.istore 6, 2) := by decide +kernel
theorem dX8_wrongIn_22 : decode cX8_wrongIn 22 = .ok (.aload_n 0, 1) := by decide +kernel
theorem dX8_wrongIn_23 : decode cX8_wrongIn 23 = .ok (.getfield 10, 3) := by decide +kernel
theorem dX8_wrongIn_26 : decode cX8_wrongIn 26 = .ok (.iload 6, 2) := by decide +kernel
theorem dX8_wrongIn_28 : decode cX8_wrongIn 28 = .ok (.invokevirtual 126, 3) := by decide +kernel
theorem dX8_wrongIn_31 : decode cX8_wrongIn 31 = .ok (.ifCond .eq 13, 3) := by decide +kernel
theorem dX8_wrongIn_34 : decode cX8_wrongIn 34 = .ok (.iload_n 3, 1) := by decide +kernel
theorem dX8_wrongIn_35 : decode cX8_wrongIn 35 = .ok (.iload 6, 2) := by decide +kernel
theorem dX8_wrongIn_37 : decode cX8_wrongIn 37 = .ok (.ishr, 1) := by decide +kernel
theorem dX8_wrongIn_38 : decode cX8_wrongIn 38 = .ok (.iconst 1, 1) := by decide +kernel
theorem dX8_wrongIn_39 : decode cX8_wrongIn 39 = .ok (.iand, 1) := by decide +kernel
theorem dX8_wrongIn_40 : decode cX8_wrongIn 40 = .ok (.iconst 1, 1) := by decide +kernel
theorem dX8_wrongIn_41 : decode cX8_wrongIn 41 = .ok (.if_icmp .ne 6, 3) := by decide +kernel
theorem dX8_wrongIn_44 : decode cX8_wrongIn 44 = .ok (.iload 5, 2) := by decide +kernel
theorem dX8_wrongIn_46 : decode cX8_wrongIn 46 = .ok (.ireturn, 1) := by decide +kernel
theorem dX8_wrongIn_47 : decode cX8_wrongIn 47 = .ok (.aload_n 0, 1) := by decide +kernel
theorem dX8_wrongIn_48 : decode cX8_wrongIn 48 = .ok (.iload 6, 2) := by decide +kernel
theorem dX8_wrongIn_50 : decode cX8_wrongIn 50 = .ok (.invokevirtual 268, 3) := by decide +kernel
theorem dX8_wrongIn_53 : decode cX8_wrongIn 53 = .ok (.istore 7, 2) := by decide +kernel
theorem dX8_wrongIn_55 : decode cX8_wrongIn 55 = .ok (.iload 7, 2) := by decide +kernel
theorem dX8_wrongIn_57 : decode cX8_wrongIn 57 = .ok (.iload 4, 2) := by decide +kernel
theorem dX8_wrongIn_59 : decode cX8_wrongIn 59 = .ok (.if_icmp .ge 6, 3) := by decide +kernel
theorem dX8_wrongIn_62 : decode cX8_wrongIn 62 = .ok (.iload 5, 2) := by decide +kernel
theorem dX8_wrongIn_64 : decode cX8_wrongIn 64 = .ok (.ireturn, 1) := by decide +kernel
theorem dX8_wrongIn_65 : decode cX8_wrongIn 65 = .ok (.iload_n 3, 1) := by decide +kernel
theorem dX8_wrongIn_66 : decode cX8_wrongIn 66 = .ok (.iconst 1, 1) := by decide +kernel
theorem dX8_wrongIn_67 : decode cX8_wrongIn 67 = .ok (.iload 6, 2) := by decide +kernel
theorem dX8_wrongIn_69 : decode cX8_wrongIn 69 = .ok (.ishl, 1) := by decide +kernel
theorem dX8_wrongIn_70 : decode cX8_wrongIn 70 = .ok (.ior, 1) := by decide +kernel
theorem dX8_wrongIn_71 : decode cX8_wrongIn 71 = .ok (.istore_n 3, 1) := by decide +kernel
theorem dX8_wrongIn_72 : decode cX8_wrongIn 72 = .ok (.iload 7, 2) := by decide +kernel
theorem dX8_wrongIn_74 : decode cX8_wrongIn 74 = .ok (.istore 4, 2) := by decide +kernel
theorem dX8_wrongIn_76 : decode cX8_wrongIn 76 = .ok (.iinc 5 1, 3) := by decide +kernel
theorem dX8_wrongIn_79 : decode cX8_wrongIn 79 = .ok (.goto (-71), 3) := by decide +kernel
theorem dX8_wrongIn_82 : decode cX8_wrongIn 82 = .ok (.iconst (-1), 1) := by decide +kernel
theorem dX8_wrongIn_83 : decode cX8_wrongIn 83 = .ok (.ireturn, 1) := by decide +kernel
theorem dX8_allAsTold_0 : decode cX8_allAsTold 0 = .ok (.iconst 0, 1) := by decide +kernel
theorem dX8_allAsTold_1 : decode cX8_allAsTold 1 = .ok (.istore_n 3, 1) := by decide +kernel
theorem dX8_allAsTold_2 : decode cX8_allAsTold 2 = .ok (.iload_n 3, 1) := by decide +kernel
theorem dX8_allAsTold_3 : decode cX8_allAsTold 3 = .ok (.aload_n 0, 1) := by decide +kernel
theorem dX8_allAsTold_4 : decode cX8_allAsTold 4 = .ok (.getfield 10, 3) := by decide +kernel
theorem dX8_allAsTold_7 : decode cX8_allAsTold 7 = .ok (.getfield 154, 3) := by decide +kernel
theorem dX8_allAsTold_10 : decode cX8_allAsTold 10 = .ok (.if_icmp .ge 25, 3) := by decide +kernel
theorem dX8_allAsTold_13 : decode cX8_allAsTold 13 = .ok (.aload_n 0, 1) := by decide +kernel
theorem dX8_allAsTold_14 : decode cX8_allAsTold 14 = .ok (.iload_n 3, 1) := by decide +kernel
theorem dX8_allAsTold_15 : decode cX8_allAsTold 15 = .ok (.iload_n 2, 1) := by decide +kernel
theorem dX8_allAsTold_16 : decode cX8_allAsTold 16 = .ok (.invokevirtual 284, 3) := by decide +kernel
theorem dX8_allAsTold_19 : decode cX8_allAsTold 19 = .ok (.aload_n 1, 1) := by decide +kernel
theorem dX8_allAsTold_20 : decode cX8_allAsTold 20 = .ok (.iload_n 3, 1) := by decide +kernel
theorem dX8_allAsTold_21 : decode cX8_allAsTold 21 = .ok (.invokevirtual 381, 3) := by decide +kernel
theorem dX8_allAsTold_24 : decode cX8_allAsTold 24 = .ok (.if_icmp .eq 5, 3) := by decide +kernel
theorem dX8_allAsTold_27 : decode cX8_allAsTold 27 = .ok (.iconst 0, 1) := by decide +kernel
theorem dX8_allAsTold_28 : decode cX8_allAsTold 28 = .ok (.ireturn, 1) := by decide +kernel
theorem dX8_allAsTold_29 : decode cX8_allAsTold 29 = .ok (.iinc 3 1, 3) := by decide +kernel
theorem dX8_allAsTold_32 : decode cX8_allAsTold 32 = .ok (.goto (-30), 3) := by decide +kernel
theorem dX8_allAsTold_35 : decode cX8_allAsTold 35 = .ok (.iconst 1, 1) := by decide +kernel
theorem dX8_allAsTold_36 : decode cX8_allAsTold 36 = .ok (.ireturn, 1) := by decide +kernel
theorem dX8_raceInTruth_0 : decode cX8_raceInTruth 0 = .ok (.iconst 0, 1) := by decide +kernel
theorem dX8_raceInTruth_1 : decode cX8_raceInTruth 1 = .ok (.istore_n 1, 1) := by decide +kernel
theorem dX8_raceInTruth_2 : decode cX8_raceInTruth 2 = .ok (.iload_n 1, 1) := by decide +kernel
theorem dX8_raceInTruth_3 : decode cX8_raceInTruth 3 = .ok (.aload_n 0, 1) := by decide +kernel
theorem dX8_raceInTruth_4 : decode cX8_raceInTruth 4 = .ok (.getfield 10, 3) := by decide +kernel
theorem dX8_raceInTruth_7 : decode cX8_raceInTruth 7 = .ok (.getfield 154, 3) := by decide +kernel
theorem dX8_raceInTruth_10 : decode cX8_raceInTruth 10 = .ok (.if_icmp .ge 36, 3) := by decide +kernel
theorem dX8_raceInTruth_13 : decode cX8_raceInTruth 13 = .ok (.aload_n 0, 1) := by decide +kernel
theorem dX8_raceInTruth_14 : decode cX8_raceInTruth 14 = .ok (.getfield 35, 3) := by decide +kernel
theorem dX8_raceInTruth_17 : decode cX8_raceInTruth 17 = .ok (.iload_n 1, 1) := by decide +kernel
theorem dX8_raceInTruth_18 : decode cX8_raceInTruth 18 = .ok (.aaload, 1) := by decide +kernel
theorem dX8_raceInTruth_19 : decode cX8_raceInTruth 19 = .ok (.aload_n 0, 1) := by decide +kernel
theorem dX8_raceInTruth_20 : decode cX8_raceInTruth 20 = .ok (.getfield 10, 3) := by decide +kernel
theorem dX8_raceInTruth_23 : decode cX8_raceInTruth 23 = .ok (.iload_n 1, 1) := by decide +kernel
theorem dX8_raceInTruth_24 : decode cX8_raceInTruth 24 = .ok (.invokevirtual 167, 3) := by decide +kernel
theorem dX8_raceInTruth_27 : decode cX8_raceInTruth 27 = .ok (.aload_n 0, 1) := by decide +kernel
theorem dX8_raceInTruth_28 : decode cX8_raceInTruth 28 = .ok (.getfield 35, 3) := by decide +kernel
theorem dX8_raceInTruth_31 : decode cX8_raceInTruth 31 = .ok (.iload_n 1, 1) := by decide +kernel
theorem dX8_raceInTruth_32 : decode cX8_raceInTruth 32 = .ok (.aaload, 1) := by decide +kernel
theorem dX8_raceInTruth_33 : decode cX8_raceInTruth 33 = .ok (.aload_n 0, 1) := by decide +kernel
theorem dX8_raceInTruth_34 : decode cX8_raceInTruth 34 = .ok (.getfield 10, 3) := by decide +kernel
theorem dX8_raceInTruth_37 : decode cX8_raceInTruth 37 = .ok (.invokevirtual 171, 3) := by decide +kernel
theorem dX8_raceInTruth_40 : decode cX8_raceInTruth 40 = .ok (.iinc 1 1, 3) := by decide +kernel
theorem dX8_raceInTruth_43 : decode cX8_raceInTruth 43 = .ok (.goto (-41), 3) := by decide +kernel
theorem dX8_raceInTruth_46 : decode cX8_raceInTruth 46 = .ok (.aload_n 0, 1) := by decide +kernel
theorem dX8_raceInTruth_47 : decode cX8_raceInTruth 47 = .ok (.getfield 10, 3) := by decide +kernel
theorem dX8_raceInTruth_50 : decode cX8_raceInTruth 50 = .ok (.getfield 154, 3) := by decide +kernel
theorem dX8_raceInTruth_53 : decode cX8_raceInTruth 53 = .ok (.istore_n 1, 1) := by decide +kernel
theorem dX8_raceInTruth_54 : decode cX8_raceInTruth 54 = .ok (.iconst 0, 1) := by decide +kernel
theorem dX8_raceInTruth_55 : decode cX8_raceInTruth 55 = .ok (.istore_n 2, 1) := by decide +kernel
theorem dX8_raceInTruth_56 : decode cX8_raceInTruth 56 = .ok (.iload_n 2, 1) := by decide +kernel
theorem dX8_raceInTruth_57 : decode cX8_raceInTruth 57 = .ok (.sipush 999, 3) := by decide +kernel
theorem dX8_raceInTruth_60 : decode cX8_raceInTruth 60 = .ok (.if_icmp .ge 18, 3) := by decide +kernel
theorem dX8_raceInTruth_63 : decode cX8_raceInTruth 63 = .ok (.iload_n 1, 1) := by decide +kernel
theorem dX8_raceInTruth_64 : decode cX8_raceInTruth 64 = .ok (.ifCond .le 14, 3) := by decide +kernel
theorem dX8_raceInTruth_67 : decode cX8_raceInTruth 67 = .ok (.aload_n 0, 1) := by decide +kernel
theorem dX8_raceInTruth_68 : decode cX8_raceInTruth 68 = .ok (.invokevirtual 384, 3) := by decide +kernel
theorem dX8_raceInTruth_71 : decode cX8_raceInTruth 71 = .ok (.istore_n 1, 1) := by decide +kernel
theorem dX8_raceInTruth_72 : decode cX8_raceInTruth 72 = .ok (.iinc 2 1, 3) := by decide +kernel
theorem dX8_raceInTruth_75 : decode cX8_raceInTruth 75 = .ok (.goto (-19), 3) := by decide +kernel
theorem dX8_raceInTruth_78 : decode cX8_raceInTruth 78 = .ok (.aload_n 0, 1) := by decide +kernel
theorem dX8_raceInTruth_79 : decode cX8_raceInTruth 79 = .ok (.getfield 10, 3) := by decide +kernel
theorem dX8_raceInTruth_82 : decode cX8_raceInTruth 82 = .ok (.dup, 1) := by decide +kernel
theorem dX8_raceInTruth_83 : decode cX8_raceInTruth 83 = .ok (.getfield 356, 3) := by decide +kernel
theorem dX8_raceInTruth_86 : decode cX8_raceInTruth 86 = .ok (.iconst 1, 1) := by decide +kernel
theorem dX8_raceInTruth_87 : decode cX8_raceInTruth 87 = .ok (.iadd, 1) := by decide +kernel
theorem dX8_raceInTruth_88 : decode cX8_raceInTruth 88 = .ok (.putfield 356, 3) := by decide +kernel
theorem dX8_raceInTruth_91 : decode cX8_raceInTruth 91 = .ok (.aload_n 0, 1) := by decide +kernel
theorem dX8_raceInTruth_92 : decode cX8_raceInTruth 92 = .ok (.invokevirtual 387, 3) := by decide +kernel
theorem dX8_raceInTruth_95 : decode cX8_raceInTruth 95 = .ok (.istore_n 2, 1) := by decide +kernel
theorem dX8_raceInTruth_96 : decode cX8_raceInTruth 96 = .ok (.iload_n 2, 1) := by decide +kernel
theorem dX8_raceInTruth_97 : decode cX8_raceInTruth 97 = .ok (.iconst (-1), 1) := by decide +kernel
theorem dX8_raceInTruth_98 : decode cX8_raceInTruth 98 = .ok (.if_icmp .eq 21, 3) := by decide +kernel
theorem dX8_raceInTruth_101 : decode cX8_raceInTruth 101 = .ok (.aload_n 0, 1) := by decide +kernel
theorem dX8_raceInTruth_102 : decode cX8_raceInTruth 102 = .ok (.getfield 10, 3) := by decide +kernel
theorem dX8_raceInTruth_105 : decode cX8_raceInTruth 105 = .ok (.getfield 138, 3) := by decide +kernel
theorem dX8_raceInTruth_108 : decode cX8_raceInTruth 108 = .ok (.iload_n 2, 1) := by decide +kernel
theorem dX8_raceInTruth_109 : decode cX8_raceInTruth 109 = .ok (.aaload, 1) := by decide +kernel
theorem dX8_raceInTruth_110 : decode cX8_raceInTruth 110 = .ok (.dup, 1) := by decide +kernel
theorem dX8_raceInTruth_111 : decode cX8_raceInTruth 111 = .ok (.getfield 200, 3) := by decide +kernel
theorem dX8_raceInTruth_114 : decode cX8_raceInTruth 114 = .ok (.iconst 1, 1) := by decide +kernel
theorem dX8_raceInTruth_115 : decode cX8_raceInTruth 115 = .ok (.iadd, 1) := by decide +kernel
theorem dX8_raceInTruth_116 : decode cX8_raceInTruth 116 = .ok (.putfield 200, 3) := by decide +kernel
theorem dX8_raceInTruth_119 : decode cX8_raceInTruth 119 = .ok (.iload_n 2, 1) := by decide +kernel
theorem dX8_raceInTruth_120 : decode cX8_raceInTruth 120 = .ok (.ireturn, 1) := by decide +kernel
theorem dX8_secondInTruth_0 : decode cX8_secondInTruth 0 = .ok (.iconst 0, 1) := by decide +kernel
theorem dX8_secondInTruth_1 : decode cX8_secondInTruth 1 = .ok (.istore_n 1, 1) := by decide +kernel
theorem dX8_secondInTruth_2 : decode cX8_secondInTruth 2 = .ok (.iconst 0, 1) := by decide +kernel
theorem dX8_secondInTruth_3 : decode cX8_secondInTruth 3 = .ok (.istore_n 2, 1) := by decide +kernel
theorem dX8_secondInTruth_4 : decode cX8_secondInTruth 4 = .ok (.iload_n 2, 1) := by decide +kernel
theorem dX8_secondInTruth_5 : decode cX8_secondInTruth 5 = .ok (.aload_n 0, 1) := by decide +kernel
theorem dX8_secondInTruth_6 : decode cX8_secondInTruth 6 = .ok (.getfield 10, 3) := by decide +kernel
theorem dX8_secondInTruth_9 : decode cX8_secondInTruth 9 = .ok (.getfield 154, 3) := by decide +kernel
theorem dX8_secondInTruth_12 : decode cX8_secondInTruth 12 = .ok (.if_icmp .ge 69, 3) := by decide +kernel
theorem dX8_secondInTruth_15 : decode cX8_secondInTruth 15 = .ok (.aload_n 0, 1) := by decide +kernel
theorem dX8_secondInTruth_16 : decode cX8_secondInTruth 16 = .ok (.getfield 35, 3) := by decide +kernel
theorem dX8_secondInTruth_19 : decode cX8_secondInTruth 19 = .ok (.iload_n 2, 1) := by decide +kernel
theorem dX8_secondInTruth_20 : decode cX8_secondInTruth 20 = .ok (.aaload, 1) := by decide +kernel
theorem dX8_secondInTruth_21 : decode cX8_secondInTruth 21 = .ok (.astore_n 3, 1) := by decide +kernel
theorem dX8_secondInTruth_22 : decode cX8_secondInTruth 22 = .ok (.aload_n 3, 1) := by decide +kernel
theorem dX8_secondInTruth_23 : decode cX8_secondInTruth 23 = .ok (.getfield 254, 3) := by decide +kernel
theorem dX8_secondInTruth_26 : decode cX8_secondInTruth 26 = .ok (.aload_n 3, 1) := by decide +kernel
theorem dX8_secondInTruth_27 : decode cX8_secondInTruth 27 = .ok (.getfield 390, 3) := by decide +kernel
theorem dX8_secondInTruth_30 : decode cX8_secondInTruth 30 = .ok (.if_icmp .ge 45, 3) := by decide +kernel
theorem dX8_secondInTruth_33 : decode cX8_secondInTruth 33 = .ok (.iinc 1 1, 3) := by decide +kernel
theorem dX8_secondInTruth_36 : decode cX8_secondInTruth 36 = .ok (.aload_n 3, 1) := by decide +kernel
theorem dX8_secondInTruth_37 : decode cX8_secondInTruth 37 = .ok (.getfield 262, 3) := by decide +kernel
theorem dX8_secondInTruth_40 : decode cX8_secondInTruth 40 = .ok (.ifCond .le 10, 3) := by decide +kernel
theorem dX8_secondInTruth_43 : decode cX8_secondInTruth 43 = .ok (.aload_n 3, 1) := by decide +kernel
theorem dX8_secondInTruth_44 : decode cX8_secondInTruth 44 = .ok (.invokevirtual 393, 3) := by decide +kernel
theorem dX8_secondInTruth_47 : decode cX8_secondInTruth 47 = .ok (.goto 28, 3) := by decide +kernel
theorem dX8_secondInTruth_50 : decode cX8_secondInTruth 50 = .ok (.aload_n 3, 1) := by decide +kernel
theorem dX8_secondInTruth_51 : decode cX8_secondInTruth 51 = .ok (.aload_n 0, 1) := by decide +kernel
theorem dX8_secondInTruth_52 : decode cX8_secondInTruth 52 = .ok (.getfield 10, 3) := by decide +kernel
theorem dX8_secondInTruth_55 : decode cX8_secondInTruth 55 = .ok (.bipush 100, 2) := by decide +kernel
theorem dX8_secondInTruth_57 : decode cX8_secondInTruth 57 = .ok (.invokevirtual 396, 3) := by decide +kernel
theorem dX8_secondInTruth_60 : decode cX8_secondInTruth 60 = .ok (.aload_n 3, 1) := by decide +kernel
theorem dX8_secondInTruth_61 : decode cX8_secondInTruth 61 = .ok (.invokevirtual 399, 3) := by decide +kernel
theorem dX8_secondInTruth_64 : decode cX8_secondInTruth 64 = .ok (.if_icmp .ge 7, 3) := by decide +kernel
theorem dX8_secondInTruth_67 : decode cX8_secondInTruth 67 = .ok (.iconst 1, 1) := by decide +kernel
theorem dX8_secondInTruth_68 : decode cX8_secondInTruth 68 = .ok (.goto 4, 3) := by decide +kernel
theorem dX8_secondInTruth_71 : decode cX8_secondInTruth 71 = .ok (.iconst 0, 1) := by decide +kernel
theorem dX8_secondInTruth_72 : decode cX8_secondInTruth 72 = .ok (.invokevirtual 402, 3) := by decide +kernel
theorem dX8_secondInTruth_75 : decode cX8_secondInTruth 75 = .ok (.iinc 2 1, 3) := by decide +kernel
theorem dX8_secondInTruth_78 : decode cX8_secondInTruth 78 = .ok (.goto (-74), 3) := by decide +kernel
theorem dX8_secondInTruth_81 : decode cX8_secondInTruth 81 = .ok (.iload_n 1, 1) := by decide +kernel
theorem dX8_secondInTruth_82 : decode cX8_secondInTruth 82 = .ok (.ireturn, 1) := by decide +kernel
theorem dX8_firstInTruth_0 : decode cX8_firstInTruth 0 = .ok (.iconst (-1), 1) := by decide +kernel
theorem dX8_firstInTruth_1 : decode cX8_firstInTruth 1 = .ok (.istore_n 1, 1) := by decide +kernel
theorem dX8_firstInTruth_2 : decode cX8_firstInTruth 2 = .ok (.sipush 999, 3) := by decide +kernel
theorem dX8_firstInTruth_5 : decode cX8_firstInTruth 5 = .ok (.istore_n 2, 1) := by decide +kernel
theorem dX8_firstInTruth_6 : decode cX8_firstInTruth 6 = .ok (.iconst 0, 1) := by decide +kernel
theorem dX8_firstInTruth_7 : decode cX8_firstInTruth 7 = .ok (.istore_n 3, 1) := by decide +kernel
theorem dX8_firstInTruth_8 : decode cX8_firstInTruth 8 = .ok (.iload_n 3, 1) := by decide +kernel
theorem dX8_firstInTruth_9 : decode cX8_firstInTruth 9 = .ok (.aload_n 0, 1) := by decide +kernel
theorem dX8_firstInTruth_10 : decode cX8_firstInTruth 10 = .ok (.getfield 10, 3) := by decide +kernel
theorem dX8_firstInTruth_13 : decode cX8_firstInTruth 13 = .ok (.getfield 154, 3) := by decide +kernel
theorem dX8_firstInTruth_16 : decode cX8_firstInTruth 16 = .ok (.if_icmp .ge 31, 3) := by decide +kernel
theorem dX8_firstInTruth_19 : decode cX8_firstInTruth 19 = .ok (.aload_n 0, 1) := by decide +kernel
theorem dX8_firstInTruth_20 : decode cX8_firstInTruth 20 = .ok (.getfield 35, 3) := by decide +kernel
theorem dX8_firstInTruth_23 : decode cX8_firstInTruth 23 = .ok (.iload_n 3, 1) := by decide +kernel
theorem dX8_firstInTruth_24 : decode cX8_firstInTruth 24 = .ok (.aaload, 1) := by decide +kernel
theorem dX8_firstInTruth_25 : decode cX8_firstInTruth 25 = .ok (.invokevirtual 406, 3) := by decide +kernel
theorem dX8_firstInTruth_28 : decode cX8_firstInTruth 28 = .ok (.istore 4, 2) := by decide +kernel
theorem dX8_firstInTruth_30 : decode cX8_firstInTruth 30 = .ok (.iload 4, 2) := by decide +kernel
theorem dX8_firstInTruth_32 : decode cX8_firstInTruth 32 = .ok (.iload_n 2, 1) := by decide +kernel
theorem dX8_firstInTruth_33 : decode cX8_firstInTruth 33 = .ok (.if_icmp .ge 8, 3) := by decide +kernel
theorem dX8_firstInTruth_36 : decode cX8_firstInTruth 36 = .ok (.iload 4, 2) := by decide +kernel
theorem dX8_firstInTruth_38 : decode cX8_firstInTruth 38 = .ok (.istore_n 2, 1) := by decide +kernel
theorem dX8_firstInTruth_39 : decode cX8_firstInTruth 39 = .ok (.iload_n 3, 1) := by decide +kernel
theorem dX8_firstInTruth_40 : decode cX8_firstInTruth 40 = .ok (.istore_n 1, 1) := by decide +kernel
theorem dX8_firstInTruth_41 : decode cX8_firstInTruth 41 = .ok (.iinc 3 1, 3) := by decide +kernel
theorem dX8_firstInTruth_44 : decode cX8_firstInTruth 44 = .ok (.goto (-36), 3) := by decide +kernel
theorem dX8_firstInTruth_47 : decode cX8_firstInTruth 47 = .ok (.iload_n 1, 1) := by decide +kernel
theorem dX8_firstInTruth_48 : decode cX8_firstInTruth 48 = .ok (.ireturn, 1) := by decide +kernel
theorem dX9_init_0 : decode cX9_init 0 = .ok (.aload_n 0, 1) := by decide +kernel
theorem dX9_init_1 : decode cX9_init 1 = .ok (.invokespecial 1, 3) := by decide +kernel
theorem dX9_init_4 : decode cX9_init 4 = .ok (.aload_n 0, 1) := by decide +kernel
theorem dX9_init_5 : decode cX9_init 5 = .ok (.bipush 40, 2) := by decide +kernel
theorem dX9_init_7 : decode cX9_init 7 = .ok (.putfield 7, 3) := by decide +kernel
theorem dX9_init_10 : decode cX9_init 10 = .ok (.aload_n 0, 1) := by decide +kernel
theorem dX9_init_11 : decode cX9_init 11 = .ok (.iconst 5, 1) := by decide +kernel
theorem dX9_init_12 : decode cX9_init 12 = .ok (.putfield 13, 3) := by decide +kernel
theorem dX9_init_15 : decode cX9_init 15 = .ok (.aload_n 0, 1) := by decide +kernel
theorem dX9_init_16 : decode cX9_init 16 = .ok (.iconst 3, 1) := by decide +kernel
theorem dX9_init_17 : decode cX9_init 17 = .ok (.putfield 16, 3) := by decide +kernel
theorem dX9_init_20 : decode cX9_init 20 = .ok (.aload_n 0, 1) := by decide +kernel
theorem dX9_init_21 : decode cX9_init 21 = .ok (.bipush 20, 2) := by decide +kernel
theorem dX9_init_23 : decode cX9_init 23 = .ok (.putfield 19, 3) := by decide +kernel
theorem dX9_init_26 : decode cX9_init 26 = .ok (.aload_n 0, 1) := by decide +kernel
theorem dX9_init_27 : decode cX9_init 27 = .ok (.iconst 1, 1) := by decide +kernel
theorem dX9_init_28 : decode cX9_init 28 = .ok (.putfield 22, 3) := by decide +kernel
theorem dX9_init_31 : decode cX9_init 31 = .ok (.aload_n 0, 1) := by decide +kernel
theorem dX9_init_32 : decode cX9_init 32 = .ok (.iconst (-1), 1) := by decide +kernel
theorem dX9_init_33 : decode cX9_init 33 = .ok (.putfield 25, 3) := by decide +kernel
theorem dX9_init_36 : decode cX9_init 36 = .ok (.aload_n 0, 1) := by decide +kernel
theorem dX9_init_37 : decode cX9_init 37 = .ok (.bipush 8, 2) := by decide +kernel
theorem dX9_init_39 : decode cX9_init 39 = .ok (.newarray .int, 2) := by decide +kernel
theorem dX9_init_41 : decode cX9_init 41 = .ok (.putfield 28, 3) := by decide +kernel
theorem dX9_init_44 : decode cX9_init 44 = .ok (.aload_n 0, 1) := by decide +kernel
theorem dX9_init_45 : decode cX9_init 45 = .ok (.bipush 8, 2) := by decide +kernel
theorem dX9_init_47 : decode cX9_init 47 = .ok (.newarray .int, 2) := by decide +kernel
theorem dX9_init_49 : decode cX9_init 49 = .ok (.putfield 32, 3) := by decide +kernel
theorem dX9_init_52 : decode cX9_init 52 = .ok (.aload_n 0, 1) := by decide +kernel
theorem dX9_init_53 : decode cX9_init 53 = .ok (.bipush 8, 2) := by decide +kernel
theorem dX9_init_55 : decode cX9_init 55 = .ok (.newarray .int, 2) := by decide +kernel
theorem dX9_init_57 : decode cX9_init 57 = .ok (.putfield 35, 3) := by decide +kernel
theorem dX9_init_60 : decode cX9_init 60 = .ok (.aload_n 0, 1) := by decide +kernel
theorem dX9_init_61 : decode cX9_init 61 = .ok (.bipush 8, 2) := by decide +kernel
theorem dX9_init_63 : decode cX9_init 63 = .ok (.newarray .int, 2) := by decide +kernel
theorem dX9_init_65 : decode cX9_init 65 = .ok (.putfield 38, 3) := by decide +kernel
theorem dX9_init_68 : decode cX9_init 68 = .ok (.aload_n 0, 1) := by decide +kernel
theorem dX9_init_69 : decode cX9_init 69 = .ok (.bipush 8, 2) := by decide +kernel
theorem dX9_init_71 : decode cX9_init 71 = .ok (.newarray .int, 2) := by decide +kernel
theorem dX9_init_73 : decode cX9_init 73 = .ok (.putfield 41, 3) := by decide +kernel
theorem dX9_init_76 : decode cX9_init 76 = .ok (.aload_n 0, 1) := by decide +kernel
theorem dX9_init_77 : decode cX9_init 77 = .ok (.bipush 8, 2) := by decide +kernel
theorem dX9_init_79 : decode cX9_init 79 = .ok (.newarray .int, 2) := by decide +kernel
theorem dX9_init_81 : decode cX9_init 81 = .ok (.putfield 44, 3) := by decide +kernel
theorem dX9_init_84 : decode cX9_init 84 = .ok (.aload_n 0, 1) := by decide +kernel
theorem dX9_init_85 : decode cX9_init 85 = .ok (.bipush 8, 2) := by decide +kernel
theorem dX9_init_87 : decode cX9_init 87 = .ok (.newarray .int, 2) := by decide +kernel
theorem dX9_init_89 : decode cX9_init 89 = .ok (.putfield 47, 3) := by decide +kernel
theorem dX9_init_92 : decode cX9_init 92 = .ok (.aload_n 0, 1) := by decide +kernel
theorem dX9_init_93 : decode cX9_init 93 = .ok (.bipush 8, 2) := by decide +kernel
theorem dX9_init_95 : decode cX9_init 95 = .ok (.newarray .int, 2) := by decide +kernel
theorem dX9_init_97 : decode cX9_init 97 = .ok (.putfield 50, 3) := by decide +kernel
theorem dX9_init_100 : decode cX9_init 100 = .ok (.aload_n 0, 1) := by decide +kernel
theorem dX9_init_101 : decode cX9_init 101 = .ok (.bipush 8, 2) := by decide +kernel
theorem dX9_init_103 : decode cX9_init 103 = .ok (.newarray .int, 2) := by decide +kernel
theorem dX9_init_105 : decode cX9_init 105 = .ok (.putfield 53, 3) := by decide +kernel
theorem dX9_init_108 : decode cX9_init 108 = .ok (.aload_n 0, 1) := by decide +kernel
theorem dX9_init_109 : decode cX9_init 109 = .ok (.bipush 8, 2) := by decide +kernel
theorem dX9_init_111 : decode cX9_init 111 = .ok (.newarray .int, 2) := by decide +kernel
theorem dX9_init_113 : decode cX9_init 113 = .ok (.putfield 56, 3) := by decide +kernel
theorem dX9_init_116 : decode cX9_init 116 = .ok (.aload_n 0, 1) := by decide +kernel
theorem dX9_init_117 : decode cX9_init 117 = .ok (.bipush 8, 2) := by decide +kernel
theorem dX9_init_119 : decode cX9_init 119 = .ok (.newarray .int, 2) := by decide +kernel
theorem dX9_init_121 : decode cX9_init 121 = .ok (.putfield 59, 3) := by decide +kernel
theorem dX9_init_124 : decode cX9_init 124 = .ok (.aload_n 0, 1) := by decide +kernel
theorem dX9_init_125 : decode cX9_init 125 = .ok (.bipush 8, 2) := by decide +kernel
theorem dX9_init_127 : decode cX9_init 127 = .ok (.newarray .int, 2) := by decide +kernel
theorem dX9_init_129 : decode cX9_init 129 = .ok (.putfield 62, 3) := by decide +kernel
theorem dX9_init_132 : decode cX9_init 132 = .ok (.aload_n 0, 1) := by decide +kernel
theorem dX9_init_133 : decode cX9_init 133 = .ok (.bipush 8, 2) := by decide +kernel
theorem dX9_init_135 : decode cX9_init 135 = .ok (.newarray .int, 2) := by decide +kernel
theorem dX9_init_137 : decode cX9_init 137 = .ok (.putfield 65, 3) := by decide +kernel
theorem dX9_init_140 : decode cX9_init 140 = .ok (.aload_n 0, 1) := by decide +kernel
theorem dX9_init_141 : decode cX9_init 141 = .ok (.sipush 1280, 3) := by decide +kernel
theorem dX9_init_144 : decode cX9_init 144 = .ok (.newarray .long, 2) := by decide +kernel
theorem dX9_init_146 : decode cX9_init 146 = .ok (.putfield 68, 3) := by decide +kernel
theorem dX9_init_149 : decode cX9_init 149 = .ok (.aload_n 0, 1) := by decide +kernel
theorem dX9_init_150 : decode cX9_init 150 = .ok (.sipush 160, 3) := by decide +kernel
theorem dX9_init_153 : decode cX9_init 153 = .ok (.newarray .long, 2) := by decide +kernel
theorem dX9_init_155 : decode cX9_init 155 = .ok (.putfield 72, 3) := by decide +kernel
theorem dX9_init_158 : decode cX9_init 158 = .ok (.aload_n 0, 1) := by decide +kernel
theorem dX9_init_159 : decode cX9_init 159 = .ok (.bipush 48, 2) := by decide +kernel
theorem dX9_init_161 : decode cX9_init 161 = .ok (.newarray .int, 2) := by decide +kernel
theorem dX9_init_163 : decode cX9_init 163 = .ok (.dup, 1) := by decide +kernel
theorem dX9_init_164 : decode cX9_init 164 = .ok (.iconst 0, 1) := by decide +kernel
theorem dX9_init_165 : decode cX9_init 165 = .ok (.bipush 99, 2) := by decide +kernel
theorem dX9_init_167 : decode cX9_init 167 = .ok (.iastore, 1) := by decide +kernel
theorem dX9_init_168 : decode cX9_init 168 = .ok (.dup, 1) := by decide +kernel
theorem dX9_init_169 : decode cX9_init 169 = .ok (.iconst 1, 1) := by decide +kernel
theorem dX9_init_170 : decode cX9_init 170 = .ok (.bipush 104, 2) := by decide +kernel
theorem dX9_init_172 : decode cX9_init 172 = .ok (.iastore, 1) := by decide +kernel
theorem dX9_init_173 : decode cX9_init 173 = .ok (.dup, 1) := by decide +kernel
theorem dX9_init_174 : decode cX9_init 174 = .ok (.iconst 2, 1) := by decide +kernel
theorem dX9_init_175 : decode cX9_init 175 = .ok (.bipush 105, 2) := by decide +kernel
theorem dX9_init_177 : decode cX9_init 177 = .ok (.iastore, 1) := by decide +kernel
theorem dX9_init_178 : decode cX9_init 178 = .ok (.dup, 1) := by decide +kernel
theorem dX9_init_179 : decode cX9_init 179 = .ok (.iconst 3, 1) := by decide +kernel
theorem dX9_init_180 : decode cX9_init 180 = .ok (.bipush 108, 2) := by decide +kernel
theorem dX9_init_182 : decode cX9_init 182 = .ok (.iastore, 1) := by decide +kernel
theorem dX9_init_183 : decode cX9_init 183 = .ok (.dup, 1) := by decide +kernel
theorem dX9_init_184 : decode cX9_init 184 = .ok (.iconst 4, 1) := by decide +kernel
theorem dX9_init_185 : decode cX9_init 185 = .ok (.bipush 100, 2) := by decide +kernel
theorem dX9_init_187 : decode cX9_init 187 = .ok (.iastore, 1) := by decide +kernel
theorem dX9_init_188 : decode cX9_init 188 = .ok (.dup, 1) := by decide +kernel
theorem dX9_init_189 : decode cX9_init 189 = .ok (.iconst 5, 1) := by decide +kernel
theorem dX9_init_190 : decode cX9_init 190 = .ok (.bipush 32, 2) := by decide +kernel
theorem dX9_init_192 : decode cX9_init 192 = .ok (.iastore, 1) := by decide +kernel
theorem dX9_init_193 : decode cX9_init 193 = .ok (.dup, 1) := by decide +kernel
theorem dX9_init_194 : decode cX9_init 194 = .ok (.bipush 6, 2) := by decide +kernel
theorem dX9_init_196 : decode cX9_init 196 = .ok (.iconst 0, 1) := by decide +kernel
theorem dX9_init_197 : decode cX9_init 197 = .ok (.iastore, 1) := by decide +kernel
theorem dX9_init_198 : decode cX9_init 198 = .ok (.dup, 1) := by decide +kernel
theorem dX9_init_199 : decode cX9_init 199 = .ok (.bipush 7, 2) := by decide +kernel
theorem dX9_init_201 : decode cX9_init 201 = .ok (.bipush 115, 2) := by decide +kernel
theorem dX9_init_203 : decode cX9_init 203 = .ok (.iastore, 1) := by decide +kernel
theorem dX9_init_204 : decode cX9_init 204 = .ok (.dup, 1) := by decide +kernel
theorem dX9_init_205 : decode cX9_init 205 = .ok (.bipush 8, 2) := by decide +kernel
theorem dX9_init_207 : decode cX9_init 207 = .ok (.bipush 97, 2) := by decide +kernel
theorem dX9_init_209 : decode cX9_init 209 = .ok (.iastore, 1) := by decide +kernel
theorem dX9_init_210 : decode cX9_init 210 = .ok (.dup, 1) := by decide +kernel
theorem dX9_init_211 : decode cX9_init 211 = .ok (.bipush 9, 2) := by decide +kernel
theorem dX9_init_213 : decode cX9_init 213 = .ok (.bipush 99, 2) := by decide +kernel
theorem dX9_init_215 : decode cX9_init 215 = .ok (.iastore, 1) := by decide +kernel
theorem dX9_init_216 : decode cX9_init 216 = .ok (.dup, 1) := by decide +kernel
theorem dX9_init_217 : decode cX9_init 217 = .ok (.bipush 10, 2) := by decide +kernel
theorem dX9_init_219 : decode cX9_init 219 = .ok (.bipush 107, 2) := by decide +kernel
theorem dX9_init_221 : decode cX9_init 221 = .ok (.iastore, 1) := by decide +kernel
theorem dX9_init_222 : decode cX9_init 222 = .ok (.dup, 1) := by decide +kernel
theorem dX9_init_223 : decode cX9_init 223 = .ok (.bipush 11, 2) := by decide +kernel
theorem dX9_init_225 : decode cX9_init 225 = .ok (.bipush 32, 2) := by decide +kernel
theorem dX9_init_227 : decode cX9_init 227 = .ok (.iastore, 1) := by decide +kernel
theorem dX9_init_228 : decode cX9_init 228 = .ok (.dup, 1) := by decide +kernel
theorem dX9_init_229 : decode cX9_init 229 = .ok (.bipush 12, 2) := by decide +kernel
theorem dX9_init_231 : decode cX9_init 231 = .ok (.iconst 0, 1) := by decide +kernel
theorem dX9_init_232 : decode cX9_init 232 = .ok (.iastore, 1) := by decide +kernel
theorem dX9_init_233 : decode cX9_init 233 = .ok (.dup, 1) := by decide +kernel
theorem dX9_init_234 : decode cX9_init 234 = .ok (.bipush 13, 2) := by decide +kernel
theorem dX9_init_236 : decode cX9_init 236 = .ok (.bipush 119, 2) := by decide +kernel
theorem dX9_init_238 : decode cX9_init 238 = .ok (.iastore, 1) := by decide +kernel
theorem dX9_init_239 : decode cX9_init 239 = .ok (.dup, 1) := by decide +kernel
theorem dX9_init_240 : decode cX9_init 240 = .ok (.bipush 14, 2) := by decide +kernel
theorem dX9_init_242 : decode cX9_init 242 = .ok (.bipush 101, 2) := by decide +kernel
theorem dX9_init_244 : decode cX9_init 244 = .ok (.iastore, 1) := by decide +kernel
theorem dX9_init_245 : decode cX9_init 245 = .ok (.dup, 1) := by decide +kernel
theorem dX9_init_246 : decode cX9_init 246 = .ok (.bipush 15, 2) := by decide +kernel
theorem dX9_init_248 : decode cX9_init 248 = .ok (.bipush 97, 2) := by decide +kernel
theorem dX9_init_250 : decode cX9_init 250 = .ok (.iastore, 1) := by decide +kernel
theorem dX9_init_251 : decode cX9_init 251 = .ok (.dup, 1) := by decide +kernel
theorem dX9_init_252 : decode cX9_init 252 = .ok (.bipush 16, 2) := by decide +kernel
theorem dX9_init_254 : decode cX9_init 254 = .ok (.bipush 114, 2) := by decide +kernel
theorem dX9_init_256 : decode cX9_init 256 = .ok (.iastore, 1) := by decide +kernel
theorem dX9_init_257 : decode cX9_init 257 = .ok (.dup, 1) := by decide +kernel
theorem dX9_init_258 : decode cX9_init 258 = .ok (.bipush 17, 2) := by decide +kernel
theorem dX9_init_260 : decode cX9_init 260 = .ok (.bipush 115, 2) := by decide +kernel
theorem dX9_init_262 : decode cX9_init 262 = .ok (.iastore, 1) := by decide +kernel
theorem dX9_init_263 : decode cX9_init 263 = .ok (.dup, 1) := by decide +kernel
theorem dX9_init_264 : decode cX9_init 264 = .ok (.bipush 18, 2) := by decide +kernel
theorem dX9_init_266 : decode cX9_init 266 = .ok (.bipush 32, 2) := by decide +kernel
theorem dX9_init_268 : decode cX9_init 268 = .ok (.iastore, 1) := by decide +kernel
theorem dX9_init_269 : decode cX9_init 269 = .ok (.dup, 1) := by decide +kernel
theorem dX9_init_270 : decode cX9_init 270 = .ok (.bipush 19, 2) := by decide +kernel
theorem dX9_init_272 : decode cX9_init 272 = .ok (.iconst 0, 1) := by decide +kernel
theorem dX9_init_273 : decode cX9_init 273 = .ok (.iastore, 1) := by decide +kernel
theorem dX9_init_274 : decode cX9_init 274 = .ok (.dup, 1) := by decide +kernel
theorem dX9_init_275 : decode cX9_init 275 = .ok (.bipush 20, 2) := by decide +kernel
theorem dX9_init_277 : decode cX9_init 277 = .ok (.bipush 97, 2) := by decide +kernel
theorem dX9_init_279 : decode cX9_init 279 = .ok (.iastore, 1) := by decide +kernel
theorem dX9_init_280 : decode cX9_init 280 = .ok (.dup, 1) := by decide +kernel
theorem dX9_init_281 : decode cX9_init 281 = .ok (.bipush 21, 2) := by decide +kernel
theorem dX9_init_283 : decode cX9_init 283 = .ok (.bipush 104, 2) := by decide +kernel
theorem dX9_init_285 : decode cX9_init 285 = .ok (.iastore, 1) := by decide +kernel
theorem dX9_init_286 : decode cX9_init 286 = .ok (.dup, 1) := by decide +kernel
theorem dX9_init_287 : decode cX9_init 287 = .ok (.bipush 22, 2) := by decide +kernel
theorem dX9_init_289 : decode cX9_init 289 = .ok (.bipush 101, 2) := by decide +kernel
theorem dX9_init_291 : decode cX9_init 291 = .ok (.iastore, 1) := by decide +kernel
theorem dX9_init_292 : decode cX9_init 292 = .ok (.dup, 1) := by decide +kernel
theorem dX9_init_293 : decode cX9_init 293 = .ok (.bipush 23, 2) := by decide +kernel
theorem dX9_init_295 : decode cX9_init 295 = .ok (.bipush 97, 2) := by decide +kernel
theorem dX9_init_297 : decode cX9_init 297 = .ok (.iastore, 1) := by decide +kernel
theorem dX9_init_298 : decode cX9_init 298 = .ok (.dup, 1) := by decide +kernel
theorem dX9_init_299 : decode cX9_init 299 = .ok (.bipush 24, 2) := by decide +kernel
theorem dX9_init_301 : decode cX9_init 301 = .ok (.bipush 100, 2) := by decide +kernel
theorem dX9_init_303 : decode cX9_init 303 = .ok (.iastore, 1) := by decide +kernel
theorem dX9_init_304 : decode cX9_init 304 = .ok (.dup, 1) := by decide +kernel
theorem dX9_init_305 : decode cX9_init 305 = .ok (.bipush 25, 2) := by decide +kernel
theorem dX9_init_307 : decode cX9_init 307 = .ok (.bipush 32, 2) := by decide +kernel
theorem dX9_init_309 : decode cX9_init 309 = .ok (.iastore, 1) := by decide +kernel
theorem dX9_init_310 : decode cX9_init 310 = .ok (.dup, 1) := by decide +kernel
theorem dX9_init_311 : decode cX9_init 311 = .ok (.bipush 26, 2) := by decide +kernel
theorem dX9_init_313 : decode cX9_init 313 = .ok (.iconst 0, 1) := by decide +kernel
theorem dX9_init_314 : decode cX9_init 314 = .ok (.iastore, 1) := by decide +kernel
theorem dX9_init_315 : decode cX9_init 315 = .ok (.dup, 1) := by decide +kernel
theorem dX9_init_316 : decode cX9_init 316 = .ok (.bipush 27, 2) := by decide +kernel
theorem dX9_init_318 : decode cX9_init 318 = .ok (.bipush 119, 2) := by decide +kernel
theorem dX9_init_320 : decode cX9_init 320 = .ok (.iastore, 1) := by decide +kernel
theorem dX9_init_321 : decode cX9_init 321 = .ok (.dup, 1) := by decide +kernel
theorem dX9_init_322 : decode cX9_init 322 = .ok (.bipush 28, 2) := by decide +kernel
theorem dX9_init_324 : decode cX9_init 324 = .ok (.bipush 97, 2) := by decide +kernel
theorem dX9_init_326 : decode cX9_init 326 = .ok (.iastore, 1) := by decide +kernel
theorem dX9_init_327 : decode cX9_init 327 = .ok (.dup, 1) := by decide +kernel
theorem dX9_init_328 : decode cX9_init 328 = .ok (.bipush 29, 2) := by decide +kernel
theorem dX9_init_330 : decode cX9_init 330 = .ok (.bipush 121, 2) := by decide +kernel
theorem dX9_init_332 : decode cX9_init 332 = .ok (.iastore, 1) := by decide +kernel
theorem dX9_init_333 : decode cX9_init 333 = .ok (.dup, 1) := by decide +kernel
theorem dX9_init_334 : decode cX9_init 334 = .ok (.bipush 30, 2) := by decide +kernel
theorem dX9_init_336 : decode cX9_init 336 = .ok (.bipush 32, 2) := by decide +kernel
theorem dX9_init_338 : decode cX9_init 338 = .ok (.iastore, 1) := by decide +kernel
theorem dX9_init_339 : decode cX9_init 339 = .ok (.dup, 1) := by decide +kernel
theorem dX9_init_340 : decode cX9_init 340 = .ok (.bipush 31, 2) := by decide +kernel
theorem dX9_init_342 : decode cX9_init 342 = .ok (.iconst 0, 1) := by decide +kernel
theorem dX9_init_343 : decode cX9_init 343 = .ok (.iastore, 1) := by decide +kernel
theorem dX9_init_344 : decode cX9_init 344 = .ok (.dup, 1) := by decide +kernel
theorem dX9_init_345 : decode cX9_init 345 = .ok (.bipush 32, 2) := by decide +kernel
theorem dX9_init_347 : decode cX9_init 347 = .ok (.bipush 117, 2) := by decide +kernel
theorem dX9_init_349 : decode cX9_init 349 = .ok (.iastore, 1) := by decide +kernel
theorem dX9_init_350 : decode cX9_init 350 = .ok (.dup, 1) := by decide +kernel
theorem dX9_init_351 : decode cX9_init 351 = .ok (.bipush 33, 2) := by decide +kernel
theorem dX9_init_353 : decode cX9_init 353 = .ok (.bipush 112, 2) := by decide +kernel
theorem dX9_init_355 : decode cX9_init 355 = .ok (.iastore, 1) := by decide +kernel
theorem dX9_init_356 : decode cX9_init 356 = .ok (.dup, 1) := by decide +kernel
theorem dX9_init_357 : decode cX9_init 357 = .ok (.bipush 34, 2) := by decide +kernel
theorem dX9_init_359 : decode cX9_init 359 = .ok (.bipush 32, 2) := by decide +kernel
theorem dX9_init_361 : decode cX9_init 361 = .ok (.iastore, 1) := by decide +kernel
theorem dX9_init_362 : decode cX9_init 362 = .ok (.dup, 1) := by decide +kernel
theorem dX9_init_363 : decode cX9_init 363 = .ok (.bipush 35, 2) := by decide +kernel
theorem dX9_init_365 : decode cX9_init 365 = .ok (.iconst 0, 1) := by decide +kernel
theorem dX9_init_366 : decode cX9_init 366 = .ok (.iastore, 1) := by decide +kernel
theorem dX9_init_367 : decode cX9_init 367 = .ok (.dup, 1) := by decide +kernel
theorem dX9_init_368 : decode cX9_init 368 = .ok (.bipush 36, 2) := by decide +kernel
theorem dX9_init_370 : decode cX9_init 370 = .ok (.bipush 114, 2) := by decide +kernel
theorem dX9_init_372 : decode cX9_init 372 = .ok (.iastore, 1) := by decide +kernel
theorem dX9_init_373 : decode cX9_init 373 = .ok (.dup, 1) := by decide +kernel
theorem dX9_init_374 : decode cX9_init 374 = .ok (.bipush 37, 2) := by decide +kernel
theorem dX9_init_376 : decode cX9_init 376 = .ok (.bipush 111, 2) := by decide +kernel
theorem dX9_init_378 : decode cX9_init 378 = .ok (.iastore, 1) := by decide +kernel
theorem dX9_init_379 : decode cX9_init 379 = .ok (.dup, 1) := by decide +kernel
theorem dX9_init_380 : decode cX9_init 380 = .ok (.bipush 38, 2) := by decide +kernel
theorem dX9_init_382 : decode cX9_init 382 = .ok (.bipush 112, 2) := by decide +kernel
theorem dX9_init_384 : decode cX9_init 384 = .ok (.iastore, 1) := by decide +kernel
theorem dX9_init_385 : decode cX9_init 385 = .ok (.dup, 1) := by decide +kernel
theorem dX9_init_386 : decode cX9_init 386 = .ok (.bipush 39, 2) := by decide +kernel
theorem dX9_init_388 : decode cX9_init 388 = .ok (.bipush 101, 2) := by decide +kernel
theorem dX9_init_390 : decode cX9_init 390 = .ok (.iastore, 1) := by decide +kernel
theorem dX9_init_391 : decode cX9_init 391 = .ok (.dup, 1) := by decide +kernel
theorem dX9_init_392 : decode cX9_init 392 = .ok (.bipush 40, 2) := by decide +kernel
theorem dX9_init_394 : decode cX9_init 394 = .ok (.bipush 32, 2) := by decide +kernel
theorem dX9_init_396 : decode cX9_init 396 = .ok (.iastore, 1) := by decide +kernel
theorem dX9_init_397 : decode cX9_init 397 = .ok (.dup, 1) := by decide +kernel
theorem dX9_init_398 : decode cX9_init 398 = .ok (.bipush 41, 2) := by decide +kernel
theorem dX9_init_400 : decode cX9_init 400 = .ok (.iconst 0, 1) := by decide +kernel
theorem dX9_init_401 : decode cX9_init 401 = .ok (.iastore, 1) := by decide +kernel
theorem dX9_init_402 : decode cX9_init 402 = .ok (.dup, 1) := by decide +kernel
theorem dX9_init_403 : decode cX9_init 403 = .ok (.bipush 42, 2) := by decide +kernel
theorem dX9_init_405 : decode cX9_init 405 = .ok (.bipush 119, 2) := by decide +kernel
theorem dX9_init_407 : decode cX9_init 407 = .ok (.iastore, 1) := by decide +kernel
theorem dX9_init_408 : decode cX9_init 408 = .ok (.dup, 1) := by decide +kernel
theorem dX9_init_409 : decode cX9_init 409 = .ok (.bipush 43, 2) := by decide +kernel
theorem dX9_init_411 : decode cX9_init 411 = .ok (.bipush 105, 2) := by decide +kernel
theorem dX9_init_413 : decode cX9_init 413 = .ok (.iastore, 1) := by decide +kernel
theorem dX9_init_414 : decode cX9_init 414 = .ok (.dup, 1) := by decide +kernel
theorem dX9_init_415 : decode cX9_init 415 = .ok (.bipush 44, 2) := by decide +kernel
theorem dX9_init_417 : decode cX9_init 417 = .ok (.bipush 110, 2) := by decide +kernel
theorem dX9_init_419 : decode cX9_init 419 = .ok (.iastore, 1) := by decide +kernel
theorem dX9_init_420 : decode cX9_init 420 = .ok (.dup, 1) := by decide +kernel
theorem dX9_init_421 : decode cX9_init 421 = .ok (.bipush 45, 2) := by decide +kernel
theorem dX9_init_423 : decode cX9_init 423 = .ok (.bipush 100, 2) := by decide +kernel
theorem dX9_init_425 : decode cX9_init 425 = .ok (.iastore, 1) := by decide +kernel
theorem dX9_init_426 : decode cX9_init 426 = .ok (.dup, 1) := by decide +kernel
theorem dX9_init_427 : decode cX9_init 427 = .ok (.bipush 46, 2) := by decide +kernel
theorem dX9_init_429 : decode cX9_init 429 = .ok (.bipush 32, 2) := by decide +kernel
theorem dX9_init_431 : decode cX9_init 431 = .ok (.iastore, 1) := by decide +kernel
theorem dX9_init_432 : decode cX9_init 432 = .ok (.dup, 1) := by decide +kernel
theorem dX9_init_433 : decode cX9_init 433 = .ok (.bipush 47, 2) := by decide +kernel
theorem dX9_init_435 : decode cX9_init 435 = .ok (.iconst 0, 1) := by decide +kernel
theorem dX9_init_436 : decode cX9_init 436 = .ok (.iastore, 1) := by decide +kernel
theorem dX9_init_437 : decode cX9_init 437 = .ok (.putfield 75, 3) := by decide +kernel
theorem dX9_init_440 : decode cX9_init 440 = .ok (.aload_n 0, 1) := by decide +kernel
theorem dX9_init_441 : decode cX9_init 441 = .ok (.bipush 8, 2) := by decide +kernel
theorem dX9_init_443 : decode cX9_init 443 = .ok (.newarray .int, 2) := by decide +kernel
theorem dX9_init_445 : decode cX9_init 445 = .ok (.dup, 1) := by decide +kernel
theorem dX9_init_446 : decode cX9_init 446 = .ok (.iconst 0, 1) := by decide +kernel
theorem dX9_init_447 : decode cX9_init 447 = .ok (.iconst 3, 1) := by decide +kernel
theorem dX9_init_448 : decode cX9_init 448 = .ok (.iastore, 1) := by decide +kernel
theorem dX9_init_449 : decode cX9_init 449 = .ok (.dup, 1) := by decide +kernel
theorem dX9_init_450 : decode cX9_init 450 = .ok (.iconst 1, 1) := by decide +kernel
theorem dX9_init_451 : decode cX9_init 451 = .ok (.iconst 2, 1) := by decide +kernel
theorem dX9_init_452 : decode cX9_init 452 = .ok (.iastore, 1) := by decide +kernel
theorem dX9_init_453 : decode cX9_init 453 = .ok (.dup, 1) := by decide +kernel
theorem dX9_init_454 : decode cX9_init 454 = .ok (.iconst 2, 1) := by decide +kernel
theorem dX9_init_455 : decode cX9_init 455 = .ok (.iconst 2, 1) := by decide +kernel
theorem dX9_init_456 : decode cX9_init 456 = .ok (.iastore, 1) := by decide +kernel
theorem dX9_init_457 : decode cX9_init 457 = .ok (.dup, 1) := by decide +kernel
theorem dX9_init_458 : decode cX9_init 458 = .ok (.iconst 3, 1) := by decide +kernel
theorem dX9_init_459 : decode cX9_init 459 = .ok (.iconst 2, 1) := by decide +kernel
theorem dX9_init_460 : decode cX9_init 460 = .ok (.iastore, 1) := by decide +kernel
theorem dX9_init_461 : decode cX9_init 461 = .ok (.dup, 1) := by decide +kernel
theorem dX9_init_462 : decode cX9_init 462 = .ok (.iconst 4, 1) := by decide +kernel
theorem dX9_init_463 : decode cX9_init 463 = .ok (.iconst 1, 1) := by decide +kernel
theorem dX9_init_464 : decode cX9_init 464 = .ok (.iastore, 1) := by decide +kernel
theorem dX9_init_465 : decode cX9_init 465 = .ok (.dup, 1) := by decide +kernel
theorem dX9_init_466 : decode cX9_init 466 = .ok (.iconst 5, 1) := by decide +kernel
theorem dX9_init_467 : decode cX9_init 467 = .ok (.iconst 1, 1) := by decide +kernel
theorem dX9_init_468 : decode cX9_init 468 = .ok (.iastore, 1) := by decide +kernel
theorem dX9_init_469 : decode cX9_init 469 = .ok (.dup, 1) := by decide +kernel
theorem dX9_init_470 : decode cX9_init 470 = .ok (.bipush 6, 2) := by decide +kernel
theorem dX9_init_472 : decode cX9_init 472 = .ok (.iconst 1, 1) := by decide +kernel
theorem dX9_init_473 : decode cX9_init 473 = .ok (.iastore, 1) := by decide +kernel
theorem dX9_init_474 : decode cX9_init 474 = .ok (.dup, 1) := by decide +kernel
theorem dX9_init_475 : decode cX9_init 475 = .ok (.bipush 7, 2) := by decide +kernel
theorem dX9_init_477 : decode cX9_init 477 = .ok (.iconst 1, 1) := by decide +kernel
theorem dX9_init_478 : decode cX9_init 478 = .ok (.iastore, 1) := by decide +kernel
theorem dX9_init_479 : decode cX9_init 479 = .ok (.putfield 78, 3) := by decide +kernel
theorem dX9_init_482 : decode cX9_init 482 = .ok (.aload_n 0, 1) := by decide +kernel
theorem dX9_init_483 : decode cX9_init 483 = .ok (.iconst 3, 1) := by decide +kernel
theorem dX9_init_484 : decode cX9_init 484 = .ok (.newarray .int, 2) := by decide +kernel
theorem dX9_init_486 : decode cX9_init 486 = .ok (.putfield 81, 3) := by decide +kernel
theorem dX9_init_489 : decode cX9_init 489 = .ok (.aload_n 0, 1) := by decide +kernel
theorem dX9_init_490 : decode cX9_init 490 = .ok (.bipush 80, 2) := by decide +kernel
theorem dX9_init_492 : decode cX9_init 492 = .ok (.newarray .int, 2) := by decide +kernel
theorem dX9_init_494 : decode cX9_init 494 = .ok (.putfield 84, 3) := by decide +kernel
theorem dX9_init_497 : decode cX9_init 497 = .ok (.aload_n 0, 1) := by decide +kernel
theorem dX9_init_498 : decode cX9_init 498 = .ok (.bipush 80, 2) := by decide +kernel
theorem dX9_init_500 : decode cX9_init 500 = .ok (.newarray .int, 2) := by decide +kernel
theorem dX9_init_502 : decode cX9_init 502 = .ok (.putfield 87, 3) := by decide +kernel
theorem dX9_init_505 : decode cX9_init 505 = .ok (.aload_n 0, 1) := by decide +kernel
theorem dX9_init_506 : decode cX9_init 506 = .ok (.bipush 40, 2) := by decide +kernel
theorem dX9_init_508 : decode cX9_init 508 = .ok (.newarray .int, 2) := by decide +kernel
theorem dX9_init_510 : decode cX9_init 510 = .ok (.putfield 90, 3) := by decide +kernel
theorem dX9_init_513 : decode cX9_init 513 = .ok (.aload_n 0, 1) := by decide +kernel
theorem dX9_init_514 : decode cX9_init 514 = .ok (.iconst 5, 1) := by decide +kernel
theorem dX9_init_515 : decode cX9_init 515 = .ok (.newarray .int, 2) := by decide +kernel
theorem dX9_init_517 : decode cX9_init 517 = .ok (.putfield 93, 3) := by decide +kernel
theorem dX9_init_520 : decode cX9_init 520 = .ok (.aload_n 0, 1) := by decide +kernel
theorem dX9_init_521 : decode cX9_init 521 = .ok (.iconst 5, 1) := by decide +kernel
theorem dX9_init_522 : decode cX9_init 522 = .ok (.newarray .int, 2) := by decide +kernel
theorem dX9_init_524 : decode cX9_init 524 = .ok (.putfield 96, 3) := by decide +kernel
theorem dX9_init_527 : decode cX9_init 527 = .ok (.aload_n 0, 1) := by decide +kernel
theorem dX9_init_528 : decode cX9_init 528 = .ok (.bipush 8, 2) := by decide +kernel
theorem dX9_init_530 : decode cX9_init 530 = .ok (.newarray .int, 2) := by decide +kernel
theorem dX9_init_532 : decode cX9_init 532 = .ok (.putfield 99, 3) := by decide +kernel
theorem dX9_init_535 : decode cX9_init 535 = .ok (.aload_n 0, 1) := by decide +kernel
theorem dX9_init_536 : decode cX9_init 536 = .ok (.bipush 8, 2) := by decide +kernel
theorem dX9_init_538 : decode cX9_init 538 = .ok (.newarray .int, 2) := by decide +kernel
theorem dX9_init_540 : decode cX9_init 540 = .ok (.putfield 102, 3) := by decide +kernel
theorem dX9_init_543 : decode cX9_init 543 = .ok (.aload_n 0, 1) := by decide +kernel
theorem dX9_init_544 : decode cX9_init 544 = .ok (.bipush 8, 2) := by decide +kernel
theorem dX9_init_546 : decode cX9_init 546 = .ok (.newarray .int, 2) := by decide +kernel
theorem dX9_init_548 : decode cX9_init 548 = .ok (.putfield 105, 3) := by decide +kernel
theorem dX9_init_551 : decode cX9_init 551 = .ok (.aload_n 0, 1) := by decide +kernel
theorem dX9_init_552 : decode cX9_init 552 = .ok (.bipush 8, 2) := by decide +kernel
theorem dX9_init_554 : decode cX9_init 554 = .ok (.newarray .int, 2) := by decide +kernel
theorem dX9_init_556 : decode cX9_init 556 = .ok (.putfield 108, 3) := by decide +kernel
theorem dX9_init_559 : decode cX9_init 559 = .ok (.aload_n 0, 1) := by decide +kernel
theorem dX9_init_560 : decode cX9_init 560 = .ok (.bipush 8, 2) := by decide +kernel
theorem dX9_init_562 : decode cX9_init 562 = .ok (.newarray .int, 2) := by decide +kernel
theorem dX9_init_564 : decode cX9_init 564 = .ok (.putfield 111, 3) := by decide +kernel
theorem dX9_init_567 : decode cX9_init 567 = .ok (.aload_n 0, 1) := by decide +kernel
theorem dX9_init_568 : decode cX9_init 568 = .ok (.bipush 20, 2) := by decide +kernel
theorem dX9_init_570 : decode cX9_init 570 = .ok (.newarray .int, 2) := by decide +kernel
theorem dX9_init_572 : decode cX9_init 572 = .ok (.putfield 114, 3) := by decide +kernel
theorem dX9_init_575 : decode cX9_init 575 = .ok (.return_, 1) := by decide +kernel
theorem dX9_no_0 : decode cX9_no 0 = .ok (.aload_n 0, 1) := by decide +kernel
theorem dX9_no_1 : decode cX9_no 1 = .ok (.getfield 28, 3) := by decide +kernel
theorem dX9_no_4 : decode cX9_no 4 = .ok (.iload_n 1, 1) := by decide +kernel
theorem dX9_no_5 : decode cX9_no 5 = .ok (.ineg, 1) := by decide +kernel
theorem dX9_no_6 : decode cX9_no 6 = .ok (.dup2, 1) := by decide +kernel
theorem dX9_no_7 : decode cX9_no 7 = .ok (.iaload, 1) := by decide +kernel
theorem dX9_no_8 : decode cX9_no 8 = .ok (.iconst 1, 1) := by decide +kernel
theorem dX9_no_9 : decode cX9_no 9 = .ok (.iadd, 1) := by decide +kernel
theorem dX9_no_10 : decode cX9_no 10 = .ok (.iastore, 1) := by decide +kernel
theorem dX9_no_11 : decode cX9_no 11 = .ok (.iload_n 1, 1) := by decide +kernel
theorem dX9_no_12 : decode cX9_no 12 = .ok (.ireturn, 1) := by decide +kernel
theorem dX9_noTen_0 : decode cX9_noTen 0 = .ok (.aload_n 0, 1) := by decide +kernel
theorem dX9_noTen_1 : decode cX9_noTen 1 = .ok (.getfield 28, 3) := by decide +kernel
theorem dX9_noTen_4 : decode cX9_noTen 4 = .ok (.iload_n 1, 1) := by decide +kernel
theorem dX9_noTen_5 : decode cX9_noTen 5 = .ok (.ineg, 1) := by decide +kernel
theorem dX9_noTen_6 : decode cX9_noTen 6 = .ok (.dup2, 1) := by decide +kernel
theorem dX9_noTen_7 : decode cX9_noTen 7 = .ok (.iaload, 1) := by decide +kernel
theorem dX9_noTen_8 : decode cX9_noTen 8 = .ok (.iconst 1, 1) := by decide +kernel
theorem dX9_noTen_9 : decode cX9_noTen 9 = .ok (.iadd, 1) := by decide +kernel
theorem dX9_noTen_10 : decode cX9_noTen 10 = .ok (.iastore, 1) := by decide +kernel
theorem dX9_noTen_11 : decode cX9_noTen 11 = .ok (.iload_n 1, 1) := by decide +kernel
theorem dX9_noTen_12 : decode cX9_noTen 12 = .ok (.bipush 10, 2) := by decide +kernel
theorem dX9_noTen_14 : decode cX9_noTen 14 = .ok (.isub, 1) := by decide +kernel
theorem dX9_noTen_15 : decode cX9_noTen 15 = .ok (.ireturn, 1) := by decide +kernel
theorem dX9_isShelf_0 : decode cX9_isShelf 0 = .ok (.iload_n 1, 1) := by decide +kernel
theorem dX9_isShelf_1 : decode cX9_isShelf 1 = .ok (.ifCond .lt 13, 3) := by decide +kernel
theorem dX9_isShelf_4 : decode cX9_isShelf 4 = .ok (.iload_n 1, 1) := by decide +kernel
theorem dX9_isShelf_5 : decode cX9_isShelf 5 = .ok (.bipush 8, 2) := by decide +kernel
theorem dX9_isShelf_7 : decode cX9_isShelf 7 = .ok (.if_icmp .ge 7, 3) := by decide +kernel
theorem dX9_isShelf_10 : decode cX9_isShelf 10 = .ok (.iconst 1, 1) := by decide +kernel
theorem dX9_isShelf_11 : decode cX9_isShelf 11 = .ok (.goto 4, 3) := by decide +kernel
theorem dX9_isShelf_14 : decode cX9_isShelf 14 = .ok (.iconst 0, 1) := by decide +kernel
theorem dX9_isShelf_15 : decode cX9_isShelf 15 = .ok (.ireturn, 1) := by decide +kernel
theorem dX9_isChild_0 : decode cX9_isChild 0 = .ok (.iload_n 1, 1) := by decide +kernel
theorem dX9_isChild_1 : decode cX9_isChild 1 = .ok (.ifCond .lt 15, 3) := by decide +kernel
theorem dX9_isChild_4 : decode cX9_isChild 4 = .ok (.iload_n 1, 1) := by decide +kernel
theorem dX9_isChild_5 : decode cX9_isChild 5 = .ok (.aload_n 0, 1) := by decide +kernel
theorem dX9_isChild_6 : decode cX9_isChild 6 = .ok (.getfield 117, 3) := by decide +kernel
theorem dX9_isChild_9 : decode cX9_isChild 9 = .ok (.if_icmp .ge 7, 3) := by decide +kernel
theorem dX9_isChild_12 : decode cX9_isChild 12 = .ok (.iconst 1, 1) := by decide +kernel
theorem dX9_isChild_13 : decode cX9_isChild 13 = .ok (.goto 4, 3) := by decide +kernel
theorem dX9_isChild_16 : decode cX9_isChild 16 = .ok (.iconst 0, 1) := by decide +kernel
theorem dX9_isChild_17 : decode cX9_isChild 17 = .ok (.ireturn, 1) := by decide +kernel
theorem dX9_isSack_0 : decode cX9_isSack 0 = .ok (.iload_n 1, 1) := by decide +kernel
theorem dX9_isSack_1 : decode cX9_isSack 1 = .ok (.ifCond .lt 15, 3) := by decide +kernel
theorem dX9_isSack_4 : decode cX9_isSack 4 = .ok (.iload_n 1, 1) := by decide +kernel
theorem dX9_isSack_5 : decode cX9_isSack 5 = .ok (.aload_n 0, 1) := by decide +kernel
theorem dX9_isSack_6 : decode cX9_isSack 6 = .ok (.getfield 120, 3) := by decide +kernel
theorem dX9_isSack_9 : decode cX9_isSack 9 = .ok (.if_icmp .ge 7, 3) := by decide +kernel
theorem dX9_isSack_12 : decode cX9_isSack 12 = .ok (.iconst 1, 1) := by decide +kernel
theorem dX9_isSack_13 : decode cX9_isSack 13 = .ok (.goto 4, 3) := by decide +kernel
theorem dX9_isSack_16 : decode cX9_isSack 16 = .ok (.iconst 0, 1) := by decide +kernel
theorem dX9_isSack_17 : decode cX9_isSack 17 = .ok (.ireturn, 1) := by decide +kernel
theorem dX9_abs_0 : decode cX9_abs 0 = .ok (.iload_n 1, 1) := by decide +kernel
theorem dX9_abs_1 : decode cX9_abs 1 = .ok (.ifCond .ge 8, 3) := by decide +kernel
theorem dX9_abs_4 : decode cX9_abs 4 = .ok (.iload_n 1, 1) := by decide +kernel
theorem dX9_abs_5 : decode cX9_abs 5 = .ok (.ineg, 1) := by decide +kernel
theorem dX9_abs_6 : decode cX9_abs 6 = .ok (.goto 4, 3) := by decide +kernel
theorem dX9_abs_9 : decode cX9_abs 9 = .ok (.iload_n 1, 1) := by decide +kernel
theorem dX9_abs_10 : decode cX9_abs 10 = .ok (.ireturn, 1) := by decide +kernel
theorem dX9_row_0 : decode cX9_row 0 = .ok (.aload_n 0, 1) := by decide +kernel
theorem dX9_row_1 : decode cX9_row 1 = .ok (.iload_n 1, 1) := by decide +kernel
theorem dX9_row_2 : decode cX9_row 2 = .ok (.invokevirtual 123, 3) := by decide +kernel
theorem dX9_row_5 : decode cX9_row 5 = .ok (.ifCond .ne 9, 3) := by decide +kernel
theorem dX9_row_8 : decode cX9_row 8 = .ok (.aload_n 0, 1) := by decide +kernel
theorem dX9_row_9 : decode cX9_row 9 = .ok (.iconst (-1), 1) := by decide +kernel
theorem dX9_row_10 : decode cX9_row 10 = .ok (.invokevirtual 127, 3) := by decide +kernel
theorem dX9_row_13 : decode cX9_row 13 = .ok (.ireturn, 1) := by decide +kernel
theorem dX9_row_14 : decode cX9_row 14 = .ok (.iload_n 3, 1) := by decide +kernel
theorem dX9_row_15 : decode cX9_row 15 = .ok (.ifCond .ge 10, 3) := by decide +kernel
theorem dX9_row_18 : decode cX9_row 18 = .ok (.aload_n 0, 1) := by decide +kernel
theorem dX9_row_19 : decode cX9_row 19 = .ok (.bipush (-4), 2) := by decide +kernel
theorem dX9_row_21 : decode cX9_row 21 = .ok (.invokevirtual 127, 3) := by decide +kernel
theorem dX9_row_24 : decode cX9_row 24 = .ok (.ireturn, 1) := by decide +kernel
theorem dX9_row_25 : decode cX9_row 25 = .ok (.iload_n 2, 1) := by decide +kernel
theorem dX9_row_26 : decode cX9_row 26 = .ok (.ifCond .lt 8, 3) := by decide +kernel
theorem dX9_row_29 : decode cX9_row 29 = .ok (.iload_n 2, 1) := by decide +kernel
theorem dX9_row_30 : decode cX9_row 30 = .ok (.iconst 3, 1) := by decide +kernel
theorem dX9_row_31 : decode cX9_row 31 = .ok (.if_icmp .le 10, 3) := by decide +kernel
theorem dX9_row_34 : decode cX9_row 34 = .ok (.aload_n 0, 1) := by decide +kernel
theorem dX9_row_35 : decode cX9_row 35 = .ok (.bipush (-6), 2) := by decide +kernel
theorem dX9_row_37 : decode cX9_row 37 = .ok (.invokevirtual 127, 3) := by decide +kernel
theorem dX9_row_40 : decode cX9_row 40 = .ok (.ireturn, 1) := by decide +kernel
theorem dX9_row_41 : decode cX9_row 41 = .ok (.iload_n 3, 1) := by decide +kernel
theorem dX9_row_42 : decode cX9_row 42 = .ok (.sipush 160, 3) := by decide +kernel
theorem dX9_row_45 : decode cX9_row 45 = .ok (.if_icmp .le 10, 3) := by decide +kernel
theorem dX9_row_48 : decode cX9_row 48 = .ok (.aload_n 0, 1) := by decide +kernel
theorem dX9_row_49 : decode cX9_row 49 = .ok (.bipush (-7), 2) := by decide +kernel
theorem dX9_row_51 : decode cX9_row 51 = .ok (.invokevirtual 127, 3) := by decide +kernel
theorem dX9_row_54 : decode cX9_row 54 = .ok (.ireturn, 1) := by decide +kernel
theorem dX9_row_55 : decode cX9_row 55 = .ok (.aload_n 0, 1) := by decide +kernel
theorem dX9_row_56 : decode cX9_row 56 = .ok (.getfield 56, 3) := by decide +kernel
theorem dX9_row_59 : decode cX9_row 59 = .ok (.iload_n 1, 1) := by decide +kernel
theorem dX9_row_60 : decode cX9_row 60 = .ok (.iconst 1, 1) := by decide +kernel
theorem dX9_row_61 : decode cX9_row 61 = .ok (.iastore, 1) := by decide +kernel
theorem dX9_row_62 : decode cX9_row 62 = .ok (.aload_n 0, 1) := by decide +kernel
theorem dX9_row_63 : decode cX9_row 63 = .ok (.getfield 59, 3) := by decide +kernel
theorem dX9_row_66 : decode cX9_row 66 = .ok (.iload_n 1, 1) := by decide +kernel
theorem dX9_row_67 : decode cX9_row 67 = .ok (.iload_n 2, 1) := by decide +kernel
theorem dX9_row_68 : decode cX9_row 68 = .ok (.iastore, 1) := by decide +kernel
theorem dX9_row_69 : decode cX9_row 69 = .ok (.aload_n 0, 1) := by decide +kernel
theorem dX9_row_70 : decode cX9_row 70 = .ok (.getfield 62, 3) := by decide +kernel
theorem dX9_row_73 : decode cX9_row 73 = .ok (.iload_n 1, 1) := by decide +kernel
theorem dX9_row_74 : decode cX9_row 74 = .ok (.iload_n 3, 1) := by decide +kernel
theorem dX9_row_75 : decode cX9_row 75 = .ok (.iastore, 1) := by decide +kernel
theorem dX9_row_76 : decode cX9_row 76 = .ok (.iconst 0, 1) := by decide +kernel
theorem dX9_row_77 : decode cX9_row 77 = .ok (.istore 4, 2) := by decide +kernel
theorem dX9_row_79 : decode cX9_row 79 = .ok (.iload 4, 2) := by decide +kernel
theorem dX9_row_81 : decode cX9_row 81 = .ok (.sipush 160, 3) := by decide +kernel
theorem dX9_row_84 : decode cX9_row 84 = .ok (.if_icmp .ge 23, 3) := by decide +kernel
theorem dX9_row_87 : decode cX9_row 87 = .ok (.aload_n 0, 1) := by decide +kernel
theorem dX9_row_88 : decode cX9_row 88 = .ok (.getfield 68, 3) := by decide +kernel
theorem dX9_row_91 : decode cX9_row 91 = .ok (.sipush 160, 3) := by decide +kernel
theorem dX9_row_94 : decode cX9_row 94 = .ok (.iload_n 1, 1) := by decide +kernel
theorem dX9_row_95 : decode cX9_row 95 = .ok (.imul, 1) := by decide +kernel
theorem dX9_row_96 : decode cX9_row 96 = .ok (.iload 4, 2) := by decide +kernel
theorem dX9_row_98 : decode cX9_row 98 = .ok (.iadd, 1) := by decide +kernel
theorem dX9_row_99 : decode cX9_row 99 = .ok (.lconst 0, 1) := by decide +kernel
theorem dX9_row_100 : decode cX9_row 100 = .ok (.lastore, 1) := by decide +kernel
theorem dX9_row_101 : decode cX9_row 101 = .ok (.iinc 4 1, 3) := by decide +kernel
theorem dX9_row_104 : decode cX9_row 104 = .ok (.goto (-25), 3) := by decide +kernel
theorem dX9_row_107 : decode cX9_row 107 = .ok (.iconst 1, 1) := by decide +kernel
theorem dX9_row_108 : decode cX9_row 108 = .ok (.ireturn, 1) := by decide +kernel
theorem dX9_set_0 : decode cX9_set 0 = .ok (.aload_n 0, 1) := by decide +kernel
theorem dX9_set_1 : decode cX9_set 1 = .ok (.iload_n 1, 1) := by decide +kernel
theorem dX9_set_2 : decode cX9_set 2 = .ok (.invokevirtual 123, 3) := by decide +kernel
theorem dX9_set_5 : decode cX9_set 5 = .ok (.ifCond .ne 9, 3) := by decide +kernel
theorem dX9_set_8 : decode cX9_set 8 = .ok (.aload_n 0, 1) := by decide +kernel
theorem dX9_set_9 : decode cX9_set 9 = .ok (.iconst (-1), 1) := by decide +kernel
theorem dX9_set_10 : decode cX9_set 10 = .ok (.invokevirtual 127, 3) := by decide +kernel
theorem dX9_set_13 : decode cX9_set 13 = .ok (.ireturn, 1) := by decide +kernel
theorem dX9_set_14 : decode cX9_set 14 = .ok (.aload_n 0, 1) := by decide +kernel
theorem dX9_set_15 : decode cX9_set 15 = .ok (.getfield 56, 3) := by decide +kernel
theorem dX9_set_18 : decode cX9_set 18 = .ok (.iload_n 1, 1) := by decide +kernel
theorem dX9_set_19 : decode cX9_set 19 = .ok (.iaload, 1) := by decide +kernel
theorem dX9_set_20 : decode cX9_set 20 = .ok (.iconst 2, 1) := by decide +kernel
theorem dX9_set_21 : decode cX9_set 21 = .ok (.if_icmp .ne 10, 3) := by decide +kernel
theorem dX9_set_24 : decode cX9_set 24 = .ok (.aload_n 0, 1) := by decide +kernel
theorem dX9_set_25 : decode cX9_set 25 = .ok (.bipush (-2), 2) := by decide +kernel
theorem dX9_set_27 : decode cX9_set 27 = .ok (.invokevirtual 127, 3) := by decide +kernel
theorem dX9_set_30 : decode cX9_set 30 = .ok (.ireturn, 1) := by decide +kernel
theorem dX9_set_31 : decode cX9_set 31 = .ok (.aload_n 0, 1) := by decide +kernel
theorem dX9_set_32 : decode cX9_set 32 = .ok (.getfield 56, 3) := by decide +kernel
theorem dX9_set_35 : decode cX9_set 35 = .ok (.iload_n 1, 1) := by decide +kernel
theorem dX9_set_36 : decode cX9_set 36 = .ok (.iaload, 1) := by decide +kernel
theorem dX9_set_37 : decode cX9_set 37 = .ok (.ifCond .ne 10, 3) := by decide +kernel
theorem dX9_set_40 : decode cX9_set 40 = .ok (.aload_n 0, 1) := by decide +kernel
theorem dX9_set_41 : decode cX9_set 41 = .ok (.bipush (-3), 2) := by decide +kernel
theorem dX9_set_43 : decode cX9_set 43 = .ok (.invokevirtual 127, 3) := by decide +kernel
theorem dX9_set_46 : decode cX9_set 46 = .ok (.ireturn, 1) := by decide +kernel
theorem dX9_set_47 : decode cX9_set 47 = .ok (.iload_n 2, 1) := by decide +kernel
theorem dX9_set_48 : decode cX9_set 48 = .ok (.ifCond .lt 13, 3) := by decide +kernel
theorem dX9_set_51 : decode cX9_set 51 = .ok (.iload_n 2, 1) := by decide +kernel
theorem dX9_set_52 : decode cX9_set 52 = .ok (.aload_n 0, 1) := by decide +kernel
theorem dX9_set_53 : decode cX9_set 53 = .ok (.getfield 62, 3) := by decide +kernel
theorem dX9_set_56 : decode cX9_set 56 = .ok (.iload_n 1, 1) := by decide +kernel
theorem dX9_set_57 : decode cX9_set 57 = .ok (.iaload, 1) := by decide +kernel
theorem dX9_set_58 : decode cX9_set 58 = .ok (.if_icmp .lt 10, 3) := by decide +kernel
theorem dX9_set_61 : decode cX9_set 61 = .ok (.aload_n 0, 1) := by decide +kernel
theorem dX9_set_62 : decode cX9_set 62 = .ok (.bipush (-5), 2) := by decide +kernel
theorem dX9_set_64 : decode cX9_set 64 = .ok (.invokevirtual 127, 3) := by decide +kernel
theorem dX9_set_67 : decode cX9_set 67 = .ok (.ireturn, 1) := by decide +kernel
theorem dX9_set_68 : decode cX9_set 68 = .ok (.aload_n 0, 1) := by decide +kernel
theorem dX9_set_69 : decode cX9_set 69 = .ok (.getfield 68, 3) := by decide +kernel
theorem dX9_set_72 : decode cX9_set 72 = .ok (.sipush 160, 3) := by decide +kernel
theorem dX9_set_75 : decode cX9_set 75 = .ok (.iload_n 1, 1) := by decide +kernel
theorem dX9_set_76 : decode cX9_set 76 = .ok (.imul, 1) := by decide +kernel
theorem dX9_set_77 : decode cX9_set 77 = .ok (.iload_n 2, 1) := by decide +kernel
theorem dX9_set_78 : decode cX9_set 78 = .ok (.iadd, 1) := by decide +kernel
theorem dX9_set_79 : decode cX9_set 79 = .ok (.aload_n 0, 1) := by decide +kernel
theorem dX9_set_80 : decode cX9_set 80 = .ok (.getfield 59, 3) := by decide +kernel
theorem dX9_set_83 : decode cX9_set 83 = .ok (.iload_n 1, 1) := by decide +kernel
theorem dX9_set_84 : decode cX9_set 84 = .ok (.iaload, 1) := by decide +kernel
theorem dX9_set_85 : decode cX9_set 85 = .ok (.ifCond .ne 10, 3) := by decide +kernel
theorem dX9_set_88 : decode cX9_set 88 = .ok (.lload_n 3, 1) := by decide +kernel
theorem dX9_set_89 : decode cX9_set 89 = .ok (.l2i, 1) := by decide +kernel
theorem dX9_set_90 : decode cX9_set 90 = .ok (.i2b, 1) := by decide +kernel
theorem dX9_set_91 : decode cX9_set 91 = .ok (.i2l, 1) := by decide +kernel
theorem dX9_set_92 : decode cX9_set 92 = .ok (.goto 37, 3) := by decide +kernel
theorem dX9_set_95 : decode cX9_set 95 = .ok (.aload_n 0, 1) := by decide +kernel
theorem dX9_set_96 : decode cX9_set 96 = .ok (.getfield 59, 3) := by decide +kernel
theorem dX9_set_99 : decode cX9_set 99 = .ok (.iload_n 1, 1) := by decide +kernel
theorem dX9_set_100 : decode cX9_set 100 = .ok (.iaload, 1) := by decide +kernel
theorem dX9_set_101 : decode cX9_set 101 = .ok (.iconst 1, 1) := by decide +kernel
theorem dX9_set_102 : decode cX9_set 102 = .ok (.if_icmp .ne 10, 3) := by decide +kernel
theorem dX9_set_105 : decode cX9_set 105 = .ok (.lload_n 3, 1) := by decide +kernel
theorem dX9_set_106 : decode cX9_set 106 = .ok (.l2i, 1) := by decide +kernel
theorem dX9_set_107 : decode cX9_set 107 = .ok (.i2s, 1) := by decide +kernel
theorem dX9_set_108 : decode cX9_set 108 = .ok (.i2l, 1) := by decide +kernel
theorem dX9_set_109 : decode cX9_set 109 = .ok (.goto 20, 3) := by decide +kernel
theorem dX9_set_112 : decode cX9_set 112 = .ok (.aload_n 0, 1) := by decide +kernel
theorem dX9_set_113 : decode cX9_set 113 = .ok (.getfield 59, 3) := by decide +kernel
theorem dX9_set_116 : decode cX9_set 116 = .ok (.iload_n 1, 1) := by decide +kernel
theorem dX9_set_117 : decode cX9_set 117 = .ok (.iaload, 1) := by decide +kernel
theorem dX9_set_118 : decode cX9_set 118 = .ok (.iconst 2, 1) := by decide +kernel
theorem dX9_set_119 : decode cX9_set 119 = .ok (.if_icmp .ne 9, 3) := by decide +kernel
theorem dX9_set_122 : decode cX9_set 122 = .ok (.lload_n 3, 1) := by decide +kernel
theorem dX9_set_123 : decode cX9_set 123 = .ok (.l2i, 1) := by decide +kernel
theorem dX9_set_124 : decode cX9_set 124 = .ok (.i2l, 1) := by decide +kernel
theorem dX9_set_125 : decode cX9_set 125 = .ok (.goto 4, 3) := by decide +kernel
theorem dX9_set_128 : decode cX9_set 128 = .ok (.lload_n 3, 1) := by decide +kernel
theorem dX9_set_129 : decode cX9_set 129 = .ok (.lastore, 1) := by decide +kernel
theorem dX9_set_130 : decode cX9_set 130 = .ok (.iconst 1, 1) := by decide +kernel
theorem dX9_set_131 : decode cX9_set 131 = .ok (.ireturn, 1) := by decide +kernel
theorem dX9_copy_0 : decode cX9_copy 0 = .ok (.aload_n 0, 1) := by decide +kernel
theorem dX9_copy_1 : decode cX9_copy 1 = .ok (.iload_n 1, 1) := by decide +kernel
theorem dX9_copy_2 : decode cX9_copy 2 = .ok (.invokevirtual 123, 3) := by decide +kernel
theorem dX9_copy_5 : decode cX9_copy 5 = .ok (.ifCond .eq 11, 3) := by decide +kernel
theorem dX9_copy_8 : decode cX9_copy 8 = .ok (.aload_n 0, 1) := by decide +kernel
theorem dX9_copy_9 : decode cX9_copy 9 = .ok (.iload_n 2, 1) := by decide +kernel
theorem dX9_copy_10 : decode cX9_copy 10 = .ok (.invokevirtual 123, 3) := by decide +kernel
theorem dX9_copy_13 : decode cX9_copy 13 = .ok (.ifCond .ne 9, 3) := by decide +kernel
theorem dX9_copy_16 : decode cX9_copy 16 = .ok (.aload_n 0, 1) := by decide +kernel
theorem dX9_copy_17 : decode cX9_copy 17 = .ok (.iconst (-1), 1) := by decide +kernel
theorem dX9_copy_18 : decode cX9_copy 18 = .ok (.invokevirtual 127, 3) := by decide +kernel
theorem dX9_copy_21 : decode cX9_copy 21 = .ok (.ireturn, 1) := by decide +kernel
theorem dX9_copy_22 : decode cX9_copy 22 = .ok (.aload_n 0, 1) := by decide +kernel
theorem dX9_copy_23 : decode cX9_copy 23 = .ok (.getfield 56, 3) := by decide +kernel
theorem dX9_copy_26 : decode cX9_copy 26 = .ok (.iload_n 1, 1) := by decide +kernel
theorem dX9_copy_27 : decode cX9_copy 27 = .ok (.iaload, 1) := by decide +kernel
theorem dX9_copy_28 : decode cX9_copy 28 = .ok (.iconst 2, 1) := by decide +kernel
theorem dX9_copy_29 : decode cX9_copy 29 = .ok (.if_icmp .eq 48, 3) := by decide +kernel
theorem dX9_copy_32 : decode cX9_copy 32 = .ok (.aload_n 0, 1) := by decide +kernel
theorem dX9_copy_33 : decode cX9_copy 33 = .ok (.getfield 56, 3) := by decide +kernel
theorem dX9_copy_36 : decode cX9_copy 36 = .ok (.iload_n 2, 1) := by decide +kernel
theorem dX9_copy_37 : decode cX9_copy 37 = .ok (.iaload, 1) := by decide +kernel
theorem dX9_copy_38 : decode cX9_copy 38 = .ok (.iconst 2, 1) := by decide +kernel
theorem dX9_copy_39 : decode cX9_copy 39 = .ok (.if_icmp .eq 38, 3) := by decide +kernel
theorem dX9_copy_42 : decode cX9_copy 42 = .ok (.aload_n 0, 1) := by decide +kernel
theorem dX9_copy_43 : decode cX9_copy 43 = .ok (.getfield 56, 3) := by decide +kernel
theorem dX9_copy_46 : decode cX9_copy 46 = .ok (.iload_n 1, 1) := by decide +kernel
theorem dX9_copy_47 : decode cX9_copy 47 = .ok (.iaload, 1) := by decide +kernel
theorem dX9_copy_48 : decode cX9_copy 48 = .ok (.iconst 1, 1) := by decide +kernel
theorem dX9_copy_49 : decode cX9_copy 49 = .ok (.if_icmp .ne 35, 3) := by decide +kernel
theorem dX9_copy_52 : decode cX9_copy 52 = .ok (.aload_n 0, 1) := by decide +kernel
theorem dX9_copy_53 : decode cX9_copy 53 = .ok (.getfield 56, 3) := by decide +kernel
theorem dX9_copy_56 : decode cX9_copy 56 = .ok (.iload_n 2, 1) := by decide +kernel
theorem dX9_copy_57 : decode cX9_copy 57 = .ok (.iaload, 1) := by decide +kernel
theorem dX9_copy_58 : decode cX9_copy 58 = .ok (.iconst 1, 1) := by decide +kernel
theorem dX9_copy_59 : decode cX9_copy 59 = .ok (.if_icmp .ne 25, 3) := by decide +kernel
theorem dX9_copy_62 : decode cX9_copy 62 = .ok (.aload_n 0, 1) := by decide +kernel
theorem dX9_copy_63 : decode cX9_copy 63 = .ok (.getfield 59, 3) := by decide +kernel
theorem dX9_copy_66 : decode cX9_copy 66 = .ok (.iload_n 1, 1) := by decide +kernel
theorem dX9_copy_67 : decode cX9_copy 67 = .ok (.iaload, 1) := by decide +kernel
theorem dX9_copy_68 : decode cX9_copy 68 = .ok (.aload_n 0, 1) := by decide +kernel
theorem dX9_copy_69 : decode cX9_copy 69 = .ok (.getfield 59, 3) := by decide +kernel
theorem dX9_copy_72 : decode cX9_copy 72 = .ok (.iload_n 2, 1) := by decide +kernel
theorem dX9_copy_73 : decode cX9_copy 73 = .ok (.iaload, 1) := by decide +kernel
theorem dX9_copy_74 : decode cX9_copy 74 = .ok (.if_icmp .eq 10, 3) := by decide +kernel
theorem dX9_copy_77 : decode cX9_copy 77 = .ok (.aload_n 0, 1) := by decide +kernel
theorem dX9_copy_78 : decode cX9_copy 78 = .ok (.bipush (-2), 2) := by decide +kernel
theorem dX9_copy_80 : decode cX9_copy 80 = .ok (.invokevirtual 127, 3) := by decide +kernel
theorem dX9_copy_83 : decode cX9_copy 83 = .ok (.ireturn, 1) := by decide +kernel
theorem dX9_copy_84 : decode cX9_copy 84 = .ok (.aload_n 0, 1) := by decide +kernel
theorem dX9_copy_85 : decode cX9_copy 85 = .ok (.getfield 56, 3) := by decide +kernel
theorem dX9_copy_88 : decode cX9_copy 88 = .ok (.iload_n 1, 1) := by decide +kernel
theorem dX9_copy_89 : decode cX9_copy 89 = .ok (.iaload, 1) := by decide +kernel
theorem dX9_copy_90 : decode cX9_copy 90 = .ok (.ifCond .eq 12, 3) := by decide +kernel
theorem dX9_copy_93 : decode cX9_copy 93 = .ok (.aload_n 0, 1) := by decide +kernel
theorem dX9_copy_94 : decode cX9_copy 94 = .ok (.getfield 56, 3) := by decide +kernel
theorem dX9_copy_97 : decode cX9_copy 97 = .ok (.iload_n 2, 1) := by decide +kernel
theorem dX9_copy_98 : decode cX9_copy 98 = .ok (.iaload, 1) := by decide +kernel
theorem dX9_copy_99 : decode cX9_copy 99 = .ok (.ifCond .ne 10, 3) := by decide +kernel
theorem dX9_copy_102 : decode cX9_copy 102 = .ok (.aload_n 0, 1) := by decide +kernel
theorem dX9_copy_103 : decode cX9_copy 103 = .ok (.bipush (-3), 2) := by decide +kernel
theorem dX9_copy_105 : decode cX9_copy 105 = .ok (.invokevirtual 127, 3) := by decide +kernel
theorem dX9_copy_108 : decode cX9_copy 108 = .ok (.ireturn, 1) := by decide +kernel
theorem dX9_copy_109 : decode cX9_copy 109 = .ok (.iload 5, 2) := by decide +kernel
theorem dX9_copy_111 : decode cX9_copy 111 = .ok (.ifCond .ge 10, 3) := by decide +kernel
theorem dX9_copy_114 : decode cX9_copy 114 = .ok (.aload_n 0, 1) := by decide +kernel
theorem dX9_copy_115 : decode cX9_copy 115 = .ok (.bipush (-4), 2) := by decide +kernel
theorem dX9_copy_117 : decode cX9_copy 117 = .ok (.invokevirtual 127, 3) := by decide +kernel
theorem dX9_copy_120 : decode cX9_copy 120 = .ok (.ireturn, 1) := by decide +kernel
theorem dX9_copy_121 : decode cX9_copy 121 = .ok (.iload_n 3, 1) := by decide +kernel
theorem dX9_copy_122 : decode cX9_copy 122 = .ok (.ifCond .lt 35, 3) := by decide +kernel
theorem dX9_copy_125 : decode cX9_copy 125 = .ok (.iload 4, 2) := by decide +kernel
theorem dX9_copy_127 : decode cX9_copy 127 = .ok (.ifCond .lt 30, 3) := by decide +kernel
theorem dX9_copy_130 : decode cX9_copy 130 = .ok (.iload_n 3, 1) := by decide +kernel
theorem dX9_copy_131 : decode cX9_copy 131 = .ok (.aload_n 0, 1) := by decide +kernel
theorem dX9_copy_132 : decode cX9_copy 132 = .ok (.getfield 62, 3) := by decide +kernel
theorem dX9_copy_135 : decode cX9_copy 135 = .ok (.iload_n 1, 1) := by decide +kernel
theorem dX9_copy_136 : decode cX9_copy 136 = .ok (.iaload, 1) := by decide +kernel
theorem dX9_copy_137 : decode cX9_copy 137 = .ok (.iload 5, 2) := by decide +kernel
theorem dX9_copy_139 : decode cX9_copy 139 = .ok (.isub, 1) := by decide +kernel
theorem dX9_copy_140 : decode cX9_copy 140 = .ok (.if_icmp .gt 17, 3) := by decide +kernel
theorem dX9_copy_143 : decode cX9_copy 143 = .ok (.iload 4, 2) := by decide +kernel
theorem dX9_copy_145 : decode cX9_copy 145 = .ok (.aload_n 0, 1) := by decide +kernel
theorem dX9_copy_146 : decode cX9_copy 146 = .ok (.getfield 62, 3) := by decide +kernel
theorem dX9_copy_149 : decode cX9_copy 149 = .ok (.iload_n 2, 1) := by decide +kernel
theorem dX9_copy_150 : decode cX9_copy 150 = .ok (.iaload, 1) := by decide +kernel
theorem dX9_copy_151 : decode cX9_copy 151 = .ok (.iload 5, 2) := by decide +kernel
theorem dX9_copy_153 : decode cX9_copy 153 = .ok (.isub, 1) := by decide +kernel
theorem dX9_copy_154 : decode cX9_copy 154 = .ok (.if_icmp .le 10, 3) := by decide +kernel
theorem dX9_copy_157 : decode cX9_copy 157 = .ok (.aload_n 0, 1) := by decide +kernel
theorem dX9_copy_158 : decode cX9_copy 158 = .ok (.bipush (-5), 2) := by decide +kernel
theorem dX9_copy_160 : decode cX9_copy 160 = .ok (.invokevirtual 127, 3) := by decide +kernel
theorem dX9_copy_163 : decode cX9_copy 163 = .ok (.ireturn, 1) := by decide +kernel
theorem dX9_copy_164 : decode cX9_copy 164 = .ok (.iconst 0, 1) := by decide +kernel
theorem dX9_copy_165 : decode cX9_copy 165 = .ok (.istore 6, 2) := by decide +kernel
theorem dX9_copy_167 : decode cX9_copy 167 = .ok (.iload 6, 2) := by decide +kernel
theorem dX9_copy_169 : decode cX9_copy 169 = .ok (.iload 5, 2) := by decide +kernel
theorem dX9_copy_171 : decode cX9_copy 171 = .ok (.if_icmp .ge 31, 3) := by decide +kernel
theorem dX9_copy_174 : decode cX9_copy 174 = .ok (.aload_n 0, 1) := by decide +kernel
theorem dX9_copy_175 : decode cX9_copy 175 = .ok (.getfield 72, 3) := by decide +kernel
theorem dX9_copy_178 : decode cX9_copy 178 = .ok (.iload 6, 2) := by decide +kernel
theorem dX9_copy_180 : decode cX9_copy 180 = .ok (.aload_n 0, 1) := by decide +kernel
theorem dX9_copy_181 : decode cX9_copy 181 = .ok (.getfield 68, 3) := by decide +kernel
theorem dX9_copy_184 : decode cX9_copy 184 = .ok (.sipush 160, 3) := by decide +kernel
theorem dX9_copy_187 : decode cX9_copy 187 = .ok (.iload_n 1, 1) := by decide +kernel
theorem dX9_copy_188 : decode cX9_copy 188 = .ok (.imul, 1) := by decide +kernel
theorem dX9_copy_189 : decode cX9_copy 189 = .ok (.iload_n 3, 1) := by decide +kernel
theorem dX9_copy_190 : decode cX9_copy 190 = .ok (.iadd, 1) := by decide +kernel
theorem dX9_copy_191 : decode cX9_copy 191 = .ok (.iload 6, 2) := by decide +kernel
theorem dX9_copy_193 : decode cX9_copy 193 = .ok (.iadd, 1) := by decide +kernel
theorem dX9_copy_194 : decode cX9_copy 194 = .ok (.laload, 1) := by decide +kernel
theorem dX9_copy_195 : decode cX9_copy 195 = .ok (.lastore, 1) := by decide +kernel
theorem dX9_copy_196 : decode cX9_copy 196 = .ok (.iinc 6 1, 3) := by decide +kernel
theorem dX9_copy_199 : decode cX9_copy 199 = .ok (.goto (-32), 3) := by decide +kernel
theorem dX9_copy_202 : decode cX9_copy 202 = .ok (.iconst 0, 1) := by decide +kernel
theorem dX9_copy_203 : decode cX9_copy 203 = .ok (.istore 6, 2) := by decide +kernel
theorem dX9_copy_205 : decode cX9_copy 205 = .ok (.iload 6, 2) := by decide +kernel
theorem dX9_copy_207 : decode cX9_copy 207 = .ok (.iload 5, 2) := by decide +kernel
theorem dX9_copy_209 : decode cX9_copy 209 = .ok (.if_icmp .ge 32, 3) := by decide +kernel
theorem dX9_copy_212 : decode cX9_copy 212 = .ok (.aload_n 0, 1) := by decide +kernel
theorem dX9_copy_213 : decode cX9_copy 213 = .ok (.getfield 68, 3) := by decide +kernel
theorem dX9_copy_216 : decode cX9_copy 216 = .ok (.sipush 160, 3) := by decide +kernel
theorem dX9_copy_219 : decode cX9_copy 219 = .ok (.iload_n 2, 1) := by decide +kernel
theorem dX9_copy_220 : decode cX9_copy 220 = .ok (.imul, 1) := by decide +kernel
theorem dX9_copy_221 : decode cX9_copy 221 = .ok (.iload 4, 2) := by decide +kernel
theorem dX9_copy_223 : decode cX9_copy 223 = .ok (.iadd, 1) := by decide +kernel
theorem dX9_copy_224 : decode cX9_copy 224 = .ok (.iload 6, 2) := by decide +kernel
theorem dX9_copy_226 : decode cX9_copy 226 = .ok (.iadd, 1) := by decide +kernel
theorem dX9_copy_227 : decode cX9_copy 227 = .ok (.aload_n 0, 1) := by decide +kernel
theorem dX9_copy_228 : decode cX9_copy 228 = .ok (.getfield 72, 3) := by decide +kernel
theorem dX9_copy_231 : decode cX9_copy 231 = .ok (.iload 6, 2) := by decide +kernel
theorem dX9_copy_233 : decode cX9_copy 233 = .ok (.laload, 1) := by decide +kernel
theorem dX9_copy_234 : decode cX9_copy 234 = .ok (.lastore, 1) := by decide +kernel
theorem dX9_copy_235 : decode cX9_copy 235 = .ok (.iinc 6 1, 3) := by decide +kernel
theorem dX9_copy_238 : decode cX9_copy 238 = .ok (.goto (-33), 3) := by decide +kernel
theorem dX9_copy_241 : decode cX9_copy 241 = .ok (.iconst 1, 1) := by decide +kernel
theorem dX9_copy_242 : decode cX9_copy 242 = .ok (.ireturn, 1) := by decide +kernel
theorem dX9_element_0 : decode cX9_element 0 = .ok (.aload_n 0, 1) := by decide +kernel
theorem dX9_element_1 : decode cX9_element 1 = .ok (.iload_n 1, 1) := by decide +kernel
theorem dX9_element_2 : decode cX9_element 2 = .ok (.invokevirtual 123, 3) := by decide +kernel
theorem dX9_element_5 : decode cX9_element 5 = .ok (.ifCond .eq 42, 3) := by decide +kernel
theorem dX9_element_8 : decode cX9_element 8 = .ok (.aload_n 0, 1) := by decide +kernel
theorem dX9_element_9 : decode cX9_element 9 = .ok (.getfield 56, 3) := by decide +kernel
theorem dX9_element_12 : decode cX9_element 12 = .ok (.iload_n 1, 1) := by decide +kernel
theorem dX9_element_13 : decode cX9_element 13 = .ok (.iaload, 1) := by decide +kernel
theorem dX9_element_14 : decode cX9_element 14 = .ok (.iconst 1, 1) := by decide +kernel
theorem dX9_element_15 : decode cX9_element 15 = .ok (.if_icmp .ne 32, 3) := by decide +kernel
theorem dX9_element_18 : decode cX9_element 18 = .ok (.iload_n 2, 1) := by decide +kernel
theorem dX9_element_19 : decode cX9_element 19 = .ok (.ifCond .lt 28, 3) := by decide +kernel
theorem dX9_element_22 : decode cX9_element 22 = .ok (.iload_n 2, 1) := by decide +kernel
theorem dX9_element_23 : decode cX9_element 23 = .ok (.aload_n 0, 1) := by decide +kernel
theorem dX9_element_24 : decode cX9_element 24 = .ok (.getfield 62, 3) := by decide +kernel
theorem dX9_element_27 : decode cX9_element 27 = .ok (.iload_n 1, 1) := by decide +kernel
theorem dX9_element_28 : decode cX9_element 28 = .ok (.iaload, 1) := by decide +kernel
theorem dX9_element_29 : decode cX9_element 29 = .ok (.if_icmp .ge 18, 3) := by decide +kernel
theorem dX9_element_32 : decode cX9_element 32 = .ok (.aload_n 0, 1) := by decide +kernel
theorem dX9_element_33 : decode cX9_element 33 = .ok (.getfield 68, 3) := by decide +kernel
theorem dX9_element_36 : decode cX9_element 36 = .ok (.sipush 160, 3) := by decide +kernel
theorem dX9_element_39 : decode cX9_element 39 = .ok (.iload_n 1, 1) := by decide +kernel
theorem dX9_element_40 : decode cX9_element 40 = .ok (.imul, 1) := by decide +kernel
theorem dX9_element_41 : decode cX9_element 41 = .ok (.iload_n 2, 1) := by decide +kernel
theorem dX9_element_42 : decode cX9_element 42 = .ok (.iadd, 1) := by decide +kernel
theorem dX9_element_43 : decode cX9_element 43 = .ok (.laload, 1) := by decide +kernel
theorem dX9_element_44 : decode cX9_element 44 = .ok (.goto 4, 3) := by decide +kernel
theorem dX9_element_47 : decode cX9_element 47 = .ok (.lconst 0, 1) := by decide +kernel
theorem dX9_element_48 : decode cX9_element 48 = .ok (.lreturn, 1) := by decide +kernel
theorem dX9_show_0 : decode cX9_show 0 = .ok (.aload_n 0, 1) := by decide +kernel
theorem dX9_show_1 : decode cX9_show 1 = .ok (.iload_n 1, 1) := by decide +kernel
theorem dX9_show_2 : decode cX9_show 2 = .ok (.invokevirtual 123, 3) := by decide +kernel
theorem dX9_show_5 : decode cX9_show 5 = .ok (.ifCond .eq 16, 3) := by decide +kernel
theorem dX9_show_8 : decode cX9_show 8 = .ok (.iload_n 2, 1) := by decide +kernel
theorem dX9_show_9 : decode cX9_show 9 = .ok (.iconst (-1), 1) := by decide +kernel
theorem dX9_show_10 : decode cX9_show 10 = .ok (.if_icmp .eq 17, 3) := by decide +kernel
theorem dX9_show_13 : decode cX9_show 13 = .ok (.aload_n 0, 1) := by decide +kernel
theorem dX9_show_14 : decode cX9_show 14 = .ok (.iload_n 2, 1) := by decide +kernel
theorem dX9_show_15 : decode cX9_show 15 = .ok (.invokevirtual 131, 3) := by decide +kernel
theorem dX9_show_18 : decode cX9_show 18 = .ok (.ifCond .ne 9, 3) := by decide +kernel
theorem dX9_show_21 : decode cX9_show 21 = .ok (.aload_n 0, 1) := by decide +kernel
theorem dX9_show_22 : decode cX9_show 22 = .ok (.iconst (-1), 1) := by decide +kernel
theorem dX9_show_23 : decode cX9_show 23 = .ok (.invokevirtual 127, 3) := by decide +kernel
theorem dX9_show_26 : decode cX9_show 26 = .ok (.ireturn, 1) := by decide +kernel
theorem dX9_show_27 : decode cX9_show 27 = .ok (.aload_n 0, 1) := by decide +kernel
theorem dX9_show_28 : decode cX9_show 28 = .ok (.getfield 56, 3) := by decide +kernel
theorem dX9_show_31 : decode cX9_show 31 = .ok (.iload_n 1, 1) := by decide +kernel
theorem dX9_show_32 : decode cX9_show 32 = .ok (.iload_n 2, 1) := by decide +kernel
theorem dX9_show_33 : decode cX9_show 33 = .ok (.iconst (-1), 1) := by decide +kernel
theorem dX9_show_34 : decode cX9_show 34 = .ok (.if_icmp .ne 7, 3) := by decide +kernel
theorem dX9_show_37 : decode cX9_show 37 = .ok (.iconst 0, 1) := by decide +kernel
theorem dX9_show_38 : decode cX9_show 38 = .ok (.goto 4, 3) := by decide +kernel
theorem dX9_show_41 : decode cX9_show 41 = .ok (.iconst 2, 1) := by decide +kernel
theorem dX9_show_42 : decode cX9_show 42 = .ok (.iastore, 1) := by decide +kernel
theorem dX9_show_43 : decode cX9_show 43 = .ok (.aload_n 0, 1) := by decide +kernel
theorem dX9_show_44 : decode cX9_show 44 = .ok (.getfield 65, 3) := by decide +kernel
theorem dX9_show_47 : decode cX9_show 47 = .ok (.iload_n 1, 1) := by decide +kernel
theorem dX9_show_48 : decode cX9_show 48 = .ok (.iload_n 2, 1) := by decide +kernel
theorem dX9_show_49 : decode cX9_show 49 = .ok (.iastore, 1) := by decide +kernel
theorem dX9_show_50 : decode cX9_show 50 = .ok (.iload_n 2, 1) := by decide +kernel
theorem dX9_show_51 : decode cX9_show 51 = .ok (.iconst (-1), 1) := by decide +kernel
theorem dX9_show_52 : decode cX9_show 52 = .ok (.if_icmp .ne 7, 3) := by decide +kernel
theorem dX9_show_55 : decode cX9_show 55 = .ok (.iconst 0, 1) := by decide +kernel
theorem dX9_show_56 : decode cX9_show 56 = .ok (.goto 4, 3) := by decide +kernel
theorem dX9_show_59 : decode cX9_show 59 = .ok (.iconst 1, 1) := by decide +kernel
theorem dX9_show_60 : decode cX9_show 60 = .ok (.ireturn, 1) := by decide +kernel
theorem dX9_holds_0 : decode cX9_holds 0 = .ok (.aload_n 0, 1) := by decide +kernel
theorem dX9_holds_1 : decode cX9_holds 1 = .ok (.iload_n 1, 1) := by decide +kernel
theorem dX9_holds_2 : decode cX9_holds 2 = .ok (.invokevirtual 123, 3) := by decide +kernel
theorem dX9_holds_5 : decode cX9_holds 5 = .ok (.ifCond .eq 12, 3) := by decide +kernel
theorem dX9_holds_8 : decode cX9_holds 8 = .ok (.aload_n 0, 1) := by decide +kernel
theorem dX9_holds_9 : decode cX9_holds 9 = .ok (.getfield 56, 3) := by decide +kernel
theorem dX9_holds_12 : decode cX9_holds 12 = .ok (.iload_n 1, 1) := by decide +kernel
theorem dX9_holds_13 : decode cX9_holds 13 = .ok (.iaload, 1) := by decide +kernel
theorem dX9_holds_14 : decode cX9_holds 14 = .ok (.ifCond .ne 5, 3) := by decide +kernel
theorem dX9_holds_17 : decode cX9_holds 17 = .ok (.iconst (-1), 1) := by decide +kernel
theorem dX9_holds_18 : decode cX9_holds 18 = .ok (.ireturn, 1) := by decide +kernel
theorem dX9_holds_19 : decode cX9_holds 19 = .ok (.aload_n 0, 1) := by decide +kernel
theorem dX9_holds_20 : decode cX9_holds 20 = .ok (.getfield 56, 3) := by decide +kernel
theorem dX9_holds_23 : decode cX9_holds 23 = .ok (.iload_n 1, 1) := by decide +kernel
theorem dX9_holds_24 : decode cX9_holds 24 = .ok (.iaload, 1) := by decide +kernel
theorem dX9_holds_25 : decode cX9_holds 25 = .ok (.iconst 1, 1) := by decide +kernel
theorem dX9_holds_26 : decode cX9_holds 26 = .ok (.if_icmp .ne 15, 3) := by decide +kernel
theorem dX9_holds_29 : decode cX9_holds 29 = .ok (.bipush 100, 2) := by decide +kernel
theorem dX9_holds_31 : decode cX9_holds 31 = .ok (.aload_n 0, 1) := by decide +kernel
theorem dX9_holds_32 : decode cX9_holds 32 = .ok (.getfield 59, 3) := by decide +kernel
theorem dX9_holds_35 : decode cX9_holds 35 = .ok (.iload_n 1, 1) := by decide +kernel
theorem dX9_holds_36 : decode cX9_holds 36 = .ok (.iaload, 1) := by decide +kernel
theorem dX9_holds_37 : decode cX9_holds 37 = .ok (.iadd, 1) := by decide +kernel
theorem dX9_holds_38 : decode cX9_holds 38 = .ok (.goto 9, 3) := by decide +kernel
theorem dX9_holds_41 : decode cX9_holds 41 = .ok (.aload_n 0, 1) := by decide +kernel
theorem dX9_holds_42 : decode cX9_holds 42 = .ok (.getfield 65, 3) := by decide +kernel
theorem dX9_holds_45 : decode cX9_holds 45 = .ok (.iload_n 1, 1) := by decide +kernel
theorem dX9_holds_46 : decode cX9_holds 46 = .ok (.iaload, 1) := by decide +kernel
theorem dX9_holds_47 : decode cX9_holds 47 = .ok (.ireturn, 1) := by decide +kernel
theorem dX9_says_0 : decode cX9_says 0 = .ok (.aload_n 0, 1) := by decide +kernel
theorem dX9_says_1 : decode cX9_says 1 = .ok (.iload_n 1, 1) := by decide +kernel
theorem dX9_says_2 : decode cX9_says 2 = .ok (.invokevirtual 123, 3) := by decide +kernel
theorem dX9_says_5 : decode cX9_says 5 = .ok (.ifCond .eq 13, 3) := by decide +kernel
theorem dX9_says_8 : decode cX9_says 8 = .ok (.iload_n 2, 1) := by decide +kernel
theorem dX9_says_9 : decode cX9_says 9 = .ok (.ifCond .lt 9, 3) := by decide +kernel
theorem dX9_says_12 : decode cX9_says 12 = .ok (.iload_n 2, 1) := by decide +kernel
theorem dX9_says_13 : decode cX9_says 13 = .ok (.bipush 6, 2) := by decide +kernel
theorem dX9_says_15 : decode cX9_says 15 = .ok (.if_icmp .le 9, 3) := by decide +kernel
theorem dX9_says_18 : decode cX9_says 18 = .ok (.aload_n 0, 1) := by decide +kernel
theorem dX9_says_19 : decode cX9_says 19 = .ok (.iconst (-1), 1) := by decide +kernel
theorem dX9_says_20 : decode cX9_says 20 = .ok (.invokevirtual 127, 3) := by decide +kernel
theorem dX9_says_23 : decode cX9_says 23 = .ok (.ireturn, 1) := by decide +kernel
theorem dX9_says_24 : decode cX9_says 24 = .ok (.aload_n 0, 1) := by decide +kernel
theorem dX9_says_25 : decode cX9_says 25 = .ok (.getfield 56, 3) := by decide +kernel
theorem dX9_says_28 : decode cX9_says 28 = .ok (.iload_n 1, 1) := by decide +kernel
theorem dX9_says_29 : decode cX9_says 29 = .ok (.iaload, 1) := by decide +kernel
theorem dX9_says_30 : decode cX9_says 30 = .ok (.iconst 1, 1) := by decide +kernel
theorem dX9_says_31 : decode cX9_says 31 = .ok (.if_icmp .ne 10, 3) := by decide +kernel
theorem dX9_says_34 : decode cX9_says 34 = .ok (.aload_n 0, 1) := by decide +kernel
theorem dX9_says_35 : decode cX9_says 35 = .ok (.bipush (-2), 2) := by decide +kernel
theorem dX9_says_37 : decode cX9_says 37 = .ok (.invokevirtual 127, 3) := by decide +kernel
theorem dX9_says_40 : decode cX9_says 40 = .ok (.ireturn, 1) := by decide +kernel
theorem dX9_says_41 : decode cX9_says 41 = .ok (.aload_n 0, 1) := by decide +kernel
theorem dX9_says_42 : decode cX9_says 42 = .ok (.getfield 56, 3) := by decide +kernel
theorem dX9_says_45 : decode cX9_says 45 = .ok (.iload_n 1, 1) := by decide +kernel
theorem dX9_says_46 : decode cX9_says 46 = .ok (.iaload, 1) := by decide +kernel
theorem dX9_says_47 : decode cX9_says 47 = .ok (.ifCond .ne 10, 3) := by decide +kernel
theorem dX9_says_50 : decode cX9_says 50 = .ok (.aload_n 0, 1) := by decide +kernel
theorem dX9_says_51 : decode cX9_says 51 = .ok (.bipush (-3), 2) := by decide +kernel
theorem dX9_says_53 : decode cX9_says 53 = .ok (.invokevirtual 127, 3) := by decide +kernel
theorem dX9_says_56 : decode cX9_says 56 = .ok (.ireturn, 1) := by decide +kernel
theorem dX9_says_57 : decode cX9_says 57 = .ok (.aload_n 0, 1) := by decide +kernel
theorem dX9_says_58 : decode cX9_says 58 = .ok (.getfield 65, 3) := by decide +kernel
theorem dX9_says_61 : decode cX9_says 61 = .ok (.iload_n 1, 1) := by decide +kernel
theorem dX9_says_62 : decode cX9_says 62 = .ok (.iaload, 1) := by decide +kernel
theorem dX9_says_63 : decode cX9_says 63 = .ok (.istore_n 3, 1) := by decide +kernel
theorem dX9_says_64 : decode cX9_says 64 = .ok (.aload_n 0, 1) := by decide +kernel
theorem dX9_says_65 : decode cX9_says 65 = .ok (.getfield 32, 3) := by decide +kernel
theorem dX9_says_68 : decode cX9_says 68 = .ok (.iload_n 3, 1) := by decide +kernel
theorem dX9_says_69 : decode cX9_says 69 = .ok (.iaload, 1) := by decide +kernel
theorem dX9_says_70 : decode cX9_says 70 = .ok (.istore 4, 2) := by decide +kernel
theorem dX9_says_72 : decode cX9_says 72 = .ok (.iload_n 2, 1) := by decide +kernel
theorem dX9_says_73 : decode cX9_says 73 = .ok (.iconst 1, 1) := by decide +kernel
theorem dX9_says_74 : decode cX9_says 74 = .ok (.if_icmp .ne 9, 3) := by decide +kernel
theorem dX9_says_77 : decode cX9_says 77 = .ok (.iload 4, 2) := by decide +kernel
theorem dX9_says_79 : decode cX9_says 79 = .ok (.iconst 3, 1) := by decide +kernel
theorem dX9_says_80 : decode cX9_says 80 = .ok (.if_icmp .eq 26, 3) := by decide +kernel
theorem dX9_says_83 : decode cX9_says 83 = .ok (.iload_n 2, 1) := by decide +kernel
theorem dX9_says_84 : decode cX9_says 84 = .ok (.iconst 2, 1) := by decide +kernel
theorem dX9_says_85 : decode cX9_says 85 = .ok (.if_icmp .ne 9, 3) := by decide +kernel
theorem dX9_says_88 : decode cX9_says 88 = .ok (.iload 4, 2) := by decide +kernel
theorem dX9_says_90 : decode cX9_says 90 = .ok (.iconst 5, 1) := by decide +kernel
theorem dX9_says_91 : decode cX9_says 91 = .ok (.if_icmp .eq 15, 3) := by decide +kernel
theorem dX9_says_94 : decode cX9_says 94 = .ok (.iload_n 2, 1) := by decide +kernel
theorem dX9_says_95 : decode cX9_says 95 = .ok (.iconst 4, 1) := by decide +kernel
theorem dX9_says_96 : decode cX9_says 96 = .ok (.if_icmp .ne 14, 3) := by decide +kernel
theorem dX9_says_99 : decode cX9_says 99 = .ok (.iload 4, 2) := by decide +kernel
theorem dX9_says_101 : decode cX9_says 101 = .ok (.bipush 6, 2) := by decide +kernel
theorem dX9_says_103 : decode cX9_says 103 = .ok (.if_icmp .ne 7, 3) := by decide +kernel
theorem dX9_says_106 : decode cX9_says 106 = .ok (.iconst 1, 1) := by decide +kernel
theorem dX9_says_107 : decode cX9_says 107 = .ok (.goto 4, 3) := by decide +kernel
theorem dX9_says_110 : decode cX9_says 110 = .ok (.iconst 0, 1) := by decide +kernel
theorem dX9_says_111 : decode cX9_says 111 = .ok (.istore 5, 2) := by decide +kernel
theorem dX9_says_113 : decode cX9_says 113 = .ok (.iload_n 2, 1) := by decide +kernel
theorem dX9_says_114 : decode cX9_says 114 = .ok (.ifCond .eq 21, 3) := by decide +kernel
theorem dX9_says_117 : decode cX9_says 117 = .ok (.iload_n 2, 1) := by decide +kernel
theorem dX9_says_118 : decode cX9_says 118 = .ok (.iload 4, 2) := by decide +kernel
theorem dX9_says_120 : decode cX9_says 120 = .ok (.if_icmp .eq 15, 3) := by decide +kernel
theorem dX9_says_123 : decode cX9_says 123 = .ok (.iload 5, 2) := by decide +kernel
theorem dX9_says_125 : decode cX9_says 125 = .ok (.ifCond .ne 10, 3) := by decide +kernel
theorem dX9_says_128 : decode cX9_says 128 = .ok (.aload_n 0, 1) := by decide +kernel
theorem dX9_says_129 : decode cX9_says 129 = .ok (.bipush (-2), 2) := by decide +kernel
theorem dX9_says_131 : decode cX9_says 131 = .ok (.invokevirtual 127, 3) := by decide +kernel
theorem dX9_says_134 : decode cX9_says 134 = .ok (.ireturn, 1) := by decide +kernel
theorem dX9_says_135 : decode cX9_says 135 = .ok (.aload_n 0, 1) := by decide +kernel
theorem dX9_says_136 : decode cX9_says 136 = .ok (.iload_n 3, 1) := by decide +kernel
theorem dX9_says_137 : decode cX9_says 137 = .ok (.invokevirtual 134, 3) := by decide +kernel
theorem dX9_says_140 : decode cX9_says 140 = .ok (.iload_n 2, 1) := by decide +kernel
theorem dX9_says_141 : decode cX9_says 141 = .ok (.tableswitch 56 0 5 #[39, 46, 51, 46, 56, 51], 39) := by decide +kernel
theorem dX9_says_180 : decode cX9_says 180 = .ok (.aload_n 0, 1) := by decide +kernel
theorem dX9_says_181 : decode cX9_says 181 = .ok (.getfield 38, 3) := by decide +kernel
theorem dX9_says_184 : decode cX9_says 184 = .ok (.iload_n 3, 1) := by decide +kernel
theorem dX9_says_185 : decode cX9_says 185 = .ok (.iaload, 1) := by decide +kernel
theorem dX9_says_186 : decode cX9_says 186 = .ok (.ireturn, 1) := by decide +kernel
theorem dX9_says_187 : decode cX9_says 187 = .ok (.aload_n 0, 1) := by decide +kernel
theorem dX9_says_188 : decode cX9_says 188 = .ok (.invokevirtual 138, 3) := by decide +kernel
theorem dX9_says_191 : decode cX9_says 191 = .ok (.ireturn, 1) := by decide +kernel
theorem dX9_says_192 : decode cX9_says 192 = .ok (.aload_n 0, 1) := by decide +kernel
theorem dX9_says_193 : decode cX9_says 193 = .ok (.invokevirtual 142, 3) := by decide +kernel
theorem dX9_says_196 : decode cX9_says 196 = .ok (.ireturn, 1) := by decide +kernel
theorem dX9_says_197 : decode cX9_says 197 = .ok (.aload_n 0, 1) := by decide +kernel
theorem dX9_says_198 : decode cX9_says 198 = .ok (.invokevirtual 145, 3) := by decide +kernel
theorem dX9_says_201 : decode cX9_says 201 = .ok (.ireturn, 1) := by decide +kernel
theorem dX9_wanted_0 : decode cX9_wanted 0 = .ok (.aload_n 0, 1) := by decide +kernel
theorem dX9_wanted_1 : decode cX9_wanted 1 = .ok (.iload_n 1, 1) := by decide +kernel
theorem dX9_wanted_2 : decode cX9_wanted 2 = .ok (.invokevirtual 123, 3) := by decide +kernel
theorem dX9_wanted_5 : decode cX9_wanted 5 = .ok (.ifCond .ne 7, 3) := by decide +kernel
theorem dX9_wanted_8 : decode cX9_wanted 8 = .ok (.iconst (-1), 1) := by decide +kernel
theorem dX9_wanted_9 : decode cX9_wanted 9 = .ok (.goto 33, 3) := by decide +kernel
theorem dX9_wanted_12 : decode cX9_wanted 12 = .ok (.aload_n 0, 1) := by decide +kernel
theorem dX9_wanted_13 : decode cX9_wanted 13 = .ok (.getfield 56, 3) := by decide +kernel
theorem dX9_wanted_16 : decode cX9_wanted 16 = .ok (.iload_n 1, 1) := by decide +kernel
theorem dX9_wanted_17 : decode cX9_wanted 17 = .ok (.iaload, 1) := by decide +kernel
theorem dX9_wanted_18 : decode cX9_wanted 18 = .ok (.iconst 2, 1) := by decide +kernel
theorem dX9_wanted_19 : decode cX9_wanted 19 = .ok (.if_icmp .ne 8, 3) := by decide +kernel
theorem dX9_wanted_22 : decode cX9_wanted 22 = .ok (.bipush (-2), 2) := by decide +kernel
theorem dX9_wanted_24 : decode cX9_wanted 24 = .ok (.goto 18, 3) := by decide +kernel
theorem dX9_wanted_27 : decode cX9_wanted 27 = .ok (.aload_n 0, 1) := by decide +kernel
theorem dX9_wanted_28 : decode cX9_wanted 28 = .ok (.getfield 56, 3) := by decide +kernel
theorem dX9_wanted_31 : decode cX9_wanted 31 = .ok (.iload_n 1, 1) := by decide +kernel
theorem dX9_wanted_32 : decode cX9_wanted 32 = .ok (.iaload, 1) := by decide +kernel
theorem dX9_wanted_33 : decode cX9_wanted 33 = .ok (.ifCond .ne 8, 3) := by decide +kernel
theorem dX9_wanted_36 : decode cX9_wanted 36 = .ok (.bipush (-3), 2) := by decide +kernel
theorem dX9_wanted_38 : decode cX9_wanted 38 = .ok (.goto 4, 3) := by decide +kernel
theorem dX9_wanted_41 : decode cX9_wanted 41 = .ok (.iconst 0, 1) := by decide +kernel
theorem dX9_wanted_42 : decode cX9_wanted 42 = .ok (.ireturn, 1) := by decide +kernel
theorem dX9_intAt_0 : decode cX9_intAt 0 = .ok (.aload_n 0, 1) := by decide +kernel
theorem dX9_intAt_1 : decode cX9_intAt 1 = .ok (.getfield 68, 3) := by decide +kernel
theorem dX9_intAt_4 : decode cX9_intAt 4 = .ok (.sipush 160, 3) := by decide +kernel
theorem dX9_intAt_7 : decode cX9_intAt 7 = .ok (.iload_n 1, 1) := by decide +kernel
theorem dX9_intAt_8 : decode cX9_intAt 8 = .ok (.imul, 1) := by decide +kernel
theorem dX9_intAt_9 : decode cX9_intAt 9 = .ok (.iload_n 2, 1) := by decide +kernel
theorem dX9_intAt_10 : decode cX9_intAt 10 = .ok (.iadd, 1) := by decide +kernel
theorem dX9_intAt_11 : decode cX9_intAt 11 = .ok (.laload, 1) := by decide +kernel
theorem dX9_intAt_12 : decode cX9_intAt 12 = .ok (.l2i, 1) := by decide +kernel
theorem dX9_intAt_13 : decode cX9_intAt 13 = .ok (.ireturn, 1) := by decide +kernel
theorem dX9_addsChild_0 : decode cX9_addsChild 0 = .ok (.aload_n 0, 1) := by decide +kernel
theorem dX9_addsChild_1 : decode cX9_addsChild 1 = .ok (.getfield 32, 3) := by decide +kernel
theorem dX9_addsChild_4 : decode cX9_addsChild 4 = .ok (.aload_n 0, 1) := by decide +kernel
theorem dX9_addsChild_5 : decode cX9_addsChild 5 = .ok (.getfield 117, 3) := by decide +kernel
theorem dX9_addsChild_8 : decode cX9_addsChild 8 = .ok (.iload_n 1, 1) := by decide +kernel
theorem dX9_addsChild_9 : decode cX9_addsChild 9 = .ok (.iastore, 1) := by decide +kernel
end
section
theorem dX9_addsChild_10 : decode cX9_addsChild 10 = .ok (.aload_n 0, 1) := by decide +kernel
theorem dX9_addsChild_11 : decode cX9_addsChild 11 = .ok (.getfield 35, 3) := by decide +kernel
theorem dX9_addsChild_14 : decode cX9_addsChild 14 = .ok (.aload_n 0, 1) := by decide +kernel
theorem dX9_addsChild_15 : decode cX9_addsChild 15 = .ok (.getfield 117, 3) := by decide +kernel
theorem dX9_addsChild_18 : decode cX9_addsChild 18 = .ok (.iload_n 2, 1) := by decide +kernel
theorem dX9_addsChild_19 : decode cX9_addsChild 19 = .ok (.iastore, 1) := by decide +kernel
theorem dX9_addsChild_20 : decode cX9_addsChild 20 = .ok (.aload_n 0, 1) := by decide +kernel
theorem dX9_addsChild_21 : decode cX9_addsChild 21 = .ok (.getfield 38, 3) := by decide +kernel
theorem dX9_addsChild_24 : decode cX9_addsChild 24 = .ok (.aload_n 0, 1) := by decide +kernel
theorem dX9_addsChild_25 : decode cX9_addsChild 25 = .ok (.getfield 117, 3) := by decide +kernel
theorem dX9_addsChild_28 : decode cX9_addsChild 28 = .ok (.iload_n 3, 1) := by decide +kernel
theorem dX9_addsChild_29 : decode cX9_addsChild 29 = .ok (.iastore, 1) := by decide +kernel
theorem dX9_addsChild_30 : decode cX9_addsChild 30 = .ok (.aload_n 0, 1) := by decide +kernel
theorem dX9_addsChild_31 : decode cX9_addsChild 31 = .ok (.getfield 41, 3) := by decide +kernel
theorem dX9_addsChild_34 : decode cX9_addsChild 34 = .ok (.aload_n 0, 1) := by decide +kernel
theorem dX9_addsChild_35 : decode cX9_addsChild 35 = .ok (.getfield 117, 3) := by decide +kernel
theorem dX9_addsChild_38 : decode cX9_addsChild 38 = .ok (.aload_n 0, 1) := by decide +kernel
theorem dX9_addsChild_39 : decode cX9_addsChild 39 = .ok (.getfield 117, 3) := by decide +kernel
theorem dX9_addsChild_42 : decode cX9_addsChild 42 = .ok (.aload_n 0, 1) := by decide +kernel
theorem dX9_addsChild_43 : decode cX9_addsChild 43 = .ok (.getfield 120, 3) := by decide +kernel
theorem dX9_addsChild_46 : decode cX9_addsChild 46 = .ok (.if_icmp .ge 10, 3) := by decide +kernel
theorem dX9_addsChild_49 : decode cX9_addsChild 49 = .ok (.aload_n 0, 1) := by decide +kernel
theorem dX9_addsChild_50 : decode cX9_addsChild 50 = .ok (.getfield 117, 3) := by decide +kernel
theorem dX9_addsChild_53 : decode cX9_addsChild 53 = .ok (.goto 4, 3) := by decide +kernel
theorem dX9_addsChild_56 : decode cX9_addsChild 56 = .ok (.iconst 0, 1) := by decide +kernel
theorem dX9_addsChild_57 : decode cX9_addsChild 57 = .ok (.iastore, 1) := by decide +kernel
theorem dX9_addsChild_58 : decode cX9_addsChild 58 = .ok (.aload_n 0, 1) := by decide +kernel
theorem dX9_addsChild_59 : decode cX9_addsChild 59 = .ok (.getfield 44, 3) := by decide +kernel
theorem dX9_addsChild_62 : decode cX9_addsChild 62 = .ok (.aload_n 0, 1) := by decide +kernel
theorem dX9_addsChild_63 : decode cX9_addsChild 63 = .ok (.getfield 117, 3) := by decide +kernel
theorem dX9_addsChild_66 : decode cX9_addsChild 66 = .ok (.iconst 0, 1) := by decide +kernel
theorem dX9_addsChild_67 : decode cX9_addsChild 67 = .ok (.iastore, 1) := by decide +kernel
theorem dX9_addsChild_68 : decode cX9_addsChild 68 = .ok (.aload_n 0, 1) := by decide +kernel
theorem dX9_addsChild_69 : decode cX9_addsChild 69 = .ok (.getfield 47, 3) := by decide +kernel
theorem dX9_addsChild_72 : decode cX9_addsChild 72 = .ok (.aload_n 0, 1) := by decide +kernel
theorem dX9_addsChild_73 : decode cX9_addsChild 73 = .ok (.getfield 117, 3) := by decide +kernel
theorem dX9_addsChild_76 : decode cX9_addsChild 76 = .ok (.iconst 0, 1) := by decide +kernel
theorem dX9_addsChild_77 : decode cX9_addsChild 77 = .ok (.iastore, 1) := by decide +kernel
theorem dX9_addsChild_78 : decode cX9_addsChild 78 = .ok (.aload_n 0, 1) := by decide +kernel
theorem dX9_addsChild_79 : decode cX9_addsChild 79 = .ok (.dup, 1) := by decide +kernel
theorem dX9_addsChild_80 : decode cX9_addsChild 80 = .ok (.getfield 117, 3) := by decide +kernel
theorem dX9_addsChild_83 : decode cX9_addsChild 83 = .ok (.dup_x1, 1) := by decide +kernel
theorem dX9_addsChild_84 : decode cX9_addsChild 84 = .ok (.iconst 1, 1) := by decide +kernel
theorem dX9_addsChild_85 : decode cX9_addsChild 85 = .ok (.iadd, 1) := by decide +kernel
theorem dX9_addsChild_86 : decode cX9_addsChild 86 = .ok (.putfield 117, 3) := by decide +kernel
theorem dX9_addsChild_89 : decode cX9_addsChild 89 = .ok (.ireturn, 1) := by decide +kernel
theorem dX9_addsSack_0 : decode cX9_addsSack 0 = .ok (.aload_n 0, 1) := by decide +kernel
theorem dX9_addsSack_1 : decode cX9_addsSack 1 = .ok (.getfield 50, 3) := by decide +kernel
theorem dX9_addsSack_4 : decode cX9_addsSack 4 = .ok (.aload_n 0, 1) := by decide +kernel
theorem dX9_addsSack_5 : decode cX9_addsSack 5 = .ok (.getfield 120, 3) := by decide +kernel
theorem dX9_addsSack_8 : decode cX9_addsSack 8 = .ok (.iload_n 1, 1) := by decide +kernel
theorem dX9_addsSack_9 : decode cX9_addsSack 9 = .ok (.iastore, 1) := by decide +kernel
theorem dX9_addsSack_10 : decode cX9_addsSack 10 = .ok (.aload_n 0, 1) := by decide +kernel
theorem dX9_addsSack_11 : decode cX9_addsSack 11 = .ok (.getfield 53, 3) := by decide +kernel
theorem dX9_addsSack_14 : decode cX9_addsSack 14 = .ok (.aload_n 0, 1) := by decide +kernel
theorem dX9_addsSack_15 : decode cX9_addsSack 15 = .ok (.getfield 120, 3) := by decide +kernel
theorem dX9_addsSack_18 : decode cX9_addsSack 18 = .ok (.iload_n 2, 1) := by decide +kernel
theorem dX9_addsSack_19 : decode cX9_addsSack 19 = .ok (.iastore, 1) := by decide +kernel
theorem dX9_addsSack_20 : decode cX9_addsSack 20 = .ok (.aload_n 0, 1) := by decide +kernel
theorem dX9_addsSack_21 : decode cX9_addsSack 21 = .ok (.dup, 1) := by decide +kernel
theorem dX9_addsSack_22 : decode cX9_addsSack 22 = .ok (.getfield 120, 3) := by decide +kernel
theorem dX9_addsSack_25 : decode cX9_addsSack 25 = .ok (.dup_x1, 1) := by decide +kernel
theorem dX9_addsSack_26 : decode cX9_addsSack 26 = .ok (.iconst 1, 1) := by decide +kernel
theorem dX9_addsSack_27 : decode cX9_addsSack 27 = .ok (.iadd, 1) := by decide +kernel
theorem dX9_addsSack_28 : decode cX9_addsSack 28 = .ok (.putfield 120, 3) := by decide +kernel
theorem dX9_addsSack_31 : decode cX9_addsSack 31 = .ok (.ireturn, 1) := by decide +kernel
theorem dX9_child_0 : decode cX9_child 0 = .ok (.iload_n 1, 1) := by decide +kernel
theorem dX9_child_1 : decode cX9_child 1 = .ok (.ifCond .lt 9, 3) := by decide +kernel
theorem dX9_child_4 : decode cX9_child 4 = .ok (.iload_n 1, 1) := by decide +kernel
theorem dX9_child_5 : decode cX9_child 5 = .ok (.bipush 6, 2) := by decide +kernel
theorem dX9_child_7 : decode cX9_child 7 = .ok (.if_icmp .le 9, 3) := by decide +kernel
theorem dX9_child_10 : decode cX9_child 10 = .ok (.aload_n 0, 1) := by decide +kernel
theorem dX9_child_11 : decode cX9_child 11 = .ok (.iconst (-1), 1) := by decide +kernel
theorem dX9_child_12 : decode cX9_child 12 = .ok (.invokevirtual 127, 3) := by decide +kernel
theorem dX9_child_15 : decode cX9_child 15 = .ok (.ireturn, 1) := by decide +kernel
theorem dX9_child_16 : decode cX9_child 16 = .ok (.iload_n 2, 1) := by decide +kernel
theorem dX9_child_17 : decode cX9_child 17 = .ok (.ifCond .lt 20, 3) := by decide +kernel
theorem dX9_child_20 : decode cX9_child 20 = .ok (.iload_n 2, 1) := by decide +kernel
theorem dX9_child_21 : decode cX9_child 21 = .ok (.bipush 9, 2) := by decide +kernel
theorem dX9_child_23 : decode cX9_child 23 = .ok (.if_icmp .gt 14, 3) := by decide +kernel
theorem dX9_child_26 : decode cX9_child 26 = .ok (.iload_n 3, 1) := by decide +kernel
theorem dX9_child_27 : decode cX9_child 27 = .ok (.iconst 1, 1) := by decide +kernel
theorem dX9_child_28 : decode cX9_child 28 = .ok (.if_icmp .lt 9, 3) := by decide +kernel
theorem dX9_child_31 : decode cX9_child 31 = .ok (.iload_n 3, 1) := by decide +kernel
theorem dX9_child_32 : decode cX9_child 32 = .ok (.bipush 9, 2) := by decide +kernel
theorem dX9_child_34 : decode cX9_child 34 = .ok (.if_icmp .le 10, 3) := by decide +kernel
theorem dX9_child_37 : decode cX9_child 37 = .ok (.aload_n 0, 1) := by decide +kernel
theorem dX9_child_38 : decode cX9_child 38 = .ok (.bipush (-6), 2) := by decide +kernel
theorem dX9_child_40 : decode cX9_child 40 = .ok (.invokevirtual 127, 3) := by decide +kernel
theorem dX9_child_43 : decode cX9_child 43 = .ok (.ireturn, 1) := by decide +kernel
theorem dX9_child_44 : decode cX9_child 44 = .ok (.aload_n 0, 1) := by decide +kernel
theorem dX9_child_45 : decode cX9_child 45 = .ok (.getfield 117, 3) := by decide +kernel
theorem dX9_child_48 : decode cX9_child 48 = .ok (.bipush 8, 2) := by decide +kernel
theorem dX9_child_50 : decode cX9_child 50 = .ok (.if_icmp .ne 12, 3) := by decide +kernel
theorem dX9_child_53 : decode cX9_child 53 = .ok (.aload_n 0, 1) := by decide +kernel
theorem dX9_child_54 : decode cX9_child 54 = .ok (.bipush (-7), 2) := by decide +kernel
theorem dX9_child_56 : decode cX9_child 56 = .ok (.invokevirtual 127, 3) := by decide +kernel
theorem dX9_child_59 : decode cX9_child 59 = .ok (.goto 10, 3) := by decide +kernel
theorem dX9_child_62 : decode cX9_child 62 = .ok (.aload_n 0, 1) := by decide +kernel
theorem dX9_child_63 : decode cX9_child 63 = .ok (.iload_n 1, 1) := by decide +kernel
theorem dX9_child_64 : decode cX9_child 64 = .ok (.iload_n 2, 1) := by decide +kernel
theorem dX9_child_65 : decode cX9_child 65 = .ok (.iload_n 3, 1) := by decide +kernel
theorem dX9_child_66 : decode cX9_child 66 = .ok (.invokevirtual 148, 3) := by decide +kernel
theorem dX9_child_69 : decode cX9_child 69 = .ok (.ireturn, 1) := by decide +kernel
theorem dX9_sack_0 : decode cX9_sack 0 = .ok (.iload_n 1, 1) := by decide +kernel
theorem dX9_sack_1 : decode cX9_sack 1 = .ok (.iconst 1, 1) := by decide +kernel
theorem dX9_sack_2 : decode cX9_sack 2 = .ok (.if_icmp .lt 19, 3) := by decide +kernel
theorem dX9_sack_5 : decode cX9_sack 5 = .ok (.iload_n 1, 1) := by decide +kernel
theorem dX9_sack_6 : decode cX9_sack 6 = .ok (.bipush 9, 2) := by decide +kernel
theorem dX9_sack_8 : decode cX9_sack 8 = .ok (.if_icmp .gt 13, 3) := by decide +kernel
theorem dX9_sack_11 : decode cX9_sack 11 = .ok (.iload_n 2, 1) := by decide +kernel
theorem dX9_sack_12 : decode cX9_sack 12 = .ok (.ifCond .lt 9, 3) := by decide +kernel
theorem dX9_sack_15 : decode cX9_sack 15 = .ok (.iload_n 2, 1) := by decide +kernel
theorem dX9_sack_16 : decode cX9_sack 16 = .ok (.bipush 9, 2) := by decide +kernel
theorem dX9_sack_18 : decode cX9_sack 18 = .ok (.if_icmp .le 10, 3) := by decide +kernel
theorem dX9_sack_21 : decode cX9_sack 21 = .ok (.aload_n 0, 1) := by decide +kernel
theorem dX9_sack_22 : decode cX9_sack 22 = .ok (.bipush (-6), 2) := by decide +kernel
theorem dX9_sack_24 : decode cX9_sack 24 = .ok (.invokevirtual 127, 3) := by decide +kernel
theorem dX9_sack_27 : decode cX9_sack 27 = .ok (.ireturn, 1) := by decide +kernel
theorem dX9_sack_28 : decode cX9_sack 28 = .ok (.aload_n 0, 1) := by decide +kernel
theorem dX9_sack_29 : decode cX9_sack 29 = .ok (.getfield 120, 3) := by decide +kernel
theorem dX9_sack_32 : decode cX9_sack 32 = .ok (.bipush 8, 2) := by decide +kernel
theorem dX9_sack_34 : decode cX9_sack 34 = .ok (.if_icmp .ne 12, 3) := by decide +kernel
theorem dX9_sack_37 : decode cX9_sack 37 = .ok (.aload_n 0, 1) := by decide +kernel
theorem dX9_sack_38 : decode cX9_sack 38 = .ok (.bipush (-7), 2) := by decide +kernel
theorem dX9_sack_40 : decode cX9_sack 40 = .ok (.invokevirtual 127, 3) := by decide +kernel
theorem dX9_sack_43 : decode cX9_sack 43 = .ok (.goto 9, 3) := by decide +kernel
theorem dX9_sack_46 : decode cX9_sack 46 = .ok (.aload_n 0, 1) := by decide +kernel
theorem dX9_sack_47 : decode cX9_sack 47 = .ok (.iload_n 1, 1) := by decide +kernel
theorem dX9_sack_48 : decode cX9_sack 48 = .ok (.iload_n 2, 1) := by decide +kernel
theorem dX9_sack_49 : decode cX9_sack 49 = .ok (.invokevirtual 152, 3) := by decide +kernel
theorem dX9_sack_52 : decode cX9_sack 52 = .ok (.ireturn, 1) := by decide +kernel
theorem dX9_childOf_0 : decode cX9_childOf 0 = .ok (.aload_n 0, 1) := by decide +kernel
theorem dX9_childOf_1 : decode cX9_childOf 1 = .ok (.iload_n 1, 1) := by decide +kernel
theorem dX9_childOf_2 : decode cX9_childOf 2 = .ok (.invokevirtual 131, 3) := by decide +kernel
theorem dX9_childOf_5 : decode cX9_childOf 5 = .ok (.ifCond .ne 10, 3) := by decide +kernel
theorem dX9_childOf_8 : decode cX9_childOf 8 = .ok (.aload_n 0, 1) := by decide +kernel
theorem dX9_childOf_9 : decode cX9_childOf 9 = .ok (.bipush (-5), 2) := by decide +kernel
theorem dX9_childOf_11 : decode cX9_childOf 11 = .ok (.invokevirtual 127, 3) := by decide +kernel
theorem dX9_childOf_14 : decode cX9_childOf 14 = .ok (.ireturn, 1) := by decide +kernel
theorem dX9_childOf_15 : decode cX9_childOf 15 = .ok (.aload_n 0, 1) := by decide +kernel
theorem dX9_childOf_16 : decode cX9_childOf 16 = .ok (.iload_n 1, 1) := by decide +kernel
theorem dX9_childOf_17 : decode cX9_childOf 17 = .ok (.invokevirtual 134, 3) := by decide +kernel
theorem dX9_childOf_20 : decode cX9_childOf 20 = .ok (.iload_n 2, 1) := by decide +kernel
theorem dX9_childOf_21 : decode cX9_childOf 21 = .ok (.tableswitch 108 0 8 #[51, 58, 65, 72, 79, 86, 91, 96, 101], 51) := by decide +kernel
theorem dX9_childOf_72 : decode cX9_childOf 72 = .ok (.aload_n 0, 1) := by decide +kernel
theorem dX9_childOf_73 : decode cX9_childOf 73 = .ok (.getfield 32, 3) := by decide +kernel
theorem dX9_childOf_76 : decode cX9_childOf 76 = .ok (.iload_n 1, 1) := by decide +kernel
theorem dX9_childOf_77 : decode cX9_childOf 77 = .ok (.iaload, 1) := by decide +kernel
theorem dX9_childOf_78 : decode cX9_childOf 78 = .ok (.ireturn, 1) := by decide +kernel
theorem dX9_childOf_79 : decode cX9_childOf 79 = .ok (.aload_n 0, 1) := by decide +kernel
theorem dX9_childOf_80 : decode cX9_childOf 80 = .ok (.getfield 35, 3) := by decide +kernel
theorem dX9_childOf_83 : decode cX9_childOf 83 = .ok (.iload_n 1, 1) := by decide +kernel
theorem dX9_childOf_84 : decode cX9_childOf 84 = .ok (.iaload, 1) := by decide +kernel
theorem dX9_childOf_85 : decode cX9_childOf 85 = .ok (.ireturn, 1) := by decide +kernel
theorem dX9_childOf_86 : decode cX9_childOf 86 = .ok (.aload_n 0, 1) := by decide +kernel
theorem dX9_childOf_87 : decode cX9_childOf 87 = .ok (.getfield 38, 3) := by decide +kernel
theorem dX9_childOf_90 : decode cX9_childOf 90 = .ok (.iload_n 1, 1) := by decide +kernel
theorem dX9_childOf_91 : decode cX9_childOf 91 = .ok (.iaload, 1) := by decide +kernel
theorem dX9_childOf_92 : decode cX9_childOf 92 = .ok (.ireturn, 1) := by decide +kernel
theorem dX9_childOf_93 : decode cX9_childOf 93 = .ok (.aload_n 0, 1) := by decide +kernel
theorem dX9_childOf_94 : decode cX9_childOf 94 = .ok (.getfield 41, 3) := by decide +kernel
theorem dX9_childOf_97 : decode cX9_childOf 97 = .ok (.iload_n 1, 1) := by decide +kernel
theorem dX9_childOf_98 : decode cX9_childOf 98 = .ok (.iaload, 1) := by decide +kernel
theorem dX9_childOf_99 : decode cX9_childOf 99 = .ok (.ireturn, 1) := by decide +kernel
theorem dX9_childOf_100 : decode cX9_childOf 100 = .ok (.aload_n 0, 1) := by decide +kernel
theorem dX9_childOf_101 : decode cX9_childOf 101 = .ok (.getfield 44, 3) := by decide +kernel
theorem dX9_childOf_104 : decode cX9_childOf 104 = .ok (.iload_n 1, 1) := by decide +kernel
theorem dX9_childOf_105 : decode cX9_childOf 105 = .ok (.iaload, 1) := by decide +kernel
theorem dX9_childOf_106 : decode cX9_childOf 106 = .ok (.ireturn, 1) := by decide +kernel
theorem dX9_childOf_107 : decode cX9_childOf 107 = .ok (.aload_n 0, 1) := by decide +kernel
theorem dX9_childOf_108 : decode cX9_childOf 108 = .ok (.invokevirtual 142, 3) := by decide +kernel
theorem dX9_childOf_111 : decode cX9_childOf 111 = .ok (.ireturn, 1) := by decide +kernel
theorem dX9_childOf_112 : decode cX9_childOf 112 = .ok (.aload_n 0, 1) := by decide +kernel
theorem dX9_childOf_113 : decode cX9_childOf 113 = .ok (.invokevirtual 138, 3) := by decide +kernel
theorem dX9_childOf_116 : decode cX9_childOf 116 = .ok (.ireturn, 1) := by decide +kernel
theorem dX9_childOf_117 : decode cX9_childOf 117 = .ok (.aload_n 0, 1) := by decide +kernel
theorem dX9_childOf_118 : decode cX9_childOf 118 = .ok (.invokevirtual 145, 3) := by decide +kernel
theorem dX9_childOf_121 : decode cX9_childOf 121 = .ok (.ireturn, 1) := by decide +kernel
theorem dX9_childOf_122 : decode cX9_childOf 122 = .ok (.aload_n 0, 1) := by decide +kernel
theorem dX9_childOf_123 : decode cX9_childOf 123 = .ok (.getfield 47, 3) := by decide +kernel
theorem dX9_childOf_126 : decode cX9_childOf 126 = .ok (.iload_n 1, 1) := by decide +kernel
theorem dX9_childOf_127 : decode cX9_childOf 127 = .ok (.iaload, 1) := by decide +kernel
theorem dX9_childOf_128 : decode cX9_childOf 128 = .ok (.ireturn, 1) := by decide +kernel
theorem dX9_childOf_129 : decode cX9_childOf 129 = .ok (.aload_n 0, 1) := by decide +kernel
theorem dX9_childOf_130 : decode cX9_childOf 130 = .ok (.bipush (-5), 2) := by decide +kernel
theorem dX9_childOf_132 : decode cX9_childOf 132 = .ok (.invokevirtual 127, 3) := by decide +kernel
theorem dX9_childOf_135 : decode cX9_childOf 135 = .ok (.ireturn, 1) := by decide +kernel
theorem dX9_sackOf_0 : decode cX9_sackOf 0 = .ok (.aload_n 0, 1) := by decide +kernel
theorem dX9_sackOf_1 : decode cX9_sackOf 1 = .ok (.iload_n 1, 1) := by decide +kernel
theorem dX9_sackOf_2 : decode cX9_sackOf 2 = .ok (.invokevirtual 156, 3) := by decide +kernel
theorem dX9_sackOf_5 : decode cX9_sackOf 5 = .ok (.ifCond .ne 9, 3) := by decide +kernel
theorem dX9_sackOf_8 : decode cX9_sackOf 8 = .ok (.aload_n 0, 1) := by decide +kernel
theorem dX9_sackOf_9 : decode cX9_sackOf 9 = .ok (.iconst (-1), 1) := by decide +kernel
theorem dX9_sackOf_10 : decode cX9_sackOf 10 = .ok (.invokevirtual 127, 3) := by decide +kernel
theorem dX9_sackOf_13 : decode cX9_sackOf 13 = .ok (.ireturn, 1) := by decide +kernel
theorem dX9_sackOf_14 : decode cX9_sackOf 14 = .ok (.iload_n 2, 1) := by decide +kernel
theorem dX9_sackOf_15 : decode cX9_sackOf 15 = .ok (.ifCond .ne 12, 3) := by decide +kernel
theorem dX9_sackOf_18 : decode cX9_sackOf 18 = .ok (.aload_n 0, 1) := by decide +kernel
theorem dX9_sackOf_19 : decode cX9_sackOf 19 = .ok (.getfield 50, 3) := by decide +kernel
theorem dX9_sackOf_22 : decode cX9_sackOf 22 = .ok (.iload_n 1, 1) := by decide +kernel
theorem dX9_sackOf_23 : decode cX9_sackOf 23 = .ok (.iaload, 1) := by decide +kernel
theorem dX9_sackOf_24 : decode cX9_sackOf 24 = .ok (.goto 23, 3) := by decide +kernel
theorem dX9_sackOf_27 : decode cX9_sackOf 27 = .ok (.iload_n 2, 1) := by decide +kernel
theorem dX9_sackOf_28 : decode cX9_sackOf 28 = .ok (.iconst 1, 1) := by decide +kernel
theorem dX9_sackOf_29 : decode cX9_sackOf 29 = .ok (.if_icmp .ne 12, 3) := by decide +kernel
theorem dX9_sackOf_32 : decode cX9_sackOf 32 = .ok (.aload_n 0, 1) := by decide +kernel
theorem dX9_sackOf_33 : decode cX9_sackOf 33 = .ok (.getfield 53, 3) := by decide +kernel
theorem dX9_sackOf_36 : decode cX9_sackOf 36 = .ok (.iload_n 1, 1) := by decide +kernel
theorem dX9_sackOf_37 : decode cX9_sackOf 37 = .ok (.iaload, 1) := by decide +kernel
theorem dX9_sackOf_38 : decode cX9_sackOf 38 = .ok (.goto 9, 3) := by decide +kernel
theorem dX9_sackOf_41 : decode cX9_sackOf 41 = .ok (.aload_n 0, 1) := by decide +kernel
theorem dX9_sackOf_42 : decode cX9_sackOf 42 = .ok (.bipush (-5), 2) := by decide +kernel
theorem dX9_sackOf_44 : decode cX9_sackOf 44 = .ok (.invokevirtual 127, 3) := by decide +kernel
theorem dX9_sackOf_47 : decode cX9_sackOf 47 = .ok (.ireturn, 1) := by decide +kernel
theorem dX9_wears_0 : decode cX9_wears 0 = .ok (.aload_n 0, 1) := by decide +kernel
theorem dX9_wears_1 : decode cX9_wears 1 = .ok (.iload_n 1, 1) := by decide +kernel
theorem dX9_wears_2 : decode cX9_wears 2 = .ok (.invokevirtual 131, 3) := by decide +kernel
theorem dX9_wears_5 : decode cX9_wears 5 = .ok (.ifCond .eq 11, 3) := by decide +kernel
theorem dX9_wears_8 : decode cX9_wears 8 = .ok (.aload_n 0, 1) := by decide +kernel
theorem dX9_wears_9 : decode cX9_wears 9 = .ok (.iload_n 2, 1) := by decide +kernel
theorem dX9_wears_10 : decode cX9_wears 10 = .ok (.invokevirtual 156, 3) := by decide +kernel
theorem dX9_wears_13 : decode cX9_wears 13 = .ok (.ifCond .ne 9, 3) := by decide +kernel
theorem dX9_wears_16 : decode cX9_wears 16 = .ok (.aload_n 0, 1) := by decide +kernel
theorem dX9_wears_17 : decode cX9_wears 17 = .ok (.iconst (-1), 1) := by decide +kernel
theorem dX9_wears_18 : decode cX9_wears 18 = .ok (.invokevirtual 127, 3) := by decide +kernel
theorem dX9_wears_21 : decode cX9_wears 21 = .ok (.ireturn, 1) := by decide +kernel
theorem dX9_wears_22 : decode cX9_wears 22 = .ok (.aload_n 0, 1) := by decide +kernel
theorem dX9_wears_23 : decode cX9_wears 23 = .ok (.getfield 41, 3) := by decide +kernel
theorem dX9_wears_26 : decode cX9_wears 26 = .ok (.iload_n 1, 1) := by decide +kernel
theorem dX9_wears_27 : decode cX9_wears 27 = .ok (.iaload, 1) := by decide +kernel
theorem dX9_wears_28 : decode cX9_wears 28 = .ok (.istore_n 3, 1) := by decide +kernel
theorem dX9_wears_29 : decode cX9_wears 29 = .ok (.aload_n 0, 1) := by decide +kernel
theorem dX9_wears_30 : decode cX9_wears 30 = .ok (.getfield 41, 3) := by decide +kernel
theorem dX9_wears_33 : decode cX9_wears 33 = .ok (.iload_n 1, 1) := by decide +kernel
theorem dX9_wears_34 : decode cX9_wears 34 = .ok (.iload_n 2, 1) := by decide +kernel
theorem dX9_wears_35 : decode cX9_wears 35 = .ok (.iastore, 1) := by decide +kernel
theorem dX9_wears_36 : decode cX9_wears 36 = .ok (.iload_n 3, 1) := by decide +kernel
theorem dX9_wears_37 : decode cX9_wears 37 = .ok (.ireturn, 1) := by decide +kernel
theorem dX9_ahead_0 : decode cX9_ahead 0 = .ok (.aload_n 0, 1) := by decide +kernel
theorem dX9_ahead_1 : decode cX9_ahead 1 = .ok (.iload_n 1, 1) := by decide +kernel
theorem dX9_ahead_2 : decode cX9_ahead 2 = .ok (.invokevirtual 131, 3) := by decide +kernel
theorem dX9_ahead_5 : decode cX9_ahead 5 = .ok (.ifCond .ne 9, 3) := by decide +kernel
theorem dX9_ahead_8 : decode cX9_ahead 8 = .ok (.aload_n 0, 1) := by decide +kernel
theorem dX9_ahead_9 : decode cX9_ahead 9 = .ok (.iconst (-1), 1) := by decide +kernel
theorem dX9_ahead_10 : decode cX9_ahead 10 = .ok (.invokevirtual 127, 3) := by decide +kernel
theorem dX9_ahead_13 : decode cX9_ahead 13 = .ok (.ireturn, 1) := by decide +kernel
theorem dX9_ahead_14 : decode cX9_ahead 14 = .ok (.iload_n 2, 1) := by decide +kernel
theorem dX9_ahead_15 : decode cX9_ahead 15 = .ok (.ifCond .lt 9, 3) := by decide +kernel
theorem dX9_ahead_18 : decode cX9_ahead 18 = .ok (.iload_n 2, 1) := by decide +kernel
theorem dX9_ahead_19 : decode cX9_ahead 19 = .ok (.bipush 99, 2) := by decide +kernel
theorem dX9_ahead_21 : decode cX9_ahead 21 = .ok (.if_icmp .le 10, 3) := by decide +kernel
theorem dX9_ahead_24 : decode cX9_ahead 24 = .ok (.aload_n 0, 1) := by decide +kernel
theorem dX9_ahead_25 : decode cX9_ahead 25 = .ok (.bipush (-6), 2) := by decide +kernel
theorem dX9_ahead_27 : decode cX9_ahead 27 = .ok (.invokevirtual 127, 3) := by decide +kernel
theorem dX9_ahead_30 : decode cX9_ahead 30 = .ok (.ireturn, 1) := by decide +kernel
theorem dX9_ahead_31 : decode cX9_ahead 31 = .ok (.aload_n 0, 1) := by decide +kernel
theorem dX9_ahead_32 : decode cX9_ahead 32 = .ok (.getfield 44, 3) := by decide +kernel
theorem dX9_ahead_35 : decode cX9_ahead 35 = .ok (.iload_n 1, 1) := by decide +kernel
theorem dX9_ahead_36 : decode cX9_ahead 36 = .ok (.iaload, 1) := by decide +kernel
theorem dX9_ahead_37 : decode cX9_ahead 37 = .ok (.istore_n 3, 1) := by decide +kernel
theorem dX9_ahead_38 : decode cX9_ahead 38 = .ok (.aload_n 0, 1) := by decide +kernel
theorem dX9_ahead_39 : decode cX9_ahead 39 = .ok (.getfield 44, 3) := by decide +kernel
theorem dX9_ahead_42 : decode cX9_ahead 42 = .ok (.iload_n 1, 1) := by decide +kernel
theorem dX9_ahead_43 : decode cX9_ahead 43 = .ok (.iload_n 2, 1) := by decide +kernel
theorem dX9_ahead_44 : decode cX9_ahead 44 = .ok (.iastore, 1) := by decide +kernel
theorem dX9_ahead_45 : decode cX9_ahead 45 = .ok (.iload_n 3, 1) := by decide +kernel
theorem dX9_ahead_46 : decode cX9_ahead 46 = .ok (.ireturn, 1) := by decide +kernel
theorem dX9_isAsked_0 : decode cX9_isAsked 0 = .ok (.iload_n 2, 1) := by decide +kernel
theorem dX9_isAsked_1 : decode cX9_isAsked 1 = .ok (.iload_n 1, 1) := by decide +kernel
theorem dX9_isAsked_2 : decode cX9_isAsked 2 = .ok (.iconst 2, 1) := by decide +kernel
theorem dX9_isAsked_3 : decode cX9_isAsked 3 = .ok (.if_icmp .ge 7, 3) := by decide +kernel
theorem dX9_isAsked_6 : decode cX9_isAsked 6 = .ok (.iconst 1, 1) := by decide +kernel
theorem dX9_isAsked_7 : decode cX9_isAsked 7 = .ok (.goto 4, 3) := by decide +kernel
theorem dX9_isAsked_10 : decode cX9_isAsked 10 = .ok (.iconst 0, 1) := by decide +kernel
theorem dX9_isAsked_11 : decode cX9_isAsked 11 = .ok (.if_icmp .lt 43, 3) := by decide +kernel
theorem dX9_isAsked_14 : decode cX9_isAsked 14 = .ok (.iload_n 2, 1) := by decide +kernel
theorem dX9_isAsked_15 : decode cX9_isAsked 15 = .ok (.iload_n 1, 1) := by decide +kernel
theorem dX9_isAsked_16 : decode cX9_isAsked 16 = .ok (.ifCond .ne 9, 3) := by decide +kernel
theorem dX9_isAsked_19 : decode cX9_isAsked 19 = .ok (.sipush 200, 3) := by decide +kernel
theorem dX9_isAsked_22 : decode cX9_isAsked 22 = .ok (.goto 25, 3) := by decide +kernel
theorem dX9_isAsked_25 : decode cX9_isAsked 25 = .ok (.iload_n 1, 1) := by decide +kernel
theorem dX9_isAsked_26 : decode cX9_isAsked 26 = .ok (.iconst 1, 1) := by decide +kernel
theorem dX9_isAsked_27 : decode cX9_isAsked 27 = .ok (.if_icmp .ne 8, 3) := by decide +kernel
theorem dX9_isAsked_30 : decode cX9_isAsked 30 = .ok (.bipush 20, 2) := by decide +kernel
theorem dX9_isAsked_32 : decode cX9_isAsked 32 = .ok (.goto 15, 3) := by decide +kernel
theorem dX9_isAsked_35 : decode cX9_isAsked 35 = .ok (.iload_n 1, 1) := by decide +kernel
theorem dX9_isAsked_36 : decode cX9_isAsked 36 = .ok (.iconst 2, 1) := by decide +kernel
theorem dX9_isAsked_37 : decode cX9_isAsked 37 = .ok (.if_icmp .ne 8, 3) := by decide +kernel
theorem dX9_isAsked_40 : decode cX9_isAsked 40 = .ok (.bipush 9, 2) := by decide +kernel
theorem dX9_isAsked_42 : decode cX9_isAsked 42 = .ok (.goto 5, 3) := by decide +kernel
theorem dX9_isAsked_45 : decode cX9_isAsked 45 = .ok (.bipush 60, 2) := by decide +kernel
theorem dX9_isAsked_47 : decode cX9_isAsked 47 = .ok (.if_icmp .gt 7, 3) := by decide +kernel
theorem dX9_isAsked_50 : decode cX9_isAsked 50 = .ok (.iconst 1, 1) := by decide +kernel
theorem dX9_isAsked_51 : decode cX9_isAsked 51 = .ok (.goto 4, 3) := by decide +kernel
theorem dX9_isAsked_54 : decode cX9_isAsked 54 = .ok (.iconst 0, 1) := by decide +kernel
theorem dX9_isAsked_55 : decode cX9_isAsked 55 = .ok (.ireturn, 1) := by decide +kernel
theorem dX9_told_0 : decode cX9_told 0 = .ok (.iload_n 1, 1) := by decide +kernel
theorem dX9_told_1 : decode cX9_told 1 = .ok (.ifCond .ne 10, 3) := by decide +kernel
theorem dX9_told_4 : decode cX9_told 4 = .ok (.aload_n 0, 1) := by decide +kernel
theorem dX9_told_5 : decode cX9_told 5 = .ok (.getfield 7, 3) := by decide +kernel
theorem dX9_told_8 : decode cX9_told 8 = .ok (.goto 31, 3) := by decide +kernel
theorem dX9_told_11 : decode cX9_told 11 = .ok (.iload_n 1, 1) := by decide +kernel
theorem dX9_told_12 : decode cX9_told 12 = .ok (.iconst 1, 1) := by decide +kernel
theorem dX9_told_13 : decode cX9_told 13 = .ok (.if_icmp .ne 10, 3) := by decide +kernel
theorem dX9_told_16 : decode cX9_told 16 = .ok (.aload_n 0, 1) := by decide +kernel
theorem dX9_told_17 : decode cX9_told 17 = .ok (.getfield 13, 3) := by decide +kernel
theorem dX9_told_20 : decode cX9_told 20 = .ok (.goto 19, 3) := by decide +kernel
theorem dX9_told_23 : decode cX9_told 23 = .ok (.iload_n 1, 1) := by decide +kernel
theorem dX9_told_24 : decode cX9_told 24 = .ok (.iconst 2, 1) := by decide +kernel
theorem dX9_told_25 : decode cX9_told 25 = .ok (.if_icmp .ne 10, 3) := by decide +kernel
theorem dX9_told_28 : decode cX9_told 28 = .ok (.aload_n 0, 1) := by decide +kernel
theorem dX9_told_29 : decode cX9_told 29 = .ok (.getfield 16, 3) := by decide +kernel
theorem dX9_told_32 : decode cX9_told 32 = .ok (.goto 7, 3) := by decide +kernel
theorem dX9_told_35 : decode cX9_told 35 = .ok (.aload_n 0, 1) := by decide +kernel
theorem dX9_told_36 : decode cX9_told 36 = .ok (.getfield 19, 3) := by decide +kernel
theorem dX9_told_39 : decode cX9_told 39 = .ok (.ireturn, 1) := by decide +kernel
theorem dX9_tells_0 : decode cX9_tells 0 = .ok (.iload_n 1, 1) := by decide +kernel
theorem dX9_tells_1 : decode cX9_tells 1 = .ok (.tableswitch 51 0 2 #[27, 35, 43], 27) := by decide +kernel
theorem dX9_tells_28 : decode cX9_tells 28 = .ok (.aload_n 0, 1) := by decide +kernel
theorem dX9_tells_29 : decode cX9_tells 29 = .ok (.iload_n 2, 1) := by decide +kernel
theorem dX9_tells_30 : decode cX9_tells 30 = .ok (.putfield 7, 3) := by decide +kernel
theorem dX9_tells_33 : decode cX9_tells 33 = .ok (.goto 24, 3) := by decide +kernel
theorem dX9_tells_36 : decode cX9_tells 36 = .ok (.aload_n 0, 1) := by decide +kernel
theorem dX9_tells_37 : decode cX9_tells 37 = .ok (.iload_n 2, 1) := by decide +kernel
theorem dX9_tells_38 : decode cX9_tells 38 = .ok (.putfield 13, 3) := by decide +kernel
theorem dX9_tells_41 : decode cX9_tells 41 = .ok (.goto 16, 3) := by decide +kernel
theorem dX9_tells_44 : decode cX9_tells 44 = .ok (.aload_n 0, 1) := by decide +kernel
theorem dX9_tells_45 : decode cX9_tells 45 = .ok (.iload_n 2, 1) := by decide +kernel
theorem dX9_tells_46 : decode cX9_tells 46 = .ok (.putfield 16, 3) := by decide +kernel
theorem dX9_tells_49 : decode cX9_tells 49 = .ok (.goto 8, 3) := by decide +kernel
theorem dX9_tells_52 : decode cX9_tells 52 = .ok (.aload_n 0, 1) := by decide +kernel
theorem dX9_tells_53 : decode cX9_tells 53 = .ok (.iload_n 2, 1) := by decide +kernel
theorem dX9_tells_54 : decode cX9_tells 54 = .ok (.putfield 19, 3) := by decide +kernel
theorem dX9_tells_57 : decode cX9_tells 57 = .ok (.return_, 1) := by decide +kernel
theorem dX9_ask_0 : decode cX9_ask 0 = .ok (.iload_n 1, 1) := by decide +kernel
theorem dX9_ask_1 : decode cX9_ask 1 = .ok (.ifCond .lt 17, 3) := by decide +kernel
theorem dX9_ask_4 : decode cX9_ask 4 = .ok (.iload_n 1, 1) := by decide +kernel
theorem dX9_ask_5 : decode cX9_ask 5 = .ok (.iconst 3, 1) := by decide +kernel
theorem dX9_ask_6 : decode cX9_ask 6 = .ok (.if_icmp .gt 12, 3) := by decide +kernel
theorem dX9_ask_9 : decode cX9_ask 9 = .ok (.aload_n 0, 1) := by decide +kernel
theorem dX9_ask_10 : decode cX9_ask 10 = .ok (.iload_n 1, 1) := by decide +kernel
theorem dX9_ask_11 : decode cX9_ask 11 = .ok (.iload_n 2, 1) := by decide +kernel
theorem dX9_ask_12 : decode cX9_ask 12 = .ok (.invokevirtual 159, 3) := by decide +kernel
theorem dX9_ask_15 : decode cX9_ask 15 = .ok (.ifCond .ne 10, 3) := by decide +kernel
theorem dX9_ask_18 : decode cX9_ask 18 = .ok (.aload_n 0, 1) := by decide +kernel
theorem dX9_ask_19 : decode cX9_ask 19 = .ok (.bipush (-6), 2) := by decide +kernel
theorem dX9_ask_21 : decode cX9_ask 21 = .ok (.invokevirtual 127, 3) := by decide +kernel
theorem dX9_ask_24 : decode cX9_ask 24 = .ok (.ireturn, 1) := by decide +kernel
theorem dX9_ask_25 : decode cX9_ask 25 = .ok (.aload_n 0, 1) := by decide +kernel
theorem dX9_ask_26 : decode cX9_ask 26 = .ok (.iload_n 1, 1) := by decide +kernel
theorem dX9_ask_27 : decode cX9_ask 27 = .ok (.invokevirtual 163, 3) := by decide +kernel
theorem dX9_ask_30 : decode cX9_ask 30 = .ok (.istore_n 3, 1) := by decide +kernel
theorem dX9_ask_31 : decode cX9_ask 31 = .ok (.aload_n 0, 1) := by decide +kernel
theorem dX9_ask_32 : decode cX9_ask 32 = .ok (.iload_n 1, 1) := by decide +kernel
theorem dX9_ask_33 : decode cX9_ask 33 = .ok (.iload_n 2, 1) := by decide +kernel
theorem dX9_ask_34 : decode cX9_ask 34 = .ok (.invokevirtual 166, 3) := by decide +kernel
theorem dX9_ask_37 : decode cX9_ask 37 = .ok (.iload_n 3, 1) := by decide +kernel
theorem dX9_ask_38 : decode cX9_ask 38 = .ok (.ireturn, 1) := by decide +kernel
theorem dX9_roll_0 : decode cX9_roll 0 = .ok (.aload_n 0, 1) := by decide +kernel
theorem dX9_roll_1 : decode cX9_roll 1 = .ok (.getfield 170, 3) := by decide +kernel
theorem dX9_roll_4 : decode cX9_roll 4 = .ok (.istore_n 2, 1) := by decide +kernel
theorem dX9_roll_5 : decode cX9_roll 5 = .ok (.aload_n 0, 1) := by decide +kernel
theorem dX9_roll_6 : decode cX9_roll 6 = .ok (.iload_n 1, 1) := by decide +kernel
theorem dX9_roll_7 : decode cX9_roll 7 = .ok (.ifCond .eq 7, 3) := by decide +kernel
theorem dX9_roll_10 : decode cX9_roll 10 = .ok (.iconst 1, 1) := by decide +kernel
theorem dX9_roll_11 : decode cX9_roll 11 = .ok (.goto 4, 3) := by decide +kernel
theorem dX9_roll_14 : decode cX9_roll 14 = .ok (.iconst 0, 1) := by decide +kernel
theorem dX9_roll_15 : decode cX9_roll 15 = .ok (.putfield 170, 3) := by decide +kernel
theorem dX9_roll_18 : decode cX9_roll 18 = .ok (.iload_n 2, 1) := by decide +kernel
theorem dX9_roll_19 : decode cX9_roll 19 = .ok (.ireturn, 1) := by decide +kernel
theorem dX9_wrong_0 : decode cX9_wrong 0 = .ok (.aload_n 0, 1) := by decide +kernel
theorem dX9_wrong_1 : decode cX9_wrong 1 = .ok (.iload_n 1, 1) := by decide +kernel
theorem dX9_wrong_2 : decode cX9_wrong 2 = .ok (.putfield 173, 3) := by decide +kernel
theorem dX9_wrong_5 : decode cX9_wrong 5 = .ok (.iconst 0, 1) := by decide +kernel
theorem dX9_wrong_6 : decode cX9_wrong 6 = .ok (.ireturn, 1) := by decide +kernel
theorem dX9_stands_0 : decode cX9_stands 0 = .ok (.iconst 0, 1) := by decide +kernel
theorem dX9_stands_1 : decode cX9_stands 1 = .ok (.istore_n 2, 1) := by decide +kernel
theorem dX9_stands_2 : decode cX9_stands 2 = .ok (.iconst 0, 1) := by decide +kernel
theorem dX9_stands_3 : decode cX9_stands 3 = .ok (.istore_n 3, 1) := by decide +kernel
theorem dX9_stands_4 : decode cX9_stands 4 = .ok (.iload_n 3, 1) := by decide +kernel
theorem dX9_stands_5 : decode cX9_stands 5 = .ok (.iload_n 1, 1) := by decide +kernel
theorem dX9_stands_6 : decode cX9_stands 6 = .ok (.if_icmp .ge 26, 3) := by decide +kernel
theorem dX9_stands_9 : decode cX9_stands 9 = .ok (.iload_n 3, 1) := by decide +kernel
theorem dX9_stands_10 : decode cX9_stands 10 = .ok (.aload_n 0, 1) := by decide +kernel
theorem dX9_stands_11 : decode cX9_stands 11 = .ok (.getfield 75, 3) := by decide +kernel
theorem dX9_stands_14 : decode cX9_stands 14 = .ok (.iload_n 2, 1) := by decide +kernel
theorem dX9_stands_15 : decode cX9_stands 15 = .ok (.iaload, 1) := by decide +kernel
theorem dX9_stands_16 : decode cX9_stands 16 = .ok (.ifCond .ne 7, 3) := by decide +kernel
theorem dX9_stands_19 : decode cX9_stands 19 = .ok (.iconst 1, 1) := by decide +kernel
theorem dX9_stands_20 : decode cX9_stands 20 = .ok (.goto 4, 3) := by decide +kernel
theorem dX9_stands_23 : decode cX9_stands 23 = .ok (.iconst 0, 1) := by decide +kernel
theorem dX9_stands_24 : decode cX9_stands 24 = .ok (.iadd, 1) := by decide +kernel
theorem dX9_stands_25 : decode cX9_stands 25 = .ok (.istore_n 3, 1) := by decide +kernel
theorem dX9_stands_26 : decode cX9_stands 26 = .ok (.iinc 2 1, 3) := by decide +kernel
theorem dX9_stands_29 : decode cX9_stands 29 = .ok (.goto (-25), 3) := by decide +kernel
theorem dX9_stands_32 : decode cX9_stands 32 = .ok (.aload_n 0, 1) := by decide +kernel
theorem dX9_stands_33 : decode cX9_stands 33 = .ok (.getfield 176, 3) := by decide +kernel
theorem dX9_stands_36 : decode cX9_stands 36 = .ok (.istore_n 3, 1) := by decide +kernel
theorem dX9_stands_37 : decode cX9_stands 37 = .ok (.aload_n 0, 1) := by decide +kernel
theorem dX9_stands_38 : decode cX9_stands 38 = .ok (.getfield 75, 3) := by decide +kernel
theorem dX9_stands_41 : decode cX9_stands 41 = .ok (.iload_n 2, 1) := by decide +kernel
theorem dX9_stands_42 : decode cX9_stands 42 = .ok (.iaload, 1) := by decide +kernel
theorem dX9_stands_43 : decode cX9_stands 43 = .ok (.bipush 32, 2) := by decide +kernel
theorem dX9_stands_45 : decode cX9_stands 45 = .ok (.if_icmp .le 41, 3) := by decide +kernel
theorem dX9_stands_48 : decode cX9_stands 48 = .ok (.iload_n 3, 1) := by decide +kernel
theorem dX9_stands_49 : decode cX9_stands 49 = .ok (.aload_n 0, 1) := by decide +kernel
theorem dX9_stands_50 : decode cX9_stands 50 = .ok (.getfield 179, 3) := by decide +kernel
theorem dX9_stands_53 : decode cX9_stands 53 = .ok (.if_icmp .ge 33, 3) := by decide +kernel
theorem dX9_stands_56 : decode cX9_stands 56 = .ok (.aload_n 0, 1) := by decide +kernel
theorem dX9_stands_57 : decode cX9_stands 57 = .ok (.getfield 68, 3) := by decide +kernel
theorem dX9_stands_60 : decode cX9_stands 60 = .ok (.aload_n 0, 1) := by decide +kernel
theorem dX9_stands_61 : decode cX9_stands 61 = .ok (.getfield 182, 3) := by decide +kernel
theorem dX9_stands_64 : decode cX9_stands 64 = .ok (.iload_n 3, 1) := by decide +kernel
theorem dX9_stands_65 : decode cX9_stands 65 = .ok (.iadd, 1) := by decide +kernel
theorem dX9_stands_66 : decode cX9_stands 66 = .ok (.laload, 1) := by decide +kernel
theorem dX9_stands_67 : decode cX9_stands 67 = .ok (.l2i, 1) := by decide +kernel
theorem dX9_stands_68 : decode cX9_stands 68 = .ok (.aload_n 0, 1) := by decide +kernel
theorem dX9_stands_69 : decode cX9_stands 69 = .ok (.getfield 75, 3) := by decide +kernel
theorem dX9_stands_72 : decode cX9_stands 72 = .ok (.iload_n 2, 1) := by decide +kernel
theorem dX9_stands_73 : decode cX9_stands 73 = .ok (.iaload, 1) := by decide +kernel
theorem dX9_stands_74 : decode cX9_stands 74 = .ok (.if_icmp .ne 12, 3) := by decide +kernel
theorem dX9_stands_77 : decode cX9_stands 77 = .ok (.iinc 3 1, 3) := by decide +kernel
theorem dX9_stands_80 : decode cX9_stands 80 = .ok (.iinc 2 1, 3) := by decide +kernel
theorem dX9_stands_83 : decode cX9_stands 83 = .ok (.goto (-46), 3) := by decide +kernel
theorem dX9_stands_86 : decode cX9_stands 86 = .ok (.aload_n 0, 1) := by decide +kernel
theorem dX9_stands_87 : decode cX9_stands 87 = .ok (.getfield 75, 3) := by decide +kernel
theorem dX9_stands_90 : decode cX9_stands 90 = .ok (.iload_n 2, 1) := by decide +kernel
theorem dX9_stands_91 : decode cX9_stands 91 = .ok (.iaload, 1) := by decide +kernel
theorem dX9_stands_92 : decode cX9_stands 92 = .ok (.bipush 32, 2) := by decide +kernel
theorem dX9_stands_94 : decode cX9_stands 94 = .ok (.if_icmp .gt 7, 3) := by decide +kernel
theorem dX9_stands_97 : decode cX9_stands 97 = .ok (.iconst 1, 1) := by decide +kernel
theorem dX9_stands_98 : decode cX9_stands 98 = .ok (.goto 4, 3) := by decide +kernel
theorem dX9_stands_101 : decode cX9_stands 101 = .ok (.iconst 0, 1) := by decide +kernel
theorem dX9_stands_102 : decode cX9_stands 102 = .ok (.ireturn, 1) := by decide +kernel
theorem dX9_word_0 : decode cX9_word 0 = .ok (.iconst 0, 1) := by decide +kernel
theorem dX9_word_1 : decode cX9_word 1 = .ok (.istore_n 1, 1) := by decide +kernel
theorem dX9_word_2 : decode cX9_word 2 = .ok (.aload_n 0, 1) := by decide +kernel
theorem dX9_word_3 : decode cX9_word 3 = .ok (.getfield 176, 3) := by decide +kernel
theorem dX9_word_6 : decode cX9_word 6 = .ok (.istore_n 2, 1) := by decide +kernel
theorem dX9_word_7 : decode cX9_word 7 = .ok (.iconst 0, 1) := by decide +kernel
theorem dX9_word_8 : decode cX9_word 8 = .ok (.istore_n 3, 1) := by decide +kernel
theorem dX9_word_9 : decode cX9_word 9 = .ok (.iload_n 3, 1) := by decide +kernel
theorem dX9_word_10 : decode cX9_word 10 = .ok (.bipush 8, 2) := by decide +kernel
theorem dX9_word_12 : decode cX9_word 12 = .ok (.if_icmp .ge 118, 3) := by decide +kernel
theorem dX9_word_15 : decode cX9_word 15 = .ok (.aload_n 0, 1) := by decide +kernel
theorem dX9_word_16 : decode cX9_word 16 = .ok (.getfield 176, 3) := by decide +kernel
theorem dX9_word_19 : decode cX9_word 19 = .ok (.istore 4, 2) := by decide +kernel
theorem dX9_word_21 : decode cX9_word 21 = .ok (.iload_n 1, 1) := by decide +kernel
theorem dX9_word_22 : decode cX9_word 22 = .ok (.istore 5, 2) := by decide +kernel
theorem dX9_word_24 : decode cX9_word 24 = .ok (.aload_n 0, 1) := by decide +kernel
theorem dX9_word_25 : decode cX9_word 25 = .ok (.getfield 75, 3) := by decide +kernel
theorem dX9_word_28 : decode cX9_word 28 = .ok (.iload 5, 2) := by decide +kernel
theorem dX9_word_30 : decode cX9_word 30 = .ok (.iaload, 1) := by decide +kernel
theorem dX9_word_31 : decode cX9_word 31 = .ok (.ifCond .eq 44, 3) := by decide +kernel
theorem dX9_word_34 : decode cX9_word 34 = .ok (.iload 4, 2) := by decide +kernel
theorem dX9_word_36 : decode cX9_word 36 = .ok (.aload_n 0, 1) := by decide +kernel
theorem dX9_word_37 : decode cX9_word 37 = .ok (.getfield 179, 3) := by decide +kernel
theorem dX9_word_40 : decode cX9_word 40 = .ok (.if_icmp .ge 35, 3) := by decide +kernel
theorem dX9_word_43 : decode cX9_word 43 = .ok (.aload_n 0, 1) := by decide +kernel
theorem dX9_word_44 : decode cX9_word 44 = .ok (.getfield 68, 3) := by decide +kernel
theorem dX9_word_47 : decode cX9_word 47 = .ok (.aload_n 0, 1) := by decide +kernel
theorem dX9_word_48 : decode cX9_word 48 = .ok (.getfield 182, 3) := by decide +kernel
theorem dX9_word_51 : decode cX9_word 51 = .ok (.iload 4, 2) := by decide +kernel
theorem dX9_word_53 : decode cX9_word 53 = .ok (.iadd, 1) := by decide +kernel
theorem dX9_word_54 : decode cX9_word 54 = .ok (.laload, 1) := by decide +kernel
theorem dX9_word_55 : decode cX9_word 55 = .ok (.l2i, 1) := by decide +kernel
theorem dX9_word_56 : decode cX9_word 56 = .ok (.aload_n 0, 1) := by decide +kernel
theorem dX9_word_57 : decode cX9_word 57 = .ok (.getfield 75, 3) := by decide +kernel
theorem dX9_word_60 : decode cX9_word 60 = .ok (.iload 5, 2) := by decide +kernel
theorem dX9_word_62 : decode cX9_word 62 = .ok (.iaload, 1) := by decide +kernel
theorem dX9_word_63 : decode cX9_word 63 = .ok (.if_icmp .ne 12, 3) := by decide +kernel
theorem dX9_word_66 : decode cX9_word 66 = .ok (.iinc 4 1, 3) := by decide +kernel
theorem dX9_word_69 : decode cX9_word 69 = .ok (.iinc 5 1, 3) := by decide +kernel
theorem dX9_word_72 : decode cX9_word 72 = .ok (.goto (-48), 3) := by decide +kernel
theorem dX9_word_75 : decode cX9_word 75 = .ok (.aload_n 0, 1) := by decide +kernel
theorem dX9_word_76 : decode cX9_word 76 = .ok (.getfield 75, 3) := by decide +kernel
theorem dX9_word_79 : decode cX9_word 79 = .ok (.iload 5, 2) := by decide +kernel
theorem dX9_word_81 : decode cX9_word 81 = .ok (.iaload, 1) := by decide +kernel
theorem dX9_word_82 : decode cX9_word 82 = .ok (.ifCond .ne 11, 3) := by decide +kernel
theorem dX9_word_85 : decode cX9_word 85 = .ok (.aload_n 0, 1) := by decide +kernel
theorem dX9_word_86 : decode cX9_word 86 = .ok (.iload 4, 2) := by decide +kernel
theorem dX9_word_88 : decode cX9_word 88 = .ok (.putfield 176, 3) := by decide +kernel
theorem dX9_word_91 : decode cX9_word 91 = .ok (.iload_n 3, 1) := by decide +kernel
theorem dX9_word_92 : decode cX9_word 92 = .ok (.ireturn, 1) := by decide +kernel
theorem dX9_word_93 : decode cX9_word 93 = .ok (.iload 4, 2) := by decide +kernel
theorem dX9_word_95 : decode cX9_word 95 = .ok (.iload_n 2, 1) := by decide +kernel
theorem dX9_word_96 : decode cX9_word 96 = .ok (.if_icmp .le 8, 3) := by decide +kernel
theorem dX9_word_99 : decode cX9_word 99 = .ok (.iload 4, 2) := by decide +kernel
theorem dX9_word_101 : decode cX9_word 101 = .ok (.goto 4, 3) := by decide +kernel
theorem dX9_word_104 : decode cX9_word 104 = .ok (.iload_n 2, 1) := by decide +kernel
theorem dX9_word_105 : decode cX9_word 105 = .ok (.istore_n 2, 1) := by decide +kernel
theorem dX9_word_106 : decode cX9_word 106 = .ok (.aload_n 0, 1) := by decide +kernel
theorem dX9_word_107 : decode cX9_word 107 = .ok (.getfield 75, 3) := by decide +kernel
theorem dX9_word_110 : decode cX9_word 110 = .ok (.iload_n 1, 1) := by decide +kernel
theorem dX9_word_111 : decode cX9_word 111 = .ok (.iaload, 1) := by decide +kernel
theorem dX9_word_112 : decode cX9_word 112 = .ok (.ifCond .eq 9, 3) := by decide +kernel
theorem dX9_word_115 : decode cX9_word 115 = .ok (.iinc 1 1, 3) := by decide +kernel
theorem dX9_word_118 : decode cX9_word 118 = .ok (.goto (-12), 3) := by decide +kernel
theorem dX9_word_121 : decode cX9_word 121 = .ok (.iinc 1 1, 3) := by decide +kernel
theorem dX9_word_124 : decode cX9_word 124 = .ok (.iinc 3 1, 3) := by decide +kernel
theorem dX9_word_127 : decode cX9_word 127 = .ok (.goto (-118), 3) := by decide +kernel
theorem dX9_word_130 : decode cX9_word 130 = .ok (.aload_n 0, 1) := by decide +kernel
theorem dX9_word_131 : decode cX9_word 131 = .ok (.iload_n 2, 1) := by decide +kernel
theorem dX9_word_132 : decode cX9_word 132 = .ok (.putfield 173, 3) := by decide +kernel
theorem dX9_word_135 : decode cX9_word 135 = .ok (.iconst (-1), 1) := by decide +kernel
theorem dX9_word_136 : decode cX9_word 136 = .ok (.ireturn, 1) := by decide +kernel
theorem dX9_isDigit_0 : decode cX9_isDigit 0 = .ok (.aload_n 0, 1) := by decide +kernel
theorem dX9_isDigit_1 : decode cX9_isDigit 1 = .ok (.getfield 176, 3) := by decide +kernel
theorem dX9_isDigit_4 : decode cX9_isDigit 4 = .ok (.aload_n 0, 1) := by decide +kernel
theorem dX9_isDigit_5 : decode cX9_isDigit 5 = .ok (.getfield 179, 3) := by decide +kernel
theorem dX9_isDigit_8 : decode cX9_isDigit 8 = .ok (.if_icmp .ge 47, 3) := by decide +kernel
theorem dX9_isDigit_11 : decode cX9_isDigit 11 = .ok (.aload_n 0, 1) := by decide +kernel
theorem dX9_isDigit_12 : decode cX9_isDigit 12 = .ok (.getfield 68, 3) := by decide +kernel
theorem dX9_isDigit_15 : decode cX9_isDigit 15 = .ok (.aload_n 0, 1) := by decide +kernel
theorem dX9_isDigit_16 : decode cX9_isDigit 16 = .ok (.getfield 182, 3) := by decide +kernel
theorem dX9_isDigit_19 : decode cX9_isDigit 19 = .ok (.aload_n 0, 1) := by decide +kernel
theorem dX9_isDigit_20 : decode cX9_isDigit 20 = .ok (.getfield 176, 3) := by decide +kernel
theorem dX9_isDigit_23 : decode cX9_isDigit 23 = .ok (.iadd, 1) := by decide +kernel
theorem dX9_isDigit_24 : decode cX9_isDigit 24 = .ok (.laload, 1) := by decide +kernel
theorem dX9_isDigit_25 : decode cX9_isDigit 25 = .ok (.l2i, 1) := by decide +kernel
theorem dX9_isDigit_26 : decode cX9_isDigit 26 = .ok (.bipush 48, 2) := by decide +kernel
theorem dX9_isDigit_28 : decode cX9_isDigit 28 = .ok (.if_icmp .lt 27, 3) := by decide +kernel
theorem dX9_isDigit_31 : decode cX9_isDigit 31 = .ok (.aload_n 0, 1) := by decide +kernel
theorem dX9_isDigit_32 : decode cX9_isDigit 32 = .ok (.getfield 68, 3) := by decide +kernel
theorem dX9_isDigit_35 : decode cX9_isDigit 35 = .ok (.aload_n 0, 1) := by decide +kernel
theorem dX9_isDigit_36 : decode cX9_isDigit 36 = .ok (.getfield 182, 3) := by decide +kernel
theorem dX9_isDigit_39 : decode cX9_isDigit 39 = .ok (.aload_n 0, 1) := by decide +kernel
theorem dX9_isDigit_40 : decode cX9_isDigit 40 = .ok (.getfield 176, 3) := by decide +kernel
theorem dX9_isDigit_43 : decode cX9_isDigit 43 = .ok (.iadd, 1) := by decide +kernel
theorem dX9_isDigit_44 : decode cX9_isDigit 44 = .ok (.laload, 1) := by decide +kernel
theorem dX9_isDigit_45 : decode cX9_isDigit 45 = .ok (.l2i, 1) := by decide +kernel
theorem dX9_isDigit_46 : decode cX9_isDigit 46 = .ok (.bipush 57, 2) := by decide +kernel
theorem dX9_isDigit_48 : decode cX9_isDigit 48 = .ok (.if_icmp .gt 7, 3) := by decide +kernel
theorem dX9_isDigit_51 : decode cX9_isDigit 51 = .ok (.iconst 1, 1) := by decide +kernel
theorem dX9_isDigit_52 : decode cX9_isDigit 52 = .ok (.goto 4, 3) := by decide +kernel
theorem dX9_isDigit_55 : decode cX9_isDigit 55 = .ok (.iconst 0, 1) := by decide +kernel
theorem dX9_isDigit_56 : decode cX9_isDigit 56 = .ok (.ireturn, 1) := by decide +kernel
theorem dX9_reads_0 : decode cX9_reads 0 = .ok (.aload_n 0, 1) := by decide +kernel
theorem dX9_reads_1 : decode cX9_reads 1 = .ok (.iconst 0, 1) := by decide +kernel
theorem dX9_reads_2 : decode cX9_reads 2 = .ok (.putfield 185, 3) := by decide +kernel
theorem dX9_reads_5 : decode cX9_reads 5 = .ok (.aload_n 0, 1) := by decide +kernel
theorem dX9_reads_6 : decode cX9_reads 6 = .ok (.invokevirtual 188, 3) := by decide +kernel
theorem dX9_reads_9 : decode cX9_reads 9 = .ok (.ifCond .ne 12, 3) := by decide +kernel
theorem dX9_reads_12 : decode cX9_reads 12 = .ok (.aload_n 0, 1) := by decide +kernel
theorem dX9_reads_13 : decode cX9_reads 13 = .ok (.aload_n 0, 1) := by decide +kernel
theorem dX9_reads_14 : decode cX9_reads 14 = .ok (.getfield 176, 3) := by decide +kernel
theorem dX9_reads_17 : decode cX9_reads 17 = .ok (.invokevirtual 192, 3) := by decide +kernel
theorem dX9_reads_20 : decode cX9_reads 20 = .ok (.ireturn, 1) := by decide +kernel
theorem dX9_reads_21 : decode cX9_reads 21 = .ok (.iconst 0, 1) := by decide +kernel
theorem dX9_reads_22 : decode cX9_reads 22 = .ok (.istore_n 1, 1) := by decide +kernel
theorem dX9_reads_23 : decode cX9_reads 23 = .ok (.iload_n 1, 1) := by decide +kernel
theorem dX9_reads_24 : decode cX9_reads 24 = .ok (.iconst 3, 1) := by decide +kernel
theorem dX9_reads_25 : decode cX9_reads 25 = .ok (.if_icmp .ge 56, 3) := by decide +kernel
theorem dX9_reads_28 : decode cX9_reads 28 = .ok (.aload_n 0, 1) := by decide +kernel
theorem dX9_reads_29 : decode cX9_reads 29 = .ok (.invokevirtual 188, 3) := by decide +kernel
theorem dX9_reads_32 : decode cX9_reads 32 = .ok (.ifCond .eq 49, 3) := by decide +kernel
theorem dX9_reads_35 : decode cX9_reads 35 = .ok (.aload_n 0, 1) := by decide +kernel
theorem dX9_reads_36 : decode cX9_reads 36 = .ok (.bipush 10, 2) := by decide +kernel
theorem dX9_reads_38 : decode cX9_reads 38 = .ok (.aload_n 0, 1) := by decide +kernel
theorem dX9_reads_39 : decode cX9_reads 39 = .ok (.getfield 185, 3) := by decide +kernel
theorem dX9_reads_42 : decode cX9_reads 42 = .ok (.imul, 1) := by decide +kernel
theorem dX9_reads_43 : decode cX9_reads 43 = .ok (.aload_n 0, 1) := by decide +kernel
theorem dX9_reads_44 : decode cX9_reads 44 = .ok (.getfield 68, 3) := by decide +kernel
theorem dX9_reads_47 : decode cX9_reads 47 = .ok (.aload_n 0, 1) := by decide +kernel
theorem dX9_reads_48 : decode cX9_reads 48 = .ok (.getfield 182, 3) := by decide +kernel
theorem dX9_reads_51 : decode cX9_reads 51 = .ok (.aload_n 0, 1) := by decide +kernel
theorem dX9_reads_52 : decode cX9_reads 52 = .ok (.getfield 176, 3) := by decide +kernel
theorem dX9_reads_55 : decode cX9_reads 55 = .ok (.iadd, 1) := by decide +kernel
theorem dX9_reads_56 : decode cX9_reads 56 = .ok (.laload, 1) := by decide +kernel
theorem dX9_reads_57 : decode cX9_reads 57 = .ok (.l2i, 1) := by decide +kernel
theorem dX9_reads_58 : decode cX9_reads 58 = .ok (.iadd, 1) := by decide +kernel
theorem dX9_reads_59 : decode cX9_reads 59 = .ok (.bipush 48, 2) := by decide +kernel
theorem dX9_reads_61 : decode cX9_reads 61 = .ok (.isub, 1) := by decide +kernel
theorem dX9_reads_62 : decode cX9_reads 62 = .ok (.putfield 185, 3) := by decide +kernel
theorem dX9_reads_65 : decode cX9_reads 65 = .ok (.aload_n 0, 1) := by decide +kernel
theorem dX9_reads_66 : decode cX9_reads 66 = .ok (.dup, 1) := by decide +kernel
theorem dX9_reads_67 : decode cX9_reads 67 = .ok (.getfield 176, 3) := by decide +kernel
theorem dX9_reads_70 : decode cX9_reads 70 = .ok (.iconst 1, 1) := by decide +kernel
theorem dX9_reads_71 : decode cX9_reads 71 = .ok (.iadd, 1) := by decide +kernel
theorem dX9_reads_72 : decode cX9_reads 72 = .ok (.putfield 176, 3) := by decide +kernel
theorem dX9_reads_75 : decode cX9_reads 75 = .ok (.iinc 1 1, 3) := by decide +kernel
theorem dX9_reads_78 : decode cX9_reads 78 = .ok (.goto (-55), 3) := by decide +kernel
theorem dX9_reads_81 : decode cX9_reads 81 = .ok (.iconst 1, 1) := by decide +kernel
theorem dX9_reads_82 : decode cX9_reads 82 = .ok (.ireturn, 1) := by decide +kernel
theorem dX9_isSo_0 : decode cX9_isSo 0 = .ok (.iload_n 1, 1) := by decide +kernel
theorem dX9_isSo_1 : decode cX9_isSo 1 = .ok (.tableswitch 191 0 3 #[31, 97, 125, 153], 31) := by decide +kernel
theorem dX9_isSo_32 : decode cX9_isSo 32 = .ok (.iload_n 2, 1) := by decide +kernel
theorem dX9_isSo_33 : decode cX9_isSo 33 = .ok (.ifCond .ne 20, 3) := by decide +kernel
theorem dX9_isSo_36 : decode cX9_isSo 36 = .ok (.aload_n 0, 1) := by decide +kernel
theorem dX9_isSo_37 : decode cX9_isSo 37 = .ok (.getfield 185, 3) := by decide +kernel
theorem dX9_isSo_40 : decode cX9_isSo 40 = .ok (.bipush 6, 2) := by decide +kernel
theorem dX9_isSo_42 : decode cX9_isSo 42 = .ok (.if_icmp .gt 7, 3) := by decide +kernel
theorem dX9_isSo_45 : decode cX9_isSo 45 = .ok (.iconst 1, 1) := by decide +kernel
theorem dX9_isSo_46 : decode cX9_isSo 46 = .ok (.goto 51, 3) := by decide +kernel
theorem dX9_isSo_49 : decode cX9_isSo 49 = .ok (.iconst 0, 1) := by decide +kernel
theorem dX9_isSo_50 : decode cX9_isSo 50 = .ok (.goto 47, 3) := by decide +kernel
theorem dX9_isSo_53 : decode cX9_isSo 53 = .ok (.iload_n 2, 1) := by decide +kernel
theorem dX9_isSo_54 : decode cX9_isSo 54 = .ok (.iconst 1, 1) := by decide +kernel
theorem dX9_isSo_55 : decode cX9_isSo 55 = .ok (.if_icmp .ne 20, 3) := by decide +kernel
theorem dX9_isSo_58 : decode cX9_isSo 58 = .ok (.aload_n 0, 1) := by decide +kernel
theorem dX9_isSo_59 : decode cX9_isSo 59 = .ok (.getfield 185, 3) := by decide +kernel
theorem dX9_isSo_62 : decode cX9_isSo 62 = .ok (.bipush 9, 2) := by decide +kernel
theorem dX9_isSo_64 : decode cX9_isSo 64 = .ok (.if_icmp .gt 7, 3) := by decide +kernel
theorem dX9_isSo_67 : decode cX9_isSo 67 = .ok (.iconst 1, 1) := by decide +kernel
theorem dX9_isSo_68 : decode cX9_isSo 68 = .ok (.goto 29, 3) := by decide +kernel
theorem dX9_isSo_71 : decode cX9_isSo 71 = .ok (.iconst 0, 1) := by decide +kernel
theorem dX9_isSo_72 : decode cX9_isSo 72 = .ok (.goto 25, 3) := by decide +kernel
theorem dX9_isSo_75 : decode cX9_isSo 75 = .ok (.aload_n 0, 1) := by decide +kernel
theorem dX9_isSo_76 : decode cX9_isSo 76 = .ok (.getfield 185, 3) := by decide +kernel
theorem dX9_isSo_79 : decode cX9_isSo 79 = .ok (.iconst 1, 1) := by decide +kernel
theorem dX9_isSo_80 : decode cX9_isSo 80 = .ok (.if_icmp .lt 16, 3) := by decide +kernel
theorem dX9_isSo_83 : decode cX9_isSo 83 = .ok (.aload_n 0, 1) := by decide +kernel
theorem dX9_isSo_84 : decode cX9_isSo 84 = .ok (.getfield 185, 3) := by decide +kernel
theorem dX9_isSo_87 : decode cX9_isSo 87 = .ok (.bipush 9, 2) := by decide +kernel
theorem dX9_isSo_89 : decode cX9_isSo 89 = .ok (.if_icmp .gt 7, 3) := by decide +kernel
theorem dX9_isSo_92 : decode cX9_isSo 92 = .ok (.iconst 1, 1) := by decide +kernel
theorem dX9_isSo_93 : decode cX9_isSo 93 = .ok (.goto 4, 3) := by decide +kernel
theorem dX9_isSo_96 : decode cX9_isSo 96 = .ok (.iconst 0, 1) := by decide +kernel
theorem dX9_isSo_97 : decode cX9_isSo 97 = .ok (.ireturn, 1) := by decide +kernel
theorem dX9_isSo_98 : decode cX9_isSo 98 = .ok (.aload_n 0, 1) := by decide +kernel
theorem dX9_isSo_99 : decode cX9_isSo 99 = .ok (.getfield 185, 3) := by decide +kernel
theorem dX9_isSo_102 : decode cX9_isSo 102 = .ok (.bipush 9, 2) := by decide +kernel
theorem dX9_isSo_104 : decode cX9_isSo 104 = .ok (.if_icmp .gt 20, 3) := by decide +kernel
theorem dX9_isSo_107 : decode cX9_isSo 107 = .ok (.iload_n 2, 1) := by decide +kernel
theorem dX9_isSo_108 : decode cX9_isSo 108 = .ok (.iconst 1, 1) := by decide +kernel
theorem dX9_isSo_109 : decode cX9_isSo 109 = .ok (.if_icmp .eq 11, 3) := by decide +kernel
theorem dX9_isSo_112 : decode cX9_isSo 112 = .ok (.aload_n 0, 1) := by decide +kernel
theorem dX9_isSo_113 : decode cX9_isSo 113 = .ok (.getfield 185, 3) := by decide +kernel
theorem dX9_isSo_116 : decode cX9_isSo 116 = .ok (.iconst 1, 1) := by decide +kernel
theorem dX9_isSo_117 : decode cX9_isSo 117 = .ok (.if_icmp .lt 7, 3) := by decide +kernel
theorem dX9_isSo_120 : decode cX9_isSo 120 = .ok (.iconst 1, 1) := by decide +kernel
theorem dX9_isSo_121 : decode cX9_isSo 121 = .ok (.goto 4, 3) := by decide +kernel
theorem dX9_isSo_124 : decode cX9_isSo 124 = .ok (.iconst 0, 1) := by decide +kernel
theorem dX9_isSo_125 : decode cX9_isSo 125 = .ok (.ireturn, 1) := by decide +kernel
theorem dX9_isSo_126 : decode cX9_isSo 126 = .ok (.aload_n 0, 1) := by decide +kernel
theorem dX9_isSo_127 : decode cX9_isSo 127 = .ok (.getfield 185, 3) := by decide +kernel
theorem dX9_isSo_130 : decode cX9_isSo 130 = .ok (.iload_n 2, 1) := by decide +kernel
theorem dX9_isSo_131 : decode cX9_isSo 131 = .ok (.ifCond .ne 10, 3) := by decide +kernel
theorem dX9_isSo_134 : decode cX9_isSo 134 = .ok (.aload_n 0, 1) := by decide +kernel
theorem dX9_isSo_135 : decode cX9_isSo 135 = .ok (.getfield 117, 3) := by decide +kernel
theorem dX9_isSo_138 : decode cX9_isSo 138 = .ok (.goto 7, 3) := by decide +kernel
theorem dX9_isSo_141 : decode cX9_isSo 141 = .ok (.aload_n 0, 1) := by decide +kernel
theorem dX9_isSo_142 : decode cX9_isSo 142 = .ok (.getfield 120, 3) := by decide +kernel
theorem dX9_isSo_145 : decode cX9_isSo 145 = .ok (.if_icmp .ge 7, 3) := by decide +kernel
theorem dX9_isSo_148 : decode cX9_isSo 148 = .ok (.iconst 1, 1) := by decide +kernel
theorem dX9_isSo_149 : decode cX9_isSo 149 = .ok (.goto 4, 3) := by decide +kernel
theorem dX9_isSo_152 : decode cX9_isSo 152 = .ok (.iconst 0, 1) := by decide +kernel
theorem dX9_isSo_153 : decode cX9_isSo 153 = .ok (.ireturn, 1) := by decide +kernel
theorem dX9_isSo_154 : decode cX9_isSo 154 = .ok (.iload_n 2, 1) := by decide +kernel
theorem dX9_isSo_155 : decode cX9_isSo 155 = .ok (.ifCond .ne 22, 3) := by decide +kernel
theorem dX9_isSo_158 : decode cX9_isSo 158 = .ok (.aload_n 0, 1) := by decide +kernel
theorem dX9_isSo_159 : decode cX9_isSo 159 = .ok (.getfield 185, 3) := by decide +kernel
theorem dX9_isSo_162 : decode cX9_isSo 162 = .ok (.aload_n 0, 1) := by decide +kernel
theorem dX9_isSo_163 : decode cX9_isSo 163 = .ok (.getfield 117, 3) := by decide +kernel
theorem dX9_isSo_166 : decode cX9_isSo 166 = .ok (.if_icmp .ge 7, 3) := by decide +kernel
theorem dX9_isSo_169 : decode cX9_isSo 169 = .ok (.iconst 1, 1) := by decide +kernel
theorem dX9_isSo_170 : decode cX9_isSo 170 = .ok (.goto 21, 3) := by decide +kernel
theorem dX9_isSo_173 : decode cX9_isSo 173 = .ok (.iconst 0, 1) := by decide +kernel
theorem dX9_isSo_174 : decode cX9_isSo 174 = .ok (.goto 17, 3) := by decide +kernel
theorem dX9_isSo_177 : decode cX9_isSo 177 = .ok (.aload_n 0, 1) := by decide +kernel
theorem dX9_isSo_178 : decode cX9_isSo 178 = .ok (.getfield 185, 3) := by decide +kernel
theorem dX9_isSo_181 : decode cX9_isSo 181 = .ok (.bipush 99, 2) := by decide +kernel
theorem dX9_isSo_183 : decode cX9_isSo 183 = .ok (.if_icmp .gt 7, 3) := by decide +kernel
theorem dX9_isSo_186 : decode cX9_isSo 186 = .ok (.iconst 1, 1) := by decide +kernel
theorem dX9_isSo_187 : decode cX9_isSo 187 = .ok (.goto 4, 3) := by decide +kernel
theorem dX9_isSo_190 : decode cX9_isSo 190 = .ok (.iconst 0, 1) := by decide +kernel
theorem dX9_isSo_191 : decode cX9_isSo 191 = .ok (.ireturn, 1) := by decide +kernel
theorem dX9_isSo_192 : decode cX9_isSo 192 = .ok (.aload_n 0, 1) := by decide +kernel
theorem dX9_isSo_193 : decode cX9_isSo 193 = .ok (.iload_n 1, 1) := by decide +kernel
theorem dX9_isSo_194 : decode cX9_isSo 194 = .ok (.iconst 4, 1) := by decide +kernel
theorem dX9_isSo_195 : decode cX9_isSo 195 = .ok (.isub, 1) := by decide +kernel
theorem dX9_isSo_196 : decode cX9_isSo 196 = .ok (.aload_n 0, 1) := by decide +kernel
theorem dX9_isSo_197 : decode cX9_isSo 197 = .ok (.getfield 185, 3) := by decide +kernel
theorem dX9_isSo_200 : decode cX9_isSo 200 = .ok (.invokevirtual 159, 3) := by decide +kernel
theorem dX9_isSo_203 : decode cX9_isSo 203 = .ok (.ireturn, 1) := by decide +kernel
theorem dX9_item_0 : decode cX9_item 0 = .ok (.aload_n 0, 1) := by decide +kernel
theorem dX9_item_1 : decode cX9_item 1 = .ok (.iconst 0, 1) := by decide +kernel
theorem dX9_item_2 : decode cX9_item 2 = .ok (.invokevirtual 195, 3) := by decide +kernel
theorem dX9_item_5 : decode cX9_item 5 = .ok (.ifCond .eq 12, 3) := by decide +kernel
theorem dX9_item_8 : decode cX9_item 8 = .ok (.aload_n 0, 1) := by decide +kernel
theorem dX9_item_9 : decode cX9_item 9 = .ok (.getfield 117, 3) := by decide +kernel
theorem dX9_item_12 : decode cX9_item 12 = .ok (.bipush 8, 2) := by decide +kernel
theorem dX9_item_14 : decode cX9_item 14 = .ok (.if_icmp .eq 20, 3) := by decide +kernel
theorem dX9_item_17 : decode cX9_item 17 = .ok (.aload_n 0, 1) := by decide +kernel
theorem dX9_item_18 : decode cX9_item 18 = .ok (.iconst 1, 1) := by decide +kernel
theorem dX9_item_19 : decode cX9_item 19 = .ok (.invokevirtual 195, 3) := by decide +kernel
theorem dX9_item_22 : decode cX9_item 22 = .ok (.ifCond .eq 21, 3) := by decide +kernel
theorem dX9_item_25 : decode cX9_item 25 = .ok (.aload_n 0, 1) := by decide +kernel
theorem dX9_item_26 : decode cX9_item 26 = .ok (.getfield 120, 3) := by decide +kernel
theorem dX9_item_29 : decode cX9_item 29 = .ok (.bipush 8, 2) := by decide +kernel
theorem dX9_item_31 : decode cX9_item 31 = .ok (.if_icmp .ne 12, 3) := by decide +kernel
theorem dX9_item_34 : decode cX9_item 34 = .ok (.aload_n 0, 1) := by decide +kernel
theorem dX9_item_35 : decode cX9_item 35 = .ok (.aload_n 0, 1) := by decide +kernel
theorem dX9_item_36 : decode cX9_item 36 = .ok (.getfield 176, 3) := by decide +kernel
theorem dX9_item_39 : decode cX9_item 39 = .ok (.invokevirtual 192, 3) := by decide +kernel
theorem dX9_item_42 : decode cX9_item 42 = .ok (.ireturn, 1) := by decide +kernel
theorem dX9_item_43 : decode cX9_item 43 = .ok (.aload_n 0, 1) := by decide +kernel
theorem dX9_item_44 : decode cX9_item 44 = .ok (.invokevirtual 198, 3) := by decide +kernel
theorem dX9_item_47 : decode cX9_item 47 = .ok (.istore_n 1, 1) := by decide +kernel
theorem dX9_item_48 : decode cX9_item 48 = .ok (.iload_n 1, 1) := by decide +kernel
theorem dX9_item_49 : decode cX9_item 49 = .ok (.iconst (-1), 1) := by decide +kernel
theorem dX9_item_50 : decode cX9_item 50 = .ok (.if_icmp .ne 5, 3) := by decide +kernel
theorem dX9_item_53 : decode cX9_item 53 = .ok (.iconst 0, 1) := by decide +kernel
theorem dX9_item_54 : decode cX9_item 54 = .ok (.ireturn, 1) := by decide +kernel
theorem dX9_item_55 : decode cX9_item 55 = .ok (.iconst 0, 1) := by decide +kernel
theorem dX9_item_56 : decode cX9_item 56 = .ok (.istore_n 2, 1) := by decide +kernel
theorem dX9_item_57 : decode cX9_item 57 = .ok (.iload_n 2, 1) := by decide +kernel
theorem dX9_item_58 : decode cX9_item 58 = .ok (.aload_n 0, 1) := by decide +kernel
theorem dX9_item_59 : decode cX9_item 59 = .ok (.getfield 78, 3) := by decide +kernel
theorem dX9_item_62 : decode cX9_item 62 = .ok (.iload_n 1, 1) := by decide +kernel
theorem dX9_item_63 : decode cX9_item 63 = .ok (.iaload, 1) := by decide +kernel
theorem dX9_item_64 : decode cX9_item 64 = .ok (.if_icmp .ge 102, 3) := by decide +kernel
theorem dX9_item_67 : decode cX9_item 67 = .ok (.iload_n 2, 1) := by decide +kernel
theorem dX9_item_68 : decode cX9_item 68 = .ok (.ifCond .le 53, 3) := by decide +kernel
theorem dX9_item_71 : decode cX9_item 71 = .ok (.aload_n 0, 1) := by decide +kernel
theorem dX9_item_72 : decode cX9_item 72 = .ok (.getfield 176, 3) := by decide +kernel
theorem dX9_item_75 : decode cX9_item 75 = .ok (.aload_n 0, 1) := by decide +kernel
theorem dX9_item_76 : decode cX9_item 76 = .ok (.getfield 179, 3) := by decide +kernel
theorem dX9_item_79 : decode cX9_item 79 = .ok (.if_icmp .ge 23, 3) := by decide +kernel
theorem dX9_item_82 : decode cX9_item 82 = .ok (.aload_n 0, 1) := by decide +kernel
theorem dX9_item_83 : decode cX9_item 83 = .ok (.getfield 68, 3) := by decide +kernel
theorem dX9_item_86 : decode cX9_item 86 = .ok (.aload_n 0, 1) := by decide +kernel
theorem dX9_item_87 : decode cX9_item 87 = .ok (.getfield 182, 3) := by decide +kernel
theorem dX9_item_90 : decode cX9_item 90 = .ok (.aload_n 0, 1) := by decide +kernel
theorem dX9_item_91 : decode cX9_item 91 = .ok (.getfield 176, 3) := by decide +kernel
theorem dX9_item_94 : decode cX9_item 94 = .ok (.iadd, 1) := by decide +kernel
theorem dX9_item_95 : decode cX9_item 95 = .ok (.laload, 1) := by decide +kernel
theorem dX9_item_96 : decode cX9_item 96 = .ok (.l2i, 1) := by decide +kernel
theorem dX9_item_97 : decode cX9_item 97 = .ok (.bipush 32, 2) := by decide +kernel
theorem dX9_item_99 : decode cX9_item 99 = .ok (.if_icmp .eq 12, 3) := by decide +kernel
theorem dX9_item_102 : decode cX9_item 102 = .ok (.aload_n 0, 1) := by decide +kernel
theorem dX9_item_103 : decode cX9_item 103 = .ok (.aload_n 0, 1) := by decide +kernel
theorem dX9_item_104 : decode cX9_item 104 = .ok (.getfield 176, 3) := by decide +kernel
theorem dX9_item_107 : decode cX9_item 107 = .ok (.invokevirtual 192, 3) := by decide +kernel
theorem dX9_item_110 : decode cX9_item 110 = .ok (.ireturn, 1) := by decide +kernel
theorem dX9_item_111 : decode cX9_item 111 = .ok (.aload_n 0, 1) := by decide +kernel
theorem dX9_item_112 : decode cX9_item 112 = .ok (.dup, 1) := by decide +kernel
theorem dX9_item_113 : decode cX9_item 113 = .ok (.getfield 176, 3) := by decide +kernel
theorem dX9_item_116 : decode cX9_item 116 = .ok (.iconst 1, 1) := by decide +kernel
theorem dX9_item_117 : decode cX9_item 117 = .ok (.iadd, 1) := by decide +kernel
theorem dX9_item_118 : decode cX9_item 118 = .ok (.putfield 176, 3) := by decide +kernel
theorem dX9_item_121 : decode cX9_item 121 = .ok (.aload_n 0, 1) := by decide +kernel
theorem dX9_item_122 : decode cX9_item 122 = .ok (.getfield 176, 3) := by decide +kernel
theorem dX9_item_125 : decode cX9_item 125 = .ok (.istore_n 3, 1) := by decide +kernel
theorem dX9_item_126 : decode cX9_item 126 = .ok (.aload_n 0, 1) := by decide +kernel
theorem dX9_item_127 : decode cX9_item 127 = .ok (.invokevirtual 201, 3) := by decide +kernel
theorem dX9_item_130 : decode cX9_item 130 = .ok (.ifCond .ne 5, 3) := by decide +kernel
theorem dX9_item_133 : decode cX9_item 133 = .ok (.iconst 0, 1) := by decide +kernel
theorem dX9_item_134 : decode cX9_item 134 = .ok (.ireturn, 1) := by decide +kernel
theorem dX9_item_135 : decode cX9_item 135 = .ok (.aload_n 0, 1) := by decide +kernel
theorem dX9_item_136 : decode cX9_item 136 = .ok (.iload_n 1, 1) := by decide +kernel
theorem dX9_item_137 : decode cX9_item 137 = .ok (.iload_n 2, 1) := by decide +kernel
theorem dX9_item_138 : decode cX9_item 138 = .ok (.invokevirtual 204, 3) := by decide +kernel
theorem dX9_item_141 : decode cX9_item 141 = .ok (.ifCond .ne 9, 3) := by decide +kernel
theorem dX9_item_144 : decode cX9_item 144 = .ok (.aload_n 0, 1) := by decide +kernel
theorem dX9_item_145 : decode cX9_item 145 = .ok (.iload_n 3, 1) := by decide +kernel
theorem dX9_item_146 : decode cX9_item 146 = .ok (.invokevirtual 192, 3) := by decide +kernel
theorem dX9_item_149 : decode cX9_item 149 = .ok (.ireturn, 1) := by decide +kernel
theorem dX9_item_150 : decode cX9_item 150 = .ok (.aload_n 0, 1) := by decide +kernel
theorem dX9_item_151 : decode cX9_item 151 = .ok (.getfield 81, 3) := by decide +kernel
theorem dX9_item_154 : decode cX9_item 154 = .ok (.iload_n 2, 1) := by decide +kernel
theorem dX9_item_155 : decode cX9_item 155 = .ok (.aload_n 0, 1) := by decide +kernel
theorem dX9_item_156 : decode cX9_item 156 = .ok (.getfield 185, 3) := by decide +kernel
theorem dX9_item_159 : decode cX9_item 159 = .ok (.iastore, 1) := by decide +kernel
theorem dX9_item_160 : decode cX9_item 160 = .ok (.iinc 2 1, 3) := by decide +kernel
theorem dX9_item_163 : decode cX9_item 163 = .ok (.goto (-106), 3) := by decide +kernel
theorem dX9_item_166 : decode cX9_item 166 = .ok (.iload_n 1, 1) := by decide +kernel
theorem dX9_item_167 : decode cX9_item 167 = .ok (.tableswitch 115 0 3 #[29, 55, 75, 95], 29) := by decide +kernel
theorem dX9_item_196 : decode cX9_item 196 = .ok (.aload_n 0, 1) := by decide +kernel
theorem dX9_item_197 : decode cX9_item 197 = .ok (.aload_n 0, 1) := by decide +kernel
theorem dX9_item_198 : decode cX9_item 198 = .ok (.getfield 81, 3) := by decide +kernel
theorem dX9_item_201 : decode cX9_item 201 = .ok (.iconst 0, 1) := by decide +kernel
theorem dX9_item_202 : decode cX9_item 202 = .ok (.iaload, 1) := by decide +kernel
theorem dX9_item_203 : decode cX9_item 203 = .ok (.aload_n 0, 1) := by decide +kernel
theorem dX9_item_204 : decode cX9_item 204 = .ok (.getfield 81, 3) := by decide +kernel
theorem dX9_item_207 : decode cX9_item 207 = .ok (.iconst 1, 1) := by decide +kernel
theorem dX9_item_208 : decode cX9_item 208 = .ok (.iaload, 1) := by decide +kernel
theorem dX9_item_209 : decode cX9_item 209 = .ok (.aload_n 0, 1) := by decide +kernel
theorem dX9_item_210 : decode cX9_item 210 = .ok (.getfield 81, 3) := by decide +kernel
theorem dX9_item_213 : decode cX9_item 213 = .ok (.iconst 2, 1) := by decide +kernel
theorem dX9_item_214 : decode cX9_item 214 = .ok (.iaload, 1) := by decide +kernel
theorem dX9_item_215 : decode cX9_item 215 = .ok (.invokevirtual 148, 3) := by decide +kernel
theorem dX9_item_218 : decode cX9_item 218 = .ok (.pop, 1) := by decide +kernel
theorem dX9_item_219 : decode cX9_item 219 = .ok (.goto 76, 3) := by decide +kernel
theorem dX9_item_222 : decode cX9_item 222 = .ok (.aload_n 0, 1) := by decide +kernel
theorem dX9_item_223 : decode cX9_item 223 = .ok (.aload_n 0, 1) := by decide +kernel
theorem dX9_item_224 : decode cX9_item 224 = .ok (.getfield 81, 3) := by decide +kernel
theorem dX9_item_227 : decode cX9_item 227 = .ok (.iconst 0, 1) := by decide +kernel
theorem dX9_item_228 : decode cX9_item 228 = .ok (.iaload, 1) := by decide +kernel
theorem dX9_item_229 : decode cX9_item 229 = .ok (.aload_n 0, 1) := by decide +kernel
theorem dX9_item_230 : decode cX9_item 230 = .ok (.getfield 81, 3) := by decide +kernel
theorem dX9_item_233 : decode cX9_item 233 = .ok (.iconst 1, 1) := by decide +kernel
theorem dX9_item_234 : decode cX9_item 234 = .ok (.iaload, 1) := by decide +kernel
theorem dX9_item_235 : decode cX9_item 235 = .ok (.invokevirtual 152, 3) := by decide +kernel
theorem dX9_item_238 : decode cX9_item 238 = .ok (.pop, 1) := by decide +kernel
theorem dX9_item_239 : decode cX9_item 239 = .ok (.goto 56, 3) := by decide +kernel
theorem dX9_item_242 : decode cX9_item 242 = .ok (.aload_n 0, 1) := by decide +kernel
theorem dX9_item_243 : decode cX9_item 243 = .ok (.getfield 41, 3) := by decide +kernel
theorem dX9_item_246 : decode cX9_item 246 = .ok (.aload_n 0, 1) := by decide +kernel
theorem dX9_item_247 : decode cX9_item 247 = .ok (.getfield 81, 3) := by decide +kernel
theorem dX9_item_250 : decode cX9_item 250 = .ok (.iconst 0, 1) := by decide +kernel
theorem dX9_item_251 : decode cX9_item 251 = .ok (.iaload, 1) := by decide +kernel
theorem dX9_item_252 : decode cX9_item 252 = .ok (.aload_n 0, 1) := by decide +kernel
theorem dX9_item_253 : decode cX9_item 253 = .ok (.getfield 81, 3) := by decide +kernel
theorem dX9_item_256 : decode cX9_item 256 = .ok (.iconst 1, 1) := by decide +kernel
theorem dX9_item_257 : decode cX9_item 257 = .ok (.iaload, 1) := by decide +kernel
theorem dX9_item_258 : decode cX9_item 258 = .ok (.iastore, 1) := by decide +kernel
theorem dX9_item_259 : decode cX9_item 259 = .ok (.goto 36, 3) := by decide +kernel
theorem dX9_item_262 : decode cX9_item 262 = .ok (.aload_n 0, 1) := by decide +kernel
theorem dX9_item_263 : decode cX9_item 263 = .ok (.getfield 44, 3) := by decide +kernel
theorem dX9_item_266 : decode cX9_item 266 = .ok (.aload_n 0, 1) := by decide +kernel
theorem dX9_item_267 : decode cX9_item 267 = .ok (.getfield 81, 3) := by decide +kernel
theorem dX9_item_270 : decode cX9_item 270 = .ok (.iconst 0, 1) := by decide +kernel
theorem dX9_item_271 : decode cX9_item 271 = .ok (.iaload, 1) := by decide +kernel
theorem dX9_item_272 : decode cX9_item 272 = .ok (.aload_n 0, 1) := by decide +kernel
theorem dX9_item_273 : decode cX9_item 273 = .ok (.getfield 81, 3) := by decide +kernel
theorem dX9_item_276 : decode cX9_item 276 = .ok (.iconst 1, 1) := by decide +kernel
theorem dX9_item_277 : decode cX9_item 277 = .ok (.iaload, 1) := by decide +kernel
theorem dX9_item_278 : decode cX9_item 278 = .ok (.iastore, 1) := by decide +kernel
theorem dX9_item_279 : decode cX9_item 279 = .ok (.goto 16, 3) := by decide +kernel
theorem dX9_item_282 : decode cX9_item 282 = .ok (.aload_n 0, 1) := by decide +kernel
theorem dX9_item_283 : decode cX9_item 283 = .ok (.iload_n 1, 1) := by decide +kernel
theorem dX9_item_284 : decode cX9_item 284 = .ok (.iconst 4, 1) := by decide +kernel
theorem dX9_item_285 : decode cX9_item 285 = .ok (.isub, 1) := by decide +kernel
theorem dX9_item_286 : decode cX9_item 286 = .ok (.aload_n 0, 1) := by decide +kernel
theorem dX9_item_287 : decode cX9_item 287 = .ok (.getfield 81, 3) := by decide +kernel
theorem dX9_item_290 : decode cX9_item 290 = .ok (.iconst 0, 1) := by decide +kernel
theorem dX9_item_291 : decode cX9_item 291 = .ok (.iaload, 1) := by decide +kernel
theorem dX9_item_292 : decode cX9_item 292 = .ok (.invokevirtual 166, 3) := by decide +kernel
theorem dX9_item_295 : decode cX9_item 295 = .ok (.iconst 1, 1) := by decide +kernel
theorem dX9_item_296 : decode cX9_item 296 = .ok (.ireturn, 1) := by decide +kernel
theorem dX9_carries_0 : decode cX9_carries 0 = .ok (.iconst 0, 1) := by decide +kernel
theorem dX9_carries_1 : decode cX9_carries 1 = .ok (.istore 5, 2) := by decide +kernel
theorem dX9_carries_3 : decode cX9_carries 3 = .ok (.iload 5, 2) := by decide +kernel
theorem dX9_carries_5 : decode cX9_carries 5 = .ok (.bipush 8, 2) := by decide +kernel
theorem dX9_carries_7 : decode cX9_carries 7 = .ok (.if_icmp .ge 37, 3) := by decide +kernel
theorem dX9_carries_10 : decode cX9_carries 10 = .ok (.iload 4, 2) := by decide +kernel
theorem dX9_carries_12 : decode cX9_carries 12 = .ok (.ifCond .eq 16, 3) := by decide +kernel
theorem dX9_carries_15 : decode cX9_carries 15 = .ok (.aload_n 1, 1) := by decide +kernel
theorem dX9_carries_16 : decode cX9_carries 16 = .ok (.iload 5, 2) := by decide +kernel
theorem dX9_carries_18 : decode cX9_carries 18 = .ok (.aload_n 2, 1) := by decide +kernel
theorem dX9_carries_19 : decode cX9_carries 19 = .ok (.iload_n 3, 1) := by decide +kernel
theorem dX9_carries_20 : decode cX9_carries 20 = .ok (.iload 5, 2) := by decide +kernel
theorem dX9_carries_22 : decode cX9_carries 22 = .ok (.iadd, 1) := by decide +kernel
theorem dX9_carries_23 : decode cX9_carries 23 = .ok (.iaload, 1) := by decide +kernel
theorem dX9_carries_24 : decode cX9_carries 24 = .ok (.iastore, 1) := by decide +kernel
theorem dX9_carries_25 : decode cX9_carries 25 = .ok (.goto 13, 3) := by decide +kernel
theorem dX9_carries_28 : decode cX9_carries 28 = .ok (.aload_n 2, 1) := by decide +kernel
theorem dX9_carries_29 : decode cX9_carries 29 = .ok (.iload_n 3, 1) := by decide +kernel
theorem dX9_carries_30 : decode cX9_carries 30 = .ok (.iload 5, 2) := by decide +kernel
theorem dX9_carries_32 : decode cX9_carries 32 = .ok (.iadd, 1) := by decide +kernel
theorem dX9_carries_33 : decode cX9_carries 33 = .ok (.aload_n 1, 1) := by decide +kernel
theorem dX9_carries_34 : decode cX9_carries 34 = .ok (.iload 5, 2) := by decide +kernel
theorem dX9_carries_36 : decode cX9_carries 36 = .ok (.iaload, 1) := by decide +kernel
theorem dX9_carries_37 : decode cX9_carries 37 = .ok (.iastore, 1) := by decide +kernel
theorem dX9_carries_38 : decode cX9_carries 38 = .ok (.iinc 5 1, 3) := by decide +kernel
theorem dX9_carries_41 : decode cX9_carries 41 = .ok (.goto (-38), 3) := by decide +kernel
theorem dX9_carries_44 : decode cX9_carries 44 = .ok (.iload_n 3, 1) := by decide +kernel
theorem dX9_carries_45 : decode cX9_carries 45 = .ok (.bipush 8, 2) := by decide +kernel
theorem dX9_carries_47 : decode cX9_carries 47 = .ok (.iadd, 1) := by decide +kernel
theorem dX9_carries_48 : decode cX9_carries 48 = .ok (.ireturn, 1) := by decide +kernel
theorem dX9_all_0 : decode cX9_all 0 = .ok (.aload_n 0, 1) := by decide +kernel
theorem dX9_all_1 : decode cX9_all 1 = .ok (.aload_n 0, 1) := by decide +kernel
theorem dX9_all_2 : decode cX9_all 2 = .ok (.getfield 32, 3) := by decide +kernel
theorem dX9_all_5 : decode cX9_all 5 = .ok (.aload_n 1, 1) := by decide +kernel
theorem dX9_all_6 : decode cX9_all 6 = .ok (.iconst 0, 1) := by decide +kernel
theorem dX9_all_7 : decode cX9_all 7 = .ok (.iload_n 2, 1) := by decide +kernel
theorem dX9_all_8 : decode cX9_all 8 = .ok (.invokevirtual 207, 3) := by decide +kernel
theorem dX9_all_11 : decode cX9_all 11 = .ok (.istore_n 3, 1) := by decide +kernel
theorem dX9_all_12 : decode cX9_all 12 = .ok (.aload_n 0, 1) := by decide +kernel
theorem dX9_all_13 : decode cX9_all 13 = .ok (.aload_n 0, 1) := by decide +kernel
theorem dX9_all_14 : decode cX9_all 14 = .ok (.getfield 35, 3) := by decide +kernel
theorem dX9_all_17 : decode cX9_all 17 = .ok (.aload_n 1, 1) := by decide +kernel
theorem dX9_all_18 : decode cX9_all 18 = .ok (.iload_n 3, 1) := by decide +kernel
theorem dX9_all_19 : decode cX9_all 19 = .ok (.iload_n 2, 1) := by decide +kernel
theorem dX9_all_20 : decode cX9_all 20 = .ok (.invokevirtual 207, 3) := by decide +kernel
theorem dX9_all_23 : decode cX9_all 23 = .ok (.istore_n 3, 1) := by decide +kernel
theorem dX9_all_24 : decode cX9_all 24 = .ok (.aload_n 0, 1) := by decide +kernel
theorem dX9_all_25 : decode cX9_all 25 = .ok (.aload_n 0, 1) := by decide +kernel
theorem dX9_all_26 : decode cX9_all 26 = .ok (.getfield 38, 3) := by decide +kernel
theorem dX9_all_29 : decode cX9_all 29 = .ok (.aload_n 1, 1) := by decide +kernel
theorem dX9_all_30 : decode cX9_all 30 = .ok (.iload_n 3, 1) := by decide +kernel
theorem dX9_all_31 : decode cX9_all 31 = .ok (.iload_n 2, 1) := by decide +kernel
theorem dX9_all_32 : decode cX9_all 32 = .ok (.invokevirtual 207, 3) := by decide +kernel
theorem dX9_all_35 : decode cX9_all 35 = .ok (.istore_n 3, 1) := by decide +kernel
theorem dX9_all_36 : decode cX9_all 36 = .ok (.aload_n 0, 1) := by decide +kernel
theorem dX9_all_37 : decode cX9_all 37 = .ok (.aload_n 0, 1) := by decide +kernel
theorem dX9_all_38 : decode cX9_all 38 = .ok (.getfield 41, 3) := by decide +kernel
theorem dX9_all_41 : decode cX9_all 41 = .ok (.aload_n 1, 1) := by decide +kernel
theorem dX9_all_42 : decode cX9_all 42 = .ok (.iload_n 3, 1) := by decide +kernel
theorem dX9_all_43 : decode cX9_all 43 = .ok (.iload_n 2, 1) := by decide +kernel
theorem dX9_all_44 : decode cX9_all 44 = .ok (.invokevirtual 207, 3) := by decide +kernel
theorem dX9_all_47 : decode cX9_all 47 = .ok (.istore_n 3, 1) := by decide +kernel
theorem dX9_all_48 : decode cX9_all 48 = .ok (.aload_n 0, 1) := by decide +kernel
theorem dX9_all_49 : decode cX9_all 49 = .ok (.aload_n 0, 1) := by decide +kernel
theorem dX9_all_50 : decode cX9_all 50 = .ok (.getfield 44, 3) := by decide +kernel
theorem dX9_all_53 : decode cX9_all 53 = .ok (.aload_n 1, 1) := by decide +kernel
theorem dX9_all_54 : decode cX9_all 54 = .ok (.iload_n 3, 1) := by decide +kernel
theorem dX9_all_55 : decode cX9_all 55 = .ok (.iload_n 2, 1) := by decide +kernel
theorem dX9_all_56 : decode cX9_all 56 = .ok (.invokevirtual 207, 3) := by decide +kernel
theorem dX9_all_59 : decode cX9_all 59 = .ok (.istore_n 3, 1) := by decide +kernel
theorem dX9_all_60 : decode cX9_all 60 = .ok (.aload_n 0, 1) := by decide +kernel
theorem dX9_all_61 : decode cX9_all 61 = .ok (.aload_n 0, 1) := by decide +kernel
theorem dX9_all_62 : decode cX9_all 62 = .ok (.getfield 47, 3) := by decide +kernel
theorem dX9_all_65 : decode cX9_all 65 = .ok (.aload_n 1, 1) := by decide +kernel
theorem dX9_all_66 : decode cX9_all 66 = .ok (.iload_n 3, 1) := by decide +kernel
theorem dX9_all_67 : decode cX9_all 67 = .ok (.iload_n 2, 1) := by decide +kernel
theorem dX9_all_68 : decode cX9_all 68 = .ok (.invokevirtual 207, 3) := by decide +kernel
theorem dX9_all_71 : decode cX9_all 71 = .ok (.istore_n 3, 1) := by decide +kernel
theorem dX9_all_72 : decode cX9_all 72 = .ok (.aload_n 0, 1) := by decide +kernel
theorem dX9_all_73 : decode cX9_all 73 = .ok (.aload_n 0, 1) := by decide +kernel
theorem dX9_all_74 : decode cX9_all 74 = .ok (.getfield 50, 3) := by decide +kernel
theorem dX9_all_77 : decode cX9_all 77 = .ok (.aload_n 1, 1) := by decide +kernel
theorem dX9_all_78 : decode cX9_all 78 = .ok (.iload_n 3, 1) := by decide +kernel
theorem dX9_all_79 : decode cX9_all 79 = .ok (.iload_n 2, 1) := by decide +kernel
theorem dX9_all_80 : decode cX9_all 80 = .ok (.invokevirtual 207, 3) := by decide +kernel
theorem dX9_all_83 : decode cX9_all 83 = .ok (.istore_n 3, 1) := by decide +kernel
theorem dX9_all_84 : decode cX9_all 84 = .ok (.aload_n 0, 1) := by decide +kernel
theorem dX9_all_85 : decode cX9_all 85 = .ok (.aload_n 0, 1) := by decide +kernel
theorem dX9_all_86 : decode cX9_all 86 = .ok (.getfield 53, 3) := by decide +kernel
theorem dX9_all_89 : decode cX9_all 89 = .ok (.aload_n 1, 1) := by decide +kernel
theorem dX9_all_90 : decode cX9_all 90 = .ok (.iload_n 3, 1) := by decide +kernel
theorem dX9_all_91 : decode cX9_all 91 = .ok (.iload_n 2, 1) := by decide +kernel
theorem dX9_all_92 : decode cX9_all 92 = .ok (.invokevirtual 207, 3) := by decide +kernel
theorem dX9_all_95 : decode cX9_all 95 = .ok (.istore_n 3, 1) := by decide +kernel
theorem dX9_all_96 : decode cX9_all 96 = .ok (.iconst 0, 1) := by decide +kernel
theorem dX9_all_97 : decode cX9_all 97 = .ok (.istore 4, 2) := by decide +kernel
theorem dX9_all_99 : decode cX9_all 99 = .ok (.iload 4, 2) := by decide +kernel
theorem dX9_all_101 : decode cX9_all 101 = .ok (.iconst 4, 1) := by decide +kernel
theorem dX9_all_102 : decode cX9_all 102 = .ok (.if_icmp .ge 40, 3) := by decide +kernel
theorem dX9_all_105 : decode cX9_all 105 = .ok (.iload_n 2, 1) := by decide +kernel
theorem dX9_all_106 : decode cX9_all 106 = .ok (.ifCond .eq 18, 3) := by decide +kernel
theorem dX9_all_109 : decode cX9_all 109 = .ok (.aload_n 0, 1) := by decide +kernel
theorem dX9_all_110 : decode cX9_all 110 = .ok (.iload 4, 2) := by decide +kernel
theorem dX9_all_112 : decode cX9_all 112 = .ok (.aload_n 1, 1) := by decide +kernel
theorem dX9_all_113 : decode cX9_all 113 = .ok (.iload_n 3, 1) := by decide +kernel
theorem dX9_all_114 : decode cX9_all 114 = .ok (.iload 4, 2) := by decide +kernel
theorem dX9_all_116 : decode cX9_all 116 = .ok (.iadd, 1) := by decide +kernel
theorem dX9_all_117 : decode cX9_all 117 = .ok (.iaload, 1) := by decide +kernel
theorem dX9_all_118 : decode cX9_all 118 = .ok (.invokevirtual 166, 3) := by decide +kernel
theorem dX9_all_121 : decode cX9_all 121 = .ok (.goto 15, 3) := by decide +kernel
theorem dX9_all_124 : decode cX9_all 124 = .ok (.aload_n 1, 1) := by decide +kernel
theorem dX9_all_125 : decode cX9_all 125 = .ok (.iload_n 3, 1) := by decide +kernel
theorem dX9_all_126 : decode cX9_all 126 = .ok (.iload 4, 2) := by decide +kernel
theorem dX9_all_128 : decode cX9_all 128 = .ok (.iadd, 1) := by decide +kernel
theorem dX9_all_129 : decode cX9_all 129 = .ok (.aload_n 0, 1) := by decide +kernel
theorem dX9_all_130 : decode cX9_all 130 = .ok (.iload 4, 2) := by decide +kernel
theorem dX9_all_132 : decode cX9_all 132 = .ok (.invokevirtual 163, 3) := by decide +kernel
theorem dX9_all_135 : decode cX9_all 135 = .ok (.iastore, 1) := by decide +kernel
theorem dX9_all_136 : decode cX9_all 136 = .ok (.iinc 4 1, 3) := by decide +kernel
theorem dX9_all_139 : decode cX9_all 139 = .ok (.goto (-40), 3) := by decide +kernel
theorem dX9_all_142 : decode cX9_all 142 = .ok (.iinc 3 4, 3) := by decide +kernel
theorem dX9_all_145 : decode cX9_all 145 = .ok (.iload_n 2, 1) := by decide +kernel
theorem dX9_all_146 : decode cX9_all 146 = .ok (.ifCond .eq 49, 3) := by decide +kernel
theorem dX9_all_149 : decode cX9_all 149 = .ok (.aload_n 0, 1) := by decide +kernel
theorem dX9_all_150 : decode cX9_all 150 = .ok (.aload_n 1, 1) := by decide +kernel
theorem dX9_all_151 : decode cX9_all 151 = .ok (.iload_n 3, 1) := by decide +kernel
theorem dX9_all_152 : decode cX9_all 152 = .ok (.iaload, 1) := by decide +kernel
theorem dX9_all_153 : decode cX9_all 153 = .ok (.putfield 117, 3) := by decide +kernel
theorem dX9_all_156 : decode cX9_all 156 = .ok (.aload_n 0, 1) := by decide +kernel
theorem dX9_all_157 : decode cX9_all 157 = .ok (.aload_n 1, 1) := by decide +kernel
theorem dX9_all_158 : decode cX9_all 158 = .ok (.iload_n 3, 1) := by decide +kernel
theorem dX9_all_159 : decode cX9_all 159 = .ok (.iconst 1, 1) := by decide +kernel
theorem dX9_all_160 : decode cX9_all 160 = .ok (.iadd, 1) := by decide +kernel
theorem dX9_all_161 : decode cX9_all 161 = .ok (.iaload, 1) := by decide +kernel
theorem dX9_all_162 : decode cX9_all 162 = .ok (.putfield 120, 3) := by decide +kernel
theorem dX9_all_165 : decode cX9_all 165 = .ok (.aload_n 0, 1) := by decide +kernel
theorem dX9_all_166 : decode cX9_all 166 = .ok (.aload_n 1, 1) := by decide +kernel
theorem dX9_all_167 : decode cX9_all 167 = .ok (.iload_n 3, 1) := by decide +kernel
theorem dX9_all_168 : decode cX9_all 168 = .ok (.iconst 2, 1) := by decide +kernel
theorem dX9_all_169 : decode cX9_all 169 = .ok (.iadd, 1) := by decide +kernel
theorem dX9_all_170 : decode cX9_all 170 = .ok (.iaload, 1) := by decide +kernel
theorem dX9_all_171 : decode cX9_all 171 = .ok (.putfield 170, 3) := by decide +kernel
theorem dX9_all_174 : decode cX9_all 174 = .ok (.aload_n 0, 1) := by decide +kernel
theorem dX9_all_175 : decode cX9_all 175 = .ok (.aload_n 1, 1) := by decide +kernel
theorem dX9_all_176 : decode cX9_all 176 = .ok (.iload_n 3, 1) := by decide +kernel
theorem dX9_all_177 : decode cX9_all 177 = .ok (.iconst 3, 1) := by decide +kernel
theorem dX9_all_178 : decode cX9_all 178 = .ok (.iadd, 1) := by decide +kernel
theorem dX9_all_179 : decode cX9_all 179 = .ok (.iaload, 1) := by decide +kernel
theorem dX9_all_180 : decode cX9_all 180 = .ok (.putfield 211, 3) := by decide +kernel
theorem dX9_all_183 : decode cX9_all 183 = .ok (.aload_n 0, 1) := by decide +kernel
theorem dX9_all_184 : decode cX9_all 184 = .ok (.aload_n 1, 1) := by decide +kernel
theorem dX9_all_185 : decode cX9_all 185 = .ok (.iload_n 3, 1) := by decide +kernel
theorem dX9_all_186 : decode cX9_all 186 = .ok (.iconst 4, 1) := by decide +kernel
theorem dX9_all_187 : decode cX9_all 187 = .ok (.iadd, 1) := by decide +kernel
theorem dX9_all_188 : decode cX9_all 188 = .ok (.iaload, 1) := by decide +kernel
theorem dX9_all_189 : decode cX9_all 189 = .ok (.putfield 22, 3) := by decide +kernel
theorem dX9_all_192 : decode cX9_all 192 = .ok (.goto 46, 3) := by decide +kernel
theorem dX9_all_195 : decode cX9_all 195 = .ok (.aload_n 1, 1) := by decide +kernel
theorem dX9_all_196 : decode cX9_all 196 = .ok (.iload_n 3, 1) := by decide +kernel
theorem dX9_all_197 : decode cX9_all 197 = .ok (.aload_n 0, 1) := by decide +kernel
theorem dX9_all_198 : decode cX9_all 198 = .ok (.getfield 117, 3) := by decide +kernel
theorem dX9_all_201 : decode cX9_all 201 = .ok (.iastore, 1) := by decide +kernel
theorem dX9_all_202 : decode cX9_all 202 = .ok (.aload_n 1, 1) := by decide +kernel
theorem dX9_all_203 : decode cX9_all 203 = .ok (.iload_n 3, 1) := by decide +kernel
theorem dX9_all_204 : decode cX9_all 204 = .ok (.iconst 1, 1) := by decide +kernel
theorem dX9_all_205 : decode cX9_all 205 = .ok (.iadd, 1) := by decide +kernel
theorem dX9_all_206 : decode cX9_all 206 = .ok (.aload_n 0, 1) := by decide +kernel
theorem dX9_all_207 : decode cX9_all 207 = .ok (.getfield 120, 3) := by decide +kernel
theorem dX9_all_210 : decode cX9_all 210 = .ok (.iastore, 1) := by decide +kernel
theorem dX9_all_211 : decode cX9_all 211 = .ok (.aload_n 1, 1) := by decide +kernel
theorem dX9_all_212 : decode cX9_all 212 = .ok (.iload_n 3, 1) := by decide +kernel
theorem dX9_all_213 : decode cX9_all 213 = .ok (.iconst 2, 1) := by decide +kernel
theorem dX9_all_214 : decode cX9_all 214 = .ok (.iadd, 1) := by decide +kernel
theorem dX9_all_215 : decode cX9_all 215 = .ok (.aload_n 0, 1) := by decide +kernel
theorem dX9_all_216 : decode cX9_all 216 = .ok (.getfield 170, 3) := by decide +kernel
theorem dX9_all_219 : decode cX9_all 219 = .ok (.iastore, 1) := by decide +kernel
theorem dX9_all_220 : decode cX9_all 220 = .ok (.aload_n 1, 1) := by decide +kernel
theorem dX9_all_221 : decode cX9_all 221 = .ok (.iload_n 3, 1) := by decide +kernel
theorem dX9_all_222 : decode cX9_all 222 = .ok (.iconst 3, 1) := by decide +kernel
theorem dX9_all_223 : decode cX9_all 223 = .ok (.iadd, 1) := by decide +kernel
theorem dX9_all_224 : decode cX9_all 224 = .ok (.aload_n 0, 1) := by decide +kernel
theorem dX9_all_225 : decode cX9_all 225 = .ok (.getfield 211, 3) := by decide +kernel
theorem dX9_all_228 : decode cX9_all 228 = .ok (.iastore, 1) := by decide +kernel
theorem dX9_all_229 : decode cX9_all 229 = .ok (.aload_n 1, 1) := by decide +kernel
theorem dX9_all_230 : decode cX9_all 230 = .ok (.iload_n 3, 1) := by decide +kernel
theorem dX9_all_231 : decode cX9_all 231 = .ok (.iconst 4, 1) := by decide +kernel
theorem dX9_all_232 : decode cX9_all 232 = .ok (.iadd, 1) := by decide +kernel
theorem dX9_all_233 : decode cX9_all 233 = .ok (.aload_n 0, 1) := by decide +kernel
theorem dX9_all_234 : decode cX9_all 234 = .ok (.getfield 22, 3) := by decide +kernel
theorem dX9_all_237 : decode cX9_all 237 = .ok (.iastore, 1) := by decide +kernel
theorem dX9_all_238 : decode cX9_all 238 = .ok (.return_, 1) := by decide +kernel
theorem dX9_field_0 : decode cX9_field 0 = .ok (.aload_n 0, 1) := by decide +kernel
theorem dX9_field_1 : decode cX9_field 1 = .ok (.iload_n 1, 1) := by decide +kernel
theorem dX9_field_2 : decode cX9_field 2 = .ok (.invokevirtual 214, 3) := by decide +kernel
theorem dX9_field_5 : decode cX9_field 5 = .ok (.istore_n 2, 1) := by decide +kernel
theorem dX9_field_6 : decode cX9_field 6 = .ok (.iload_n 2, 1) := by decide +kernel
theorem dX9_field_7 : decode cX9_field 7 = .ok (.ifCond .eq 9, 3) := by decide +kernel
theorem dX9_field_10 : decode cX9_field 10 = .ok (.aload_n 0, 1) := by decide +kernel
theorem dX9_field_11 : decode cX9_field 11 = .ok (.iload_n 2, 1) := by decide +kernel
theorem dX9_field_12 : decode cX9_field 12 = .ok (.invokevirtual 127, 3) := by decide +kernel
theorem dX9_field_15 : decode cX9_field 15 = .ok (.ireturn, 1) := by decide +kernel
theorem dX9_field_16 : decode cX9_field 16 = .ok (.aload_n 0, 1) := by decide +kernel
theorem dX9_field_17 : decode cX9_field 17 = .ok (.aload_n 0, 1) := by decide +kernel
theorem dX9_field_18 : decode cX9_field 18 = .ok (.getfield 84, 3) := by decide +kernel
theorem dX9_field_21 : decode cX9_field 21 = .ok (.iconst 0, 1) := by decide +kernel
theorem dX9_field_22 : decode cX9_field 22 = .ok (.invokevirtual 217, 3) := by decide +kernel
theorem dX9_field_25 : decode cX9_field 25 = .ok (.aload_n 0, 1) := by decide +kernel
theorem dX9_field_26 : decode cX9_field 26 = .ok (.sipush 160, 3) := by decide +kernel
theorem dX9_field_29 : decode cX9_field 29 = .ok (.iload_n 1, 1) := by decide +kernel
theorem dX9_field_30 : decode cX9_field 30 = .ok (.imul, 1) := by decide +kernel
theorem dX9_field_31 : decode cX9_field 31 = .ok (.putfield 182, 3) := by decide +kernel
theorem dX9_field_34 : decode cX9_field 34 = .ok (.aload_n 0, 1) := by decide +kernel
theorem dX9_field_35 : decode cX9_field 35 = .ok (.iconst 0, 1) := by decide +kernel
theorem dX9_field_36 : decode cX9_field 36 = .ok (.putfield 176, 3) := by decide +kernel
theorem dX9_field_39 : decode cX9_field 39 = .ok (.aload_n 0, 1) := by decide +kernel
theorem dX9_field_40 : decode cX9_field 40 = .ok (.aload_n 0, 1) := by decide +kernel
theorem dX9_field_41 : decode cX9_field 41 = .ok (.getfield 62, 3) := by decide +kernel
theorem dX9_field_44 : decode cX9_field 44 = .ok (.iload_n 1, 1) := by decide +kernel
theorem dX9_field_45 : decode cX9_field 45 = .ok (.iaload, 1) := by decide +kernel
theorem dX9_field_46 : decode cX9_field 46 = .ok (.putfield 179, 3) := by decide +kernel
theorem dX9_field_49 : decode cX9_field 49 = .ok (.aload_n 0, 1) := by decide +kernel
theorem dX9_field_50 : decode cX9_field 50 = .ok (.iconst (-1), 1) := by decide +kernel
theorem dX9_field_51 : decode cX9_field 51 = .ok (.putfield 25, 3) := by decide +kernel
theorem dX9_field_54 : decode cX9_field 54 = .ok (.iconst 1, 1) := by decide +kernel
theorem dX9_field_55 : decode cX9_field 55 = .ok (.istore_n 3, 1) := by decide +kernel
theorem dX9_field_56 : decode cX9_field 56 = .ok (.aload_n 0, 1) := by decide +kernel
theorem dX9_field_57 : decode cX9_field 57 = .ok (.invokevirtual 221, 3) := by decide +kernel
theorem dX9_field_60 : decode cX9_field 60 = .ok (.istore 4, 2) := by decide +kernel
theorem dX9_field_62 : decode cX9_field 62 = .ok (.iload 4, 2) := by decide +kernel
theorem dX9_field_64 : decode cX9_field 64 = .ok (.ifCond .eq 69, 3) := by decide +kernel
theorem dX9_field_67 : decode cX9_field 67 = .ok (.aload_n 0, 1) := by decide +kernel
theorem dX9_field_68 : decode cX9_field 68 = .ok (.getfield 176, 3) := by decide +kernel
theorem dX9_field_71 : decode cX9_field 71 = .ok (.aload_n 0, 1) := by decide +kernel
theorem dX9_field_72 : decode cX9_field 72 = .ok (.getfield 179, 3) := by decide +kernel
theorem dX9_field_75 : decode cX9_field 75 = .ok (.if_icmp .ge 58, 3) := by decide +kernel
theorem dX9_field_78 : decode cX9_field 78 = .ok (.aload_n 0, 1) := by decide +kernel
theorem dX9_field_79 : decode cX9_field 79 = .ok (.getfield 68, 3) := by decide +kernel
theorem dX9_field_82 : decode cX9_field 82 = .ok (.aload_n 0, 1) := by decide +kernel
theorem dX9_field_83 : decode cX9_field 83 = .ok (.getfield 182, 3) := by decide +kernel
theorem dX9_field_86 : decode cX9_field 86 = .ok (.aload_n 0, 1) := by decide +kernel
theorem dX9_field_87 : decode cX9_field 87 = .ok (.getfield 176, 3) := by decide +kernel
theorem dX9_field_90 : decode cX9_field 90 = .ok (.iadd, 1) := by decide +kernel
theorem dX9_field_91 : decode cX9_field 91 = .ok (.laload, 1) := by decide +kernel
theorem dX9_field_92 : decode cX9_field 92 = .ok (.l2i, 1) := by decide +kernel
theorem dX9_field_93 : decode cX9_field 93 = .ok (.bipush 59, 2) := by decide +kernel
theorem dX9_field_95 : decode cX9_field 95 = .ok (.if_icmp .eq 16, 3) := by decide +kernel
theorem dX9_field_98 : decode cX9_field 98 = .ok (.aload_n 0, 1) := by decide +kernel
theorem dX9_field_99 : decode cX9_field 99 = .ok (.aload_n 0, 1) := by decide +kernel
theorem dX9_field_100 : decode cX9_field 100 = .ok (.getfield 176, 3) := by decide +kernel
theorem dX9_field_103 : decode cX9_field 103 = .ok (.invokevirtual 192, 3) := by decide +kernel
theorem dX9_field_106 : decode cX9_field 106 = .ok (.istore 4, 2) := by decide +kernel
theorem dX9_field_108 : decode cX9_field 108 = .ok (.goto (-46), 3) := by decide +kernel
theorem dX9_field_111 : decode cX9_field 111 = .ok (.aload_n 0, 1) := by decide +kernel
theorem dX9_field_112 : decode cX9_field 112 = .ok (.dup, 1) := by decide +kernel
theorem dX9_field_113 : decode cX9_field 113 = .ok (.getfield 176, 3) := by decide +kernel
theorem dX9_field_116 : decode cX9_field 116 = .ok (.iconst 1, 1) := by decide +kernel
theorem dX9_field_117 : decode cX9_field 117 = .ok (.iadd, 1) := by decide +kernel
theorem dX9_field_118 : decode cX9_field 118 = .ok (.putfield 176, 3) := by decide +kernel
theorem dX9_field_121 : decode cX9_field 121 = .ok (.iinc 3 1, 3) := by decide +kernel
theorem dX9_field_124 : decode cX9_field 124 = .ok (.aload_n 0, 1) := by decide +kernel
theorem dX9_field_125 : decode cX9_field 125 = .ok (.invokevirtual 221, 3) := by decide +kernel
theorem dX9_field_128 : decode cX9_field 128 = .ok (.istore 4, 2) := by decide +kernel
theorem dX9_field_130 : decode cX9_field 130 = .ok (.goto (-68), 3) := by decide +kernel
theorem dX9_field_133 : decode cX9_field 133 = .ok (.iload 4, 2) := by decide +kernel
theorem dX9_field_135 : decode cX9_field 135 = .ok (.ifCond .eq 5, 3) := by decide +kernel
theorem dX9_field_138 : decode cX9_field 138 = .ok (.iload_n 3, 1) := by decide +kernel
theorem dX9_field_139 : decode cX9_field 139 = .ok (.ireturn, 1) := by decide +kernel
theorem dX9_field_140 : decode cX9_field 140 = .ok (.aload_n 0, 1) := by decide +kernel
theorem dX9_field_141 : decode cX9_field 141 = .ok (.aload_n 0, 1) := by decide +kernel
theorem dX9_field_142 : decode cX9_field 142 = .ok (.getfield 84, 3) := by decide +kernel
theorem dX9_field_145 : decode cX9_field 145 = .ok (.iconst 1, 1) := by decide +kernel
theorem dX9_field_146 : decode cX9_field 146 = .ok (.invokevirtual 217, 3) := by decide +kernel
theorem dX9_field_149 : decode cX9_field 149 = .ok (.aload_n 0, 1) := by decide +kernel
theorem dX9_field_150 : decode cX9_field 150 = .ok (.aload_n 0, 1) := by decide +kernel
theorem dX9_field_151 : decode cX9_field 151 = .ok (.getfield 173, 3) := by decide +kernel
theorem dX9_field_154 : decode cX9_field 154 = .ok (.putfield 25, 3) := by decide +kernel
theorem dX9_field_157 : decode cX9_field 157 = .ok (.aload_n 0, 1) := by decide +kernel
theorem dX9_field_158 : decode cX9_field 158 = .ok (.bipush (-6), 2) := by decide +kernel
theorem dX9_field_160 : decode cX9_field 160 = .ok (.invokevirtual 127, 3) := by decide +kernel
theorem dX9_field_163 : decode cX9_field 163 = .ok (.ireturn, 1) := by decide +kernel
theorem dX9_fault_0 : decode cX9_fault 0 = .ok (.aload_n 0, 1) := by decide +kernel
theorem dX9_fault_1 : decode cX9_fault 1 = .ok (.getfield 25, 3) := by decide +kernel
theorem dX9_fault_4 : decode cX9_fault 4 = .ok (.ireturn, 1) := by decide +kernel
theorem dX9_puts_0 : decode cX9_puts 0 = .ok (.aload_n 0, 1) := by decide +kernel
theorem dX9_puts_1 : decode cX9_puts 1 = .ok (.aload_n 0, 1) := by decide +kernel
theorem dX9_puts_2 : decode cX9_puts 2 = .ok (.getfield 32, 3) := by decide +kernel
theorem dX9_puts_5 : decode cX9_puts 5 = .ok (.iload_n 1, 1) := by decide +kernel
theorem dX9_puts_6 : decode cX9_puts 6 = .ok (.iaload, 1) := by decide +kernel
theorem dX9_puts_7 : decode cX9_puts 7 = .ok (.putfield 224, 3) := by decide +kernel
theorem dX9_puts_10 : decode cX9_puts 10 = .ok (.aload_n 0, 1) := by decide +kernel
theorem dX9_puts_11 : decode cX9_puts 11 = .ok (.aload_n 0, 1) := by decide +kernel
theorem dX9_puts_12 : decode cX9_puts 12 = .ok (.getfield 35, 3) := by decide +kernel
theorem dX9_puts_15 : decode cX9_puts 15 = .ok (.iload_n 1, 1) := by decide +kernel
theorem dX9_puts_16 : decode cX9_puts 16 = .ok (.iaload, 1) := by decide +kernel
theorem dX9_puts_17 : decode cX9_puts 17 = .ok (.putfield 227, 3) := by decide +kernel
theorem dX9_puts_20 : decode cX9_puts 20 = .ok (.aload_n 0, 1) := by decide +kernel
theorem dX9_puts_21 : decode cX9_puts 21 = .ok (.aload_n 0, 1) := by decide +kernel
theorem dX9_puts_22 : decode cX9_puts 22 = .ok (.getfield 38, 3) := by decide +kernel
theorem dX9_puts_25 : decode cX9_puts 25 = .ok (.iload_n 1, 1) := by decide +kernel
theorem dX9_puts_26 : decode cX9_puts 26 = .ok (.iaload, 1) := by decide +kernel
theorem dX9_puts_27 : decode cX9_puts 27 = .ok (.putfield 230, 3) := by decide +kernel
theorem dX9_puts_30 : decode cX9_puts 30 = .ok (.aload_n 0, 1) := by decide +kernel
theorem dX9_puts_31 : decode cX9_puts 31 = .ok (.aload_n 0, 1) := by decide +kernel
theorem dX9_puts_32 : decode cX9_puts 32 = .ok (.getfield 44, 3) := by decide +kernel
theorem dX9_puts_35 : decode cX9_puts 35 = .ok (.iload_n 1, 1) := by decide +kernel
theorem dX9_puts_36 : decode cX9_puts 36 = .ok (.iaload, 1) := by decide +kernel
theorem dX9_puts_37 : decode cX9_puts 37 = .ok (.putfield 233, 3) := by decide +kernel
theorem dX9_puts_40 : decode cX9_puts 40 = .ok (.aload_n 0, 1) := by decide +kernel
theorem dX9_puts_41 : decode cX9_puts 41 = .ok (.aload_n 0, 1) := by decide +kernel
theorem dX9_puts_42 : decode cX9_puts 42 = .ok (.getfield 170, 3) := by decide +kernel
theorem dX9_puts_45 : decode cX9_puts 45 = .ok (.putfield 236, 3) := by decide +kernel
theorem dX9_puts_48 : decode cX9_puts 48 = .ok (.aload_n 0, 1) := by decide +kernel
theorem dX9_puts_49 : decode cX9_puts 49 = .ok (.aload_n 0, 1) := by decide +kernel
theorem dX9_puts_50 : decode cX9_puts 50 = .ok (.getfield 41, 3) := by decide +kernel
theorem dX9_puts_53 : decode cX9_puts 53 = .ok (.iload_n 1, 1) := by decide +kernel
theorem dX9_puts_54 : decode cX9_puts 54 = .ok (.iaload, 1) := by decide +kernel
theorem dX9_puts_55 : decode cX9_puts 55 = .ok (.invokevirtual 239, 3) := by decide +kernel
theorem dX9_puts_58 : decode cX9_puts 58 = .ok (.return_, 1) := by decide +kernel
theorem dX9_putsIn_0 : decode cX9_putsIn 0 = .ok (.aload_n 0, 1) := by decide +kernel
theorem dX9_putsIn_1 : decode cX9_putsIn 1 = .ok (.aload_n 0, 1) := by decide +kernel
theorem dX9_putsIn_2 : decode cX9_putsIn 2 = .ok (.getfield 120, 3) := by decide +kernel
theorem dX9_putsIn_5 : decode cX9_putsIn 5 = .ok (.ifCond .ne 7, 3) := by decide +kernel
theorem dX9_putsIn_8 : decode cX9_putsIn 8 = .ok (.iconst 0, 1) := by decide +kernel
theorem dX9_putsIn_9 : decode cX9_putsIn 9 = .ok (.goto 18, 3) := by decide +kernel
theorem dX9_putsIn_12 : decode cX9_putsIn 12 = .ok (.aload_n 0, 1) := by decide +kernel
theorem dX9_putsIn_13 : decode cX9_putsIn 13 = .ok (.aload_n 0, 1) := by decide +kernel
theorem dX9_putsIn_14 : decode cX9_putsIn 14 = .ok (.getfield 50, 3) := by decide +kernel
theorem dX9_putsIn_17 : decode cX9_putsIn 17 = .ok (.iload_n 1, 1) := by decide +kernel
theorem dX9_putsIn_18 : decode cX9_putsIn 18 = .ok (.iaload, 1) := by decide +kernel
theorem dX9_putsIn_19 : decode cX9_putsIn 19 = .ok (.aload_n 0, 1) := by decide +kernel
theorem dX9_putsIn_20 : decode cX9_putsIn 20 = .ok (.getfield 230, 3) := by decide +kernel
theorem dX9_putsIn_23 : decode cX9_putsIn 23 = .ok (.isub, 1) := by decide +kernel
theorem dX9_putsIn_24 : decode cX9_putsIn 24 = .ok (.invokevirtual 242, 3) := by decide +kernel
theorem dX9_putsIn_27 : decode cX9_putsIn 27 = .ok (.putfield 245, 3) := by decide +kernel
theorem dX9_putsIn_30 : decode cX9_putsIn 30 = .ok (.aload_n 0, 1) := by decide +kernel
theorem dX9_putsIn_31 : decode cX9_putsIn 31 = .ok (.aload_n 0, 1) := by decide +kernel
theorem dX9_putsIn_32 : decode cX9_putsIn 32 = .ok (.getfield 120, 3) := by decide +kernel
theorem dX9_putsIn_35 : decode cX9_putsIn 35 = .ok (.ifCond .ne 7, 3) := by decide +kernel
theorem dX9_putsIn_38 : decode cX9_putsIn 38 = .ok (.iconst 0, 1) := by decide +kernel
theorem dX9_putsIn_39 : decode cX9_putsIn 39 = .ok (.goto 9, 3) := by decide +kernel
theorem dX9_putsIn_42 : decode cX9_putsIn 42 = .ok (.aload_n 0, 1) := by decide +kernel
theorem dX9_putsIn_43 : decode cX9_putsIn 43 = .ok (.getfield 53, 3) := by decide +kernel
theorem dX9_putsIn_46 : decode cX9_putsIn 46 = .ok (.iload_n 1, 1) := by decide +kernel
theorem dX9_putsIn_47 : decode cX9_putsIn 47 = .ok (.iaload, 1) := by decide +kernel
theorem dX9_putsIn_48 : decode cX9_putsIn 48 = .ok (.putfield 248, 3) := by decide +kernel
theorem dX9_putsIn_51 : decode cX9_putsIn 51 = .ok (.return_, 1) := by decide +kernel
theorem dX9_one_0 : decode cX9_one 0 = .ok (.iload_n 1, 1) := by decide +kernel
theorem dX9_one_1 : decode cX9_one 1 = .ok (.iconst 1, 1) := by decide +kernel
theorem dX9_one_2 : decode cX9_one 2 = .ok (.if_icmp .ge 7, 3) := by decide +kernel
theorem dX9_one_5 : decode cX9_one 5 = .ok (.iconst 1, 1) := by decide +kernel
theorem dX9_one_6 : decode cX9_one 6 = .ok (.goto 4, 3) := by decide +kernel
theorem dX9_one_9 : decode cX9_one 9 = .ok (.iload_n 1, 1) := by decide +kernel
theorem dX9_one_10 : decode cX9_one 10 = .ok (.ireturn, 1) := by decide +kernel
theorem dX9_stride_0 : decode cX9_stride 0 = .ok (.aload_n 0, 1) := by decide +kernel
theorem dX9_stride_1 : decode cX9_stride 1 = .ok (.getfield 224, 3) := by decide +kernel
theorem dX9_stride_4 : decode cX9_stride 4 = .ok (.tableswitch 107 1 6 #[40, 51, 58, 67, 83, 93], 40) := by decide +kernel
theorem dX9_stride_44 : decode cX9_stride 44 = .ok (.aload_n 0, 1) := by decide +kernel
theorem dX9_stride_45 : decode cX9_stride 45 = .ok (.aload_n 0, 1) := by decide +kernel
theorem dX9_stride_46 : decode cX9_stride 46 = .ok (.getfield 230, 3) := by decide +kernel
theorem dX9_stride_49 : decode cX9_stride 49 = .ok (.iconst 1, 1) := by decide +kernel
theorem dX9_stride_50 : decode cX9_stride 50 = .ok (.isub, 1) := by decide +kernel
theorem dX9_stride_51 : decode cX9_stride 51 = .ok (.invokevirtual 251, 3) := by decide +kernel
theorem dX9_stride_54 : decode cX9_stride 54 = .ok (.ireturn, 1) := by decide +kernel
theorem dX9_stride_55 : decode cX9_stride 55 = .ok (.aload_n 0, 1) := by decide +kernel
theorem dX9_stride_56 : decode cX9_stride 56 = .ok (.getfield 230, 3) := by decide +kernel
theorem dX9_stride_59 : decode cX9_stride 59 = .ok (.iconst 2, 1) := by decide +kernel
theorem dX9_stride_60 : decode cX9_stride 60 = .ok (.iadd, 1) := by decide +kernel
theorem dX9_stride_61 : decode cX9_stride 61 = .ok (.ireturn, 1) := by decide +kernel
theorem dX9_stride_62 : decode cX9_stride 62 = .ok (.aload_n 0, 1) := by decide +kernel
theorem dX9_stride_63 : decode cX9_stride 63 = .ok (.getfield 230, 3) := by decide +kernel
theorem dX9_stride_66 : decode cX9_stride 66 = .ok (.iconst 1, 1) := by decide +kernel
theorem dX9_stride_67 : decode cX9_stride 67 = .ok (.iadd, 1) := by decide +kernel
theorem dX9_stride_68 : decode cX9_stride 68 = .ok (.iconst 2, 1) := by decide +kernel
theorem dX9_stride_69 : decode cX9_stride 69 = .ok (.idiv, 1) := by decide +kernel
theorem dX9_stride_70 : decode cX9_stride 70 = .ok (.ireturn, 1) := by decide +kernel
theorem dX9_stride_71 : decode cX9_stride 71 = .ok (.aload_n 0, 1) := by decide +kernel
theorem dX9_stride_72 : decode cX9_stride 72 = .ok (.aload_n 0, 1) := by decide +kernel
theorem dX9_stride_73 : decode cX9_stride 73 = .ok (.getfield 230, 3) := by decide +kernel
theorem dX9_stride_76 : decode cX9_stride 76 = .ok (.iconst 1, 1) := by decide +kernel
theorem dX9_stride_77 : decode cX9_stride 77 = .ok (.iadd, 1) := by decide +kernel
theorem dX9_stride_78 : decode cX9_stride 78 = .ok (.aload_n 0, 1) := by decide +kernel
theorem dX9_stride_79 : decode cX9_stride 79 = .ok (.getfield 245, 3) := by decide +kernel
theorem dX9_stride_82 : decode cX9_stride 82 = .ok (.isub, 1) := by decide +kernel
theorem dX9_stride_83 : decode cX9_stride 83 = .ok (.invokevirtual 251, 3) := by decide +kernel
theorem dX9_stride_86 : decode cX9_stride 86 = .ok (.ireturn, 1) := by decide +kernel
theorem dX9_stride_87 : decode cX9_stride 87 = .ok (.aload_n 0, 1) := by decide +kernel
theorem dX9_stride_88 : decode cX9_stride 88 = .ok (.getfield 230, 3) := by decide +kernel
theorem dX9_stride_91 : decode cX9_stride 91 = .ok (.aload_n 0, 1) := by decide +kernel
theorem dX9_stride_92 : decode cX9_stride 92 = .ok (.getfield 227, 3) := by decide +kernel
theorem dX9_stride_95 : decode cX9_stride 95 = .ok (.iadd, 1) := by decide +kernel
theorem dX9_stride_96 : decode cX9_stride 96 = .ok (.ireturn, 1) := by decide +kernel
theorem dX9_stride_97 : decode cX9_stride 97 = .ok (.aload_n 0, 1) := by decide +kernel
theorem dX9_stride_98 : decode cX9_stride 98 = .ok (.aload_n 0, 1) := by decide +kernel
theorem dX9_stride_99 : decode cX9_stride 99 = .ok (.getfield 230, 3) := by decide +kernel
theorem dX9_stride_102 : decode cX9_stride 102 = .ok (.aload_n 0, 1) := by decide +kernel
theorem dX9_stride_103 : decode cX9_stride 103 = .ok (.getfield 245, 3) := by decide +kernel
theorem dX9_stride_106 : decode cX9_stride 106 = .ok (.isub, 1) := by decide +kernel
theorem dX9_stride_107 : decode cX9_stride 107 = .ok (.invokevirtual 251, 3) := by decide +kernel
theorem dX9_stride_110 : decode cX9_stride 110 = .ok (.ireturn, 1) := by decide +kernel
theorem dX9_stride_111 : decode cX9_stride 111 = .ok (.aload_n 0, 1) := by decide +kernel
theorem dX9_stride_112 : decode cX9_stride 112 = .ok (.getfield 230, 3) := by decide +kernel
theorem dX9_stride_115 : decode cX9_stride 115 = .ok (.ireturn, 1) := by decide +kernel
theorem dX9_puff_0 : decode cX9_puff 0 = .ok (.aload_n 0, 1) := by decide +kernel
theorem dX9_puff_1 : decode cX9_puff 1 = .ok (.getfield 224, 3) := by decide +kernel
theorem dX9_puff_4 : decode cX9_puff 4 = .ok (.tableswitch 46 1 5 #[36, 38, 40, 42, 44], 36) := by decide +kernel
theorem dX9_puff_40 : decode cX9_puff 40 = .ok (.iconst 1, 1) := by decide +kernel
theorem dX9_puff_41 : decode cX9_puff 41 = .ok (.ireturn, 1) := by decide +kernel
theorem dX9_puff_42 : decode cX9_puff 42 = .ok (.iconst 4, 1) := by decide +kernel
theorem dX9_puff_43 : decode cX9_puff 43 = .ok (.ireturn, 1) := by decide +kernel
theorem dX9_puff_44 : decode cX9_puff 44 = .ok (.iconst 0, 1) := by decide +kernel
theorem dX9_puff_45 : decode cX9_puff 45 = .ok (.ireturn, 1) := by decide +kernel
theorem dX9_puff_46 : decode cX9_puff 46 = .ok (.iconst 3, 1) := by decide +kernel
theorem dX9_puff_47 : decode cX9_puff 47 = .ok (.ireturn, 1) := by decide +kernel
theorem dX9_puff_48 : decode cX9_puff 48 = .ok (.iconst 5, 1) := by decide +kernel
theorem dX9_puff_49 : decode cX9_puff 49 = .ok (.ireturn, 1) := by decide +kernel
theorem dX9_puff_50 : decode cX9_puff 50 = .ok (.iconst 2, 1) := by decide +kernel
theorem dX9_puff_51 : decode cX9_puff 51 = .ok (.ireturn, 1) := by decide +kernel
theorem dX9_risk_0 : decode cX9_risk 0 = .ok (.iconst 5, 1) := by decide +kernel
theorem dX9_risk_1 : decode cX9_risk 1 = .ok (.aload_n 0, 1) := by decide +kernel
theorem dX9_risk_2 : decode cX9_risk 2 = .ok (.getfield 245, 3) := by decide +kernel
theorem dX9_risk_5 : decode cX9_risk 5 = .ok (.imul, 1) := by decide +kernel
theorem dX9_risk_6 : decode cX9_risk 6 = .ok (.iconst 3, 1) := by decide +kernel
theorem dX9_risk_7 : decode cX9_risk 7 = .ok (.aload_n 0, 1) := by decide +kernel
theorem dX9_risk_8 : decode cX9_risk 8 = .ok (.getfield 248, 3) := by decide +kernel
theorem dX9_risk_11 : decode cX9_risk 11 = .ok (.imul, 1) := by decide +kernel
theorem dX9_risk_12 : decode cX9_risk 12 = .ok (.iadd, 1) := by decide +kernel
theorem dX9_risk_13 : decode cX9_risk 13 = .ok (.aload_n 0, 1) := by decide +kernel
theorem dX9_risk_14 : decode cX9_risk 14 = .ok (.invokevirtual 142, 3) := by decide +kernel
theorem dX9_risk_17 : decode cX9_risk 17 = .ok (.iadd, 1) := by decide +kernel
theorem dX9_risk_18 : decode cX9_risk 18 = .ok (.istore_n 1, 1) := by decide +kernel
theorem dX9_risk_19 : decode cX9_risk 19 = .ok (.aload_n 0, 1) := by decide +kernel
theorem dX9_risk_20 : decode cX9_risk 20 = .ok (.getfield 224, 3) := by decide +kernel
theorem dX9_risk_23 : decode cX9_risk 23 = .ok (.iconst 4, 1) := by decide +kernel
theorem dX9_risk_24 : decode cX9_risk 24 = .ok (.if_icmp .eq 12, 3) := by decide +kernel
theorem dX9_risk_27 : decode cX9_risk 27 = .ok (.aload_n 0, 1) := by decide +kernel
theorem dX9_risk_28 : decode cX9_risk 28 = .ok (.getfield 224, 3) := by decide +kernel
theorem dX9_risk_31 : decode cX9_risk 31 = .ok (.bipush 6, 2) := by decide +kernel
theorem dX9_risk_33 : decode cX9_risk 33 = .ok (.if_icmp .ne 9, 3) := by decide +kernel
theorem dX9_risk_36 : decode cX9_risk 36 = .ok (.iload_n 1, 1) := by decide +kernel
theorem dX9_risk_37 : decode cX9_risk 37 = .ok (.iconst 2, 1) := by decide +kernel
theorem dX9_risk_38 : decode cX9_risk 38 = .ok (.idiv, 1) := by decide +kernel
theorem dX9_risk_39 : decode cX9_risk 39 = .ok (.goto 4, 3) := by decide +kernel
theorem dX9_risk_42 : decode cX9_risk 42 = .ok (.iload_n 1, 1) := by decide +kernel
theorem dX9_risk_43 : decode cX9_risk 43 = .ok (.ireturn, 1) := by decide +kernel
theorem dX9_riskNow_0 : decode cX9_riskNow 0 = .ok (.aload_n 0, 1) := by decide +kernel
theorem dX9_riskNow_1 : decode cX9_riskNow 1 = .ok (.invokevirtual 145, 3) := by decide +kernel
theorem dX9_riskNow_4 : decode cX9_riskNow 4 = .ok (.aload_n 0, 1) := by decide +kernel
theorem dX9_riskNow_5 : decode cX9_riskNow 5 = .ok (.getfield 254, 3) := by decide +kernel
theorem dX9_riskNow_8 : decode cX9_riskNow 8 = .ok (.aload_n 0, 1) := by decide +kernel
theorem dX9_riskNow_9 : decode cX9_riskNow 9 = .ok (.invokevirtual 138, 3) := by decide +kernel
theorem dX9_riskNow_12 : decode cX9_riskNow 12 = .ok (.if_icmp .ge 8, 3) := by decide +kernel
theorem dX9_riskNow_15 : decode cX9_riskNow 15 = .ok (.bipush 20, 2) := by decide +kernel
theorem dX9_riskNow_17 : decode cX9_riskNow 17 = .ok (.goto 4, 3) := by decide +kernel
theorem dX9_riskNow_20 : decode cX9_riskNow 20 = .ok (.iconst 0, 1) := by decide +kernel
theorem dX9_riskNow_21 : decode cX9_riskNow 21 = .ok (.iadd, 1) := by decide +kernel
theorem dX9_riskNow_22 : decode cX9_riskNow 22 = .ok (.ireturn, 1) := by decide +kernel
theorem dX9_starts_0 : decode cX9_starts 0 = .ok (.aload_n 0, 1) := by decide +kernel
theorem dX9_starts_1 : decode cX9_starts 1 = .ok (.aload_n 0, 1) := by decide +kernel
theorem dX9_starts_2 : decode cX9_starts 2 = .ok (.getfield 233, 3) := by decide +kernel
theorem dX9_starts_5 : decode cX9_starts 5 = .ok (.putfield 257, 3) := by decide +kernel
theorem dX9_starts_8 : decode cX9_starts 8 = .ok (.aload_n 0, 1) := by decide +kernel
theorem dX9_starts_9 : decode cX9_starts 9 = .ok (.aload_n 0, 1) := by decide +kernel
theorem dX9_starts_10 : decode cX9_starts 10 = .ok (.getfield 19, 3) := by decide +kernel
theorem dX9_starts_13 : decode cX9_starts 13 = .ok (.putfield 254, 3) := by decide +kernel
theorem dX9_starts_16 : decode cX9_starts 16 = .ok (.aload_n 0, 1) := by decide +kernel
theorem dX9_starts_17 : decode cX9_starts 17 = .ok (.iconst 0, 1) := by decide +kernel
theorem dX9_starts_18 : decode cX9_starts 18 = .ok (.putfield 260, 3) := by decide +kernel
theorem dX9_starts_21 : decode cX9_starts 21 = .ok (.aload_n 0, 1) := by decide +kernel
theorem dX9_starts_22 : decode cX9_starts 22 = .ok (.iconst 0, 1) := by decide +kernel
theorem dX9_starts_23 : decode cX9_starts 23 = .ok (.putfield 263, 3) := by decide +kernel
theorem dX9_starts_26 : decode cX9_starts 26 = .ok (.aload_n 0, 1) := by decide +kernel
theorem dX9_starts_27 : decode cX9_starts 27 = .ok (.iconst 0, 1) := by decide +kernel
theorem dX9_starts_28 : decode cX9_starts 28 = .ok (.putfield 266, 3) := by decide +kernel
theorem dX9_starts_31 : decode cX9_starts 31 = .ok (.return_, 1) := by decide +kernel
theorem dX9_falls_0 : decode cX9_falls 0 = .ok (.aload_n 0, 1) := by decide +kernel
theorem dX9_falls_1 : decode cX9_falls 1 = .ok (.aload_n 0, 1) := by decide +kernel
theorem dX9_falls_2 : decode cX9_falls 2 = .ok (.getfield 13, 3) := by decide +kernel
theorem dX9_falls_5 : decode cX9_falls 5 = .ok (.putfield 263, 3) := by decide +kernel
theorem dX9_falls_8 : decode cX9_falls 8 = .ok (.aload_n 0, 1) := by decide +kernel
theorem dX9_falls_9 : decode cX9_falls 9 = .ok (.dup, 1) := by decide +kernel
theorem dX9_falls_10 : decode cX9_falls 10 = .ok (.getfield 266, 3) := by decide +kernel
theorem dX9_falls_13 : decode cX9_falls 13 = .ok (.iconst 1, 1) := by decide +kernel
theorem dX9_falls_14 : decode cX9_falls 14 = .ok (.iadd, 1) := by decide +kernel
theorem dX9_falls_15 : decode cX9_falls 15 = .ok (.putfield 266, 3) := by decide +kernel
theorem dX9_falls_18 : decode cX9_falls 18 = .ok (.return_, 1) := by decide +kernel
theorem dX9_rests_0 : decode cX9_rests 0 = .ok (.aload_n 0, 1) := by decide +kernel
theorem dX9_rests_1 : decode cX9_rests 1 = .ok (.dup, 1) := by decide +kernel
theorem dX9_rests_2 : decode cX9_rests 2 = .ok (.getfield 263, 3) := by decide +kernel
theorem dX9_rests_5 : decode cX9_rests 5 = .ok (.iconst 1, 1) := by decide +kernel
theorem dX9_rests_6 : decode cX9_rests 6 = .ok (.isub, 1) := by decide +kernel
theorem dX9_rests_7 : decode cX9_rests 7 = .ok (.putfield 263, 3) := by decide +kernel
theorem dX9_rests_10 : decode cX9_rests 10 = .ok (.aload_n 0, 1) := by decide +kernel
theorem dX9_rests_11 : decode cX9_rests 11 = .ok (.aload_n 0, 1) := by decide +kernel
theorem dX9_rests_12 : decode cX9_rests 12 = .ok (.getfield 254, 3) := by decide +kernel
theorem dX9_rests_15 : decode cX9_rests 15 = .ok (.iconst 2, 1) := by decide +kernel
theorem dX9_rests_16 : decode cX9_rests 16 = .ok (.iadd, 1) := by decide +kernel
theorem dX9_rests_17 : decode cX9_rests 17 = .ok (.bipush 60, 2) := by decide +kernel
theorem dX9_rests_19 : decode cX9_rests 19 = .ok (.if_icmp .le 8, 3) := by decide +kernel
theorem dX9_rests_22 : decode cX9_rests 22 = .ok (.bipush 60, 2) := by decide +kernel
theorem dX9_rests_24 : decode cX9_rests 24 = .ok (.goto 9, 3) := by decide +kernel
theorem dX9_rests_27 : decode cX9_rests 27 = .ok (.aload_n 0, 1) := by decide +kernel
theorem dX9_rests_28 : decode cX9_rests 28 = .ok (.getfield 254, 3) := by decide +kernel
theorem dX9_rests_31 : decode cX9_rests 31 = .ok (.iconst 2, 1) := by decide +kernel
theorem dX9_rests_32 : decode cX9_rests 32 = .ok (.iadd, 1) := by decide +kernel
theorem dX9_rests_33 : decode cX9_rests 33 = .ok (.putfield 254, 3) := by decide +kernel
theorem dX9_rests_36 : decode cX9_rests 36 = .ok (.aload_n 0, 1) := by decide +kernel
theorem dX9_rests_37 : decode cX9_rests 37 = .ok (.getfield 236, 3) := by decide +kernel
theorem dX9_rests_40 : decode cX9_rests 40 = .ok (.iconst 1, 1) := by decide +kernel
theorem dX9_rests_41 : decode cX9_rests 41 = .ok (.if_icmp .ne 13, 3) := by decide +kernel
theorem dX9_rests_44 : decode cX9_rests 44 = .ok (.aload_n 0, 1) := by decide +kernel
theorem dX9_rests_45 : decode cX9_rests 45 = .ok (.dup, 1) := by decide +kernel
theorem dX9_rests_46 : decode cX9_rests 46 = .ok (.getfield 257, 3) := by decide +kernel
theorem dX9_rests_49 : decode cX9_rests 49 = .ok (.iconst 1, 1) := by decide +kernel
theorem dX9_rests_50 : decode cX9_rests 50 = .ok (.iadd, 1) := by decide +kernel
theorem dX9_rests_51 : decode cX9_rests 51 = .ok (.putfield 257, 3) := by decide +kernel
theorem dX9_rests_54 : decode cX9_rests 54 = .ok (.return_, 1) := by decide +kernel
theorem dX9_puffs_0 : decode cX9_puffs 0 = .ok (.aload_n 0, 1) := by decide +kernel
theorem dX9_puffs_1 : decode cX9_puffs 1 = .ok (.aload_n 0, 1) := by decide +kernel
theorem dX9_puffs_2 : decode cX9_puffs 2 = .ok (.getfield 254, 3) := by decide +kernel
theorem dX9_puffs_5 : decode cX9_puffs 5 = .ok (.aload_n 0, 1) := by decide +kernel
theorem dX9_puffs_6 : decode cX9_puffs 6 = .ok (.invokevirtual 138, 3) := by decide +kernel
theorem dX9_puffs_9 : decode cX9_puffs 9 = .ok (.if_icmp .le 15, 3) := by decide +kernel
theorem dX9_puffs_12 : decode cX9_puffs 12 = .ok (.aload_n 0, 1) := by decide +kernel
theorem dX9_puffs_13 : decode cX9_puffs 13 = .ok (.getfield 254, 3) := by decide +kernel
theorem dX9_puffs_16 : decode cX9_puffs 16 = .ok (.aload_n 0, 1) := by decide +kernel
theorem dX9_puffs_17 : decode cX9_puffs 17 = .ok (.invokevirtual 138, 3) := by decide +kernel
theorem dX9_puffs_20 : decode cX9_puffs 20 = .ok (.isub, 1) := by decide +kernel
theorem dX9_puffs_21 : decode cX9_puffs 21 = .ok (.goto 4, 3) := by decide +kernel
theorem dX9_puffs_24 : decode cX9_puffs 24 = .ok (.iconst 0, 1) := by decide +kernel
theorem dX9_puffs_25 : decode cX9_puffs 25 = .ok (.iconst 1, 1) := by decide +kernel
theorem dX9_puffs_26 : decode cX9_puffs 26 = .ok (.iadd, 1) := by decide +kernel
theorem dX9_puffs_27 : decode cX9_puffs 27 = .ok (.putfield 254, 3) := by decide +kernel
theorem dX9_puffs_30 : decode cX9_puffs 30 = .ok (.aload_n 0, 1) := by decide +kernel
theorem dX9_puffs_31 : decode cX9_puffs 31 = .ok (.aload_n 0, 1) := by decide +kernel
theorem dX9_puffs_32 : decode cX9_puffs 32 = .ok (.getfield 254, 3) := by decide +kernel
theorem dX9_puffs_35 : decode cX9_puffs 35 = .ok (.bipush 60, 2) := by decide +kernel
theorem dX9_puffs_37 : decode cX9_puffs 37 = .ok (.if_icmp .le 8, 3) := by decide +kernel
theorem dX9_puffs_40 : decode cX9_puffs 40 = .ok (.bipush 60, 2) := by decide +kernel
theorem dX9_puffs_42 : decode cX9_puffs 42 = .ok (.goto 7, 3) := by decide +kernel
theorem dX9_puffs_45 : decode cX9_puffs 45 = .ok (.aload_n 0, 1) := by decide +kernel
theorem dX9_puffs_46 : decode cX9_puffs 46 = .ok (.getfield 254, 3) := by decide +kernel
theorem dX9_puffs_49 : decode cX9_puffs 49 = .ok (.putfield 254, 3) := by decide +kernel
theorem dX9_puffs_52 : decode cX9_puffs 52 = .ok (.return_, 1) := by decide +kernel
theorem dX9_second_0 : decode cX9_second 0 = .ok (.aload_n 0, 1) := by decide +kernel
theorem dX9_second_1 : decode cX9_second 1 = .ok (.getfield 263, 3) := by decide +kernel
theorem dX9_second_4 : decode cX9_second 4 = .ok (.ifCond .le 8, 3) := by decide +kernel
theorem dX9_second_7 : decode cX9_second 7 = .ok (.aload_n 0, 1) := by decide +kernel
theorem dX9_second_8 : decode cX9_second 8 = .ok (.invokevirtual 269, 3) := by decide +kernel
theorem dX9_second_11 : decode cX9_second 11 = .ok (.return_, 1) := by decide +kernel
theorem dX9_second_12 : decode cX9_second 12 = .ok (.aload_n 0, 1) := by decide +kernel
theorem dX9_second_13 : decode cX9_second 13 = .ok (.dup, 1) := by decide +kernel
theorem dX9_second_14 : decode cX9_second 14 = .ok (.getfield 260, 3) := by decide +kernel
theorem dX9_second_17 : decode cX9_second 17 = .ok (.aload_n 0, 1) := by decide +kernel
theorem dX9_second_18 : decode cX9_second 18 = .ok (.invokevirtual 272, 3) := by decide +kernel
theorem dX9_second_21 : decode cX9_second 21 = .ok (.iadd, 1) := by decide +kernel
theorem dX9_second_22 : decode cX9_second 22 = .ok (.putfield 260, 3) := by decide +kernel
theorem dX9_second_25 : decode cX9_second 25 = .ok (.aload_n 0, 1) := by decide +kernel
theorem dX9_second_26 : decode cX9_second 26 = .ok (.invokevirtual 275, 3) := by decide +kernel
theorem dX9_second_29 : decode cX9_second 29 = .ok (.aload_n 0, 1) := by decide +kernel
theorem dX9_second_30 : decode cX9_second 30 = .ok (.getfield 260, 3) := by decide +kernel
theorem dX9_second_33 : decode cX9_second 33 = .ok (.bipush 100, 2) := by decide +kernel
theorem dX9_second_35 : decode cX9_second 35 = .ok (.if_icmp .lt 21, 3) := by decide +kernel
theorem dX9_second_38 : decode cX9_second 38 = .ok (.aload_n 0, 1) := by decide +kernel
theorem dX9_second_39 : decode cX9_second 39 = .ok (.dup, 1) := by decide +kernel
theorem dX9_second_40 : decode cX9_second 40 = .ok (.getfield 260, 3) := by decide +kernel
theorem dX9_second_43 : decode cX9_second 43 = .ok (.bipush 100, 2) := by decide +kernel
theorem dX9_second_45 : decode cX9_second 45 = .ok (.isub, 1) := by decide +kernel
theorem dX9_second_46 : decode cX9_second 46 = .ok (.putfield 260, 3) := by decide +kernel
theorem dX9_second_49 : decode cX9_second 49 = .ok (.aload_n 0, 1) := by decide +kernel
theorem dX9_second_50 : decode cX9_second 50 = .ok (.invokevirtual 278, 3) := by decide +kernel
theorem dX9_second_53 : decode cX9_second 53 = .ok (.goto 16, 3) := by decide +kernel
theorem dX9_second_56 : decode cX9_second 56 = .ok (.aload_n 0, 1) := by decide +kernel
theorem dX9_second_57 : decode cX9_second 57 = .ok (.dup, 1) := by decide +kernel
theorem dX9_second_58 : decode cX9_second 58 = .ok (.getfield 257, 3) := by decide +kernel
theorem dX9_second_61 : decode cX9_second 61 = .ok (.aload_n 0, 1) := by decide +kernel
theorem dX9_second_62 : decode cX9_second 62 = .ok (.invokevirtual 142, 3) := by decide +kernel
theorem dX9_second_65 : decode cX9_second 65 = .ok (.iadd, 1) := by decide +kernel
theorem dX9_second_66 : decode cX9_second 66 = .ok (.putfield 257, 3) := by decide +kernel
theorem dX9_second_69 : decode cX9_second 69 = .ok (.return_, 1) := by decide +kernel
theorem dX9_withRope_0 : decode cX9_withRope 0 = .ok (.iload_n 1, 1) := by decide +kernel
theorem dX9_withRope_1 : decode cX9_withRope 1 = .ok (.aload_n 0, 1) := by decide +kernel
theorem dX9_withRope_2 : decode cX9_withRope 2 = .ok (.getfield 16, 3) := by decide +kernel
theorem dX9_withRope_5 : decode cX9_withRope 5 = .ok (.aload_n 0, 1) := by decide +kernel
theorem dX9_withRope_6 : decode cX9_withRope 6 = .ok (.getfield 230, 3) := by decide +kernel
theorem dX9_withRope_9 : decode cX9_withRope 9 = .ok (.if_icmp .le 15, 3) := by decide +kernel
theorem dX9_withRope_12 : decode cX9_withRope 12 = .ok (.aload_n 0, 1) := by decide +kernel
theorem dX9_withRope_13 : decode cX9_withRope 13 = .ok (.getfield 16, 3) := by decide +kernel
theorem dX9_withRope_16 : decode cX9_withRope 16 = .ok (.aload_n 0, 1) := by decide +kernel
theorem dX9_withRope_17 : decode cX9_withRope 17 = .ok (.getfield 230, 3) := by decide +kernel
theorem dX9_withRope_20 : decode cX9_withRope 20 = .ok (.isub, 1) := by decide +kernel
theorem dX9_withRope_21 : decode cX9_withRope 21 = .ok (.goto 4, 3) := by decide +kernel
theorem dX9_withRope_24 : decode cX9_withRope 24 = .ok (.iconst 0, 1) := by decide +kernel
theorem dX9_withRope_25 : decode cX9_withRope 25 = .ok (.iadd, 1) := by decide +kernel
theorem dX9_withRope_26 : decode cX9_withRope 26 = .ok (.istore_n 2, 1) := by decide +kernel
theorem dX9_withRope_27 : decode cX9_withRope 27 = .ok (.iload_n 2, 1) := by decide +kernel
theorem dX9_withRope_28 : decode cX9_withRope 28 = .ok (.sipush 999, 3) := by decide +kernel
theorem dX9_withRope_31 : decode cX9_withRope 31 = .ok (.if_icmp .le 9, 3) := by decide +kernel
theorem dX9_withRope_34 : decode cX9_withRope 34 = .ok (.sipush 999, 3) := by decide +kernel
theorem dX9_withRope_37 : decode cX9_withRope 37 = .ok (.goto 4, 3) := by decide +kernel
theorem dX9_withRope_40 : decode cX9_withRope 40 = .ok (.iload_n 2, 1) := by decide +kernel
theorem dX9_withRope_41 : decode cX9_withRope 41 = .ok (.ireturn, 1) := by decide +kernel
theorem dX9_in_0 : decode cX9_in 0 = .ok (.aload_n 0, 1) := by decide +kernel
theorem dX9_in_1 : decode cX9_in 1 = .ok (.invokevirtual 281, 3) := by decide +kernel
theorem dX9_in_4 : decode cX9_in 4 = .ok (.iconst 0, 1) := by decide +kernel
theorem dX9_in_5 : decode cX9_in 5 = .ok (.istore_n 1, 1) := by decide +kernel
theorem dX9_in_6 : decode cX9_in 6 = .ok (.aload_n 0, 1) := by decide +kernel
theorem dX9_in_7 : decode cX9_in 7 = .ok (.getfield 257, 3) := by decide +kernel
theorem dX9_in_10 : decode cX9_in 10 = .ok (.aload_n 0, 1) := by decide +kernel
theorem dX9_in_11 : decode cX9_in 11 = .ok (.getfield 7, 3) := by decide +kernel
theorem dX9_in_14 : decode cX9_in 14 = .ok (.if_icmp .ge 20, 3) := by decide +kernel
theorem dX9_in_17 : decode cX9_in 17 = .ok (.iload_n 1, 1) := by decide +kernel
theorem dX9_in_18 : decode cX9_in 18 = .ok (.sipush 999, 3) := by decide +kernel
theorem dX9_in_21 : decode cX9_in 21 = .ok (.if_icmp .ge 13, 3) := by decide +kernel
theorem dX9_in_24 : decode cX9_in 24 = .ok (.aload_n 0, 1) := by decide +kernel
theorem dX9_in_25 : decode cX9_in 25 = .ok (.invokevirtual 284, 3) := by decide +kernel
theorem dX9_in_28 : decode cX9_in 28 = .ok (.iinc 1 1, 3) := by decide +kernel
theorem dX9_in_31 : decode cX9_in 31 = .ok (.goto (-25), 3) := by decide +kernel
theorem dX9_in_34 : decode cX9_in 34 = .ok (.aload_n 0, 1) := by decide +kernel
theorem dX9_in_35 : decode cX9_in 35 = .ok (.getfield 257, 3) := by decide +kernel
theorem dX9_in_38 : decode cX9_in 38 = .ok (.aload_n 0, 1) := by decide +kernel
theorem dX9_in_39 : decode cX9_in 39 = .ok (.getfield 7, 3) := by decide +kernel
theorem dX9_in_42 : decode cX9_in 42 = .ok (.if_icmp .ge 9, 3) := by decide +kernel
theorem dX9_in_45 : decode cX9_in 45 = .ok (.sipush 999, 3) := by decide +kernel
theorem dX9_in_48 : decode cX9_in 48 = .ok (.goto 8, 3) := by decide +kernel
theorem dX9_in_51 : decode cX9_in 51 = .ok (.aload_n 0, 1) := by decide +kernel
theorem dX9_in_52 : decode cX9_in 52 = .ok (.iload_n 1, 1) := by decide +kernel
theorem dX9_in_53 : decode cX9_in 53 = .ok (.invokevirtual 287, 3) := by decide +kernel
theorem dX9_in_56 : decode cX9_in 56 = .ok (.ireturn, 1) := by decide +kernel
theorem dX9_inOf_0 : decode cX9_inOf 0 = .ok (.aload_n 0, 1) := by decide +kernel
theorem dX9_inOf_1 : decode cX9_inOf 1 = .ok (.iload_n 1, 1) := by decide +kernel
theorem dX9_inOf_2 : decode cX9_inOf 2 = .ok (.invokevirtual 134, 3) := by decide +kernel
theorem dX9_inOf_5 : decode cX9_inOf 5 = .ok (.aload_n 0, 1) := by decide +kernel
theorem dX9_inOf_6 : decode cX9_inOf 6 = .ok (.invokevirtual 290, 3) := by decide +kernel
theorem dX9_inOf_9 : decode cX9_inOf 9 = .ok (.ireturn, 1) := by decide +kernel
theorem dX9_inWith_0 : decode cX9_inWith 0 = .ok (.aload_n 0, 1) := by decide +kernel
theorem dX9_inWith_1 : decode cX9_inWith 1 = .ok (.iload_n 1, 1) := by decide +kernel
theorem dX9_inWith_2 : decode cX9_inWith 2 = .ok (.invokevirtual 134, 3) := by decide +kernel
theorem dX9_inWith_5 : decode cX9_inWith 5 = .ok (.aload_n 0, 1) := by decide +kernel
theorem dX9_inWith_6 : decode cX9_inWith 6 = .ok (.iload_n 2, 1) := by decide +kernel
theorem dX9_inWith_7 : decode cX9_inWith 7 = .ok (.invokevirtual 239, 3) := by decide +kernel
theorem dX9_inWith_10 : decode cX9_inWith 10 = .ok (.aload_n 0, 1) := by decide +kernel
theorem dX9_inWith_11 : decode cX9_inWith 11 = .ok (.invokevirtual 290, 3) := by decide +kernel
theorem dX9_inWith_14 : decode cX9_inWith 14 = .ok (.ireturn, 1) := by decide +kernel
theorem dX9_inAs_0 : decode cX9_inAs 0 = .ok (.aload_n 0, 1) := by decide +kernel
theorem dX9_inAs_1 : decode cX9_inAs 1 = .ok (.iload_n 1, 1) := by decide +kernel
theorem dX9_inAs_2 : decode cX9_inAs 2 = .ok (.invokevirtual 134, 3) := by decide +kernel
theorem dX9_inAs_5 : decode cX9_inAs 5 = .ok (.aload_n 0, 1) := by decide +kernel
theorem dX9_inAs_6 : decode cX9_inAs 6 = .ok (.iload_n 2, 1) := by decide +kernel
theorem dX9_inAs_7 : decode cX9_inAs 7 = .ok (.putfield 224, 3) := by decide +kernel
theorem dX9_inAs_10 : decode cX9_inAs 10 = .ok (.aload_n 0, 1) := by decide +kernel
theorem dX9_inAs_11 : decode cX9_inAs 11 = .ok (.invokevirtual 290, 3) := by decide +kernel
theorem dX9_inAs_14 : decode cX9_inAs 14 = .ok (.ireturn, 1) := by decide +kernel
theorem dX9_inFrom_0 : decode cX9_inFrom 0 = .ok (.aload_n 0, 1) := by decide +kernel
theorem dX9_inFrom_1 : decode cX9_inFrom 1 = .ok (.iload_n 1, 1) := by decide +kernel
theorem dX9_inFrom_2 : decode cX9_inFrom 2 = .ok (.invokevirtual 134, 3) := by decide +kernel
theorem dX9_inFrom_5 : decode cX9_inFrom 5 = .ok (.aload_n 0, 1) := by decide +kernel
theorem dX9_inFrom_6 : decode cX9_inFrom 6 = .ok (.iload_n 2, 1) := by decide +kernel
theorem dX9_inFrom_7 : decode cX9_inFrom 7 = .ok (.putfield 233, 3) := by decide +kernel
theorem dX9_inFrom_10 : decode cX9_inFrom 10 = .ok (.aload_n 0, 1) := by decide +kernel
theorem dX9_inFrom_11 : decode cX9_inFrom 11 = .ok (.invokevirtual 290, 3) := by decide +kernel
theorem dX9_inFrom_14 : decode cX9_inFrom 14 = .ok (.ireturn, 1) := by decide +kernel
theorem dX9_inRolling_0 : decode cX9_inRolling 0 = .ok (.aload_n 0, 1) := by decide +kernel
theorem dX9_inRolling_1 : decode cX9_inRolling 1 = .ok (.iload_n 1, 1) := by decide +kernel
theorem dX9_inRolling_2 : decode cX9_inRolling 2 = .ok (.invokevirtual 134, 3) := by decide +kernel
theorem dX9_inRolling_5 : decode cX9_inRolling 5 = .ok (.aload_n 0, 1) := by decide +kernel
theorem dX9_inRolling_6 : decode cX9_inRolling 6 = .ok (.iload_n 2, 1) := by decide +kernel
theorem dX9_inRolling_7 : decode cX9_inRolling 7 = .ok (.putfield 236, 3) := by decide +kernel
theorem dX9_inRolling_10 : decode cX9_inRolling 10 = .ok (.aload_n 0, 1) := by decide +kernel
theorem dX9_inRolling_11 : decode cX9_inRolling 11 = .ok (.invokevirtual 290, 3) := by decide +kernel
theorem dX9_inRolling_14 : decode cX9_inRolling 14 = .ok (.ireturn, 1) := by decide +kernel
theorem dX9_behind_0 : decode cX9_behind 0 = .ok (.aload_n 0, 1) := by decide +kernel
theorem dX9_behind_1 : decode cX9_behind 1 = .ok (.iload_n 1, 1) := by decide +kernel
theorem dX9_behind_2 : decode cX9_behind 2 = .ok (.invokevirtual 131, 3) := by decide +kernel
theorem dX9_behind_5 : decode cX9_behind 5 = .ok (.ifCond .ne 9, 3) := by decide +kernel
theorem dX9_behind_8 : decode cX9_behind 8 = .ok (.aload_n 0, 1) := by decide +kernel
theorem dX9_behind_9 : decode cX9_behind 9 = .ok (.iconst (-1), 1) := by decide +kernel
theorem dX9_behind_10 : decode cX9_behind 10 = .ok (.invokevirtual 127, 3) := by decide +kernel
theorem dX9_behind_13 : decode cX9_behind 13 = .ok (.ireturn, 1) := by decide +kernel
theorem dX9_behind_14 : decode cX9_behind 14 = .ok (.iload_n 3, 1) := by decide +kernel
theorem dX9_behind_15 : decode cX9_behind 15 = .ok (.ifCond .lt 8, 3) := by decide +kernel
theorem dX9_behind_18 : decode cX9_behind 18 = .ok (.iload_n 3, 1) := by decide +kernel
theorem dX9_behind_19 : decode cX9_behind 19 = .ok (.iconst 4, 1) := by decide +kernel
theorem dX9_behind_20 : decode cX9_behind 20 = .ok (.if_icmp .le 10, 3) := by decide +kernel
theorem dX9_behind_23 : decode cX9_behind 23 = .ok (.aload_n 0, 1) := by decide +kernel
theorem dX9_behind_24 : decode cX9_behind 24 = .ok (.bipush (-5), 2) := by decide +kernel
theorem dX9_behind_26 : decode cX9_behind 26 = .ok (.invokevirtual 127, 3) := by decide +kernel
theorem dX9_behind_29 : decode cX9_behind 29 = .ok (.ireturn, 1) := by decide +kernel
theorem dX9_behind_30 : decode cX9_behind 30 = .ok (.iload_n 2, 1) := by decide +kernel
theorem dX9_behind_31 : decode cX9_behind 31 = .ok (.ifCond .lt 10, 3) := by decide +kernel
theorem dX9_behind_34 : decode cX9_behind 34 = .ok (.iload_n 2, 1) := by decide +kernel
theorem dX9_behind_35 : decode cX9_behind 35 = .ok (.sipush 999, 3) := by decide +kernel
theorem dX9_behind_38 : decode cX9_behind 38 = .ok (.if_icmp .le 10, 3) := by decide +kernel
theorem dX9_behind_41 : decode cX9_behind 41 = .ok (.aload_n 0, 1) := by decide +kernel
theorem dX9_behind_42 : decode cX9_behind 42 = .ok (.bipush (-6), 2) := by decide +kernel
theorem dX9_behind_44 : decode cX9_behind 44 = .ok (.invokevirtual 127, 3) := by decide +kernel
theorem dX9_behind_47 : decode cX9_behind 47 = .ok (.ireturn, 1) := by decide +kernel
theorem dX9_behind_48 : decode cX9_behind 48 = .ok (.aload_n 0, 1) := by decide +kernel
theorem dX9_behind_49 : decode cX9_behind 49 = .ok (.iload_n 1, 1) := by decide +kernel
theorem dX9_behind_50 : decode cX9_behind 50 = .ok (.invokevirtual 134, 3) := by decide +kernel
theorem dX9_behind_53 : decode cX9_behind 53 = .ok (.aload_n 0, 1) := by decide +kernel
theorem dX9_behind_54 : decode cX9_behind 54 = .ok (.invokevirtual 281, 3) := by decide +kernel
theorem dX9_behind_57 : decode cX9_behind 57 = .ok (.iconst 0, 1) := by decide +kernel
theorem dX9_behind_58 : decode cX9_behind 58 = .ok (.istore 4, 2) := by decide +kernel
theorem dX9_behind_60 : decode cX9_behind 60 = .ok (.iload 4, 2) := by decide +kernel
theorem dX9_behind_62 : decode cX9_behind 62 = .ok (.iload_n 2, 1) := by decide +kernel
theorem dX9_behind_63 : decode cX9_behind 63 = .ok (.if_icmp .ge 24, 3) := by decide +kernel
theorem dX9_behind_66 : decode cX9_behind 66 = .ok (.aload_n 0, 1) := by decide +kernel
theorem dX9_behind_67 : decode cX9_behind 67 = .ok (.getfield 257, 3) := by decide +kernel
theorem dX9_behind_70 : decode cX9_behind 70 = .ok (.aload_n 0, 1) := by decide +kernel
theorem dX9_behind_71 : decode cX9_behind 71 = .ok (.getfield 7, 3) := by decide +kernel
theorem dX9_behind_74 : decode cX9_behind 74 = .ok (.if_icmp .ge 13, 3) := by decide +kernel
theorem dX9_behind_77 : decode cX9_behind 77 = .ok (.aload_n 0, 1) := by decide +kernel
theorem dX9_behind_78 : decode cX9_behind 78 = .ok (.invokevirtual 284, 3) := by decide +kernel
theorem dX9_behind_81 : decode cX9_behind 81 = .ok (.iinc 4 1, 3) := by decide +kernel
theorem dX9_behind_84 : decode cX9_behind 84 = .ok (.goto (-24), 3) := by decide +kernel
theorem dX9_behind_87 : decode cX9_behind 87 = .ok (.iload_n 3, 1) := by decide +kernel
theorem dX9_behind_88 : decode cX9_behind 88 = .ok (.ifCond .ne 10, 3) := by decide +kernel
theorem dX9_behind_91 : decode cX9_behind 91 = .ok (.aload_n 0, 1) := by decide +kernel
theorem dX9_behind_92 : decode cX9_behind 92 = .ok (.getfield 257, 3) := by decide +kernel
theorem dX9_behind_95 : decode cX9_behind 95 = .ok (.goto 43, 3) := by decide +kernel
theorem dX9_behind_98 : decode cX9_behind 98 = .ok (.iload_n 3, 1) := by decide +kernel
theorem dX9_behind_99 : decode cX9_behind 99 = .ok (.iconst 1, 1) := by decide +kernel
theorem dX9_behind_100 : decode cX9_behind 100 = .ok (.if_icmp .ne 10, 3) := by decide +kernel
theorem dX9_behind_103 : decode cX9_behind 103 = .ok (.aload_n 0, 1) := by decide +kernel
theorem dX9_behind_104 : decode cX9_behind 104 = .ok (.getfield 254, 3) := by decide +kernel
theorem dX9_behind_107 : decode cX9_behind 107 = .ok (.goto 31, 3) := by decide +kernel
theorem dX9_behind_110 : decode cX9_behind 110 = .ok (.iload_n 3, 1) := by decide +kernel
theorem dX9_behind_111 : decode cX9_behind 111 = .ok (.iconst 2, 1) := by decide +kernel
theorem dX9_behind_112 : decode cX9_behind 112 = .ok (.if_icmp .ne 10, 3) := by decide +kernel
theorem dX9_behind_115 : decode cX9_behind 115 = .ok (.aload_n 0, 1) := by decide +kernel
theorem dX9_behind_116 : decode cX9_behind 116 = .ok (.getfield 260, 3) := by decide +kernel
theorem dX9_behind_119 : decode cX9_behind 119 = .ok (.goto 19, 3) := by decide +kernel
theorem dX9_behind_122 : decode cX9_behind 122 = .ok (.iload_n 3, 1) := by decide +kernel
theorem dX9_behind_123 : decode cX9_behind 123 = .ok (.iconst 3, 1) := by decide +kernel
theorem dX9_behind_124 : decode cX9_behind 124 = .ok (.if_icmp .ne 10, 3) := by decide +kernel
theorem dX9_behind_127 : decode cX9_behind 127 = .ok (.aload_n 0, 1) := by decide +kernel
theorem dX9_behind_128 : decode cX9_behind 128 = .ok (.getfield 263, 3) := by decide +kernel
theorem dX9_behind_131 : decode cX9_behind 131 = .ok (.goto 7, 3) := by decide +kernel
theorem dX9_behind_134 : decode cX9_behind 134 = .ok (.aload_n 0, 1) := by decide +kernel
theorem dX9_behind_135 : decode cX9_behind 135 = .ok (.getfield 266, 3) := by decide +kernel
theorem dX9_behind_138 : decode cX9_behind 138 = .ok (.ireturn, 1) := by decide +kernel
theorem dX9_comesIn_0 : decode cX9_comesIn 0 = .ok (.aload_n 0, 1) := by decide +kernel
theorem dX9_comesIn_1 : decode cX9_comesIn 1 = .ok (.iload_n 1, 1) := by decide +kernel
theorem dX9_comesIn_2 : decode cX9_comesIn 2 = .ok (.invokevirtual 131, 3) := by decide +kernel
theorem dX9_comesIn_5 : decode cX9_comesIn 5 = .ok (.ifCond .eq 11, 3) := by decide +kernel
theorem dX9_comesIn_8 : decode cX9_comesIn 8 = .ok (.aload_n 0, 1) := by decide +kernel
theorem dX9_comesIn_9 : decode cX9_comesIn 9 = .ok (.iload_n 1, 1) := by decide +kernel
theorem dX9_comesIn_10 : decode cX9_comesIn 10 = .ok (.invokevirtual 293, 3) := by decide +kernel
theorem dX9_comesIn_13 : decode cX9_comesIn 13 = .ok (.goto 8, 3) := by decide +kernel
theorem dX9_comesIn_16 : decode cX9_comesIn 16 = .ok (.aload_n 0, 1) := by decide +kernel
theorem dX9_comesIn_17 : decode cX9_comesIn 17 = .ok (.iconst (-1), 1) := by decide +kernel
theorem dX9_comesIn_18 : decode cX9_comesIn 18 = .ok (.invokevirtual 127, 3) := by decide +kernel
theorem dX9_comesIn_21 : decode cX9_comesIn 21 = .ok (.ireturn, 1) := by decide +kernel
theorem dX9_firstIn_0 : decode cX9_firstIn 0 = .ok (.iconst 0, 1) := by decide +kernel
theorem dX9_firstIn_1 : decode cX9_firstIn 1 = .ok (.istore_n 1, 1) := by decide +kernel
theorem dX9_firstIn_2 : decode cX9_firstIn 2 = .ok (.iconst 1, 1) := by decide +kernel
theorem dX9_firstIn_3 : decode cX9_firstIn 3 = .ok (.istore_n 2, 1) := by decide +kernel
theorem dX9_firstIn_4 : decode cX9_firstIn 4 = .ok (.iload_n 2, 1) := by decide +kernel
theorem dX9_firstIn_5 : decode cX9_firstIn 5 = .ok (.aload_n 0, 1) := by decide +kernel
theorem dX9_firstIn_6 : decode cX9_firstIn 6 = .ok (.getfield 117, 3) := by decide +kernel
theorem dX9_firstIn_9 : decode cX9_firstIn 9 = .ok (.if_icmp .ge 24, 3) := by decide +kernel
theorem dX9_firstIn_12 : decode cX9_firstIn 12 = .ok (.aload_n 0, 1) := by decide +kernel
theorem dX9_firstIn_13 : decode cX9_firstIn 13 = .ok (.iload_n 2, 1) := by decide +kernel
theorem dX9_firstIn_14 : decode cX9_firstIn 14 = .ok (.invokevirtual 293, 3) := by decide +kernel
theorem dX9_firstIn_17 : decode cX9_firstIn 17 = .ok (.aload_n 0, 1) := by decide +kernel
theorem dX9_firstIn_18 : decode cX9_firstIn 18 = .ok (.iload_n 1, 1) := by decide +kernel
theorem dX9_firstIn_19 : decode cX9_firstIn 19 = .ok (.invokevirtual 293, 3) := by decide +kernel
theorem dX9_firstIn_22 : decode cX9_firstIn 22 = .ok (.if_icmp .ge 5, 3) := by decide +kernel
end
section
theorem dX9_firstIn_25 : decode cX9_firstIn 25 = .ok (.iload_n 2, 1) := by decide +kernel
theorem dX9_firstIn_26 : decode cX9_firstIn 26 = .ok (.istore_n 1, 1) := by decide +kernel
theorem dX9_firstIn_27 : decode cX9_firstIn 27 = .ok (.iinc 2 1, 3) := by decide +kernel
theorem dX9_firstIn_30 : decode cX9_firstIn 30 = .ok (.goto (-26), 3) := by decide +kernel
theorem dX9_firstIn_33 : decode cX9_firstIn 33 = .ok (.iload_n 1, 1) := by decide +kernel
theorem dX9_firstIn_34 : decode cX9_firstIn 34 = .ok (.ireturn, 1) := by decide +kernel
theorem dX9_wins_0 : decode cX9_wins 0 = .ok (.iload_n 1, 1) := by decide +kernel
theorem dX9_wins_1 : decode cX9_wins 1 = .ok (.ifCond .lt 15, 3) := by decide +kernel
theorem dX9_wins_4 : decode cX9_wins 4 = .ok (.iload_n 1, 1) := by decide +kernel
theorem dX9_wins_5 : decode cX9_wins 5 = .ok (.iconst 1, 1) := by decide +kernel
theorem dX9_wins_6 : decode cX9_wins 6 = .ok (.if_icmp .gt 10, 3) := by decide +kernel
theorem dX9_wins_9 : decode cX9_wins 9 = .ok (.aload_n 0, 1) := by decide +kernel
theorem dX9_wins_10 : decode cX9_wins 10 = .ok (.getfield 117, 3) := by decide +kernel
theorem dX9_wins_13 : decode cX9_wins 13 = .ok (.ifCond .ne 10, 3) := by decide +kernel
theorem dX9_wins_16 : decode cX9_wins 16 = .ok (.aload_n 0, 1) := by decide +kernel
theorem dX9_wins_17 : decode cX9_wins 17 = .ok (.bipush (-5), 2) := by decide +kernel
theorem dX9_wins_19 : decode cX9_wins 19 = .ok (.invokevirtual 127, 3) := by decide +kernel
theorem dX9_wins_22 : decode cX9_wins 22 = .ok (.ireturn, 1) := by decide +kernel
theorem dX9_wins_23 : decode cX9_wins 23 = .ok (.aload_n 0, 1) := by decide +kernel
theorem dX9_wins_24 : decode cX9_wins 24 = .ok (.invokevirtual 296, 3) := by decide +kernel
theorem dX9_wins_27 : decode cX9_wins 27 = .ok (.istore_n 2, 1) := by decide +kernel
theorem dX9_wins_28 : decode cX9_wins 28 = .ok (.iconst (-1), 1) := by decide +kernel
theorem dX9_wins_29 : decode cX9_wins 29 = .ok (.istore_n 3, 1) := by decide +kernel
theorem dX9_wins_30 : decode cX9_wins 30 = .ok (.iconst 0, 1) := by decide +kernel
theorem dX9_wins_31 : decode cX9_wins 31 = .ok (.istore 4, 2) := by decide +kernel
theorem dX9_wins_33 : decode cX9_wins 33 = .ok (.iload 4, 2) := by decide +kernel
theorem dX9_wins_35 : decode cX9_wins 35 = .ok (.aload_n 0, 1) := by decide +kernel
theorem dX9_wins_36 : decode cX9_wins 36 = .ok (.getfield 117, 3) := by decide +kernel
theorem dX9_wins_39 : decode cX9_wins 39 = .ok (.if_icmp .ge 44, 3) := by decide +kernel
theorem dX9_wins_42 : decode cX9_wins 42 = .ok (.iload 4, 2) := by decide +kernel
theorem dX9_wins_44 : decode cX9_wins 44 = .ok (.iload_n 2, 1) := by decide +kernel
theorem dX9_wins_45 : decode cX9_wins 45 = .ok (.if_icmp .ne 6, 3) := by decide +kernel
theorem dX9_wins_48 : decode cX9_wins 48 = .ok (.goto 29, 3) := by decide +kernel
theorem dX9_wins_51 : decode cX9_wins 51 = .ok (.aload_n 0, 1) := by decide +kernel
theorem dX9_wins_52 : decode cX9_wins 52 = .ok (.iload 4, 2) := by decide +kernel
theorem dX9_wins_54 : decode cX9_wins 54 = .ok (.invokevirtual 293, 3) := by decide +kernel
theorem dX9_wins_57 : decode cX9_wins 57 = .ok (.istore 5, 2) := by decide +kernel
theorem dX9_wins_59 : decode cX9_wins 59 = .ok (.iload_n 3, 1) := by decide +kernel
theorem dX9_wins_60 : decode cX9_wins 60 = .ok (.iconst (-1), 1) := by decide +kernel
theorem dX9_wins_61 : decode cX9_wins 61 = .ok (.if_icmp .eq 9, 3) := by decide +kernel
theorem dX9_wins_64 : decode cX9_wins 64 = .ok (.iload 5, 2) := by decide +kernel
theorem dX9_wins_66 : decode cX9_wins 66 = .ok (.iload_n 3, 1) := by decide +kernel
theorem dX9_wins_67 : decode cX9_wins 67 = .ok (.if_icmp .ge 8, 3) := by decide +kernel
theorem dX9_wins_70 : decode cX9_wins 70 = .ok (.iload 5, 2) := by decide +kernel
theorem dX9_wins_72 : decode cX9_wins 72 = .ok (.goto 4, 3) := by decide +kernel
theorem dX9_wins_75 : decode cX9_wins 75 = .ok (.iload_n 3, 1) := by decide +kernel
theorem dX9_wins_76 : decode cX9_wins 76 = .ok (.istore_n 3, 1) := by decide +kernel
theorem dX9_wins_77 : decode cX9_wins 77 = .ok (.iinc 4 1, 3) := by decide +kernel
theorem dX9_wins_80 : decode cX9_wins 80 = .ok (.goto (-47), 3) := by decide +kernel
theorem dX9_wins_83 : decode cX9_wins 83 = .ok (.iload_n 1, 1) := by decide +kernel
theorem dX9_wins_84 : decode cX9_wins 84 = .ok (.ifCond .ne 7, 3) := by decide +kernel
theorem dX9_wins_87 : decode cX9_wins 87 = .ok (.iload_n 2, 1) := by decide +kernel
theorem dX9_wins_88 : decode cX9_wins 88 = .ok (.goto 19, 3) := by decide +kernel
theorem dX9_wins_91 : decode cX9_wins 91 = .ok (.iload_n 3, 1) := by decide +kernel
theorem dX9_wins_92 : decode cX9_wins 92 = .ok (.iconst (-1), 1) := by decide +kernel
theorem dX9_wins_93 : decode cX9_wins 93 = .ok (.if_icmp .ne 7, 3) := by decide +kernel
theorem dX9_wins_96 : decode cX9_wins 96 = .ok (.iconst 0, 1) := by decide +kernel
theorem dX9_wins_97 : decode cX9_wins 97 = .ok (.goto 10, 3) := by decide +kernel
theorem dX9_wins_100 : decode cX9_wins 100 = .ok (.iload_n 3, 1) := by decide +kernel
theorem dX9_wins_101 : decode cX9_wins 101 = .ok (.aload_n 0, 1) := by decide +kernel
theorem dX9_wins_102 : decode cX9_wins 102 = .ok (.iload_n 2, 1) := by decide +kernel
theorem dX9_wins_103 : decode cX9_wins 103 = .ok (.invokevirtual 293, 3) := by decide +kernel
theorem dX9_wins_106 : decode cX9_wins 106 = .ok (.isub, 1) := by decide +kernel
theorem dX9_wins_107 : decode cX9_wins 107 = .ok (.ireturn, 1) := by decide +kernel
theorem dX9_how_0 : decode cX9_how 0 = .ok (.iconst 0, 1) := by decide +kernel
theorem dX9_how_1 : decode cX9_how 1 = .ok (.istore_n 2, 1) := by decide +kernel
theorem dX9_how_2 : decode cX9_how 2 = .ok (.iconst 1, 1) := by decide +kernel
theorem dX9_how_3 : decode cX9_how 3 = .ok (.istore_n 3, 1) := by decide +kernel
theorem dX9_how_4 : decode cX9_how 4 = .ok (.iload_n 3, 1) := by decide +kernel
theorem dX9_how_5 : decode cX9_how 5 = .ok (.bipush 7, 2) := by decide +kernel
theorem dX9_how_7 : decode cX9_how 7 = .ok (.if_icmp .ge 26, 3) := by decide +kernel
theorem dX9_how_10 : decode cX9_how 10 = .ok (.aload_n 0, 1) := by decide +kernel
theorem dX9_how_11 : decode cX9_how 11 = .ok (.iload_n 1, 1) := by decide +kernel
theorem dX9_how_12 : decode cX9_how 12 = .ok (.iload_n 3, 1) := by decide +kernel
theorem dX9_how_13 : decode cX9_how 13 = .ok (.invokevirtual 299, 3) := by decide +kernel
theorem dX9_how_16 : decode cX9_how 16 = .ok (.aload_n 0, 1) := by decide +kernel
theorem dX9_how_17 : decode cX9_how 17 = .ok (.iload_n 1, 1) := by decide +kernel
theorem dX9_how_18 : decode cX9_how 18 = .ok (.iload_n 2, 1) := by decide +kernel
theorem dX9_how_19 : decode cX9_how 19 = .ok (.invokevirtual 299, 3) := by decide +kernel
theorem dX9_how_22 : decode cX9_how 22 = .ok (.if_icmp .ge 5, 3) := by decide +kernel
theorem dX9_how_25 : decode cX9_how 25 = .ok (.iload_n 3, 1) := by decide +kernel
theorem dX9_how_26 : decode cX9_how 26 = .ok (.istore_n 2, 1) := by decide +kernel
theorem dX9_how_27 : decode cX9_how 27 = .ok (.iinc 3 1, 3) := by decide +kernel
theorem dX9_how_30 : decode cX9_how 30 = .ok (.goto (-26), 3) := by decide +kernel
theorem dX9_how_33 : decode cX9_how 33 = .ok (.iload_n 2, 1) := by decide +kernel
theorem dX9_how_34 : decode cX9_how 34 = .ok (.ireturn, 1) := by decide +kernel
theorem dX9_bestSack_0 : decode cX9_bestSack 0 = .ok (.iconst 0, 1) := by decide +kernel
theorem dX9_bestSack_1 : decode cX9_bestSack 1 = .ok (.istore_n 2, 1) := by decide +kernel
theorem dX9_bestSack_2 : decode cX9_bestSack 2 = .ok (.iconst 1, 1) := by decide +kernel
theorem dX9_bestSack_3 : decode cX9_bestSack 3 = .ok (.istore_n 3, 1) := by decide +kernel
theorem dX9_bestSack_4 : decode cX9_bestSack 4 = .ok (.iload_n 3, 1) := by decide +kernel
theorem dX9_bestSack_5 : decode cX9_bestSack 5 = .ok (.aload_n 0, 1) := by decide +kernel
theorem dX9_bestSack_6 : decode cX9_bestSack 6 = .ok (.getfield 120, 3) := by decide +kernel
theorem dX9_bestSack_9 : decode cX9_bestSack 9 = .ok (.if_icmp .ge 26, 3) := by decide +kernel
theorem dX9_bestSack_12 : decode cX9_bestSack 12 = .ok (.aload_n 0, 1) := by decide +kernel
theorem dX9_bestSack_13 : decode cX9_bestSack 13 = .ok (.iload_n 1, 1) := by decide +kernel
theorem dX9_bestSack_14 : decode cX9_bestSack 14 = .ok (.iload_n 3, 1) := by decide +kernel
theorem dX9_bestSack_15 : decode cX9_bestSack 15 = .ok (.invokevirtual 302, 3) := by decide +kernel
theorem dX9_bestSack_18 : decode cX9_bestSack 18 = .ok (.aload_n 0, 1) := by decide +kernel
theorem dX9_bestSack_19 : decode cX9_bestSack 19 = .ok (.iload_n 1, 1) := by decide +kernel
theorem dX9_bestSack_20 : decode cX9_bestSack 20 = .ok (.iload_n 2, 1) := by decide +kernel
theorem dX9_bestSack_21 : decode cX9_bestSack 21 = .ok (.invokevirtual 302, 3) := by decide +kernel
theorem dX9_bestSack_24 : decode cX9_bestSack 24 = .ok (.if_icmp .ge 5, 3) := by decide +kernel
theorem dX9_bestSack_27 : decode cX9_bestSack 27 = .ok (.iload_n 3, 1) := by decide +kernel
theorem dX9_bestSack_28 : decode cX9_bestSack 28 = .ok (.istore_n 2, 1) := by decide +kernel
theorem dX9_bestSack_29 : decode cX9_bestSack 29 = .ok (.iinc 3 1, 3) := by decide +kernel
theorem dX9_bestSack_32 : decode cX9_bestSack 32 = .ok (.goto (-28), 3) := by decide +kernel
theorem dX9_bestSack_35 : decode cX9_bestSack 35 = .ok (.iload_n 2, 1) := by decide +kernel
theorem dX9_bestSack_36 : decode cX9_bestSack 36 = .ok (.ireturn, 1) := by decide +kernel
theorem dX9_best_0 : decode cX9_best 0 = .ok (.aload_n 0, 1) := by decide +kernel
theorem dX9_best_1 : decode cX9_best 1 = .ok (.iload_n 1, 1) := by decide +kernel
theorem dX9_best_2 : decode cX9_best 2 = .ok (.invokevirtual 131, 3) := by decide +kernel
theorem dX9_best_5 : decode cX9_best 5 = .ok (.ifCond .ne 9, 3) := by decide +kernel
theorem dX9_best_8 : decode cX9_best 8 = .ok (.aload_n 0, 1) := by decide +kernel
theorem dX9_best_9 : decode cX9_best 9 = .ok (.iconst (-1), 1) := by decide +kernel
theorem dX9_best_10 : decode cX9_best 10 = .ok (.invokevirtual 127, 3) := by decide +kernel
theorem dX9_best_13 : decode cX9_best 13 = .ok (.ireturn, 1) := by decide +kernel
theorem dX9_best_14 : decode cX9_best 14 = .ok (.iload_n 2, 1) := by decide +kernel
theorem dX9_best_15 : decode cX9_best 15 = .ok (.ifCond .lt 20, 3) := by decide +kernel
theorem dX9_best_18 : decode cX9_best 18 = .ok (.iload_n 2, 1) := by decide +kernel
theorem dX9_best_19 : decode cX9_best 19 = .ok (.iconst 3, 1) := by decide +kernel
theorem dX9_best_20 : decode cX9_best 20 = .ok (.if_icmp .gt 15, 3) := by decide +kernel
theorem dX9_best_23 : decode cX9_best 23 = .ok (.iload_n 2, 1) := by decide +kernel
theorem dX9_best_24 : decode cX9_best 24 = .ok (.iconst 2, 1) := by decide +kernel
theorem dX9_best_25 : decode cX9_best 25 = .ok (.if_icmp .ne 17, 3) := by decide +kernel
theorem dX9_best_28 : decode cX9_best 28 = .ok (.aload_n 0, 1) := by decide +kernel
theorem dX9_best_29 : decode cX9_best 29 = .ok (.getfield 120, 3) := by decide +kernel
theorem dX9_best_32 : decode cX9_best 32 = .ok (.ifCond .ne 10, 3) := by decide +kernel
theorem dX9_best_35 : decode cX9_best 35 = .ok (.aload_n 0, 1) := by decide +kernel
theorem dX9_best_36 : decode cX9_best 36 = .ok (.bipush (-5), 2) := by decide +kernel
theorem dX9_best_38 : decode cX9_best 38 = .ok (.invokevirtual 127, 3) := by decide +kernel
theorem dX9_best_41 : decode cX9_best 41 = .ok (.ireturn, 1) := by decide +kernel
theorem dX9_best_42 : decode cX9_best 42 = .ok (.iload_n 2, 1) := by decide +kernel
theorem dX9_best_43 : decode cX9_best 43 = .ok (.ifCond .ne 9, 3) := by decide +kernel
theorem dX9_best_46 : decode cX9_best 46 = .ok (.aload_n 0, 1) := by decide +kernel
theorem dX9_best_47 : decode cX9_best 47 = .ok (.iload_n 1, 1) := by decide +kernel
theorem dX9_best_48 : decode cX9_best 48 = .ok (.invokevirtual 305, 3) := by decide +kernel
theorem dX9_best_51 : decode cX9_best 51 = .ok (.ireturn, 1) := by decide +kernel
theorem dX9_best_52 : decode cX9_best 52 = .ok (.iload_n 2, 1) := by decide +kernel
theorem dX9_best_53 : decode cX9_best 53 = .ok (.iconst 2, 1) := by decide +kernel
theorem dX9_best_54 : decode cX9_best 54 = .ok (.if_icmp .ne 9, 3) := by decide +kernel
theorem dX9_best_57 : decode cX9_best 57 = .ok (.aload_n 0, 1) := by decide +kernel
theorem dX9_best_58 : decode cX9_best 58 = .ok (.iload_n 1, 1) := by decide +kernel
theorem dX9_best_59 : decode cX9_best 59 = .ok (.invokevirtual 308, 3) := by decide +kernel
theorem dX9_best_62 : decode cX9_best 62 = .ok (.ireturn, 1) := by decide +kernel
theorem dX9_best_63 : decode cX9_best 63 = .ok (.iload_n 2, 1) := by decide +kernel
theorem dX9_best_64 : decode cX9_best 64 = .ok (.iconst 1, 1) := by decide +kernel
theorem dX9_best_65 : decode cX9_best 65 = .ok (.if_icmp .ne 24, 3) := by decide +kernel
theorem dX9_best_68 : decode cX9_best 68 = .ok (.aload_n 0, 1) := by decide +kernel
theorem dX9_best_69 : decode cX9_best 69 = .ok (.iload_n 1, 1) := by decide +kernel
theorem dX9_best_70 : decode cX9_best 70 = .ok (.iconst 3, 1) := by decide +kernel
theorem dX9_best_71 : decode cX9_best 71 = .ok (.invokevirtual 299, 3) := by decide +kernel
theorem dX9_best_74 : decode cX9_best 74 = .ok (.aload_n 0, 1) := by decide +kernel
theorem dX9_best_75 : decode cX9_best 75 = .ok (.iload_n 1, 1) := by decide +kernel
theorem dX9_best_76 : decode cX9_best 76 = .ok (.iconst 5, 1) := by decide +kernel
theorem dX9_best_77 : decode cX9_best 77 = .ok (.invokevirtual 299, 3) := by decide +kernel
theorem dX9_best_80 : decode cX9_best 80 = .ok (.if_icmp .ge 7, 3) := by decide +kernel
theorem dX9_best_83 : decode cX9_best 83 = .ok (.iconst 1, 1) := by decide +kernel
theorem dX9_best_84 : decode cX9_best 84 = .ok (.goto 4, 3) := by decide +kernel
theorem dX9_best_87 : decode cX9_best 87 = .ok (.iconst 0, 1) := by decide +kernel
theorem dX9_best_88 : decode cX9_best 88 = .ok (.ireturn, 1) := by decide +kernel
theorem dX9_best_89 : decode cX9_best 89 = .ok (.aload_n 0, 1) := by decide +kernel
theorem dX9_best_90 : decode cX9_best 90 = .ok (.iload_n 1, 1) := by decide +kernel
theorem dX9_best_91 : decode cX9_best 91 = .ok (.iconst 1, 1) := by decide +kernel
theorem dX9_best_92 : decode cX9_best 92 = .ok (.invokevirtual 311, 3) := by decide +kernel
theorem dX9_best_95 : decode cX9_best 95 = .ok (.aload_n 0, 1) := by decide +kernel
theorem dX9_best_96 : decode cX9_best 96 = .ok (.iload_n 1, 1) := by decide +kernel
theorem dX9_best_97 : decode cX9_best 97 = .ok (.iconst 0, 1) := by decide +kernel
theorem dX9_best_98 : decode cX9_best 98 = .ok (.invokevirtual 311, 3) := by decide +kernel
theorem dX9_best_101 : decode cX9_best 101 = .ok (.if_icmp .ge 7, 3) := by decide +kernel
theorem dX9_best_104 : decode cX9_best 104 = .ok (.iconst 1, 1) := by decide +kernel
theorem dX9_best_105 : decode cX9_best 105 = .ok (.goto 4, 3) := by decide +kernel
theorem dX9_best_108 : decode cX9_best 108 = .ok (.iconst 0, 1) := by decide +kernel
theorem dX9_best_109 : decode cX9_best 109 = .ok (.ireturn, 1) := by decide +kernel
theorem dX9_gives_0 : decode cX9_gives 0 = .ok (.iload_n 2, 1) := by decide +kernel
theorem dX9_gives_1 : decode cX9_gives 1 = .ok (.iload_n 3, 1) := by decide +kernel
theorem dX9_gives_2 : decode cX9_gives 2 = .ok (.if_icmp .ne 83, 3) := by decide +kernel
theorem dX9_gives_5 : decode cX9_gives 5 = .ok (.iload_n 1, 1) := by decide +kernel
theorem dX9_gives_6 : decode cX9_gives 6 = .ok (.ifCond .ne 8, 3) := by decide +kernel
theorem dX9_gives_9 : decode cX9_gives 9 = .ok (.iload 5, 2) := by decide +kernel
theorem dX9_gives_11 : decode cX9_gives 11 = .ok (.goto 18, 3) := by decide +kernel
theorem dX9_gives_14 : decode cX9_gives 14 = .ok (.iload_n 1, 1) := by decide +kernel
theorem dX9_gives_15 : decode cX9_gives 15 = .ok (.iconst 1, 1) := by decide +kernel
theorem dX9_gives_16 : decode cX9_gives 16 = .ok (.if_icmp .ne 8, 3) := by decide +kernel
theorem dX9_gives_19 : decode cX9_gives 19 = .ok (.iload 6, 2) := by decide +kernel
theorem dX9_gives_21 : decode cX9_gives 21 = .ok (.goto 8, 3) := by decide +kernel
theorem dX9_gives_24 : decode cX9_gives 24 = .ok (.iload 6, 2) := by decide +kernel
theorem dX9_gives_26 : decode cX9_gives 26 = .ok (.iload 7, 2) := by decide +kernel
theorem dX9_gives_28 : decode cX9_gives 28 = .ok (.isub, 1) := by decide +kernel
theorem dX9_gives_29 : decode cX9_gives 29 = .ok (.istore 8, 2) := by decide +kernel
theorem dX9_gives_31 : decode cX9_gives 31 = .ok (.aload_n 0, 1) := by decide +kernel
theorem dX9_gives_32 : decode cX9_gives 32 = .ok (.getfield 314, 3) := by decide +kernel
theorem dX9_gives_35 : decode cX9_gives 35 = .ok (.iconst (-1), 1) := by decide +kernel
theorem dX9_gives_36 : decode cX9_gives 36 = .ok (.if_icmp .eq 13, 3) := by decide +kernel
theorem dX9_gives_39 : decode cX9_gives 39 = .ok (.iload 8, 2) := by decide +kernel
theorem dX9_gives_41 : decode cX9_gives 41 = .ok (.aload_n 0, 1) := by decide +kernel
theorem dX9_gives_42 : decode cX9_gives 42 = .ok (.getfield 314, 3) := by decide +kernel
theorem dX9_gives_45 : decode cX9_gives 45 = .ok (.if_icmp .lt 4, 3) := by decide +kernel
theorem dX9_gives_48 : decode cX9_gives 48 = .ok (.return_, 1) := by decide +kernel
theorem dX9_gives_49 : decode cX9_gives 49 = .ok (.aload_n 0, 1) := by decide +kernel
theorem dX9_gives_50 : decode cX9_gives 50 = .ok (.iload 8, 2) := by decide +kernel
theorem dX9_gives_52 : decode cX9_gives 52 = .ok (.putfield 314, 3) := by decide +kernel
theorem dX9_gives_55 : decode cX9_gives 55 = .ok (.iconst 0, 1) := by decide +kernel
theorem dX9_gives_56 : decode cX9_gives 56 = .ok (.istore 9, 2) := by decide +kernel
theorem dX9_gives_58 : decode cX9_gives 58 = .ok (.iload 9, 2) := by decide +kernel
theorem dX9_gives_60 : decode cX9_gives 60 = .ok (.iload_n 3, 1) := by decide +kernel
theorem dX9_gives_61 : decode cX9_gives 61 = .ok (.if_icmp .ge 23, 3) := by decide +kernel
theorem dX9_gives_64 : decode cX9_gives 64 = .ok (.aload_n 0, 1) := by decide +kernel
theorem dX9_gives_65 : decode cX9_gives 65 = .ok (.getfield 96, 3) := by decide +kernel
theorem dX9_gives_68 : decode cX9_gives 68 = .ok (.iload 9, 2) := by decide +kernel
theorem dX9_gives_70 : decode cX9_gives 70 = .ok (.aload_n 0, 1) := by decide +kernel
theorem dX9_gives_71 : decode cX9_gives 71 = .ok (.getfield 93, 3) := by decide +kernel
theorem dX9_gives_74 : decode cX9_gives 74 = .ok (.iload 9, 2) := by decide +kernel
theorem dX9_gives_76 : decode cX9_gives 76 = .ok (.iaload, 1) := by decide +kernel
theorem dX9_gives_77 : decode cX9_gives 77 = .ok (.iastore, 1) := by decide +kernel
theorem dX9_gives_78 : decode cX9_gives 78 = .ok (.iinc 9 1, 3) := by decide +kernel
theorem dX9_gives_81 : decode cX9_gives 81 = .ok (.goto (-23), 3) := by decide +kernel
theorem dX9_gives_84 : decode cX9_gives 84 = .ok (.return_, 1) := by decide +kernel
theorem dX9_gives_85 : decode cX9_gives 85 = .ok (.iconst 0, 1) := by decide +kernel
theorem dX9_gives_86 : decode cX9_gives 86 = .ok (.istore 8, 2) := by decide +kernel
theorem dX9_gives_88 : decode cX9_gives 88 = .ok (.iload 8, 2) := by decide +kernel
theorem dX9_gives_90 : decode cX9_gives 90 = .ok (.aload_n 0, 1) := by decide +kernel
theorem dX9_gives_91 : decode cX9_gives 91 = .ok (.getfield 120, 3) := by decide +kernel
theorem dX9_gives_94 : decode cX9_gives 94 = .ok (.if_icmp .ge 94, 3) := by decide +kernel
theorem dX9_gives_97 : decode cX9_gives 97 = .ok (.iload 4, 2) := by decide +kernel
theorem dX9_gives_99 : decode cX9_gives 99 = .ok (.iload 8, 2) := by decide +kernel
theorem dX9_gives_101 : decode cX9_gives 101 = .ok (.ishr, 1) := by decide +kernel
theorem dX9_gives_102 : decode cX9_gives 102 = .ok (.iconst 1, 1) := by decide +kernel
theorem dX9_gives_103 : decode cX9_gives 103 = .ok (.iand, 1) := by decide +kernel
theorem dX9_gives_104 : decode cX9_gives 104 = .ok (.iconst 1, 1) := by decide +kernel
theorem dX9_gives_105 : decode cX9_gives 105 = .ok (.if_icmp .ne 6, 3) := by decide +kernel
theorem dX9_gives_108 : decode cX9_gives 108 = .ok (.goto 74, 3) := by decide +kernel
theorem dX9_gives_111 : decode cX9_gives 111 = .ok (.aload_n 0, 1) := by decide +kernel
theorem dX9_gives_112 : decode cX9_gives 112 = .ok (.getfield 90, 3) := by decide +kernel
theorem dX9_gives_115 : decode cX9_gives 115 = .ok (.bipush 8, 2) := by decide +kernel
theorem dX9_gives_117 : decode cX9_gives 117 = .ok (.iload_n 2, 1) := by decide +kernel
theorem dX9_gives_118 : decode cX9_gives 118 = .ok (.imul, 1) := by decide +kernel
theorem dX9_gives_119 : decode cX9_gives 119 = .ok (.iload 8, 2) := by decide +kernel
theorem dX9_gives_121 : decode cX9_gives 121 = .ok (.iadd, 1) := by decide +kernel
theorem dX9_gives_122 : decode cX9_gives 122 = .ok (.iaload, 1) := by decide +kernel
theorem dX9_gives_123 : decode cX9_gives 123 = .ok (.istore 9, 2) := by decide +kernel
theorem dX9_gives_125 : decode cX9_gives 125 = .ok (.aload_n 0, 1) := by decide +kernel
theorem dX9_gives_126 : decode cX9_gives 126 = .ok (.getfield 93, 3) := by decide +kernel
theorem dX9_gives_129 : decode cX9_gives 129 = .ok (.iload_n 2, 1) := by decide +kernel
theorem dX9_gives_130 : decode cX9_gives 130 = .ok (.iload 8, 2) := by decide +kernel
theorem dX9_gives_132 : decode cX9_gives 132 = .ok (.iastore, 1) := by decide +kernel
theorem dX9_gives_133 : decode cX9_gives 133 = .ok (.aload_n 0, 1) := by decide +kernel
theorem dX9_gives_134 : decode cX9_gives 134 = .ok (.iload_n 1, 1) := by decide +kernel
theorem dX9_gives_135 : decode cX9_gives 135 = .ok (.iload_n 2, 1) := by decide +kernel
theorem dX9_gives_136 : decode cX9_gives 136 = .ok (.iconst 1, 1) := by decide +kernel
theorem dX9_gives_137 : decode cX9_gives 137 = .ok (.iadd, 1) := by decide +kernel
theorem dX9_gives_138 : decode cX9_gives 138 = .ok (.iload_n 3, 1) := by decide +kernel
theorem dX9_gives_139 : decode cX9_gives 139 = .ok (.iload 4, 2) := by decide +kernel
theorem dX9_gives_141 : decode cX9_gives 141 = .ok (.iconst 1, 1) := by decide +kernel
theorem dX9_gives_142 : decode cX9_gives 142 = .ok (.iload 8, 2) := by decide +kernel
theorem dX9_gives_144 : decode cX9_gives 144 = .ok (.ishl, 1) := by decide +kernel
theorem dX9_gives_145 : decode cX9_gives 145 = .ok (.ior, 1) := by decide +kernel
theorem dX9_gives_146 : decode cX9_gives 146 = .ok (.iload 5, 2) := by decide +kernel
theorem dX9_gives_148 : decode cX9_gives 148 = .ok (.iload 9, 2) := by decide +kernel
theorem dX9_gives_150 : decode cX9_gives 150 = .ok (.iadd, 1) := by decide +kernel
theorem dX9_gives_151 : decode cX9_gives 151 = .ok (.iload 9, 2) := by decide +kernel
theorem dX9_gives_153 : decode cX9_gives 153 = .ok (.iload 6, 2) := by decide +kernel
theorem dX9_gives_155 : decode cX9_gives 155 = .ok (.if_icmp .le 8, 3) := by decide +kernel
theorem dX9_gives_158 : decode cX9_gives 158 = .ok (.iload 9, 2) := by decide +kernel
theorem dX9_gives_160 : decode cX9_gives 160 = .ok (.goto 5, 3) := by decide +kernel
theorem dX9_gives_163 : decode cX9_gives 163 = .ok (.iload 6, 2) := by decide +kernel
theorem dX9_gives_165 : decode cX9_gives 165 = .ok (.iload 9, 2) := by decide +kernel
theorem dX9_gives_167 : decode cX9_gives 167 = .ok (.iload 7, 2) := by decide +kernel
theorem dX9_gives_169 : decode cX9_gives 169 = .ok (.if_icmp .ge 8, 3) := by decide +kernel
theorem dX9_gives_172 : decode cX9_gives 172 = .ok (.iload 9, 2) := by decide +kernel
theorem dX9_gives_174 : decode cX9_gives 174 = .ok (.goto 5, 3) := by decide +kernel
theorem dX9_gives_177 : decode cX9_gives 177 = .ok (.iload 7, 2) := by decide +kernel
theorem dX9_gives_179 : decode cX9_gives 179 = .ok (.invokevirtual 317, 3) := by decide +kernel
theorem dX9_gives_182 : decode cX9_gives 182 = .ok (.iinc 8 1, 3) := by decide +kernel
theorem dX9_gives_185 : decode cX9_gives 185 = .ok (.goto (-97), 3) := by decide +kernel
theorem dX9_gives_188 : decode cX9_gives 188 = .ok (.return_, 1) := by decide +kernel
theorem dX9_given_0 : decode cX9_given 0 = .ok (.iload_n 1, 1) := by decide +kernel
theorem dX9_given_1 : decode cX9_given 1 = .ok (.ifCond .lt 34, 3) := by decide +kernel
theorem dX9_given_4 : decode cX9_given 4 = .ok (.iload_n 1, 1) := by decide +kernel
theorem dX9_given_5 : decode cX9_given 5 = .ok (.iconst 2, 1) := by decide +kernel
theorem dX9_given_6 : decode cX9_given 6 = .ok (.if_icmp .gt 29, 3) := by decide +kernel
theorem dX9_given_9 : decode cX9_given 9 = .ok (.iload_n 2, 1) := by decide +kernel
theorem dX9_given_10 : decode cX9_given 10 = .ok (.iconst 1, 1) := by decide +kernel
theorem dX9_given_11 : decode cX9_given 11 = .ok (.if_icmp .lt 24, 3) := by decide +kernel
theorem dX9_given_14 : decode cX9_given 14 = .ok (.iload_n 2, 1) := by decide +kernel
theorem dX9_given_15 : decode cX9_given 15 = .ok (.iconst 5, 1) := by decide +kernel
theorem dX9_given_16 : decode cX9_given 16 = .ok (.if_icmp .gt 19, 3) := by decide +kernel
theorem dX9_given_19 : decode cX9_given 19 = .ok (.iload_n 2, 1) := by decide +kernel
theorem dX9_given_20 : decode cX9_given 20 = .ok (.aload_n 0, 1) := by decide +kernel
theorem dX9_given_21 : decode cX9_given 21 = .ok (.getfield 117, 3) := by decide +kernel
theorem dX9_given_24 : decode cX9_given 24 = .ok (.if_icmp .gt 11, 3) := by decide +kernel
theorem dX9_given_27 : decode cX9_given 27 = .ok (.iload_n 2, 1) := by decide +kernel
theorem dX9_given_28 : decode cX9_given 28 = .ok (.aload_n 0, 1) := by decide +kernel
theorem dX9_given_29 : decode cX9_given 29 = .ok (.getfield 120, 3) := by decide +kernel
theorem dX9_given_32 : decode cX9_given 32 = .ok (.if_icmp .le 10, 3) := by decide +kernel
theorem dX9_given_35 : decode cX9_given 35 = .ok (.aload_n 0, 1) := by decide +kernel
theorem dX9_given_36 : decode cX9_given 36 = .ok (.bipush (-6), 2) := by decide +kernel
theorem dX9_given_38 : decode cX9_given 38 = .ok (.invokevirtual 127, 3) := by decide +kernel
theorem dX9_given_41 : decode cX9_given 41 = .ok (.ireturn, 1) := by decide +kernel
theorem dX9_given_42 : decode cX9_given 42 = .ok (.iload_n 3, 1) := by decide +kernel
theorem dX9_given_43 : decode cX9_given 43 = .ok (.iconst (-1), 1) := by decide +kernel
theorem dX9_given_44 : decode cX9_given 44 = .ok (.if_icmp .lt 8, 3) := by decide +kernel
theorem dX9_given_47 : decode cX9_given 47 = .ok (.iload_n 3, 1) := by decide +kernel
theorem dX9_given_48 : decode cX9_given 48 = .ok (.iload_n 2, 1) := by decide +kernel
theorem dX9_given_49 : decode cX9_given 49 = .ok (.if_icmp .lt 10, 3) := by decide +kernel
theorem dX9_given_52 : decode cX9_given 52 = .ok (.aload_n 0, 1) := by decide +kernel
theorem dX9_given_53 : decode cX9_given 53 = .ok (.bipush (-5), 2) := by decide +kernel
theorem dX9_given_55 : decode cX9_given 55 = .ok (.invokevirtual 127, 3) := by decide +kernel
theorem dX9_given_58 : decode cX9_given 58 = .ok (.ireturn, 1) := by decide +kernel
theorem dX9_given_59 : decode cX9_given 59 = .ok (.iconst 0, 1) := by decide +kernel
theorem dX9_given_60 : decode cX9_given 60 = .ok (.istore 4, 2) := by decide +kernel
theorem dX9_given_62 : decode cX9_given 62 = .ok (.iload 4, 2) := by decide +kernel
theorem dX9_given_64 : decode cX9_given 64 = .ok (.iload_n 2, 1) := by decide +kernel
theorem dX9_given_65 : decode cX9_given 65 = .ok (.if_icmp .ge 48, 3) := by decide +kernel
theorem dX9_given_68 : decode cX9_given 68 = .ok (.iconst 0, 1) := by decide +kernel
theorem dX9_given_69 : decode cX9_given 69 = .ok (.istore 5, 2) := by decide +kernel
theorem dX9_given_71 : decode cX9_given 71 = .ok (.iload 5, 2) := by decide +kernel
theorem dX9_given_73 : decode cX9_given 73 = .ok (.aload_n 0, 1) := by decide +kernel
theorem dX9_given_74 : decode cX9_given 74 = .ok (.getfield 120, 3) := by decide +kernel
theorem dX9_given_77 : decode cX9_given 77 = .ok (.if_icmp .ge 30, 3) := by decide +kernel
theorem dX9_given_80 : decode cX9_given 80 = .ok (.aload_n 0, 1) := by decide +kernel
theorem dX9_given_81 : decode cX9_given 81 = .ok (.getfield 90, 3) := by decide +kernel
theorem dX9_given_84 : decode cX9_given 84 = .ok (.bipush 8, 2) := by decide +kernel
theorem dX9_given_86 : decode cX9_given 86 = .ok (.iload 4, 2) := by decide +kernel
theorem dX9_given_88 : decode cX9_given 88 = .ok (.imul, 1) := by decide +kernel
theorem dX9_given_89 : decode cX9_given 89 = .ok (.iload 5, 2) := by decide +kernel
theorem dX9_given_91 : decode cX9_given 91 = .ok (.iadd, 1) := by decide +kernel
theorem dX9_given_92 : decode cX9_given 92 = .ok (.aload_n 0, 1) := by decide +kernel
theorem dX9_given_93 : decode cX9_given 93 = .ok (.iload 4, 2) := by decide +kernel
theorem dX9_given_95 : decode cX9_given 95 = .ok (.iload 5, 2) := by decide +kernel
theorem dX9_given_97 : decode cX9_given 97 = .ok (.invokevirtual 302, 3) := by decide +kernel
theorem dX9_given_100 : decode cX9_given 100 = .ok (.iastore, 1) := by decide +kernel
theorem dX9_given_101 : decode cX9_given 101 = .ok (.iinc 5 1, 3) := by decide +kernel
theorem dX9_given_104 : decode cX9_given 104 = .ok (.goto (-33), 3) := by decide +kernel
theorem dX9_given_107 : decode cX9_given 107 = .ok (.iinc 4 1, 3) := by decide +kernel
theorem dX9_given_110 : decode cX9_given 110 = .ok (.goto (-48), 3) := by decide +kernel
theorem dX9_given_113 : decode cX9_given 113 = .ok (.aload_n 0, 1) := by decide +kernel
theorem dX9_given_114 : decode cX9_given 114 = .ok (.iconst (-1), 1) := by decide +kernel
theorem dX9_given_115 : decode cX9_given 115 = .ok (.putfield 314, 3) := by decide +kernel
theorem dX9_given_118 : decode cX9_given 118 = .ok (.aload_n 0, 1) := by decide +kernel
theorem dX9_given_119 : decode cX9_given 119 = .ok (.iload_n 1, 1) := by decide +kernel
theorem dX9_given_120 : decode cX9_given 120 = .ok (.iconst 0, 1) := by decide +kernel
theorem dX9_given_121 : decode cX9_given 121 = .ok (.iload_n 2, 1) := by decide +kernel
theorem dX9_given_122 : decode cX9_given 122 = .ok (.iconst 0, 1) := by decide +kernel
theorem dX9_given_123 : decode cX9_given 123 = .ok (.iconst 0, 1) := by decide +kernel
theorem dX9_given_124 : decode cX9_given 124 = .ok (.iconst 0, 1) := by decide +kernel
theorem dX9_given_125 : decode cX9_given 125 = .ok (.sipush 999, 3) := by decide +kernel
theorem dX9_given_128 : decode cX9_given 128 = .ok (.invokevirtual 317, 3) := by decide +kernel
theorem dX9_given_131 : decode cX9_given 131 = .ok (.iload_n 3, 1) := by decide +kernel
theorem dX9_given_132 : decode cX9_given 132 = .ok (.iconst (-1), 1) := by decide +kernel
theorem dX9_given_133 : decode cX9_given 133 = .ok (.if_icmp .ne 10, 3) := by decide +kernel
theorem dX9_given_136 : decode cX9_given 136 = .ok (.aload_n 0, 1) := by decide +kernel
theorem dX9_given_137 : decode cX9_given 137 = .ok (.getfield 314, 3) := by decide +kernel
theorem dX9_given_140 : decode cX9_given 140 = .ok (.goto 9, 3) := by decide +kernel
theorem dX9_given_143 : decode cX9_given 143 = .ok (.aload_n 0, 1) := by decide +kernel
theorem dX9_given_144 : decode cX9_given 144 = .ok (.getfield 96, 3) := by decide +kernel
theorem dX9_given_147 : decode cX9_given 147 = .ok (.iload_n 3, 1) := by decide +kernel
theorem dX9_given_148 : decode cX9_given 148 = .ok (.iaload, 1) := by decide +kernel
theorem dX9_given_149 : decode cX9_given 149 = .ok (.ireturn, 1) := by decide +kernel
theorem dX9_twoIn_0 : decode cX9_twoIn 0 = .ok (.aload_n 0, 1) := by decide +kernel
theorem dX9_twoIn_1 : decode cX9_twoIn 1 = .ok (.iload_n 1, 1) := by decide +kernel
theorem dX9_twoIn_2 : decode cX9_twoIn 2 = .ok (.invokevirtual 134, 3) := by decide +kernel
theorem dX9_twoIn_5 : decode cX9_twoIn 5 = .ok (.aload_n 0, 1) := by decide +kernel
theorem dX9_twoIn_6 : decode cX9_twoIn 6 = .ok (.aload_n 0, 1) := by decide +kernel
theorem dX9_twoIn_7 : decode cX9_twoIn 7 = .ok (.getfield 38, 3) := by decide +kernel
theorem dX9_twoIn_10 : decode cX9_twoIn 10 = .ok (.iload_n 2, 1) := by decide +kernel
theorem dX9_twoIn_11 : decode cX9_twoIn 11 = .ok (.iaload, 1) := by decide +kernel
theorem dX9_twoIn_12 : decode cX9_twoIn 12 = .ok (.aload_n 0, 1) := by decide +kernel
theorem dX9_twoIn_13 : decode cX9_twoIn 13 = .ok (.getfield 38, 3) := by decide +kernel
theorem dX9_twoIn_16 : decode cX9_twoIn 16 = .ok (.iload_n 1, 1) := by decide +kernel
theorem dX9_twoIn_17 : decode cX9_twoIn 17 = .ok (.iaload, 1) := by decide +kernel
theorem dX9_twoIn_18 : decode cX9_twoIn 18 = .ok (.if_icmp .ge 12, 3) := by decide +kernel
theorem dX9_twoIn_21 : decode cX9_twoIn 21 = .ok (.aload_n 0, 1) := by decide +kernel
theorem dX9_twoIn_22 : decode cX9_twoIn 22 = .ok (.getfield 38, 3) := by decide +kernel
theorem dX9_twoIn_25 : decode cX9_twoIn 25 = .ok (.iload_n 2, 1) := by decide +kernel
theorem dX9_twoIn_26 : decode cX9_twoIn 26 = .ok (.iaload, 1) := by decide +kernel
theorem dX9_twoIn_27 : decode cX9_twoIn 27 = .ok (.goto 9, 3) := by decide +kernel
theorem dX9_twoIn_30 : decode cX9_twoIn 30 = .ok (.aload_n 0, 1) := by decide +kernel
theorem dX9_twoIn_31 : decode cX9_twoIn 31 = .ok (.getfield 38, 3) := by decide +kernel
theorem dX9_twoIn_34 : decode cX9_twoIn 34 = .ok (.iload_n 1, 1) := by decide +kernel
theorem dX9_twoIn_35 : decode cX9_twoIn 35 = .ok (.iaload, 1) := by decide +kernel
theorem dX9_twoIn_36 : decode cX9_twoIn 36 = .ok (.putfield 230, 3) := by decide +kernel
theorem dX9_twoIn_39 : decode cX9_twoIn 39 = .ok (.aload_n 0, 1) := by decide +kernel
theorem dX9_twoIn_40 : decode cX9_twoIn 40 = .ok (.iload_n 3, 1) := by decide +kernel
theorem dX9_twoIn_41 : decode cX9_twoIn 41 = .ok (.invokevirtual 239, 3) := by decide +kernel
theorem dX9_twoIn_44 : decode cX9_twoIn 44 = .ok (.aload_n 0, 1) := by decide +kernel
theorem dX9_twoIn_45 : decode cX9_twoIn 45 = .ok (.dup, 1) := by decide +kernel
theorem dX9_twoIn_46 : decode cX9_twoIn 46 = .ok (.getfield 245, 3) := by decide +kernel
theorem dX9_twoIn_49 : decode cX9_twoIn 49 = .ok (.aload_n 0, 1) := by decide +kernel
theorem dX9_twoIn_50 : decode cX9_twoIn 50 = .ok (.aload_n 0, 1) := by decide +kernel
theorem dX9_twoIn_51 : decode cX9_twoIn 51 = .ok (.getfield 38, 3) := by decide +kernel
theorem dX9_twoIn_54 : decode cX9_twoIn 54 = .ok (.iload_n 1, 1) := by decide +kernel
theorem dX9_twoIn_55 : decode cX9_twoIn 55 = .ok (.iaload, 1) := by decide +kernel
theorem dX9_twoIn_56 : decode cX9_twoIn 56 = .ok (.aload_n 0, 1) := by decide +kernel
theorem dX9_twoIn_57 : decode cX9_twoIn 57 = .ok (.getfield 38, 3) := by decide +kernel
theorem dX9_twoIn_60 : decode cX9_twoIn 60 = .ok (.iload_n 2, 1) := by decide +kernel
theorem dX9_twoIn_61 : decode cX9_twoIn 61 = .ok (.iaload, 1) := by decide +kernel
theorem dX9_twoIn_62 : decode cX9_twoIn 62 = .ok (.isub, 1) := by decide +kernel
theorem dX9_twoIn_63 : decode cX9_twoIn 63 = .ok (.invokevirtual 242, 3) := by decide +kernel
theorem dX9_twoIn_66 : decode cX9_twoIn 66 = .ok (.iadd, 1) := by decide +kernel
theorem dX9_twoIn_67 : decode cX9_twoIn 67 = .ok (.putfield 245, 3) := by decide +kernel
theorem dX9_twoIn_70 : decode cX9_twoIn 70 = .ok (.aload_n 0, 1) := by decide +kernel
theorem dX9_twoIn_71 : decode cX9_twoIn 71 = .ok (.invokevirtual 290, 3) := by decide +kernel
theorem dX9_twoIn_74 : decode cX9_twoIn 74 = .ok (.ireturn, 1) := by decide +kernel
theorem dX9_two_0 : decode cX9_two 0 = .ok (.aload_n 0, 1) := by decide +kernel
theorem dX9_two_1 : decode cX9_two 1 = .ok (.iload_n 1, 1) := by decide +kernel
theorem dX9_two_2 : decode cX9_two 2 = .ok (.invokevirtual 131, 3) := by decide +kernel
theorem dX9_two_5 : decode cX9_two 5 = .ok (.ifCond .eq 19, 3) := by decide +kernel
theorem dX9_two_8 : decode cX9_two 8 = .ok (.aload_n 0, 1) := by decide +kernel
theorem dX9_two_9 : decode cX9_two 9 = .ok (.iload_n 2, 1) := by decide +kernel
theorem dX9_two_10 : decode cX9_two 10 = .ok (.invokevirtual 131, 3) := by decide +kernel
theorem dX9_two_13 : decode cX9_two 13 = .ok (.ifCond .eq 11, 3) := by decide +kernel
theorem dX9_two_16 : decode cX9_two 16 = .ok (.aload_n 0, 1) := by decide +kernel
theorem dX9_two_17 : decode cX9_two 17 = .ok (.iload_n 3, 1) := by decide +kernel
theorem dX9_two_18 : decode cX9_two 18 = .ok (.invokevirtual 156, 3) := by decide +kernel
theorem dX9_two_21 : decode cX9_two 21 = .ok (.ifCond .ne 9, 3) := by decide +kernel
theorem dX9_two_24 : decode cX9_two 24 = .ok (.aload_n 0, 1) := by decide +kernel
theorem dX9_two_25 : decode cX9_two 25 = .ok (.iconst (-1), 1) := by decide +kernel
theorem dX9_two_26 : decode cX9_two 26 = .ok (.invokevirtual 127, 3) := by decide +kernel
theorem dX9_two_29 : decode cX9_two 29 = .ok (.ireturn, 1) := by decide +kernel
theorem dX9_two_30 : decode cX9_two 30 = .ok (.iload_n 1, 1) := by decide +kernel
theorem dX9_two_31 : decode cX9_two 31 = .ok (.iload_n 2, 1) := by decide +kernel
theorem dX9_two_32 : decode cX9_two 32 = .ok (.if_icmp .ne 12, 3) := by decide +kernel
theorem dX9_two_35 : decode cX9_two 35 = .ok (.aload_n 0, 1) := by decide +kernel
theorem dX9_two_36 : decode cX9_two 36 = .ok (.bipush (-6), 2) := by decide +kernel
theorem dX9_two_38 : decode cX9_two 38 = .ok (.invokevirtual 127, 3) := by decide +kernel
theorem dX9_two_41 : decode cX9_two 41 = .ok (.goto 10, 3) := by decide +kernel
theorem dX9_two_44 : decode cX9_two 44 = .ok (.aload_n 0, 1) := by decide +kernel
theorem dX9_two_45 : decode cX9_two 45 = .ok (.iload_n 1, 1) := by decide +kernel
theorem dX9_two_46 : decode cX9_two 46 = .ok (.iload_n 2, 1) := by decide +kernel
theorem dX9_two_47 : decode cX9_two 47 = .ok (.iload_n 3, 1) := by decide +kernel
theorem dX9_two_48 : decode cX9_two 48 = .ok (.invokevirtual 321, 3) := by decide +kernel
theorem dX9_two_51 : decode cX9_two 51 = .ok (.ireturn, 1) := by decide +kernel
theorem dX9_pair_0 : decode cX9_pair 0 = .ok (.aload_n 0, 1) := by decide +kernel
theorem dX9_pair_1 : decode cX9_pair 1 = .ok (.getfield 117, 3) := by decide +kernel
theorem dX9_pair_4 : decode cX9_pair 4 = .ok (.iconst 2, 1) := by decide +kernel
theorem dX9_pair_5 : decode cX9_pair 5 = .ok (.if_icmp .lt 10, 3) := by decide +kernel
theorem dX9_pair_8 : decode cX9_pair 8 = .ok (.aload_n 0, 1) := by decide +kernel
theorem dX9_pair_9 : decode cX9_pair 9 = .ok (.getfield 120, 3) := by decide +kernel
theorem dX9_pair_12 : decode cX9_pair 12 = .ok (.ifCond .ne 10, 3) := by decide +kernel
theorem dX9_pair_15 : decode cX9_pair 15 = .ok (.aload_n 0, 1) := by decide +kernel
theorem dX9_pair_16 : decode cX9_pair 16 = .ok (.bipush (-5), 2) := by decide +kernel
theorem dX9_pair_18 : decode cX9_pair 18 = .ok (.invokevirtual 127, 3) := by decide +kernel
theorem dX9_pair_21 : decode cX9_pair 21 = .ok (.ireturn, 1) := by decide +kernel
theorem dX9_pair_22 : decode cX9_pair 22 = .ok (.iconst (-1), 1) := by decide +kernel
theorem dX9_pair_23 : decode cX9_pair 23 = .ok (.istore_n 1, 1) := by decide +kernel
theorem dX9_pair_24 : decode cX9_pair 24 = .ok (.iconst 0, 1) := by decide +kernel
theorem dX9_pair_25 : decode cX9_pair 25 = .ok (.istore_n 2, 1) := by decide +kernel
theorem dX9_pair_26 : decode cX9_pair 26 = .ok (.iconst 0, 1) := by decide +kernel
theorem dX9_pair_27 : decode cX9_pair 27 = .ok (.istore_n 3, 1) := by decide +kernel
theorem dX9_pair_28 : decode cX9_pair 28 = .ok (.iload_n 3, 1) := by decide +kernel
theorem dX9_pair_29 : decode cX9_pair 29 = .ok (.aload_n 0, 1) := by decide +kernel
theorem dX9_pair_30 : decode cX9_pair 30 = .ok (.getfield 117, 3) := by decide +kernel
theorem dX9_pair_33 : decode cX9_pair 33 = .ok (.if_icmp .ge 69, 3) := by decide +kernel
theorem dX9_pair_36 : decode cX9_pair 36 = .ok (.iload_n 3, 1) := by decide +kernel
theorem dX9_pair_37 : decode cX9_pair 37 = .ok (.iconst 1, 1) := by decide +kernel
theorem dX9_pair_38 : decode cX9_pair 38 = .ok (.iadd, 1) := by decide +kernel
theorem dX9_pair_39 : decode cX9_pair 39 = .ok (.istore 4, 2) := by decide +kernel
theorem dX9_pair_41 : decode cX9_pair 41 = .ok (.iload 4, 2) := by decide +kernel
theorem dX9_pair_43 : decode cX9_pair 43 = .ok (.aload_n 0, 1) := by decide +kernel
theorem dX9_pair_44 : decode cX9_pair 44 = .ok (.getfield 117, 3) := by decide +kernel
theorem dX9_pair_47 : decode cX9_pair 47 = .ok (.if_icmp .ge 49, 3) := by decide +kernel
theorem dX9_pair_50 : decode cX9_pair 50 = .ok (.aload_n 0, 1) := by decide +kernel
theorem dX9_pair_51 : decode cX9_pair 51 = .ok (.iload_n 3, 1) := by decide +kernel
theorem dX9_pair_52 : decode cX9_pair 52 = .ok (.iload 4, 2) := by decide +kernel
theorem dX9_pair_54 : decode cX9_pair 54 = .ok (.aload_n 0, 1) := by decide +kernel
theorem dX9_pair_55 : decode cX9_pair 55 = .ok (.getfield 41, 3) := by decide +kernel
theorem dX9_pair_58 : decode cX9_pair 58 = .ok (.iload_n 3, 1) := by decide +kernel
theorem dX9_pair_59 : decode cX9_pair 59 = .ok (.iaload, 1) := by decide +kernel
theorem dX9_pair_60 : decode cX9_pair 60 = .ok (.invokevirtual 321, 3) := by decide +kernel
theorem dX9_pair_63 : decode cX9_pair 63 = .ok (.istore 5, 2) := by decide +kernel
theorem dX9_pair_65 : decode cX9_pair 65 = .ok (.iload_n 1, 1) := by decide +kernel
theorem dX9_pair_66 : decode cX9_pair 66 = .ok (.iconst (-1), 1) := by decide +kernel
theorem dX9_pair_67 : decode cX9_pair 67 = .ok (.if_icmp .eq 12, 3) := by decide +kernel
theorem dX9_pair_70 : decode cX9_pair 70 = .ok (.iload 5, 2) := by decide +kernel
theorem dX9_pair_72 : decode cX9_pair 72 = .ok (.iload_n 2, 1) := by decide +kernel
theorem dX9_pair_73 : decode cX9_pair 73 = .ok (.if_icmp .lt 6, 3) := by decide +kernel
theorem dX9_pair_76 : decode cX9_pair 76 = .ok (.goto 14, 3) := by decide +kernel
theorem dX9_pair_79 : decode cX9_pair 79 = .ok (.bipush 100, 2) := by decide +kernel
theorem dX9_pair_81 : decode cX9_pair 81 = .ok (.iload_n 3, 1) := by decide +kernel
theorem dX9_pair_82 : decode cX9_pair 82 = .ok (.imul, 1) := by decide +kernel
theorem dX9_pair_83 : decode cX9_pair 83 = .ok (.iload 4, 2) := by decide +kernel
theorem dX9_pair_85 : decode cX9_pair 85 = .ok (.iadd, 1) := by decide +kernel
theorem dX9_pair_86 : decode cX9_pair 86 = .ok (.istore_n 1, 1) := by decide +kernel
theorem dX9_pair_87 : decode cX9_pair 87 = .ok (.iload 5, 2) := by decide +kernel
theorem dX9_pair_89 : decode cX9_pair 89 = .ok (.istore_n 2, 1) := by decide +kernel
theorem dX9_pair_90 : decode cX9_pair 90 = .ok (.iinc 4 1, 3) := by decide +kernel
theorem dX9_pair_93 : decode cX9_pair 93 = .ok (.goto (-52), 3) := by decide +kernel
theorem dX9_pair_96 : decode cX9_pair 96 = .ok (.iinc 3 1, 3) := by decide +kernel
theorem dX9_pair_99 : decode cX9_pair 99 = .ok (.goto (-71), 3) := by decide +kernel
theorem dX9_pair_102 : decode cX9_pair 102 = .ok (.iload_n 1, 1) := by decide +kernel
theorem dX9_pair_103 : decode cX9_pair 103 = .ok (.ireturn, 1) := by decide +kernel
theorem dX9_startOf_0 : decode cX9_startOf 0 = .ok (.iconst 0, 1) := by decide +kernel
theorem dX9_startOf_1 : decode cX9_startOf 1 = .ok (.istore_n 3, 1) := by decide +kernel
theorem dX9_startOf_2 : decode cX9_startOf 2 = .ok (.iload_n 3, 1) := by decide +kernel
theorem dX9_startOf_3 : decode cX9_startOf 3 = .ok (.bipush 100, 2) := by decide +kernel
theorem dX9_startOf_5 : decode cX9_startOf 5 = .ok (.if_icmp .ge 21, 3) := by decide +kernel
theorem dX9_startOf_8 : decode cX9_startOf 8 = .ok (.aload_n 0, 1) := by decide +kernel
theorem dX9_startOf_9 : decode cX9_startOf 9 = .ok (.iload_n 1, 1) := by decide +kernel
theorem dX9_startOf_10 : decode cX9_startOf 10 = .ok (.iload_n 3, 1) := by decide +kernel
theorem dX9_startOf_11 : decode cX9_startOf 11 = .ok (.invokevirtual 324, 3) := by decide +kernel
theorem dX9_startOf_14 : decode cX9_startOf 14 = .ok (.iload_n 2, 1) := by decide +kernel
theorem dX9_startOf_15 : decode cX9_startOf 15 = .ok (.if_icmp .gt 5, 3) := by decide +kernel
theorem dX9_startOf_18 : decode cX9_startOf 18 = .ok (.iload_n 3, 1) := by decide +kernel
theorem dX9_startOf_19 : decode cX9_startOf 19 = .ok (.ireturn, 1) := by decide +kernel
theorem dX9_startOf_20 : decode cX9_startOf 20 = .ok (.iinc 3 1, 3) := by decide +kernel
theorem dX9_startOf_23 : decode cX9_startOf 23 = .ok (.goto (-21), 3) := by decide +kernel
theorem dX9_startOf_26 : decode cX9_startOf 26 = .ok (.iconst (-1), 1) := by decide +kernel
theorem dX9_startOf_27 : decode cX9_startOf 27 = .ok (.ireturn, 1) := by decide +kernel
theorem dX9_start_0 : decode cX9_start 0 = .ok (.aload_n 0, 1) := by decide +kernel
theorem dX9_start_1 : decode cX9_start 1 = .ok (.iload_n 1, 1) := by decide +kernel
theorem dX9_start_2 : decode cX9_start 2 = .ok (.invokevirtual 131, 3) := by decide +kernel
theorem dX9_start_5 : decode cX9_start 5 = .ok (.ifCond .eq 24, 3) := by decide +kernel
theorem dX9_start_8 : decode cX9_start 8 = .ok (.aload_n 0, 1) := by decide +kernel
theorem dX9_start_9 : decode cX9_start 9 = .ok (.iload_n 2, 1) := by decide +kernel
theorem dX9_start_10 : decode cX9_start 10 = .ok (.invokevirtual 131, 3) := by decide +kernel
theorem dX9_start_13 : decode cX9_start 13 = .ok (.ifCond .eq 16, 3) := by decide +kernel
theorem dX9_start_16 : decode cX9_start 16 = .ok (.aload_n 0, 1) := by decide +kernel
theorem dX9_start_17 : decode cX9_start 17 = .ok (.iload_n 1, 1) := by decide +kernel
theorem dX9_start_18 : decode cX9_start 18 = .ok (.aload_n 0, 1) := by decide +kernel
theorem dX9_start_19 : decode cX9_start 19 = .ok (.iload_n 2, 1) := by decide +kernel
theorem dX9_start_20 : decode cX9_start 20 = .ok (.invokevirtual 293, 3) := by decide +kernel
theorem dX9_start_23 : decode cX9_start 23 = .ok (.invokevirtual 327, 3) := by decide +kernel
theorem dX9_start_26 : decode cX9_start 26 = .ok (.goto 8, 3) := by decide +kernel
theorem dX9_start_29 : decode cX9_start 29 = .ok (.aload_n 0, 1) := by decide +kernel
theorem dX9_start_30 : decode cX9_start 30 = .ok (.iconst (-1), 1) := by decide +kernel
theorem dX9_start_31 : decode cX9_start 31 = .ok (.invokevirtual 330, 3) := by decide +kernel
theorem dX9_start_34 : decode cX9_start 34 = .ok (.ireturn, 1) := by decide +kernel
theorem dX9_atOnce_0 : decode cX9_atOnce 0 = .ok (.aload_n 0, 1) := by decide +kernel
theorem dX9_atOnce_1 : decode cX9_atOnce 1 = .ok (.getfield 117, 3) := by decide +kernel
theorem dX9_atOnce_4 : decode cX9_atOnce 4 = .ok (.ifCond .ne 5, 3) := by decide +kernel
theorem dX9_atOnce_7 : decode cX9_atOnce 7 = .ok (.iconst 0, 1) := by decide +kernel
theorem dX9_atOnce_8 : decode cX9_atOnce 8 = .ok (.ireturn, 1) := by decide +kernel
theorem dX9_atOnce_9 : decode cX9_atOnce 9 = .ok (.aload_n 0, 1) := by decide +kernel
theorem dX9_atOnce_10 : decode cX9_atOnce 10 = .ok (.aload_n 0, 1) := by decide +kernel
theorem dX9_atOnce_11 : decode cX9_atOnce 11 = .ok (.invokevirtual 296, 3) := by decide +kernel
theorem dX9_atOnce_14 : decode cX9_atOnce 14 = .ok (.invokevirtual 293, 3) := by decide +kernel
theorem dX9_atOnce_17 : decode cX9_atOnce 17 = .ok (.istore_n 1, 1) := by decide +kernel
theorem dX9_atOnce_18 : decode cX9_atOnce 18 = .ok (.iconst 0, 1) := by decide +kernel
theorem dX9_atOnce_19 : decode cX9_atOnce 19 = .ok (.istore_n 2, 1) := by decide +kernel
theorem dX9_atOnce_20 : decode cX9_atOnce 20 = .ok (.iconst 0, 1) := by decide +kernel
theorem dX9_atOnce_21 : decode cX9_atOnce 21 = .ok (.istore_n 3, 1) := by decide +kernel
theorem dX9_atOnce_22 : decode cX9_atOnce 22 = .ok (.iload_n 3, 1) := by decide +kernel
theorem dX9_atOnce_23 : decode cX9_atOnce 23 = .ok (.aload_n 0, 1) := by decide +kernel
theorem dX9_atOnce_24 : decode cX9_atOnce 24 = .ok (.getfield 117, 3) := by decide +kernel
theorem dX9_atOnce_27 : decode cX9_atOnce 27 = .ok (.if_icmp .ge 30, 3) := by decide +kernel
theorem dX9_atOnce_30 : decode cX9_atOnce 30 = .ok (.aload_n 0, 1) := by decide +kernel
theorem dX9_atOnce_31 : decode cX9_atOnce 31 = .ok (.iload_n 3, 1) := by decide +kernel
theorem dX9_atOnce_32 : decode cX9_atOnce 32 = .ok (.iload_n 1, 1) := by decide +kernel
theorem dX9_atOnce_33 : decode cX9_atOnce 33 = .ok (.invokevirtual 327, 3) := by decide +kernel
theorem dX9_atOnce_36 : decode cX9_atOnce 36 = .ok (.istore 4, 2) := by decide +kernel
theorem dX9_atOnce_38 : decode cX9_atOnce 38 = .ok (.iload 4, 2) := by decide +kernel
theorem dX9_atOnce_40 : decode cX9_atOnce 40 = .ok (.iconst (-1), 1) := by decide +kernel
theorem dX9_atOnce_41 : decode cX9_atOnce 41 = .ok (.if_icmp .ne 5, 3) := by decide +kernel
theorem dX9_atOnce_44 : decode cX9_atOnce 44 = .ok (.iconst (-1), 1) := by decide +kernel
theorem dX9_atOnce_45 : decode cX9_atOnce 45 = .ok (.ireturn, 1) := by decide +kernel
theorem dX9_atOnce_46 : decode cX9_atOnce 46 = .ok (.iload_n 2, 1) := by decide +kernel
theorem dX9_atOnce_47 : decode cX9_atOnce 47 = .ok (.iload 4, 2) := by decide +kernel
theorem dX9_atOnce_49 : decode cX9_atOnce 49 = .ok (.iadd, 1) := by decide +kernel
theorem dX9_atOnce_50 : decode cX9_atOnce 50 = .ok (.istore_n 2, 1) := by decide +kernel
theorem dX9_atOnce_51 : decode cX9_atOnce 51 = .ok (.iinc 3 1, 3) := by decide +kernel
theorem dX9_atOnce_54 : decode cX9_atOnce 54 = .ok (.goto (-32), 3) := by decide +kernel
theorem dX9_atOnce_57 : decode cX9_atOnce 57 = .ok (.iload_n 2, 1) := by decide +kernel
theorem dX9_atOnce_58 : decode cX9_atOnce 58 = .ok (.ireturn, 1) := by decide +kernel
theorem dX9_heats_0 : decode cX9_heats 0 = .ok (.iload_n 2, 1) := by decide +kernel
theorem dX9_heats_1 : decode cX9_heats 1 = .ok (.ifCond .lt 15, 3) := by decide +kernel
theorem dX9_heats_4 : decode cX9_heats 4 = .ok (.iload_n 2, 1) := by decide +kernel
theorem dX9_heats_5 : decode cX9_heats 5 = .ok (.iconst 1, 1) := by decide +kernel
theorem dX9_heats_6 : decode cX9_heats 6 = .ok (.if_icmp .gt 10, 3) := by decide +kernel
theorem dX9_heats_9 : decode cX9_heats 9 = .ok (.aload_n 0, 1) := by decide +kernel
theorem dX9_heats_10 : decode cX9_heats 10 = .ok (.getfield 117, 3) := by decide +kernel
theorem dX9_heats_13 : decode cX9_heats 13 = .ok (.ifCond .ne 10, 3) := by decide +kernel
theorem dX9_heats_16 : decode cX9_heats 16 = .ok (.aload_n 0, 1) := by decide +kernel
theorem dX9_heats_17 : decode cX9_heats 17 = .ok (.bipush (-5), 2) := by decide +kernel
theorem dX9_heats_19 : decode cX9_heats 19 = .ok (.invokevirtual 127, 3) := by decide +kernel
theorem dX9_heats_22 : decode cX9_heats 22 = .ok (.ireturn, 1) := by decide +kernel
theorem dX9_heats_23 : decode cX9_heats 23 = .ok (.iload_n 1, 1) := by decide +kernel
theorem dX9_heats_24 : decode cX9_heats 24 = .ok (.iconst 2, 1) := by decide +kernel
theorem dX9_heats_25 : decode cX9_heats 25 = .ok (.if_icmp .lt 8, 3) := by decide +kernel
theorem dX9_heats_28 : decode cX9_heats 28 = .ok (.iload_n 1, 1) := by decide +kernel
theorem dX9_heats_29 : decode cX9_heats 29 = .ok (.iconst 4, 1) := by decide +kernel
theorem dX9_heats_30 : decode cX9_heats 30 = .ok (.if_icmp .le 10, 3) := by decide +kernel
theorem dX9_heats_33 : decode cX9_heats 33 = .ok (.aload_n 0, 1) := by decide +kernel
theorem dX9_heats_34 : decode cX9_heats 34 = .ok (.bipush (-6), 2) := by decide +kernel
theorem dX9_heats_36 : decode cX9_heats 36 = .ok (.invokevirtual 127, 3) := by decide +kernel
theorem dX9_heats_39 : decode cX9_heats 39 = .ok (.ireturn, 1) := by decide +kernel
theorem dX9_heats_40 : decode cX9_heats 40 = .ok (.aload_n 0, 1) := by decide +kernel
theorem dX9_heats_41 : decode cX9_heats 41 = .ok (.getfield 117, 3) := by decide +kernel
theorem dX9_heats_44 : decode cX9_heats 44 = .ok (.istore_n 3, 1) := by decide +kernel
theorem dX9_heats_45 : decode cX9_heats 45 = .ok (.iconst 0, 1) := by decide +kernel
theorem dX9_heats_46 : decode cX9_heats 46 = .ok (.istore 4, 2) := by decide +kernel
theorem dX9_heats_48 : decode cX9_heats 48 = .ok (.iconst 0, 1) := by decide +kernel
theorem dX9_heats_49 : decode cX9_heats 49 = .ok (.istore 5, 2) := by decide +kernel
theorem dX9_heats_51 : decode cX9_heats 51 = .ok (.iload 5, 2) := by decide +kernel
theorem dX9_heats_53 : decode cX9_heats 53 = .ok (.aload_n 0, 1) := by decide +kernel
theorem dX9_heats_54 : decode cX9_heats 54 = .ok (.getfield 117, 3) := by decide +kernel
theorem dX9_heats_57 : decode cX9_heats 57 = .ok (.if_icmp .ge 18, 3) := by decide +kernel
theorem dX9_heats_60 : decode cX9_heats 60 = .ok (.aload_n 0, 1) := by decide +kernel
theorem dX9_heats_61 : decode cX9_heats 61 = .ok (.getfield 99, 3) := by decide +kernel
theorem dX9_heats_64 : decode cX9_heats 64 = .ok (.iload 5, 2) := by decide +kernel
theorem dX9_heats_66 : decode cX9_heats 66 = .ok (.iload 5, 2) := by decide +kernel
theorem dX9_heats_68 : decode cX9_heats 68 = .ok (.iastore, 1) := by decide +kernel
theorem dX9_heats_69 : decode cX9_heats 69 = .ok (.iinc 5 1, 3) := by decide +kernel
theorem dX9_heats_72 : decode cX9_heats 72 = .ok (.goto (-21), 3) := by decide +kernel
theorem dX9_heats_75 : decode cX9_heats 75 = .ok (.iload_n 3, 1) := by decide +kernel
theorem dX9_heats_76 : decode cX9_heats 76 = .ok (.iconst 1, 1) := by decide +kernel
theorem dX9_heats_77 : decode cX9_heats 77 = .ok (.if_icmp .le 110, 3) := by decide +kernel
theorem dX9_heats_80 : decode cX9_heats 80 = .ok (.iconst 0, 1) := by decide +kernel
theorem dX9_heats_81 : decode cX9_heats 81 = .ok (.istore 5, 2) := by decide +kernel
theorem dX9_heats_83 : decode cX9_heats 83 = .ok (.iconst 0, 1) := by decide +kernel
theorem dX9_heats_84 : decode cX9_heats 84 = .ok (.istore 6, 2) := by decide +kernel
theorem dX9_heats_86 : decode cX9_heats 86 = .ok (.iload 6, 2) := by decide +kernel
theorem dX9_heats_88 : decode cX9_heats 88 = .ok (.iload_n 3, 1) := by decide +kernel
theorem dX9_heats_89 : decode cX9_heats 89 = .ok (.if_icmp .ge 92, 3) := by decide +kernel
theorem dX9_heats_92 : decode cX9_heats 92 = .ok (.aload_n 0, 1) := by decide +kernel
theorem dX9_heats_93 : decode cX9_heats 93 = .ok (.getfield 99, 3) := by decide +kernel
theorem dX9_heats_96 : decode cX9_heats 96 = .ok (.iload 6, 2) := by decide +kernel
theorem dX9_heats_98 : decode cX9_heats 98 = .ok (.iaload, 1) := by decide +kernel
theorem dX9_heats_99 : decode cX9_heats 99 = .ok (.istore 7, 2) := by decide +kernel
theorem dX9_heats_101 : decode cX9_heats 101 = .ok (.iload 6, 2) := by decide +kernel
theorem dX9_heats_103 : decode cX9_heats 103 = .ok (.iconst 1, 1) := by decide +kernel
theorem dX9_heats_104 : decode cX9_heats 104 = .ok (.iadd, 1) := by decide +kernel
theorem dX9_heats_105 : decode cX9_heats 105 = .ok (.istore 8, 2) := by decide +kernel
theorem dX9_heats_107 : decode cX9_heats 107 = .ok (.iload 8, 2) := by decide +kernel
theorem dX9_heats_109 : decode cX9_heats 109 = .ok (.iload_n 3, 1) := by decide +kernel
theorem dX9_heats_110 : decode cX9_heats 110 = .ok (.if_icmp .ge 47, 3) := by decide +kernel
theorem dX9_heats_113 : decode cX9_heats 113 = .ok (.iload 8, 2) := by decide +kernel
theorem dX9_heats_115 : decode cX9_heats 115 = .ok (.iload 6, 2) := by decide +kernel
theorem dX9_heats_117 : decode cX9_heats 117 = .ok (.iload_n 1, 1) := by decide +kernel
theorem dX9_heats_118 : decode cX9_heats 118 = .ok (.iadd, 1) := by decide +kernel
theorem dX9_heats_119 : decode cX9_heats 119 = .ok (.if_icmp .ge 38, 3) := by decide +kernel
theorem dX9_heats_122 : decode cX9_heats 122 = .ok (.aload_n 0, 1) := by decide +kernel
theorem dX9_heats_123 : decode cX9_heats 123 = .ok (.aload_n 0, 1) := by decide +kernel
theorem dX9_heats_124 : decode cX9_heats 124 = .ok (.getfield 99, 3) := by decide +kernel
theorem dX9_heats_127 : decode cX9_heats 127 = .ok (.iload 8, 2) := by decide +kernel
theorem dX9_heats_129 : decode cX9_heats 129 = .ok (.iaload, 1) := by decide +kernel
theorem dX9_heats_130 : decode cX9_heats 130 = .ok (.invokevirtual 293, 3) := by decide +kernel
theorem dX9_heats_133 : decode cX9_heats 133 = .ok (.aload_n 0, 1) := by decide +kernel
theorem dX9_heats_134 : decode cX9_heats 134 = .ok (.iload 7, 2) := by decide +kernel
theorem dX9_heats_136 : decode cX9_heats 136 = .ok (.invokevirtual 293, 3) := by decide +kernel
theorem dX9_heats_139 : decode cX9_heats 139 = .ok (.if_icmp .ge 12, 3) := by decide +kernel
theorem dX9_heats_142 : decode cX9_heats 142 = .ok (.aload_n 0, 1) := by decide +kernel
theorem dX9_heats_143 : decode cX9_heats 143 = .ok (.getfield 99, 3) := by decide +kernel
theorem dX9_heats_146 : decode cX9_heats 146 = .ok (.iload 8, 2) := by decide +kernel
theorem dX9_heats_148 : decode cX9_heats 148 = .ok (.iaload, 1) := by decide +kernel
theorem dX9_heats_149 : decode cX9_heats 149 = .ok (.istore 7, 2) := by decide +kernel
theorem dX9_heats_151 : decode cX9_heats 151 = .ok (.iinc 8 1, 3) := by decide +kernel
theorem dX9_heats_154 : decode cX9_heats 154 = .ok (.goto (-47), 3) := by decide +kernel
theorem dX9_heats_157 : decode cX9_heats 157 = .ok (.aload_n 0, 1) := by decide +kernel
theorem dX9_heats_158 : decode cX9_heats 158 = .ok (.getfield 99, 3) := by decide +kernel
theorem dX9_heats_161 : decode cX9_heats 161 = .ok (.iload 5, 2) := by decide +kernel
theorem dX9_heats_163 : decode cX9_heats 163 = .ok (.iload 7, 2) := by decide +kernel
theorem dX9_heats_165 : decode cX9_heats 165 = .ok (.iastore, 1) := by decide +kernel
theorem dX9_heats_166 : decode cX9_heats 166 = .ok (.iinc 5 1, 3) := by decide +kernel
theorem dX9_heats_169 : decode cX9_heats 169 = .ok (.iinc 4 1, 3) := by decide +kernel
theorem dX9_heats_172 : decode cX9_heats 172 = .ok (.iload 6, 2) := by decide +kernel
theorem dX9_heats_174 : decode cX9_heats 174 = .ok (.iload_n 1, 1) := by decide +kernel
theorem dX9_heats_175 : decode cX9_heats 175 = .ok (.iadd, 1) := by decide +kernel
theorem dX9_heats_176 : decode cX9_heats 176 = .ok (.istore 6, 2) := by decide +kernel
theorem dX9_heats_178 : decode cX9_heats 178 = .ok (.goto (-92), 3) := by decide +kernel
theorem dX9_heats_181 : decode cX9_heats 181 = .ok (.iload 5, 2) := by decide +kernel
theorem dX9_heats_183 : decode cX9_heats 183 = .ok (.istore_n 3, 1) := by decide +kernel
theorem dX9_heats_184 : decode cX9_heats 184 = .ok (.goto (-109), 3) := by decide +kernel
theorem dX9_heats_187 : decode cX9_heats 187 = .ok (.iload_n 2, 1) := by decide +kernel
theorem dX9_heats_188 : decode cX9_heats 188 = .ok (.ifCond .ne 12, 3) := by decide +kernel
theorem dX9_heats_191 : decode cX9_heats 191 = .ok (.aload_n 0, 1) := by decide +kernel
theorem dX9_heats_192 : decode cX9_heats 192 = .ok (.getfield 99, 3) := by decide +kernel
theorem dX9_heats_195 : decode cX9_heats 195 = .ok (.iconst 0, 1) := by decide +kernel
theorem dX9_heats_196 : decode cX9_heats 196 = .ok (.iaload, 1) := by decide +kernel
theorem dX9_heats_197 : decode cX9_heats 197 = .ok (.goto 5, 3) := by decide +kernel
theorem dX9_heats_200 : decode cX9_heats 200 = .ok (.iload 4, 2) := by decide +kernel
theorem dX9_heats_202 : decode cX9_heats 202 = .ok (.ireturn, 1) := by decide +kernel
theorem dX9_legs_0 : decode cX9_legs 0 = .ok (.aload_n 0, 1) := by decide +kernel
theorem dX9_legs_1 : decode cX9_legs 1 = .ok (.iload_n 1, 1) := by decide +kernel
theorem dX9_legs_2 : decode cX9_legs 2 = .ok (.invokevirtual 131, 3) := by decide +kernel
theorem dX9_legs_5 : decode cX9_legs 5 = .ok (.ifCond .ne 9, 3) := by decide +kernel
theorem dX9_legs_8 : decode cX9_legs 8 = .ok (.aload_n 0, 1) := by decide +kernel
theorem dX9_legs_9 : decode cX9_legs 9 = .ok (.iconst (-1), 1) := by decide +kernel
theorem dX9_legs_10 : decode cX9_legs 10 = .ok (.invokevirtual 330, 3) := by decide +kernel
theorem dX9_legs_13 : decode cX9_legs 13 = .ok (.ireturn, 1) := by decide +kernel
theorem dX9_legs_14 : decode cX9_legs 14 = .ok (.iload_n 2, 1) := by decide +kernel
theorem dX9_legs_15 : decode cX9_legs 15 = .ok (.ifCond .ge 10, 3) := by decide +kernel
theorem dX9_legs_18 : decode cX9_legs 18 = .ok (.aload_n 0, 1) := by decide +kernel
theorem dX9_legs_19 : decode cX9_legs 19 = .ok (.bipush (-6), 2) := by decide +kernel
theorem dX9_legs_21 : decode cX9_legs 21 = .ok (.invokevirtual 330, 3) := by decide +kernel
theorem dX9_legs_24 : decode cX9_legs 24 = .ok (.ireturn, 1) := by decide +kernel
theorem dX9_legs_25 : decode cX9_legs 25 = .ok (.aload_n 0, 1) := by decide +kernel
theorem dX9_legs_26 : decode cX9_legs 26 = .ok (.getfield 38, 3) := by decide +kernel
theorem dX9_legs_29 : decode cX9_legs 29 = .ok (.iload_n 1, 1) := by decide +kernel
theorem dX9_legs_30 : decode cX9_legs 30 = .ok (.iaload, 1) := by decide +kernel
theorem dX9_legs_31 : decode cX9_legs 31 = .ok (.istore_n 3, 1) := by decide +kernel
theorem dX9_legs_32 : decode cX9_legs 32 = .ok (.iconst (-1), 1) := by decide +kernel
theorem dX9_legs_33 : decode cX9_legs 33 = .ok (.istore 4, 2) := by decide +kernel
theorem dX9_legs_35 : decode cX9_legs 35 = .ok (.iconst 1, 1) := by decide +kernel
theorem dX9_legs_36 : decode cX9_legs 36 = .ok (.istore 5, 2) := by decide +kernel
theorem dX9_legs_38 : decode cX9_legs 38 = .ok (.iload 5, 2) := by decide +kernel
theorem dX9_legs_40 : decode cX9_legs 40 = .ok (.bipush 10, 2) := by decide +kernel
theorem dX9_legs_42 : decode cX9_legs 42 = .ok (.if_icmp .ge 36, 3) := by decide +kernel
theorem dX9_legs_45 : decode cX9_legs 45 = .ok (.iload 4, 2) := by decide +kernel
theorem dX9_legs_47 : decode cX9_legs 47 = .ok (.iconst (-1), 1) := by decide +kernel
theorem dX9_legs_48 : decode cX9_legs 48 = .ok (.if_icmp .ne 30, 3) := by decide +kernel
theorem dX9_legs_51 : decode cX9_legs 51 = .ok (.aload_n 0, 1) := by decide +kernel
theorem dX9_legs_52 : decode cX9_legs 52 = .ok (.getfield 38, 3) := by decide +kernel
theorem dX9_legs_55 : decode cX9_legs 55 = .ok (.iload_n 1, 1) := by decide +kernel
theorem dX9_legs_56 : decode cX9_legs 56 = .ok (.iload 5, 2) := by decide +kernel
theorem dX9_legs_58 : decode cX9_legs 58 = .ok (.iastore, 1) := by decide +kernel
theorem dX9_legs_59 : decode cX9_legs 59 = .ok (.aload_n 0, 1) := by decide +kernel
theorem dX9_legs_60 : decode cX9_legs 60 = .ok (.iload_n 1, 1) := by decide +kernel
theorem dX9_legs_61 : decode cX9_legs 61 = .ok (.invokevirtual 293, 3) := by decide +kernel
theorem dX9_legs_64 : decode cX9_legs 64 = .ok (.iload_n 2, 1) := by decide +kernel
theorem dX9_legs_65 : decode cX9_legs 65 = .ok (.if_icmp .gt 7, 3) := by decide +kernel
theorem dX9_legs_68 : decode cX9_legs 68 = .ok (.iload 5, 2) := by decide +kernel
theorem dX9_legs_70 : decode cX9_legs 70 = .ok (.istore 4, 2) := by decide +kernel
theorem dX9_legs_72 : decode cX9_legs 72 = .ok (.iinc 5 1, 3) := by decide +kernel
theorem dX9_legs_75 : decode cX9_legs 75 = .ok (.goto (-37), 3) := by decide +kernel
theorem dX9_legs_78 : decode cX9_legs 78 = .ok (.aload_n 0, 1) := by decide +kernel
theorem dX9_legs_79 : decode cX9_legs 79 = .ok (.getfield 38, 3) := by decide +kernel
theorem dX9_legs_82 : decode cX9_legs 82 = .ok (.iload_n 1, 1) := by decide +kernel
theorem dX9_legs_83 : decode cX9_legs 83 = .ok (.iload_n 3, 1) := by decide +kernel
theorem dX9_legs_84 : decode cX9_legs 84 = .ok (.iastore, 1) := by decide +kernel
theorem dX9_legs_85 : decode cX9_legs 85 = .ok (.iload 4, 2) := by decide +kernel
theorem dX9_legs_87 : decode cX9_legs 87 = .ok (.ireturn, 1) := by decide +kernel
theorem dX9_wall_0 : decode cX9_wall 0 = .ok (.aload_n 0, 1) := by decide +kernel
theorem dX9_wall_1 : decode cX9_wall 1 = .ok (.iload_n 1, 1) := by decide +kernel
theorem dX9_wall_2 : decode cX9_wall 2 = .ok (.invokevirtual 131, 3) := by decide +kernel
theorem dX9_wall_5 : decode cX9_wall 5 = .ok (.ifCond .ne 9, 3) := by decide +kernel
theorem dX9_wall_8 : decode cX9_wall 8 = .ok (.aload_n 0, 1) := by decide +kernel
theorem dX9_wall_9 : decode cX9_wall 9 = .ok (.iconst (-1), 1) := by decide +kernel
theorem dX9_wall_10 : decode cX9_wall 10 = .ok (.invokevirtual 330, 3) := by decide +kernel
theorem dX9_wall_13 : decode cX9_wall 13 = .ok (.ireturn, 1) := by decide +kernel
theorem dX9_wall_14 : decode cX9_wall 14 = .ok (.aload_n 0, 1) := by decide +kernel
theorem dX9_wall_15 : decode cX9_wall 15 = .ok (.iload_n 1, 1) := by decide +kernel
theorem dX9_wall_16 : decode cX9_wall 16 = .ok (.invokevirtual 134, 3) := by decide +kernel
theorem dX9_wall_19 : decode cX9_wall 19 = .ok (.aload_n 0, 1) := by decide +kernel
theorem dX9_wall_20 : decode cX9_wall 20 = .ok (.invokevirtual 281, 3) := by decide +kernel
theorem dX9_wall_23 : decode cX9_wall 23 = .ok (.iconst 0, 1) := by decide +kernel
theorem dX9_wall_24 : decode cX9_wall 24 = .ok (.istore_n 2, 1) := by decide +kernel
theorem dX9_wall_25 : decode cX9_wall 25 = .ok (.iload_n 2, 1) := by decide +kernel
theorem dX9_wall_26 : decode cX9_wall 26 = .ok (.sipush 999, 3) := by decide +kernel
theorem dX9_wall_29 : decode cX9_wall 29 = .ok (.if_icmp .ge 36, 3) := by decide +kernel
theorem dX9_wall_32 : decode cX9_wall 32 = .ok (.aload_n 0, 1) := by decide +kernel
theorem dX9_wall_33 : decode cX9_wall 33 = .ok (.getfield 257, 3) := by decide +kernel
theorem dX9_wall_36 : decode cX9_wall 36 = .ok (.aload_n 0, 1) := by decide +kernel
theorem dX9_wall_37 : decode cX9_wall 37 = .ok (.getfield 7, 3) := by decide +kernel
theorem dX9_wall_40 : decode cX9_wall 40 = .ok (.if_icmp .ge 25, 3) := by decide +kernel
theorem dX9_wall_43 : decode cX9_wall 43 = .ok (.aload_n 0, 1) := by decide +kernel
theorem dX9_wall_44 : decode cX9_wall 44 = .ok (.invokevirtual 284, 3) := by decide +kernel
theorem dX9_wall_47 : decode cX9_wall 47 = .ok (.aload_n 0, 1) := by decide +kernel
theorem dX9_wall_48 : decode cX9_wall 48 = .ok (.getfield 266, 3) := by decide +kernel
theorem dX9_wall_51 : decode cX9_wall 51 = .ok (.ifCond .le 8, 3) := by decide +kernel
theorem dX9_wall_54 : decode cX9_wall 54 = .ok (.aload_n 0, 1) := by decide +kernel
theorem dX9_wall_55 : decode cX9_wall 55 = .ok (.getfield 257, 3) := by decide +kernel
theorem dX9_wall_58 : decode cX9_wall 58 = .ok (.ireturn, 1) := by decide +kernel
theorem dX9_wall_59 : decode cX9_wall 59 = .ok (.iinc 2 1, 3) := by decide +kernel
theorem dX9_wall_62 : decode cX9_wall 62 = .ok (.goto (-37), 3) := by decide +kernel
theorem dX9_wall_65 : decode cX9_wall 65 = .ok (.iconst (-1), 1) := by decide +kernel
theorem dX9_wall_66 : decode cX9_wall 66 = .ok (.ireturn, 1) := by decide +kernel
theorem dX9_judge_0 : decode cX9_judge 0 = .ok (.aload_n 0, 1) := by decide +kernel
theorem dX9_judge_1 : decode cX9_judge 1 = .ok (.iload_n 1, 1) := by decide +kernel
theorem dX9_judge_2 : decode cX9_judge 2 = .ok (.invokevirtual 214, 3) := by decide +kernel
theorem dX9_judge_5 : decode cX9_judge 5 = .ok (.istore_n 3, 1) := by decide +kernel
theorem dX9_judge_6 : decode cX9_judge 6 = .ok (.iload_n 3, 1) := by decide +kernel
theorem dX9_judge_7 : decode cX9_judge 7 = .ok (.ifCond .ne 40, 3) := by decide +kernel
theorem dX9_judge_10 : decode cX9_judge 10 = .ok (.iload_n 2, 1) := by decide +kernel
theorem dX9_judge_11 : decode cX9_judge 11 = .ok (.ifCond .ge 8, 3) := by decide +kernel
theorem dX9_judge_14 : decode cX9_judge 14 = .ok (.bipush (-4), 2) := by decide +kernel
theorem dX9_judge_16 : decode cX9_judge 16 = .ok (.goto 30, 3) := by decide +kernel
theorem dX9_judge_19 : decode cX9_judge 19 = .ok (.iload_n 2, 1) := by decide +kernel
theorem dX9_judge_20 : decode cX9_judge 20 = .ok (.aload_n 0, 1) := by decide +kernel
theorem dX9_judge_21 : decode cX9_judge 21 = .ok (.getfield 62, 3) := by decide +kernel
theorem dX9_judge_24 : decode cX9_judge 24 = .ok (.iload_n 1, 1) := by decide +kernel
theorem dX9_judge_25 : decode cX9_judge 25 = .ok (.iaload, 1) := by decide +kernel
theorem dX9_judge_26 : decode cX9_judge 26 = .ok (.if_icmp .le 8, 3) := by decide +kernel
theorem dX9_judge_29 : decode cX9_judge 29 = .ok (.bipush (-5), 2) := by decide +kernel
theorem dX9_judge_31 : decode cX9_judge 31 = .ok (.goto 15, 3) := by decide +kernel
theorem dX9_judge_34 : decode cX9_judge 34 = .ok (.iload_n 2, 1) := by decide +kernel
theorem dX9_judge_35 : decode cX9_judge 35 = .ok (.bipush 8, 2) := by decide +kernel
theorem dX9_judge_37 : decode cX9_judge 37 = .ok (.if_icmp .le 8, 3) := by decide +kernel
theorem dX9_judge_40 : decode cX9_judge 40 = .ok (.bipush (-6), 2) := by decide +kernel
theorem dX9_judge_42 : decode cX9_judge 42 = .ok (.goto 4, 3) := by decide +kernel
theorem dX9_judge_45 : decode cX9_judge 45 = .ok (.iconst 0, 1) := by decide +kernel
theorem dX9_judge_46 : decode cX9_judge 46 = .ok (.istore_n 3, 1) := by decide +kernel
theorem dX9_judge_47 : decode cX9_judge 47 = .ok (.iload_n 3, 1) := by decide +kernel
theorem dX9_judge_48 : decode cX9_judge 48 = .ok (.ifCond .eq 9, 3) := by decide +kernel
theorem dX9_judge_51 : decode cX9_judge 51 = .ok (.aload_n 0, 1) := by decide +kernel
theorem dX9_judge_52 : decode cX9_judge 52 = .ok (.iload_n 3, 1) := by decide +kernel
theorem dX9_judge_53 : decode cX9_judge 53 = .ok (.invokevirtual 330, 3) := by decide +kernel
theorem dX9_judge_56 : decode cX9_judge 56 = .ok (.ireturn, 1) := by decide +kernel
theorem dX9_judge_57 : decode cX9_judge 57 = .ok (.iconst 0, 1) := by decide +kernel
theorem dX9_judge_58 : decode cX9_judge 58 = .ok (.istore 4, 2) := by decide +kernel
theorem dX9_judge_60 : decode cX9_judge 60 = .ok (.iconst 0, 1) := by decide +kernel
theorem dX9_judge_61 : decode cX9_judge 61 = .ok (.istore 5, 2) := by decide +kernel
theorem dX9_judge_63 : decode cX9_judge 63 = .ok (.iconst 0, 1) := by decide +kernel
theorem dX9_judge_64 : decode cX9_judge 64 = .ok (.istore 6, 2) := by decide +kernel
theorem dX9_judge_66 : decode cX9_judge 66 = .ok (.iload 6, 2) := by decide +kernel
theorem dX9_judge_68 : decode cX9_judge 68 = .ok (.iload_n 2, 1) := by decide +kernel
theorem dX9_judge_69 : decode cX9_judge 69 = .ok (.if_icmp .ge 69, 3) := by decide +kernel
theorem dX9_judge_72 : decode cX9_judge 72 = .ok (.aload_n 0, 1) := by decide +kernel
theorem dX9_judge_73 : decode cX9_judge 73 = .ok (.iload_n 1, 1) := by decide +kernel
theorem dX9_judge_74 : decode cX9_judge 74 = .ok (.iload 6, 2) := by decide +kernel
theorem dX9_judge_76 : decode cX9_judge 76 = .ok (.invokevirtual 333, 3) := by decide +kernel
theorem dX9_judge_79 : decode cX9_judge 79 = .ok (.istore 7, 2) := by decide +kernel
theorem dX9_judge_81 : decode cX9_judge 81 = .ok (.aload_n 0, 1) := by decide +kernel
theorem dX9_judge_82 : decode cX9_judge 82 = .ok (.iload 7, 2) := by decide +kernel
theorem dX9_judge_84 : decode cX9_judge 84 = .ok (.invokevirtual 131, 3) := by decide +kernel
theorem dX9_judge_87 : decode cX9_judge 87 = .ok (.ifCond .eq 25, 3) := by decide +kernel
theorem dX9_judge_90 : decode cX9_judge 90 = .ok (.iload 4, 2) := by decide +kernel
theorem dX9_judge_92 : decode cX9_judge 92 = .ok (.iload 7, 2) := by decide +kernel
theorem dX9_judge_94 : decode cX9_judge 94 = .ok (.ishr, 1) := by decide +kernel
theorem dX9_judge_95 : decode cX9_judge 95 = .ok (.iconst 1, 1) := by decide +kernel
theorem dX9_judge_96 : decode cX9_judge 96 = .ok (.iand, 1) := by decide +kernel
theorem dX9_judge_97 : decode cX9_judge 97 = .ok (.iconst 1, 1) := by decide +kernel
theorem dX9_judge_98 : decode cX9_judge 98 = .ok (.if_icmp .eq 14, 3) := by decide +kernel
theorem dX9_judge_101 : decode cX9_judge 101 = .ok (.aload_n 0, 1) := by decide +kernel
theorem dX9_judge_102 : decode cX9_judge 102 = .ok (.iload 7, 2) := by decide +kernel
theorem dX9_judge_104 : decode cX9_judge 104 = .ok (.invokevirtual 293, 3) := by decide +kernel
theorem dX9_judge_107 : decode cX9_judge 107 = .ok (.iload 5, 2) := by decide +kernel
theorem dX9_judge_109 : decode cX9_judge 109 = .ok (.if_icmp .ge 6, 3) := by decide +kernel
theorem dX9_judge_112 : decode cX9_judge 112 = .ok (.iload 6, 2) := by decide +kernel
theorem dX9_judge_114 : decode cX9_judge 114 = .ok (.ireturn, 1) := by decide +kernel
theorem dX9_judge_115 : decode cX9_judge 115 = .ok (.iload 4, 2) := by decide +kernel
theorem dX9_judge_117 : decode cX9_judge 117 = .ok (.iconst 1, 1) := by decide +kernel
theorem dX9_judge_118 : decode cX9_judge 118 = .ok (.iload 7, 2) := by decide +kernel
theorem dX9_judge_120 : decode cX9_judge 120 = .ok (.ishl, 1) := by decide +kernel
theorem dX9_judge_121 : decode cX9_judge 121 = .ok (.ior, 1) := by decide +kernel
theorem dX9_judge_122 : decode cX9_judge 122 = .ok (.istore 4, 2) := by decide +kernel
theorem dX9_judge_124 : decode cX9_judge 124 = .ok (.aload_n 0, 1) := by decide +kernel
theorem dX9_judge_125 : decode cX9_judge 125 = .ok (.iload 7, 2) := by decide +kernel
theorem dX9_judge_127 : decode cX9_judge 127 = .ok (.invokevirtual 293, 3) := by decide +kernel
theorem dX9_judge_130 : decode cX9_judge 130 = .ok (.istore 5, 2) := by decide +kernel
theorem dX9_judge_132 : decode cX9_judge 132 = .ok (.iinc 6 1, 3) := by decide +kernel
theorem dX9_judge_135 : decode cX9_judge 135 = .ok (.goto (-69), 3) := by decide +kernel
theorem dX9_judge_138 : decode cX9_judge 138 = .ok (.iconst (-1), 1) := by decide +kernel
theorem dX9_judge_139 : decode cX9_judge 139 = .ok (.ireturn, 1) := by decide +kernel
theorem dX9_meant_0 : decode cX9_meant 0 = .ok (.aload_n 0, 1) := by decide +kernel
theorem dX9_meant_1 : decode cX9_meant 1 = .ok (.iload_n 1, 1) := by decide +kernel
theorem dX9_meant_2 : decode cX9_meant 2 = .ok (.invokevirtual 214, 3) := by decide +kernel
theorem dX9_meant_5 : decode cX9_meant 5 = .ok (.istore_n 2, 1) := by decide +kernel
theorem dX9_meant_6 : decode cX9_meant 6 = .ok (.iload_n 2, 1) := by decide +kernel
theorem dX9_meant_7 : decode cX9_meant 7 = .ok (.ifCond .ne 19, 3) := by decide +kernel
theorem dX9_meant_10 : decode cX9_meant 10 = .ok (.aload_n 0, 1) := by decide +kernel
theorem dX9_meant_11 : decode cX9_meant 11 = .ok (.getfield 62, 3) := by decide +kernel
theorem dX9_meant_14 : decode cX9_meant 14 = .ok (.iload_n 1, 1) := by decide +kernel
theorem dX9_meant_15 : decode cX9_meant 15 = .ok (.iaload, 1) := by decide +kernel
theorem dX9_meant_16 : decode cX9_meant 16 = .ok (.aload_n 0, 1) := by decide +kernel
theorem dX9_meant_17 : decode cX9_meant 17 = .ok (.getfield 117, 3) := by decide +kernel
theorem dX9_meant_20 : decode cX9_meant 20 = .ok (.if_icmp .ge 6, 3) := by decide +kernel
theorem dX9_meant_23 : decode cX9_meant 23 = .ok (.bipush (-5), 2) := by decide +kernel
theorem dX9_meant_25 : decode cX9_meant 25 = .ok (.istore_n 2, 1) := by decide +kernel
theorem dX9_meant_26 : decode cX9_meant 26 = .ok (.iload_n 2, 1) := by decide +kernel
theorem dX9_meant_27 : decode cX9_meant 27 = .ok (.ifCond .eq 9, 3) := by decide +kernel
theorem dX9_meant_30 : decode cX9_meant 30 = .ok (.aload_n 0, 1) := by decide +kernel
theorem dX9_meant_31 : decode cX9_meant 31 = .ok (.iload_n 2, 1) := by decide +kernel
theorem dX9_meant_32 : decode cX9_meant 32 = .ok (.invokevirtual 127, 3) := by decide +kernel
theorem dX9_meant_35 : decode cX9_meant 35 = .ok (.ireturn, 1) := by decide +kernel
theorem dX9_meant_36 : decode cX9_meant 36 = .ok (.iconst 0, 1) := by decide +kernel
theorem dX9_meant_37 : decode cX9_meant 37 = .ok (.istore_n 3, 1) := by decide +kernel
theorem dX9_meant_38 : decode cX9_meant 38 = .ok (.iconst 0, 1) := by decide +kernel
theorem dX9_meant_39 : decode cX9_meant 39 = .ok (.istore 4, 2) := by decide +kernel
theorem dX9_meant_41 : decode cX9_meant 41 = .ok (.iload 4, 2) := by decide +kernel
theorem dX9_meant_43 : decode cX9_meant 43 = .ok (.bipush 7, 2) := by decide +kernel
theorem dX9_meant_45 : decode cX9_meant 45 = .ok (.if_icmp .ge 63, 3) := by decide +kernel
theorem dX9_meant_48 : decode cX9_meant 48 = .ok (.iconst 1, 1) := by decide +kernel
theorem dX9_meant_49 : decode cX9_meant 49 = .ok (.istore 5, 2) := by decide +kernel
theorem dX9_meant_51 : decode cX9_meant 51 = .ok (.iconst 0, 1) := by decide +kernel
theorem dX9_meant_52 : decode cX9_meant 52 = .ok (.istore 6, 2) := by decide +kernel
theorem dX9_meant_54 : decode cX9_meant 54 = .ok (.iload 6, 2) := by decide +kernel
theorem dX9_meant_56 : decode cX9_meant 56 = .ok (.aload_n 0, 1) := by decide +kernel
theorem dX9_meant_57 : decode cX9_meant 57 = .ok (.getfield 117, 3) := by decide +kernel
theorem dX9_meant_60 : decode cX9_meant 60 = .ok (.if_icmp .ge 30, 3) := by decide +kernel
theorem dX9_meant_63 : decode cX9_meant 63 = .ok (.aload_n 0, 1) := by decide +kernel
theorem dX9_meant_64 : decode cX9_meant 64 = .ok (.iload 6, 2) := by decide +kernel
theorem dX9_meant_66 : decode cX9_meant 66 = .ok (.iload 4, 2) := by decide +kernel
theorem dX9_meant_68 : decode cX9_meant 68 = .ok (.invokevirtual 299, 3) := by decide +kernel
theorem dX9_meant_71 : decode cX9_meant 71 = .ok (.aload_n 0, 1) := by decide +kernel
theorem dX9_meant_72 : decode cX9_meant 72 = .ok (.iload_n 1, 1) := by decide +kernel
theorem dX9_meant_73 : decode cX9_meant 73 = .ok (.iload 6, 2) := by decide +kernel
theorem dX9_meant_75 : decode cX9_meant 75 = .ok (.invokevirtual 333, 3) := by decide +kernel
theorem dX9_meant_78 : decode cX9_meant 78 = .ok (.if_icmp .eq 6, 3) := by decide +kernel
theorem dX9_meant_81 : decode cX9_meant 81 = .ok (.iconst 0, 1) := by decide +kernel
theorem dX9_meant_82 : decode cX9_meant 82 = .ok (.istore 5, 2) := by decide +kernel
theorem dX9_meant_84 : decode cX9_meant 84 = .ok (.iinc 6 1, 3) := by decide +kernel
theorem dX9_meant_87 : decode cX9_meant 87 = .ok (.goto (-33), 3) := by decide +kernel
theorem dX9_meant_90 : decode cX9_meant 90 = .ok (.iload 5, 2) := by decide +kernel
theorem dX9_meant_92 : decode cX9_meant 92 = .ok (.ifCond .eq 10, 3) := by decide +kernel
theorem dX9_meant_95 : decode cX9_meant 95 = .ok (.iload_n 3, 1) := by decide +kernel
theorem dX9_meant_96 : decode cX9_meant 96 = .ok (.iconst 1, 1) := by decide +kernel
theorem dX9_meant_97 : decode cX9_meant 97 = .ok (.iload 4, 2) := by decide +kernel
theorem dX9_meant_99 : decode cX9_meant 99 = .ok (.ishl, 1) := by decide +kernel
theorem dX9_meant_100 : decode cX9_meant 100 = .ok (.ior, 1) := by decide +kernel
theorem dX9_meant_101 : decode cX9_meant 101 = .ok (.istore_n 3, 1) := by decide +kernel
theorem dX9_meant_102 : decode cX9_meant 102 = .ok (.iinc 4 1, 3) := by decide +kernel
theorem dX9_meant_105 : decode cX9_meant 105 = .ok (.goto (-64), 3) := by decide +kernel
theorem dX9_meant_108 : decode cX9_meant 108 = .ok (.iload_n 3, 1) := by decide +kernel
theorem dX9_meant_109 : decode cX9_meant 109 = .ok (.ireturn, 1) := by decide +kernel
theorem dX9_worn_0 : decode cX9_worn 0 = .ok (.aload_n 0, 1) := by decide +kernel
theorem dX9_worn_1 : decode cX9_worn 1 = .ok (.iload_n 1, 1) := by decide +kernel
theorem dX9_worn_2 : decode cX9_worn 2 = .ok (.invokevirtual 131, 3) := by decide +kernel
theorem dX9_worn_5 : decode cX9_worn 5 = .ok (.ifCond .ne 9, 3) := by decide +kernel
theorem dX9_worn_8 : decode cX9_worn 8 = .ok (.aload_n 0, 1) := by decide +kernel
theorem dX9_worn_9 : decode cX9_worn 9 = .ok (.iconst (-1), 1) := by decide +kernel
theorem dX9_worn_10 : decode cX9_worn 10 = .ok (.invokevirtual 127, 3) := by decide +kernel
theorem dX9_worn_13 : decode cX9_worn 13 = .ok (.ireturn, 1) := by decide +kernel
theorem dX9_worn_14 : decode cX9_worn 14 = .ok (.iconst 0, 1) := by decide +kernel
theorem dX9_worn_15 : decode cX9_worn 15 = .ok (.istore_n 3, 1) := by decide +kernel
theorem dX9_worn_16 : decode cX9_worn 16 = .ok (.iconst 0, 1) := by decide +kernel
theorem dX9_worn_17 : decode cX9_worn 17 = .ok (.istore 4, 2) := by decide +kernel
theorem dX9_worn_19 : decode cX9_worn 19 = .ok (.iload 4, 2) := by decide +kernel
theorem dX9_worn_21 : decode cX9_worn 21 = .ok (.aload_n 0, 1) := by decide +kernel
theorem dX9_worn_22 : decode cX9_worn 22 = .ok (.getfield 120, 3) := by decide +kernel
theorem dX9_worn_25 : decode cX9_worn 25 = .ok (.if_icmp .ge 27, 3) := by decide +kernel
theorem dX9_worn_28 : decode cX9_worn 28 = .ok (.aload_n 0, 1) := by decide +kernel
theorem dX9_worn_29 : decode cX9_worn 29 = .ok (.iload_n 1, 1) := by decide +kernel
theorem dX9_worn_30 : decode cX9_worn 30 = .ok (.iload 4, 2) := by decide +kernel
theorem dX9_worn_32 : decode cX9_worn 32 = .ok (.invokevirtual 302, 3) := by decide +kernel
theorem dX9_worn_35 : decode cX9_worn 35 = .ok (.iload_n 2, 1) := by decide +kernel
theorem dX9_worn_36 : decode cX9_worn 36 = .ok (.if_icmp .ne 10, 3) := by decide +kernel
theorem dX9_worn_39 : decode cX9_worn 39 = .ok (.iload_n 3, 1) := by decide +kernel
theorem dX9_worn_40 : decode cX9_worn 40 = .ok (.iconst 1, 1) := by decide +kernel
theorem dX9_worn_41 : decode cX9_worn 41 = .ok (.iload 4, 2) := by decide +kernel
theorem dX9_worn_43 : decode cX9_worn 43 = .ok (.ishl, 1) := by decide +kernel
theorem dX9_worn_44 : decode cX9_worn 44 = .ok (.ior, 1) := by decide +kernel
theorem dX9_worn_45 : decode cX9_worn 45 = .ok (.istore_n 3, 1) := by decide +kernel
theorem dX9_worn_46 : decode cX9_worn 46 = .ok (.iinc 4 1, 3) := by decide +kernel
theorem dX9_worn_49 : decode cX9_worn 49 = .ok (.goto (-30), 3) := by decide +kernel
theorem dX9_worn_52 : decode cX9_worn 52 = .ok (.iload_n 3, 1) := by decide +kernel
theorem dX9_worn_53 : decode cX9_worn 53 = .ok (.ireturn, 1) := by decide +kernel
theorem dX9_draw_0 : decode cX9_draw 0 = .ok (.aload_n 0, 1) := by decide +kernel
theorem dX9_draw_1 : decode cX9_draw 1 = .ok (.aload_n 0, 1) := by decide +kernel
theorem dX9_draw_2 : decode cX9_draw 2 = .ok (.getfield 22, 3) := by decide +kernel
theorem dX9_draw_5 : decode cX9_draw 5 = .ok (.ldc_w 336, 3) := by decide +kernel
theorem dX9_draw_8 : decode cX9_draw 8 = .ok (.imul, 1) := by decide +kernel
theorem dX9_draw_9 : decode cX9_draw 9 = .ok (.sipush 12345, 3) := by decide +kernel
theorem dX9_draw_12 : decode cX9_draw 12 = .ok (.iadd, 1) := by decide +kernel
theorem dX9_draw_13 : decode cX9_draw 13 = .ok (.putfield 22, 3) := by decide +kernel
theorem dX9_draw_16 : decode cX9_draw 16 = .ok (.aload_n 0, 1) := by decide +kernel
theorem dX9_draw_17 : decode cX9_draw 17 = .ok (.getfield 22, 3) := by decide +kernel
theorem dX9_draw_20 : decode cX9_draw 20 = .ok (.bipush 16, 2) := by decide +kernel
theorem dX9_draw_22 : decode cX9_draw 22 = .ok (.iushr, 1) := by decide +kernel
theorem dX9_draw_23 : decode cX9_draw 23 = .ok (.iload_n 1, 1) := by decide +kernel
theorem dX9_draw_24 : decode cX9_draw 24 = .ok (.irem, 1) := by decide +kernel
theorem dX9_draw_25 : decode cX9_draw 25 = .ok (.ireturn, 1) := by decide +kernel
theorem dX9_secondInTruth_0 : decode cX9_secondInTruth 0 = .ok (.aload_n 0, 1) := by decide +kernel
theorem dX9_secondInTruth_1 : decode cX9_secondInTruth 1 = .ok (.getfield 263, 3) := by decide +kernel
theorem dX9_secondInTruth_4 : decode cX9_secondInTruth 4 = .ok (.ifCond .le 8, 3) := by decide +kernel
theorem dX9_secondInTruth_7 : decode cX9_secondInTruth 7 = .ok (.aload_n 0, 1) := by decide +kernel
theorem dX9_secondInTruth_8 : decode cX9_secondInTruth 8 = .ok (.invokevirtual 269, 3) := by decide +kernel
theorem dX9_secondInTruth_11 : decode cX9_secondInTruth 11 = .ok (.return_, 1) := by decide +kernel
theorem dX9_secondInTruth_12 : decode cX9_secondInTruth 12 = .ok (.aload_n 0, 1) := by decide +kernel
theorem dX9_secondInTruth_13 : decode cX9_secondInTruth 13 = .ok (.bipush 100, 2) := by decide +kernel
theorem dX9_secondInTruth_15 : decode cX9_secondInTruth 15 = .ok (.invokevirtual 337, 3) := by decide +kernel
theorem dX9_secondInTruth_18 : decode cX9_secondInTruth 18 = .ok (.aload_n 0, 1) := by decide +kernel
theorem dX9_secondInTruth_19 : decode cX9_secondInTruth 19 = .ok (.invokevirtual 272, 3) := by decide +kernel
theorem dX9_secondInTruth_22 : decode cX9_secondInTruth 22 = .ok (.if_icmp .ge 7, 3) := by decide +kernel
theorem dX9_secondInTruth_25 : decode cX9_secondInTruth 25 = .ok (.iconst 1, 1) := by decide +kernel
theorem dX9_secondInTruth_26 : decode cX9_secondInTruth 26 = .ok (.goto 4, 3) := by decide +kernel
theorem dX9_secondInTruth_29 : decode cX9_secondInTruth 29 = .ok (.iconst 0, 1) := by decide +kernel
theorem dX9_secondInTruth_30 : decode cX9_secondInTruth 30 = .ok (.istore_n 1, 1) := by decide +kernel
theorem dX9_secondInTruth_31 : decode cX9_secondInTruth 31 = .ok (.aload_n 0, 1) := by decide +kernel
theorem dX9_secondInTruth_32 : decode cX9_secondInTruth 32 = .ok (.invokevirtual 275, 3) := by decide +kernel
theorem dX9_secondInTruth_35 : decode cX9_secondInTruth 35 = .ok (.iload_n 1, 1) := by decide +kernel
theorem dX9_secondInTruth_36 : decode cX9_secondInTruth 36 = .ok (.ifCond .eq 10, 3) := by decide +kernel
theorem dX9_secondInTruth_39 : decode cX9_secondInTruth 39 = .ok (.aload_n 0, 1) := by decide +kernel
theorem dX9_secondInTruth_40 : decode cX9_secondInTruth 40 = .ok (.invokevirtual 278, 3) := by decide +kernel
theorem dX9_secondInTruth_43 : decode cX9_secondInTruth 43 = .ok (.goto 16, 3) := by decide +kernel
theorem dX9_secondInTruth_46 : decode cX9_secondInTruth 46 = .ok (.aload_n 0, 1) := by decide +kernel
theorem dX9_secondInTruth_47 : decode cX9_secondInTruth 47 = .ok (.dup, 1) := by decide +kernel
theorem dX9_secondInTruth_48 : decode cX9_secondInTruth 48 = .ok (.getfield 257, 3) := by decide +kernel
theorem dX9_secondInTruth_51 : decode cX9_secondInTruth 51 = .ok (.aload_n 0, 1) := by decide +kernel
theorem dX9_secondInTruth_52 : decode cX9_secondInTruth 52 = .ok (.invokevirtual 142, 3) := by decide +kernel
theorem dX9_secondInTruth_55 : decode cX9_secondInTruth 55 = .ok (.iadd, 1) := by decide +kernel
theorem dX9_secondInTruth_56 : decode cX9_secondInTruth 56 = .ok (.putfield 257, 3) := by decide +kernel
theorem dX9_secondInTruth_59 : decode cX9_secondInTruth 59 = .ok (.return_, 1) := by decide +kernel
theorem dX9_raced_0 : decode cX9_raced 0 = .ok (.aload_n 0, 1) := by decide +kernel
theorem dX9_raced_1 : decode cX9_raced 1 = .ok (.dup, 1) := by decide +kernel
theorem dX9_raced_2 : decode cX9_raced 2 = .ok (.getfield 211, 3) := by decide +kernel
theorem dX9_raced_5 : decode cX9_raced 5 = .ok (.iconst 1, 1) := by decide +kernel
theorem dX9_raced_6 : decode cX9_raced 6 = .ok (.iadd, 1) := by decide +kernel
theorem dX9_raced_7 : decode cX9_raced 7 = .ok (.putfield 211, 3) := by decide +kernel
theorem dX9_raced_10 : decode cX9_raced 10 = .ok (.iconst 0, 1) := by decide +kernel
theorem dX9_raced_11 : decode cX9_raced 11 = .ok (.istore_n 1, 1) := by decide +kernel
theorem dX9_raced_12 : decode cX9_raced 12 = .ok (.iload_n 1, 1) := by decide +kernel
theorem dX9_raced_13 : decode cX9_raced 13 = .ok (.aload_n 0, 1) := by decide +kernel
theorem dX9_raced_14 : decode cX9_raced 14 = .ok (.getfield 117, 3) := by decide +kernel
theorem dX9_raced_17 : decode cX9_raced 17 = .ok (.if_icmp .ge 73, 3) := by decide +kernel
theorem dX9_raced_20 : decode cX9_raced 20 = .ok (.aload_n 0, 1) := by decide +kernel
theorem dX9_raced_21 : decode cX9_raced 21 = .ok (.iload_n 1, 1) := by decide +kernel
theorem dX9_raced_22 : decode cX9_raced 22 = .ok (.invokevirtual 134, 3) := by decide +kernel
theorem dX9_raced_25 : decode cX9_raced 25 = .ok (.aload_n 0, 1) := by decide +kernel
theorem dX9_raced_26 : decode cX9_raced 26 = .ok (.invokevirtual 281, 3) := by decide +kernel
theorem dX9_raced_29 : decode cX9_raced 29 = .ok (.aload_n 0, 1) := by decide +kernel
theorem dX9_raced_30 : decode cX9_raced 30 = .ok (.getfield 102, 3) := by decide +kernel
theorem dX9_raced_33 : decode cX9_raced 33 = .ok (.iload_n 1, 1) := by decide +kernel
theorem dX9_raced_34 : decode cX9_raced 34 = .ok (.aload_n 0, 1) := by decide +kernel
theorem dX9_raced_35 : decode cX9_raced 35 = .ok (.getfield 257, 3) := by decide +kernel
theorem dX9_raced_38 : decode cX9_raced 38 = .ok (.iastore, 1) := by decide +kernel
theorem dX9_raced_39 : decode cX9_raced 39 = .ok (.aload_n 0, 1) := by decide +kernel
theorem dX9_raced_40 : decode cX9_raced 40 = .ok (.getfield 105, 3) := by decide +kernel
theorem dX9_raced_43 : decode cX9_raced 43 = .ok (.iload_n 1, 1) := by decide +kernel
theorem dX9_raced_44 : decode cX9_raced 44 = .ok (.aload_n 0, 1) := by decide +kernel
theorem dX9_raced_45 : decode cX9_raced 45 = .ok (.getfield 254, 3) := by decide +kernel
theorem dX9_raced_48 : decode cX9_raced 48 = .ok (.iastore, 1) := by decide +kernel
theorem dX9_raced_49 : decode cX9_raced 49 = .ok (.aload_n 0, 1) := by decide +kernel
theorem dX9_raced_50 : decode cX9_raced 50 = .ok (.getfield 108, 3) := by decide +kernel
theorem dX9_raced_53 : decode cX9_raced 53 = .ok (.iload_n 1, 1) := by decide +kernel
theorem dX9_raced_54 : decode cX9_raced 54 = .ok (.iconst 0, 1) := by decide +kernel
theorem dX9_raced_55 : decode cX9_raced 55 = .ok (.iastore, 1) := by decide +kernel
theorem dX9_raced_56 : decode cX9_raced 56 = .ok (.aload_n 0, 1) := by decide +kernel
theorem dX9_raced_57 : decode cX9_raced 57 = .ok (.getfield 111, 3) := by decide +kernel
theorem dX9_raced_60 : decode cX9_raced 60 = .ok (.iload_n 1, 1) := by decide +kernel
theorem dX9_raced_61 : decode cX9_raced 61 = .ok (.aload_n 0, 1) := by decide +kernel
theorem dX9_raced_62 : decode cX9_raced 62 = .ok (.getfield 257, 3) := by decide +kernel
theorem dX9_raced_65 : decode cX9_raced 65 = .ok (.aload_n 0, 1) := by decide +kernel
theorem dX9_raced_66 : decode cX9_raced 66 = .ok (.getfield 7, 3) := by decide +kernel
theorem dX9_raced_69 : decode cX9_raced 69 = .ok (.if_icmp .ge 9, 3) := by decide +kernel
theorem dX9_raced_72 : decode cX9_raced 72 = .ok (.sipush 999, 3) := by decide +kernel
theorem dX9_raced_75 : decode cX9_raced 75 = .ok (.goto 8, 3) := by decide +kernel
theorem dX9_raced_78 : decode cX9_raced 78 = .ok (.aload_n 0, 1) := by decide +kernel
theorem dX9_raced_79 : decode cX9_raced 79 = .ok (.iconst 0, 1) := by decide +kernel
theorem dX9_raced_80 : decode cX9_raced 80 = .ok (.invokevirtual 287, 3) := by decide +kernel
theorem dX9_raced_83 : decode cX9_raced 83 = .ok (.iastore, 1) := by decide +kernel
theorem dX9_raced_84 : decode cX9_raced 84 = .ok (.iinc 1 1, 3) := by decide +kernel
theorem dX9_raced_87 : decode cX9_raced 87 = .ok (.goto (-75), 3) := by decide +kernel
theorem dX9_raced_90 : decode cX9_raced 90 = .ok (.iconst 1, 1) := by decide +kernel
theorem dX9_raced_91 : decode cX9_raced 91 = .ok (.istore_n 1, 1) := by decide +kernel
theorem dX9_raced_92 : decode cX9_raced 92 = .ok (.iload_n 1, 1) := by decide +kernel
theorem dX9_raced_93 : decode cX9_raced 93 = .ok (.sipush 999, 3) := by decide +kernel
theorem dX9_raced_96 : decode cX9_raced 96 = .ok (.if_icmp .gt 132, 3) := by decide +kernel
theorem dX9_raced_99 : decode cX9_raced 99 = .ok (.iconst 0, 1) := by decide +kernel
theorem dX9_raced_100 : decode cX9_raced 100 = .ok (.istore_n 2, 1) := by decide +kernel
theorem dX9_raced_101 : decode cX9_raced 101 = .ok (.iload_n 2, 1) := by decide +kernel
theorem dX9_raced_102 : decode cX9_raced 102 = .ok (.aload_n 0, 1) := by decide +kernel
theorem dX9_raced_103 : decode cX9_raced 103 = .ok (.getfield 117, 3) := by decide +kernel
theorem dX9_raced_106 : decode cX9_raced 106 = .ok (.if_icmp .ge 116, 3) := by decide +kernel
theorem dX9_raced_109 : decode cX9_raced 109 = .ok (.aload_n 0, 1) := by decide +kernel
theorem dX9_raced_110 : decode cX9_raced 110 = .ok (.getfield 102, 3) := by decide +kernel
theorem dX9_raced_113 : decode cX9_raced 113 = .ok (.iload_n 2, 1) := by decide +kernel
theorem dX9_raced_114 : decode cX9_raced 114 = .ok (.iaload, 1) := by decide +kernel
theorem dX9_raced_115 : decode cX9_raced 115 = .ok (.aload_n 0, 1) := by decide +kernel
theorem dX9_raced_116 : decode cX9_raced 116 = .ok (.getfield 7, 3) := by decide +kernel
theorem dX9_raced_119 : decode cX9_raced 119 = .ok (.if_icmp .lt 6, 3) := by decide +kernel
theorem dX9_raced_122 : decode cX9_raced 122 = .ok (.goto 94, 3) := by decide +kernel
theorem dX9_raced_125 : decode cX9_raced 125 = .ok (.aload_n 0, 1) := by decide +kernel
theorem dX9_raced_126 : decode cX9_raced 126 = .ok (.iload_n 2, 1) := by decide +kernel
theorem dX9_raced_127 : decode cX9_raced 127 = .ok (.invokevirtual 134, 3) := by decide +kernel
theorem dX9_raced_130 : decode cX9_raced 130 = .ok (.aload_n 0, 1) := by decide +kernel
theorem dX9_raced_131 : decode cX9_raced 131 = .ok (.aload_n 0, 1) := by decide +kernel
theorem dX9_raced_132 : decode cX9_raced 132 = .ok (.getfield 102, 3) := by decide +kernel
theorem dX9_raced_135 : decode cX9_raced 135 = .ok (.iload_n 2, 1) := by decide +kernel
theorem dX9_raced_136 : decode cX9_raced 136 = .ok (.iaload, 1) := by decide +kernel
theorem dX9_raced_137 : decode cX9_raced 137 = .ok (.putfield 257, 3) := by decide +kernel
theorem dX9_raced_140 : decode cX9_raced 140 = .ok (.aload_n 0, 1) := by decide +kernel
theorem dX9_raced_141 : decode cX9_raced 141 = .ok (.aload_n 0, 1) := by decide +kernel
theorem dX9_raced_142 : decode cX9_raced 142 = .ok (.getfield 105, 3) := by decide +kernel
theorem dX9_raced_145 : decode cX9_raced 145 = .ok (.iload_n 2, 1) := by decide +kernel
theorem dX9_raced_146 : decode cX9_raced 146 = .ok (.iaload, 1) := by decide +kernel
theorem dX9_raced_147 : decode cX9_raced 147 = .ok (.putfield 254, 3) := by decide +kernel
theorem dX9_raced_150 : decode cX9_raced 150 = .ok (.aload_n 0, 1) := by decide +kernel
theorem dX9_raced_151 : decode cX9_raced 151 = .ok (.aload_n 0, 1) := by decide +kernel
theorem dX9_raced_152 : decode cX9_raced 152 = .ok (.getfield 108, 3) := by decide +kernel
theorem dX9_raced_155 : decode cX9_raced 155 = .ok (.iload_n 2, 1) := by decide +kernel
theorem dX9_raced_156 : decode cX9_raced 156 = .ok (.iaload, 1) := by decide +kernel
theorem dX9_raced_157 : decode cX9_raced 157 = .ok (.putfield 263, 3) := by decide +kernel
theorem dX9_raced_160 : decode cX9_raced 160 = .ok (.aload_n 0, 1) := by decide +kernel
theorem dX9_raced_161 : decode cX9_raced 161 = .ok (.invokevirtual 340, 3) := by decide +kernel
theorem dX9_raced_164 : decode cX9_raced 164 = .ok (.aload_n 0, 1) := by decide +kernel
theorem dX9_raced_165 : decode cX9_raced 165 = .ok (.getfield 102, 3) := by decide +kernel
theorem dX9_raced_168 : decode cX9_raced 168 = .ok (.iload_n 2, 1) := by decide +kernel
theorem dX9_raced_169 : decode cX9_raced 169 = .ok (.aload_n 0, 1) := by decide +kernel
theorem dX9_raced_170 : decode cX9_raced 170 = .ok (.getfield 257, 3) := by decide +kernel
theorem dX9_raced_173 : decode cX9_raced 173 = .ok (.iastore, 1) := by decide +kernel
theorem dX9_raced_174 : decode cX9_raced 174 = .ok (.aload_n 0, 1) := by decide +kernel
theorem dX9_raced_175 : decode cX9_raced 175 = .ok (.getfield 105, 3) := by decide +kernel
theorem dX9_raced_178 : decode cX9_raced 178 = .ok (.iload_n 2, 1) := by decide +kernel
theorem dX9_raced_179 : decode cX9_raced 179 = .ok (.aload_n 0, 1) := by decide +kernel
theorem dX9_raced_180 : decode cX9_raced 180 = .ok (.getfield 254, 3) := by decide +kernel
theorem dX9_raced_183 : decode cX9_raced 183 = .ok (.iastore, 1) := by decide +kernel
theorem dX9_raced_184 : decode cX9_raced 184 = .ok (.aload_n 0, 1) := by decide +kernel
theorem dX9_raced_185 : decode cX9_raced 185 = .ok (.getfield 108, 3) := by decide +kernel
theorem dX9_raced_188 : decode cX9_raced 188 = .ok (.iload_n 2, 1) := by decide +kernel
theorem dX9_raced_189 : decode cX9_raced 189 = .ok (.aload_n 0, 1) := by decide +kernel
theorem dX9_raced_190 : decode cX9_raced 190 = .ok (.getfield 263, 3) := by decide +kernel
theorem dX9_raced_193 : decode cX9_raced 193 = .ok (.iastore, 1) := by decide +kernel
theorem dX9_raced_194 : decode cX9_raced 194 = .ok (.aload_n 0, 1) := by decide +kernel
theorem dX9_raced_195 : decode cX9_raced 195 = .ok (.getfield 257, 3) := by decide +kernel
theorem dX9_raced_198 : decode cX9_raced 198 = .ok (.aload_n 0, 1) := by decide +kernel
theorem dX9_raced_199 : decode cX9_raced 199 = .ok (.getfield 7, 3) := by decide +kernel
theorem dX9_raced_202 : decode cX9_raced 202 = .ok (.if_icmp .lt 14, 3) := by decide +kernel
theorem dX9_raced_205 : decode cX9_raced 205 = .ok (.aload_n 0, 1) := by decide +kernel
theorem dX9_raced_206 : decode cX9_raced 206 = .ok (.getfield 111, 3) := by decide +kernel
theorem dX9_raced_209 : decode cX9_raced 209 = .ok (.iload_n 2, 1) := by decide +kernel
theorem dX9_raced_210 : decode cX9_raced 210 = .ok (.aload_n 0, 1) := by decide +kernel
theorem dX9_raced_211 : decode cX9_raced 211 = .ok (.iload_n 1, 1) := by decide +kernel
theorem dX9_raced_212 : decode cX9_raced 212 = .ok (.invokevirtual 287, 3) := by decide +kernel
theorem dX9_raced_215 : decode cX9_raced 215 = .ok (.iastore, 1) := by decide +kernel
theorem dX9_raced_216 : decode cX9_raced 216 = .ok (.iinc 2 1, 3) := by decide +kernel
theorem dX9_raced_219 : decode cX9_raced 219 = .ok (.goto (-118), 3) := by decide +kernel
theorem dX9_raced_222 : decode cX9_raced 222 = .ok (.iinc 1 1, 3) := by decide +kernel
theorem dX9_raced_225 : decode cX9_raced 225 = .ok (.goto (-133), 3) := by decide +kernel
theorem dX9_raced_228 : decode cX9_raced 228 = .ok (.iconst (-1), 1) := by decide +kernel
theorem dX9_raced_229 : decode cX9_raced 229 = .ok (.istore_n 1, 1) := by decide +kernel
theorem dX9_raced_230 : decode cX9_raced 230 = .ok (.iconst 0, 1) := by decide +kernel
theorem dX9_raced_231 : decode cX9_raced 231 = .ok (.istore_n 2, 1) := by decide +kernel
theorem dX9_raced_232 : decode cX9_raced 232 = .ok (.iload_n 2, 1) := by decide +kernel
theorem dX9_raced_233 : decode cX9_raced 233 = .ok (.aload_n 0, 1) := by decide +kernel
theorem dX9_raced_234 : decode cX9_raced 234 = .ok (.getfield 117, 3) := by decide +kernel
theorem dX9_raced_237 : decode cX9_raced 237 = .ok (.if_icmp .ge 43, 3) := by decide +kernel
theorem dX9_raced_240 : decode cX9_raced 240 = .ok (.aload_n 0, 1) := by decide +kernel
theorem dX9_raced_241 : decode cX9_raced 241 = .ok (.getfield 111, 3) := by decide +kernel
theorem dX9_raced_244 : decode cX9_raced 244 = .ok (.iload_n 2, 1) := by decide +kernel
theorem dX9_raced_245 : decode cX9_raced 245 = .ok (.iaload, 1) := by decide +kernel
theorem dX9_raced_246 : decode cX9_raced 246 = .ok (.sipush 999, 3) := by decide +kernel
theorem dX9_raced_249 : decode cX9_raced 249 = .ok (.if_icmp .ge 25, 3) := by decide +kernel
theorem dX9_raced_252 : decode cX9_raced 252 = .ok (.iload_n 1, 1) := by decide +kernel
theorem dX9_raced_253 : decode cX9_raced 253 = .ok (.iconst (-1), 1) := by decide +kernel
theorem dX9_raced_254 : decode cX9_raced 254 = .ok (.if_icmp .eq 18, 3) := by decide +kernel
theorem dX9_raced_257 : decode cX9_raced 257 = .ok (.aload_n 0, 1) := by decide +kernel
theorem dX9_raced_258 : decode cX9_raced 258 = .ok (.getfield 111, 3) := by decide +kernel
theorem dX9_raced_261 : decode cX9_raced 261 = .ok (.iload_n 2, 1) := by decide +kernel
theorem dX9_raced_262 : decode cX9_raced 262 = .ok (.iaload, 1) := by decide +kernel
theorem dX9_raced_263 : decode cX9_raced 263 = .ok (.aload_n 0, 1) := by decide +kernel
theorem dX9_raced_264 : decode cX9_raced 264 = .ok (.getfield 111, 3) := by decide +kernel
theorem dX9_raced_267 : decode cX9_raced 267 = .ok (.iload_n 1, 1) := by decide +kernel
theorem dX9_raced_268 : decode cX9_raced 268 = .ok (.iaload, 1) := by decide +kernel
theorem dX9_raced_269 : decode cX9_raced 269 = .ok (.if_icmp .ge 5, 3) := by decide +kernel
theorem dX9_raced_272 : decode cX9_raced 272 = .ok (.iload_n 2, 1) := by decide +kernel
theorem dX9_raced_273 : decode cX9_raced 273 = .ok (.istore_n 1, 1) := by decide +kernel
theorem dX9_raced_274 : decode cX9_raced 274 = .ok (.iinc 2 1, 3) := by decide +kernel
theorem dX9_raced_277 : decode cX9_raced 277 = .ok (.goto (-45), 3) := by decide +kernel
theorem dX9_raced_280 : decode cX9_raced 280 = .ok (.iload_n 1, 1) := by decide +kernel
theorem dX9_raced_281 : decode cX9_raced 281 = .ok (.iconst (-1), 1) := by decide +kernel
theorem dX9_raced_282 : decode cX9_raced 282 = .ok (.if_icmp .eq 13, 3) := by decide +kernel
theorem dX9_raced_285 : decode cX9_raced 285 = .ok (.aload_n 0, 1) := by decide +kernel
theorem dX9_raced_286 : decode cX9_raced 286 = .ok (.getfield 47, 3) := by decide +kernel
theorem dX9_raced_289 : decode cX9_raced 289 = .ok (.iload_n 1, 1) := by decide +kernel
theorem dX9_raced_290 : decode cX9_raced 290 = .ok (.dup2, 1) := by decide +kernel
theorem dX9_raced_291 : decode cX9_raced 291 = .ok (.iaload, 1) := by decide +kernel
theorem dX9_raced_292 : decode cX9_raced 292 = .ok (.iconst 1, 1) := by decide +kernel
theorem dX9_raced_293 : decode cX9_raced 293 = .ok (.iadd, 1) := by decide +kernel
theorem dX9_raced_294 : decode cX9_raced 294 = .ok (.iastore, 1) := by decide +kernel
theorem dX9_raced_295 : decode cX9_raced 295 = .ok (.iload_n 1, 1) := by decide +kernel
theorem dX9_raced_296 : decode cX9_raced 296 = .ok (.ireturn, 1) := by decide +kernel
theorem dX9_race_0 : decode cX9_race 0 = .ok (.aload_n 0, 1) := by decide +kernel
theorem dX9_race_1 : decode cX9_race 1 = .ok (.getfield 117, 3) := by decide +kernel
theorem dX9_race_4 : decode cX9_race 4 = .ok (.ifCond .ne 12, 3) := by decide +kernel
theorem dX9_race_7 : decode cX9_race 7 = .ok (.aload_n 0, 1) := by decide +kernel
theorem dX9_race_8 : decode cX9_race 8 = .ok (.bipush (-5), 2) := by decide +kernel
theorem dX9_race_10 : decode cX9_race 10 = .ok (.invokevirtual 330, 3) := by decide +kernel
theorem dX9_race_13 : decode cX9_race 13 = .ok (.goto 7, 3) := by decide +kernel
theorem dX9_race_16 : decode cX9_race 16 = .ok (.aload_n 0, 1) := by decide +kernel
theorem dX9_race_17 : decode cX9_race 17 = .ok (.invokevirtual 343, 3) := by decide +kernel
theorem dX9_race_20 : decode cX9_race 20 = .ok (.ireturn, 1) := by decide +kernel
theorem dX9_summer_0 : decode cX9_summer 0 = .ok (.aload_n 0, 1) := by decide +kernel
theorem dX9_summer_1 : decode cX9_summer 1 = .ok (.iload_n 2, 1) := by decide +kernel
theorem dX9_summer_2 : decode cX9_summer 2 = .ok (.invokevirtual 131, 3) := by decide +kernel
theorem dX9_summer_5 : decode cX9_summer 5 = .ok (.ifCond .ne 9, 3) := by decide +kernel
theorem dX9_summer_8 : decode cX9_summer 8 = .ok (.aload_n 0, 1) := by decide +kernel
theorem dX9_summer_9 : decode cX9_summer 9 = .ok (.iconst (-1), 1) := by decide +kernel
theorem dX9_summer_10 : decode cX9_summer 10 = .ok (.invokevirtual 127, 3) := by decide +kernel
theorem dX9_summer_13 : decode cX9_summer 13 = .ok (.ireturn, 1) := by decide +kernel
theorem dX9_summer_14 : decode cX9_summer 14 = .ok (.iload_n 1, 1) := by decide +kernel
theorem dX9_summer_15 : decode cX9_summer 15 = .ok (.iconst 1, 1) := by decide +kernel
theorem dX9_summer_16 : decode cX9_summer 16 = .ok (.if_icmp .lt 9, 3) := by decide +kernel
theorem dX9_summer_19 : decode cX9_summer 19 = .ok (.iload_n 1, 1) := by decide +kernel
theorem dX9_summer_20 : decode cX9_summer 20 = .ok (.bipush 30, 2) := by decide +kernel
theorem dX9_summer_22 : decode cX9_summer 22 = .ok (.if_icmp .le 10, 3) := by decide +kernel
theorem dX9_summer_25 : decode cX9_summer 25 = .ok (.aload_n 0, 1) := by decide +kernel
theorem dX9_summer_26 : decode cX9_summer 26 = .ok (.bipush (-6), 2) := by decide +kernel
theorem dX9_summer_28 : decode cX9_summer 28 = .ok (.invokevirtual 127, 3) := by decide +kernel
theorem dX9_summer_31 : decode cX9_summer 31 = .ok (.ireturn, 1) := by decide +kernel
theorem dX9_summer_32 : decode cX9_summer 32 = .ok (.iconst 0, 1) := by decide +kernel
theorem dX9_summer_33 : decode cX9_summer 33 = .ok (.istore_n 3, 1) := by decide +kernel
theorem dX9_summer_34 : decode cX9_summer 34 = .ok (.iconst 0, 1) := by decide +kernel
theorem dX9_summer_35 : decode cX9_summer 35 = .ok (.istore 4, 2) := by decide +kernel
theorem dX9_summer_37 : decode cX9_summer 37 = .ok (.iload 4, 2) := by decide +kernel
theorem dX9_summer_39 : decode cX9_summer 39 = .ok (.iload_n 1, 1) := by decide +kernel
theorem dX9_summer_40 : decode cX9_summer 40 = .ok (.if_icmp .ge 20, 3) := by decide +kernel
theorem dX9_summer_43 : decode cX9_summer 43 = .ok (.aload_n 0, 1) := by decide +kernel
theorem dX9_summer_44 : decode cX9_summer 44 = .ok (.invokevirtual 343, 3) := by decide +kernel
theorem dX9_summer_47 : decode cX9_summer 47 = .ok (.iload_n 2, 1) := by decide +kernel
theorem dX9_summer_48 : decode cX9_summer 48 = .ok (.if_icmp .ne 6, 3) := by decide +kernel
theorem dX9_summer_51 : decode cX9_summer 51 = .ok (.iinc 3 1, 3) := by decide +kernel
theorem dX9_summer_54 : decode cX9_summer 54 = .ok (.iinc 4 1, 3) := by decide +kernel
theorem dX9_summer_57 : decode cX9_summer 57 = .ok (.goto (-20), 3) := by decide +kernel
theorem dX9_summer_60 : decode cX9_summer 60 = .ok (.iload_n 3, 1) := by decide +kernel
theorem dX9_summer_61 : decode cX9_summer 61 = .ok (.ireturn, 1) := by decide +kernel
theorem dX9_seed_0 : decode cX9_seed 0 = .ok (.aload_n 0, 1) := by decide +kernel
theorem dX9_seed_1 : decode cX9_seed 1 = .ok (.getfield 22, 3) := by decide +kernel
theorem dX9_seed_4 : decode cX9_seed 4 = .ok (.istore_n 2, 1) := by decide +kernel
theorem dX9_seed_5 : decode cX9_seed 5 = .ok (.aload_n 0, 1) := by decide +kernel
theorem dX9_seed_6 : decode cX9_seed 6 = .ok (.iload_n 1, 1) := by decide +kernel
theorem dX9_seed_7 : decode cX9_seed 7 = .ok (.putfield 22, 3) := by decide +kernel
theorem dX9_seed_10 : decode cX9_seed 10 = .ok (.iload_n 2, 1) := by decide +kernel
theorem dX9_seed_11 : decode cX9_seed 11 = .ok (.ireturn, 1) := by decide +kernel
theorem dX9_body_0 : decode cX9_body 0 = .ok (.aload_n 0, 1) := by decide +kernel
theorem dX9_body_1 : decode cX9_body 1 = .ok (.getfield 346, 3) := by decide +kernel
theorem dX9_body_4 : decode cX9_body 4 = .ok (.bipush 20, 2) := by decide +kernel
theorem dX9_body_6 : decode cX9_body 6 = .ok (.if_icmp .ge 13, 3) := by decide +kernel
theorem dX9_body_9 : decode cX9_body 9 = .ok (.aload_n 0, 1) := by decide +kernel
theorem dX9_body_10 : decode cX9_body 10 = .ok (.getfield 114, 3) := by decide +kernel
theorem dX9_body_13 : decode cX9_body 13 = .ok (.aload_n 0, 1) := by decide +kernel
theorem dX9_body_14 : decode cX9_body 14 = .ok (.getfield 346, 3) := by decide +kernel
theorem dX9_body_17 : decode cX9_body 17 = .ok (.iload_n 1, 1) := by decide +kernel
theorem dX9_body_18 : decode cX9_body 18 = .ok (.iastore, 1) := by decide +kernel
theorem dX9_body_19 : decode cX9_body 19 = .ok (.aload_n 0, 1) := by decide +kernel
theorem dX9_body_20 : decode cX9_body 20 = .ok (.dup, 1) := by decide +kernel
theorem dX9_body_21 : decode cX9_body 21 = .ok (.getfield 346, 3) := by decide +kernel
theorem dX9_body_24 : decode cX9_body 24 = .ok (.iconst 1, 1) := by decide +kernel
theorem dX9_body_25 : decode cX9_body 25 = .ok (.iadd, 1) := by decide +kernel
theorem dX9_body_26 : decode cX9_body 26 = .ok (.putfield 346, 3) := by decide +kernel
theorem dX9_body_29 : decode cX9_body 29 = .ok (.return_, 1) := by decide +kernel
theorem dX9_hopping_0 : decode cX9_hopping 0 = .ok (.aload_n 0, 1) := by decide +kernel
theorem dX9_hopping_1 : decode cX9_hopping 1 = .ok (.getfield 32, 3) := by decide +kernel
theorem dX9_hopping_4 : decode cX9_hopping 4 = .ok (.iload_n 1, 1) := by decide +kernel
theorem dX9_hopping_5 : decode cX9_hopping 5 = .ok (.iaload, 1) := by decide +kernel
theorem dX9_hopping_6 : decode cX9_hopping 6 = .ok (.istore_n 3, 1) := by decide +kernel
theorem dX9_hopping_7 : decode cX9_hopping 7 = .ok (.iload_n 3, 1) := by decide +kernel
theorem dX9_hopping_8 : decode cX9_hopping 8 = .ok (.bipush 6, 2) := by decide +kernel
theorem dX9_hopping_10 : decode cX9_hopping 10 = .ok (.if_icmp .ne 9, 3) := by decide +kernel
theorem dX9_hopping_13 : decode cX9_hopping 13 = .ok (.aload_n 0, 1) := by decide +kernel
theorem dX9_hopping_14 : decode cX9_hopping 14 = .ok (.bipush 70, 2) := by decide +kernel
theorem dX9_hopping_16 : decode cX9_hopping 16 = .ok (.invokevirtual 349, 3) := by decide +kernel
theorem dX9_hopping_19 : decode cX9_hopping 19 = .ok (.iload_n 3, 1) := by decide +kernel
theorem dX9_hopping_20 : decode cX9_hopping 20 = .ok (.iconst 4, 1) := by decide +kernel
theorem dX9_hopping_21 : decode cX9_hopping 21 = .ok (.if_icmp .eq 9, 3) := by decide +kernel
theorem dX9_hopping_24 : decode cX9_hopping 24 = .ok (.iload_n 3, 1) := by decide +kernel
theorem dX9_hopping_25 : decode cX9_hopping 25 = .ok (.bipush 6, 2) := by decide +kernel
theorem dX9_hopping_27 : decode cX9_hopping 27 = .ok (.if_icmp .ne 9, 3) := by decide +kernel
theorem dX9_hopping_30 : decode cX9_hopping 30 = .ok (.aload_n 0, 1) := by decide +kernel
theorem dX9_hopping_31 : decode cX9_hopping 31 = .ok (.bipush 51, 2) := by decide +kernel
theorem dX9_hopping_33 : decode cX9_hopping 33 = .ok (.invokevirtual 349, 3) := by decide +kernel
theorem dX9_hopping_36 : decode cX9_hopping 36 = .ok (.iload_n 3, 1) := by decide +kernel
theorem dX9_hopping_37 : decode cX9_hopping 37 = .ok (.iconst 1, 1) := by decide +kernel
theorem dX9_hopping_38 : decode cX9_hopping 38 = .ok (.if_icmp .eq 8, 3) := by decide +kernel
theorem dX9_hopping_41 : decode cX9_hopping 41 = .ok (.iload_n 3, 1) := by decide +kernel
theorem dX9_hopping_42 : decode cX9_hopping 42 = .ok (.iconst 3, 1) := by decide +kernel
theorem dX9_hopping_43 : decode cX9_hopping 43 = .ok (.if_icmp .ne 9, 3) := by decide +kernel
theorem dX9_hopping_46 : decode cX9_hopping 46 = .ok (.aload_n 0, 1) := by decide +kernel
theorem dX9_hopping_47 : decode cX9_hopping 47 = .ok (.bipush 20, 2) := by decide +kernel
theorem dX9_hopping_49 : decode cX9_hopping 49 = .ok (.invokevirtual 349, 3) := by decide +kernel
theorem dX9_hopping_52 : decode cX9_hopping 52 = .ok (.aload_n 0, 1) := by decide +kernel
theorem dX9_hopping_53 : decode cX9_hopping 53 = .ok (.bipush 10, 2) := by decide +kernel
theorem dX9_hopping_55 : decode cX9_hopping 55 = .ok (.invokevirtual 349, 3) := by decide +kernel
theorem dX9_hopping_58 : decode cX9_hopping 58 = .ok (.iload_n 2, 1) := by decide +kernel
theorem dX9_hopping_59 : decode cX9_hopping 59 = .ok (.iload_n 1, 1) := by decide +kernel
theorem dX9_hopping_60 : decode cX9_hopping 60 = .ok (.iadd, 1) := by decide +kernel
theorem dX9_hopping_61 : decode cX9_hopping 61 = .ok (.istore 4, 2) := by decide +kernel
theorem dX9_hopping_63 : decode cX9_hopping 63 = .ok (.iload_n 3, 1) := by decide +kernel
theorem dX9_hopping_64 : decode cX9_hopping 64 = .ok (.iconst 1, 1) := by decide +kernel
theorem dX9_hopping_65 : decode cX9_hopping 65 = .ok (.if_icmp .eq 8, 3) := by decide +kernel
theorem dX9_hopping_68 : decode cX9_hopping 68 = .ok (.iload_n 3, 1) := by decide +kernel
theorem dX9_hopping_69 : decode cX9_hopping 69 = .ok (.iconst 3, 1) := by decide +kernel
theorem dX9_hopping_70 : decode cX9_hopping 70 = .ok (.if_icmp .ne 14, 3) := by decide +kernel
theorem dX9_hopping_73 : decode cX9_hopping 73 = .ok (.iload 4, 2) := by decide +kernel
theorem dX9_hopping_75 : decode cX9_hopping 75 = .ok (.aload_n 0, 1) := by decide +kernel
theorem dX9_hopping_76 : decode cX9_hopping 76 = .ok (.getfield 35, 3) := by decide +kernel
theorem dX9_hopping_79 : decode cX9_hopping 79 = .ok (.iload_n 1, 1) := by decide +kernel
theorem dX9_hopping_80 : decode cX9_hopping 80 = .ok (.iaload, 1) := by decide +kernel
theorem dX9_hopping_81 : decode cX9_hopping 81 = .ok (.iadd, 1) := by decide +kernel
theorem dX9_hopping_82 : decode cX9_hopping 82 = .ok (.istore 4, 2) := by decide +kernel
theorem dX9_hopping_84 : decode cX9_hopping 84 = .ok (.iload_n 3, 1) := by decide +kernel
theorem dX9_hopping_85 : decode cX9_hopping 85 = .ok (.iconst 4, 1) := by decide +kernel
theorem dX9_hopping_86 : decode cX9_hopping 86 = .ok (.if_icmp .eq 9, 3) := by decide +kernel
theorem dX9_hopping_89 : decode cX9_hopping 89 = .ok (.iload_n 3, 1) := by decide +kernel
theorem dX9_hopping_90 : decode cX9_hopping 90 = .ok (.bipush 6, 2) := by decide +kernel
theorem dX9_hopping_92 : decode cX9_hopping 92 = .ok (.if_icmp .ne 9, 3) := by decide +kernel
theorem dX9_hopping_95 : decode cX9_hopping 95 = .ok (.iload 4, 2) := by decide +kernel
theorem dX9_hopping_97 : decode cX9_hopping 97 = .ok (.iload_n 1, 1) := by decide +kernel
theorem dX9_hopping_98 : decode cX9_hopping 98 = .ok (.isub, 1) := by decide +kernel
theorem dX9_hopping_99 : decode cX9_hopping 99 = .ok (.istore 4, 2) := by decide +kernel
theorem dX9_hopping_101 : decode cX9_hopping 101 = .ok (.iload_n 3, 1) := by decide +kernel
theorem dX9_hopping_102 : decode cX9_hopping 102 = .ok (.bipush 6, 2) := by decide +kernel
theorem dX9_hopping_104 : decode cX9_hopping 104 = .ok (.if_icmp .ne 10, 3) := by decide +kernel
theorem dX9_hopping_107 : decode cX9_hopping 107 = .ok (.iload 4, 2) := by decide +kernel
theorem dX9_hopping_109 : decode cX9_hopping 109 = .ok (.iconst 2, 1) := by decide +kernel
theorem dX9_hopping_110 : decode cX9_hopping 110 = .ok (.imul, 1) := by decide +kernel
theorem dX9_hopping_111 : decode cX9_hopping 111 = .ok (.goto 5, 3) := by decide +kernel
theorem dX9_hopping_114 : decode cX9_hopping 114 = .ok (.iload 4, 2) := by decide +kernel
theorem dX9_hopping_116 : decode cX9_hopping 116 = .ok (.ireturn, 1) := by decide +kernel
theorem dX9_falling_0 : decode cX9_falling 0 = .ok (.aload_n 0, 1) := by decide +kernel
theorem dX9_falling_1 : decode cX9_falling 1 = .ok (.getfield 32, 3) := by decide +kernel
theorem dX9_falling_4 : decode cX9_falling 4 = .ok (.iload_n 1, 1) := by decide +kernel
theorem dX9_falling_5 : decode cX9_falling 5 = .ok (.iaload, 1) := by decide +kernel
theorem dX9_falling_6 : decode cX9_falling 6 = .ok (.istore_n 3, 1) := by decide +kernel
theorem dX9_falling_7 : decode cX9_falling 7 = .ok (.iload_n 2, 1) := by decide +kernel
theorem dX9_falling_8 : decode cX9_falling 8 = .ok (.istore 4, 2) := by decide +kernel
theorem dX9_falling_10 : decode cX9_falling 10 = .ok (.iload_n 3, 1) := by decide +kernel
theorem dX9_falling_11 : decode cX9_falling 11 = .ok (.bipush 6, 2) := by decide +kernel
theorem dX9_falling_13 : decode cX9_falling 13 = .ok (.if_icmp .ne 19, 3) := by decide +kernel
theorem dX9_falling_16 : decode cX9_falling 16 = .ok (.aload_n 0, 1) := by decide +kernel
theorem dX9_falling_17 : decode cX9_falling 17 = .ok (.bipush 71, 2) := by decide +kernel
theorem dX9_falling_19 : decode cX9_falling 19 = .ok (.invokevirtual 349, 3) := by decide +kernel
theorem dX9_falling_22 : decode cX9_falling 22 = .ok (.iload_n 2, 1) := by decide +kernel
theorem dX9_falling_23 : decode cX9_falling 23 = .ok (.aload_n 0, 1) := by decide +kernel
theorem dX9_falling_24 : decode cX9_falling 24 = .ok (.getfield 35, 3) := by decide +kernel
theorem dX9_falling_27 : decode cX9_falling 27 = .ok (.iload_n 1, 1) := by decide +kernel
theorem dX9_falling_28 : decode cX9_falling 28 = .ok (.iaload, 1) := by decide +kernel
theorem dX9_falling_29 : decode cX9_falling 29 = .ok (.isub, 1) := by decide +kernel
theorem dX9_falling_30 : decode cX9_falling 30 = .ok (.istore 4, 2) := by decide +kernel
theorem dX9_falling_32 : decode cX9_falling 32 = .ok (.iload_n 3, 1) := by decide +kernel
theorem dX9_falling_33 : decode cX9_falling 33 = .ok (.iconst 3, 1) := by decide +kernel
theorem dX9_falling_34 : decode cX9_falling 34 = .ok (.if_icmp .ne 14, 3) := by decide +kernel
theorem dX9_falling_37 : decode cX9_falling 37 = .ok (.aload_n 0, 1) := by decide +kernel
theorem dX9_falling_38 : decode cX9_falling 38 = .ok (.bipush 40, 2) := by decide +kernel
theorem dX9_falling_40 : decode cX9_falling 40 = .ok (.invokevirtual 349, 3) := by decide +kernel
theorem dX9_falling_43 : decode cX9_falling 43 = .ok (.iload_n 2, 1) := by decide +kernel
theorem dX9_falling_44 : decode cX9_falling 44 = .ok (.iconst 1, 1) := by decide +kernel
theorem dX9_falling_45 : decode cX9_falling 45 = .ok (.iadd, 1) := by decide +kernel
theorem dX9_falling_46 : decode cX9_falling 46 = .ok (.istore 4, 2) := by decide +kernel
theorem dX9_falling_48 : decode cX9_falling 48 = .ok (.iload_n 3, 1) := by decide +kernel
theorem dX9_falling_49 : decode cX9_falling 49 = .ok (.iconst 2, 1) := by decide +kernel
theorem dX9_falling_50 : decode cX9_falling 50 = .ok (.if_icmp .eq 8, 3) := by decide +kernel
theorem dX9_falling_53 : decode cX9_falling 53 = .ok (.iload_n 3, 1) := by decide +kernel
theorem dX9_falling_54 : decode cX9_falling 54 = .ok (.iconst 5, 1) := by decide +kernel
theorem dX9_falling_55 : decode cX9_falling 55 = .ok (.if_icmp .ne 7, 3) := by decide +kernel
theorem dX9_falling_58 : decode cX9_falling 58 = .ok (.iconst 1, 1) := by decide +kernel
theorem dX9_falling_59 : decode cX9_falling 59 = .ok (.goto 4, 3) := by decide +kernel
theorem dX9_falling_62 : decode cX9_falling 62 = .ok (.iconst 0, 1) := by decide +kernel
theorem dX9_falling_63 : decode cX9_falling 63 = .ok (.istore 5, 2) := by decide +kernel
theorem dX9_falling_65 : decode cX9_falling 65 = .ok (.iload 5, 2) := by decide +kernel
theorem dX9_falling_67 : decode cX9_falling 67 = .ok (.ifCond .eq 9, 3) := by decide +kernel
theorem dX9_falling_70 : decode cX9_falling 70 = .ok (.aload_n 0, 1) := by decide +kernel
theorem dX9_falling_71 : decode cX9_falling 71 = .ok (.bipush 30, 2) := by decide +kernel
theorem dX9_falling_73 : decode cX9_falling 73 = .ok (.invokevirtual 349, 3) := by decide +kernel
theorem dX9_falling_76 : decode cX9_falling 76 = .ok (.aload_n 0, 1) := by decide +kernel
theorem dX9_falling_77 : decode cX9_falling 77 = .ok (.bipush 11, 2) := by decide +kernel
theorem dX9_falling_79 : decode cX9_falling 79 = .ok (.invokevirtual 349, 3) := by decide +kernel
theorem dX9_falling_82 : decode cX9_falling 82 = .ok (.aload_n 0, 1) := by decide +kernel
theorem dX9_falling_83 : decode cX9_falling 83 = .ok (.iload_n 1, 1) := by decide +kernel
theorem dX9_falling_84 : decode cX9_falling 84 = .ok (.iload 4, 2) := by decide +kernel
theorem dX9_falling_86 : decode cX9_falling 86 = .ok (.invokevirtual 352, 3) := by decide +kernel
theorem dX9_falling_89 : decode cX9_falling 89 = .ok (.iconst 2, 1) := by decide +kernel
theorem dX9_falling_90 : decode cX9_falling 90 = .ok (.imul, 1) := by decide +kernel
theorem dX9_falling_91 : decode cX9_falling 91 = .ok (.istore 6, 2) := by decide +kernel
theorem dX9_falling_93 : decode cX9_falling 93 = .ok (.iload 5, 2) := by decide +kernel
theorem dX9_falling_95 : decode cX9_falling 95 = .ok (.ifCond .eq 10, 3) := by decide +kernel
theorem dX9_falling_98 : decode cX9_falling 98 = .ok (.iload 6, 2) := by decide +kernel
theorem dX9_falling_100 : decode cX9_falling 100 = .ok (.iconst 3, 1) := by decide +kernel
theorem dX9_falling_101 : decode cX9_falling 101 = .ok (.imul, 1) := by decide +kernel
theorem dX9_falling_102 : decode cX9_falling 102 = .ok (.goto 5, 3) := by decide +kernel
theorem dX9_falling_105 : decode cX9_falling 105 = .ok (.iload 6, 2) := by decide +kernel
theorem dX9_falling_107 : decode cX9_falling 107 = .ok (.ireturn, 1) := by decide +kernel
theorem dX9_rising_0 : decode cX9_rising 0 = .ok (.aload_n 0, 1) := by decide +kernel
theorem dX9_rising_1 : decode cX9_rising 1 = .ok (.getfield 32, 3) := by decide +kernel
theorem dX9_rising_4 : decode cX9_rising 4 = .ok (.iload_n 1, 1) := by decide +kernel
theorem dX9_rising_5 : decode cX9_rising 5 = .ok (.iaload, 1) := by decide +kernel
theorem dX9_rising_6 : decode cX9_rising 6 = .ok (.istore_n 3, 1) := by decide +kernel
theorem dX9_rising_7 : decode cX9_rising 7 = .ok (.iload_n 3, 1) := by decide +kernel
theorem dX9_rising_8 : decode cX9_rising 8 = .ok (.iconst 4, 1) := by decide +kernel
theorem dX9_rising_9 : decode cX9_rising 9 = .ok (.if_icmp .eq 9, 3) := by decide +kernel
theorem dX9_rising_12 : decode cX9_rising 12 = .ok (.iload_n 3, 1) := by decide +kernel
theorem dX9_rising_13 : decode cX9_rising 13 = .ok (.bipush 6, 2) := by decide +kernel
theorem dX9_rising_15 : decode cX9_rising 15 = .ok (.if_icmp .ne 9, 3) := by decide +kernel
theorem dX9_rising_18 : decode cX9_rising 18 = .ok (.aload_n 0, 1) := by decide +kernel
theorem dX9_rising_19 : decode cX9_rising 19 = .ok (.bipush 50, 2) := by decide +kernel
theorem dX9_rising_21 : decode cX9_rising 21 = .ok (.invokevirtual 349, 3) := by decide +kernel
theorem dX9_rising_24 : decode cX9_rising 24 = .ok (.iload_n 3, 1) := by decide +kernel
theorem dX9_rising_25 : decode cX9_rising 25 = .ok (.iconst 5, 1) := by decide +kernel
theorem dX9_rising_26 : decode cX9_rising 26 = .ok (.if_icmp .ne 9, 3) := by decide +kernel
theorem dX9_rising_29 : decode cX9_rising 29 = .ok (.aload_n 0, 1) := by decide +kernel
theorem dX9_rising_30 : decode cX9_rising 30 = .ok (.bipush 60, 2) := by decide +kernel
theorem dX9_rising_32 : decode cX9_rising 32 = .ok (.invokevirtual 349, 3) := by decide +kernel
theorem dX9_rising_35 : decode cX9_rising 35 = .ok (.aload_n 0, 1) := by decide +kernel
theorem dX9_rising_36 : decode cX9_rising 36 = .ok (.bipush 12, 2) := by decide +kernel
theorem dX9_rising_38 : decode cX9_rising 38 = .ok (.invokevirtual 349, 3) := by decide +kernel
theorem dX9_rising_41 : decode cX9_rising 41 = .ok (.aload_n 0, 1) := by decide +kernel
theorem dX9_rising_42 : decode cX9_rising 42 = .ok (.iload_n 1, 1) := by decide +kernel
theorem dX9_rising_43 : decode cX9_rising 43 = .ok (.iload_n 2, 1) := by decide +kernel
theorem dX9_rising_44 : decode cX9_rising 44 = .ok (.invokevirtual 355, 3) := by decide +kernel
theorem dX9_rising_47 : decode cX9_rising 47 = .ok (.istore 4, 2) := by decide +kernel
theorem dX9_rising_49 : decode cX9_rising 49 = .ok (.iload 4, 2) := by decide +kernel
theorem dX9_rising_51 : decode cX9_rising 51 = .ok (.aload_n 0, 1) := by decide +kernel
theorem dX9_rising_52 : decode cX9_rising 52 = .ok (.iload_n 1, 1) := by decide +kernel
theorem dX9_rising_53 : decode cX9_rising 53 = .ok (.iload_n 2, 1) := by decide +kernel
theorem dX9_rising_54 : decode cX9_rising 54 = .ok (.aload_n 0, 1) := by decide +kernel
theorem dX9_rising_55 : decode cX9_rising 55 = .ok (.getfield 35, 3) := by decide +kernel
theorem dX9_rising_58 : decode cX9_rising 58 = .ok (.iload_n 1, 1) := by decide +kernel
theorem dX9_rising_59 : decode cX9_rising 59 = .ok (.iaload, 1) := by decide +kernel
theorem dX9_rising_60 : decode cX9_rising 60 = .ok (.isub, 1) := by decide +kernel
theorem dX9_rising_61 : decode cX9_rising 61 = .ok (.invokevirtual 352, 3) := by decide +kernel
theorem dX9_rising_64 : decode cX9_rising 64 = .ok (.ixor, 1) := by decide +kernel
theorem dX9_rising_65 : decode cX9_rising 65 = .ok (.istore 4, 2) := by decide +kernel
theorem dX9_rising_67 : decode cX9_rising 67 = .ok (.iload_n 3, 1) := by decide +kernel
theorem dX9_rising_68 : decode cX9_rising 68 = .ok (.iconst 4, 1) := by decide +kernel
theorem dX9_rising_69 : decode cX9_rising 69 = .ok (.if_icmp .eq 9, 3) := by decide +kernel
theorem dX9_rising_72 : decode cX9_rising 72 = .ok (.iload_n 3, 1) := by decide +kernel
theorem dX9_rising_73 : decode cX9_rising 73 = .ok (.bipush 6, 2) := by decide +kernel
theorem dX9_rising_75 : decode cX9_rising 75 = .ok (.if_icmp .ne 9, 3) := by decide +kernel
theorem dX9_rising_78 : decode cX9_rising 78 = .ok (.iload 4, 2) := by decide +kernel
theorem dX9_rising_80 : decode cX9_rising 80 = .ok (.ineg, 1) := by decide +kernel
theorem dX9_rising_81 : decode cX9_rising 81 = .ok (.goto 17, 3) := by decide +kernel
theorem dX9_rising_84 : decode cX9_rising 84 = .ok (.iload_n 3, 1) := by decide +kernel
theorem dX9_rising_85 : decode cX9_rising 85 = .ok (.iconst 5, 1) := by decide +kernel
theorem dX9_rising_86 : decode cX9_rising 86 = .ok (.if_icmp .ne 10, 3) := by decide +kernel
theorem dX9_rising_89 : decode cX9_rising 89 = .ok (.iload 4, 2) := by decide +kernel
theorem dX9_rising_91 : decode cX9_rising 91 = .ok (.iconst 5, 1) := by decide +kernel
theorem dX9_rising_92 : decode cX9_rising 92 = .ok (.ixor, 1) := by decide +kernel
theorem dX9_rising_93 : decode cX9_rising 93 = .ok (.goto 5, 3) := by decide +kernel
theorem dX9_rising_96 : decode cX9_rising 96 = .ok (.iload 4, 2) := by decide +kernel
theorem dX9_rising_98 : decode cX9_rising 98 = .ok (.ireturn, 1) := by decide +kernel
theorem dX9_act_0 : decode cX9_act 0 = .ok (.aload_n 0, 1) := by decide +kernel
theorem dX9_act_1 : decode cX9_act 1 = .ok (.iconst 0, 1) := by decide +kernel
theorem dX9_act_2 : decode cX9_act 2 = .ok (.putfield 346, 3) := by decide +kernel
theorem dX9_act_5 : decode cX9_act 5 = .ok (.aload_n 0, 1) := by decide +kernel
theorem dX9_act_6 : decode cX9_act 6 = .ok (.iload_n 1, 1) := by decide +kernel
theorem dX9_act_7 : decode cX9_act 7 = .ok (.invokevirtual 131, 3) := by decide +kernel
theorem dX9_act_10 : decode cX9_act 10 = .ok (.ifCond .eq 12, 3) := by decide +kernel
theorem dX9_act_13 : decode cX9_act 13 = .ok (.iload_n 2, 1) := by decide +kernel
theorem dX9_act_14 : decode cX9_act 14 = .ok (.ifCond .lt 8, 3) := by decide +kernel
theorem dX9_act_17 : decode cX9_act 17 = .ok (.iload_n 2, 1) := by decide +kernel
theorem dX9_act_18 : decode cX9_act 18 = .ok (.iconst 2, 1) := by decide +kernel
theorem dX9_act_19 : decode cX9_act 19 = .ok (.if_icmp .le 5, 3) := by decide +kernel
theorem dX9_act_22 : decode cX9_act 22 = .ok (.iconst 0, 1) := by decide +kernel
theorem dX9_act_23 : decode cX9_act 23 = .ok (.ireturn, 1) := by decide +kernel
theorem dX9_act_24 : decode cX9_act 24 = .ok (.iload_n 2, 1) := by decide +kernel
theorem dX9_act_25 : decode cX9_act 25 = .ok (.ifCond .ne 12, 3) := by decide +kernel
theorem dX9_act_28 : decode cX9_act 28 = .ok (.aload_n 0, 1) := by decide +kernel
theorem dX9_act_29 : decode cX9_act 29 = .ok (.iload_n 1, 1) := by decide +kernel
theorem dX9_act_30 : decode cX9_act 30 = .ok (.iload_n 3, 1) := by decide +kernel
theorem dX9_act_31 : decode cX9_act 31 = .ok (.invokevirtual 352, 3) := by decide +kernel
theorem dX9_act_34 : decode cX9_act 34 = .ok (.goto 23, 3) := by decide +kernel
theorem dX9_act_37 : decode cX9_act 37 = .ok (.iload_n 2, 1) := by decide +kernel
theorem dX9_act_38 : decode cX9_act 38 = .ok (.iconst 1, 1) := by decide +kernel
theorem dX9_act_39 : decode cX9_act 39 = .ok (.if_icmp .ne 12, 3) := by decide +kernel
theorem dX9_act_42 : decode cX9_act 42 = .ok (.aload_n 0, 1) := by decide +kernel
theorem dX9_act_43 : decode cX9_act 43 = .ok (.iload_n 1, 1) := by decide +kernel
theorem dX9_act_44 : decode cX9_act 44 = .ok (.iload_n 3, 1) := by decide +kernel
theorem dX9_act_45 : decode cX9_act 45 = .ok (.invokevirtual 355, 3) := by decide +kernel
theorem dX9_act_48 : decode cX9_act 48 = .ok (.goto 9, 3) := by decide +kernel
theorem dX9_act_51 : decode cX9_act 51 = .ok (.aload_n 0, 1) := by decide +kernel
theorem dX9_act_52 : decode cX9_act 52 = .ok (.iload_n 1, 1) := by decide +kernel
theorem dX9_act_53 : decode cX9_act 53 = .ok (.iload_n 3, 1) := by decide +kernel
theorem dX9_act_54 : decode cX9_act 54 = .ok (.invokevirtual 358, 3) := by decide +kernel
theorem dX9_act_57 : decode cX9_act 57 = .ok (.ireturn, 1) := by decide +kernel
theorem dX9_trace_0 : decode cX9_trace 0 = .ok (.iload_n 1, 1) := by decide +kernel
theorem dX9_trace_1 : decode cX9_trace 1 = .ok (.ifCond .lt 26, 3) := by decide +kernel
theorem dX9_trace_4 : decode cX9_trace 4 = .ok (.iload_n 1, 1) := by decide +kernel
theorem dX9_trace_5 : decode cX9_trace 5 = .ok (.bipush 20, 2) := by decide +kernel
theorem dX9_trace_7 : decode cX9_trace 7 = .ok (.if_icmp .ge 20, 3) := by decide +kernel
theorem dX9_trace_10 : decode cX9_trace 10 = .ok (.iload_n 1, 1) := by decide +kernel
theorem dX9_trace_11 : decode cX9_trace 11 = .ok (.aload_n 0, 1) := by decide +kernel
theorem dX9_trace_12 : decode cX9_trace 12 = .ok (.getfield 346, 3) := by decide +kernel
theorem dX9_trace_15 : decode cX9_trace 15 = .ok (.if_icmp .ge 12, 3) := by decide +kernel
theorem dX9_trace_18 : decode cX9_trace 18 = .ok (.aload_n 0, 1) := by decide +kernel
theorem dX9_trace_19 : decode cX9_trace 19 = .ok (.getfield 114, 3) := by decide +kernel
theorem dX9_trace_22 : decode cX9_trace 22 = .ok (.iload_n 1, 1) := by decide +kernel
theorem dX9_trace_23 : decode cX9_trace 23 = .ok (.iaload, 1) := by decide +kernel
theorem dX9_trace_24 : decode cX9_trace 24 = .ok (.goto 4, 3) := by decide +kernel
theorem dX9_trace_27 : decode cX9_trace 27 = .ok (.iconst (-1), 1) := by decide +kernel
theorem dX9_trace_28 : decode cX9_trace 28 = .ok (.ireturn, 1) := by decide +kernel
theorem dX9_image_0 : decode cX9_image 0 = .ok (.aload_n 0, 1) := by decide +kernel
theorem dX9_image_1 : decode cX9_image 1 = .ok (.iconst 1, 1) := by decide +kernel
theorem dX9_image_2 : decode cX9_image 2 = .ok (.putfield 361, 3) := by decide +kernel
theorem dX9_image_5 : decode cX9_image 5 = .ok (.aload_n 0, 1) := by decide +kernel
theorem dX9_image_6 : decode cX9_image 6 = .ok (.aload_n 0, 1) := by decide +kernel
theorem dX9_image_7 : decode cX9_image 7 = .ok (.getfield 87, 3) := by decide +kernel
theorem dX9_image_10 : decode cX9_image 10 = .ok (.iconst 0, 1) := by decide +kernel
theorem dX9_image_11 : decode cX9_image 11 = .ok (.invokevirtual 217, 3) := by decide +kernel
theorem dX9_image_14 : decode cX9_image 14 = .ok (.aload_n 0, 1) := by decide +kernel
theorem dX9_image_15 : decode cX9_image 15 = .ok (.getfield 117, 3) := by decide +kernel
theorem dX9_image_18 : decode cX9_image 18 = .ok (.ireturn, 1) := by decide +kernel
theorem dX9_restore_0 : decode cX9_restore 0 = .ok (.aload_n 0, 1) := by decide +kernel
theorem dX9_restore_1 : decode cX9_restore 1 = .ok (.getfield 361, 3) := by decide +kernel
theorem dX9_restore_4 : decode cX9_restore 4 = .ok (.ifCond .ne 10, 3) := by decide +kernel
theorem dX9_restore_7 : decode cX9_restore 7 = .ok (.aload_n 0, 1) := by decide +kernel
theorem dX9_restore_8 : decode cX9_restore 8 = .ok (.bipush (-6), 2) := by decide +kernel
theorem dX9_restore_10 : decode cX9_restore 10 = .ok (.invokevirtual 127, 3) := by decide +kernel
theorem dX9_restore_13 : decode cX9_restore 13 = .ok (.ireturn, 1) := by decide +kernel
theorem dX9_restore_14 : decode cX9_restore 14 = .ok (.aload_n 0, 1) := by decide +kernel
theorem dX9_restore_15 : decode cX9_restore 15 = .ok (.aload_n 0, 1) := by decide +kernel
theorem dX9_restore_16 : decode cX9_restore 16 = .ok (.getfield 87, 3) := by decide +kernel
theorem dX9_restore_19 : decode cX9_restore 19 = .ok (.iconst 1, 1) := by decide +kernel
theorem dX9_restore_20 : decode cX9_restore 20 = .ok (.invokevirtual 217, 3) := by decide +kernel
theorem dX9_restore_23 : decode cX9_restore 23 = .ok (.iconst 0, 1) := by decide +kernel
theorem dX9_restore_24 : decode cX9_restore 24 = .ok (.istore_n 1, 1) := by decide +kernel
theorem dX9_restore_25 : decode cX9_restore 25 = .ok (.iload_n 1, 1) := by decide +kernel
theorem dX9_restore_26 : decode cX9_restore 26 = .ok (.bipush 8, 2) := by decide +kernel
theorem dX9_restore_28 : decode cX9_restore 28 = .ok (.if_icmp .ge 39, 3) := by decide +kernel
theorem dX9_restore_31 : decode cX9_restore 31 = .ok (.aload_n 0, 1) := by decide +kernel
theorem dX9_restore_32 : decode cX9_restore 32 = .ok (.getfield 56, 3) := by decide +kernel
theorem dX9_restore_35 : decode cX9_restore 35 = .ok (.iload_n 1, 1) := by decide +kernel
theorem dX9_restore_36 : decode cX9_restore 36 = .ok (.iaload, 1) := by decide +kernel
theorem dX9_restore_37 : decode cX9_restore 37 = .ok (.iconst 2, 1) := by decide +kernel
theorem dX9_restore_38 : decode cX9_restore 38 = .ok (.if_icmp .ne 23, 3) := by decide +kernel
theorem dX9_restore_41 : decode cX9_restore 41 = .ok (.aload_n 0, 1) := by decide +kernel
theorem dX9_restore_42 : decode cX9_restore 42 = .ok (.getfield 65, 3) := by decide +kernel
theorem dX9_restore_45 : decode cX9_restore 45 = .ok (.iload_n 1, 1) := by decide +kernel
theorem dX9_restore_46 : decode cX9_restore 46 = .ok (.iaload, 1) := by decide +kernel
theorem dX9_restore_47 : decode cX9_restore 47 = .ok (.aload_n 0, 1) := by decide +kernel
theorem dX9_restore_48 : decode cX9_restore 48 = .ok (.getfield 117, 3) := by decide +kernel
theorem dX9_restore_51 : decode cX9_restore 51 = .ok (.if_icmp .lt 10, 3) := by decide +kernel
theorem dX9_restore_54 : decode cX9_restore 54 = .ok (.aload_n 0, 1) := by decide +kernel
theorem dX9_restore_55 : decode cX9_restore 55 = .ok (.getfield 56, 3) := by decide +kernel
theorem dX9_restore_58 : decode cX9_restore 58 = .ok (.iload_n 1, 1) := by decide +kernel
theorem dX9_restore_59 : decode cX9_restore 59 = .ok (.iconst 0, 1) := by decide +kernel
theorem dX9_restore_60 : decode cX9_restore 60 = .ok (.iastore, 1) := by decide +kernel
theorem dX9_restore_61 : decode cX9_restore 61 = .ok (.iinc 1 1, 3) := by decide +kernel
theorem dX9_restore_64 : decode cX9_restore 64 = .ok (.goto (-39), 3) := by decide +kernel
theorem dX9_restore_67 : decode cX9_restore 67 = .ok (.aload_n 0, 1) := by decide +kernel
theorem dX9_restore_68 : decode cX9_restore 68 = .ok (.getfield 117, 3) := by decide +kernel
theorem dX9_restore_71 : decode cX9_restore 71 = .ok (.ireturn, 1) := by decide +kernel
theorem dX9_status_0 : decode cX9_status 0 = .ok (.iload_n 1, 1) := by decide +kernel
theorem dX9_status_1 : decode cX9_status 1 = .ok (.bipush 11, 2) := by decide +kernel
theorem dX9_status_3 : decode cX9_status 3 = .ok (.if_icmp .lt 19, 3) := by decide +kernel
theorem dX9_status_6 : decode cX9_status 6 = .ok (.iload_n 1, 1) := by decide +kernel
theorem dX9_status_7 : decode cX9_status 7 = .ok (.bipush 17, 2) := by decide +kernel
theorem dX9_status_9 : decode cX9_status 9 = .ok (.if_icmp .gt 13, 3) := by decide +kernel
theorem dX9_status_12 : decode cX9_status 12 = .ok (.aload_n 0, 1) := by decide +kernel
theorem dX9_status_13 : decode cX9_status 13 = .ok (.getfield 28, 3) := by decide +kernel
theorem dX9_status_16 : decode cX9_status 16 = .ok (.iload_n 1, 1) := by decide +kernel
theorem dX9_status_17 : decode cX9_status 17 = .ok (.bipush 10, 2) := by decide +kernel
theorem dX9_status_19 : decode cX9_status 19 = .ok (.isub, 1) := by decide +kernel
theorem dX9_status_20 : decode cX9_status 20 = .ok (.iaload, 1) := by decide +kernel
theorem dX9_status_21 : decode cX9_status 21 = .ok (.ireturn, 1) := by decide +kernel
theorem dX9_status_22 : decode cX9_status 22 = .ok (.iload_n 1, 1) := by decide +kernel
theorem dX9_status_23 : decode cX9_status 23 = .ok (.iconst 2, 1) := by decide +kernel
theorem dX9_status_24 : decode cX9_status 24 = .ok (.if_icmp .lt 16, 3) := by decide +kernel
theorem dX9_status_27 : decode cX9_status 27 = .ok (.iload_n 1, 1) := by decide +kernel
theorem dX9_status_28 : decode cX9_status 28 = .ok (.iconst 5, 1) := by decide +kernel
theorem dX9_status_29 : decode cX9_status 29 = .ok (.if_icmp .gt 11, 3) := by decide +kernel
theorem dX9_status_32 : decode cX9_status 32 = .ok (.aload_n 0, 1) := by decide +kernel
theorem dX9_status_33 : decode cX9_status 33 = .ok (.iload_n 1, 1) := by decide +kernel
theorem dX9_status_34 : decode cX9_status 34 = .ok (.iconst 2, 1) := by decide +kernel
theorem dX9_status_35 : decode cX9_status 35 = .ok (.isub, 1) := by decide +kernel
theorem dX9_status_36 : decode cX9_status 36 = .ok (.invokevirtual 163, 3) := by decide +kernel
theorem dX9_status_39 : decode cX9_status 39 = .ok (.ireturn, 1) := by decide +kernel
theorem dX9_status_40 : decode cX9_status 40 = .ok (.iload_n 1, 1) := by decide +kernel
theorem dX9_status_41 : decode cX9_status 41 = .ok (.tableswitch 85 0 9 #[55, 60, 85, 85, 85, 85, 65, 70, 75, 80], 55) := by decide +kernel
theorem dX9_status_96 : decode cX9_status 96 = .ok (.aload_n 0, 1) := by decide +kernel
theorem dX9_status_97 : decode cX9_status 97 = .ok (.getfield 117, 3) := by decide +kernel
theorem dX9_status_100 : decode cX9_status 100 = .ok (.ireturn, 1) := by decide +kernel
theorem dX9_status_101 : decode cX9_status 101 = .ok (.aload_n 0, 1) := by decide +kernel
theorem dX9_status_102 : decode cX9_status 102 = .ok (.getfield 120, 3) := by decide +kernel
theorem dX9_status_105 : decode cX9_status 105 = .ok (.ireturn, 1) := by decide +kernel
theorem dX9_status_106 : decode cX9_status 106 = .ok (.aload_n 0, 1) := by decide +kernel
theorem dX9_status_107 : decode cX9_status 107 = .ok (.getfield 170, 3) := by decide +kernel
theorem dX9_status_110 : decode cX9_status 110 = .ok (.ireturn, 1) := by decide +kernel
theorem dX9_status_111 : decode cX9_status 111 = .ok (.aload_n 0, 1) := by decide +kernel
theorem dX9_status_112 : decode cX9_status 112 = .ok (.getfield 211, 3) := by decide +kernel
theorem dX9_status_115 : decode cX9_status 115 = .ok (.ireturn, 1) := by decide +kernel
theorem dX9_status_116 : decode cX9_status 116 = .ok (.aload_n 0, 1) := by decide +kernel
theorem dX9_status_117 : decode cX9_status 117 = .ok (.getfield 22, 3) := by decide +kernel
theorem dX9_status_120 : decode cX9_status 120 = .ok (.ireturn, 1) := by decide +kernel
theorem dX9_status_121 : decode cX9_status 121 = .ok (.aload_n 0, 1) := by decide +kernel
theorem dX9_status_122 : decode cX9_status 122 = .ok (.getfield 346, 3) := by decide +kernel
theorem dX9_status_125 : decode cX9_status 125 = .ok (.ireturn, 1) := by decide +kernel
theorem dX9_status_126 : decode cX9_status 126 = .ok (.iconst (-1), 1) := by decide +kernel
theorem dX9_status_127 : decode cX9_status 127 = .ok (.ireturn, 1) := by decide +kernel
theorem dJ9_abs_0f7a4_0 : decode cJ9_abs_0f7a4 0 = .ok (.iload_n 0, 1) := by decide +kernel
theorem dJ9_abs_0f7a4_1 : decode cJ9_abs_0f7a4 1 = .ok (.ifCond .ge 8, 3) := by decide +kernel
theorem dJ9_abs_0f7a4_4 : decode cJ9_abs_0f7a4 4 = .ok (.iload_n 0, 1) := by decide +kernel
theorem dJ9_abs_0f7a4_5 : decode cJ9_abs_0f7a4 5 = .ok (.ineg, 1) := by decide +kernel
theorem dJ9_abs_0f7a4_6 : decode cJ9_abs_0f7a4 6 = .ok (.goto 4, 3) := by decide +kernel
theorem dJ9_abs_0f7a4_9 : decode cJ9_abs_0f7a4 9 = .ok (.iload_n 0, 1) := by decide +kernel
theorem dJ9_abs_0f7a4_10 : decode cJ9_abs_0f7a4 10 = .ok (.ireturn, 1) := by decide +kernel
theorem dJ9_max_7cf53_0 : decode cJ9_max_7cf53 0 = .ok (.iload_n 0, 1) := by decide +kernel
theorem dJ9_max_7cf53_1 : decode cJ9_max_7cf53 1 = .ok (.iload_n 1, 1) := by decide +kernel
theorem dJ9_max_7cf53_2 : decode cJ9_max_7cf53 2 = .ok (.if_icmp .lt 7, 3) := by decide +kernel
theorem dJ9_max_7cf53_5 : decode cJ9_max_7cf53 5 = .ok (.iload_n 0, 1) := by decide +kernel
theorem dJ9_max_7cf53_6 : decode cJ9_max_7cf53 6 = .ok (.goto 4, 3) := by decide +kernel
theorem dJ9_max_7cf53_9 : decode cJ9_max_7cf53 9 = .ok (.iload_n 1, 1) := by decide +kernel
theorem dJ9_max_7cf53_10 : decode cJ9_max_7cf53 10 = .ok (.ireturn, 1) := by decide +kernel
theorem dJ9_min_7cf53_0 : decode cJ9_min_7cf53 0 = .ok (.iload_n 0, 1) := by decide +kernel
theorem dJ9_min_7cf53_1 : decode cJ9_min_7cf53 1 = .ok (.iload_n 1, 1) := by decide +kernel
theorem dJ9_min_7cf53_2 : decode cJ9_min_7cf53 2 = .ok (.if_icmp .gt 7, 3) := by decide +kernel
theorem dJ9_min_7cf53_5 : decode cJ9_min_7cf53 5 = .ok (.iload_n 0, 1) := by decide +kernel
theorem dJ9_min_7cf53_6 : decode cJ9_min_7cf53 6 = .ok (.goto 4, 3) := by decide +kernel
theorem dJ9_min_7cf53_9 : decode cJ9_min_7cf53 9 = .ok (.iload_n 1, 1) := by decide +kernel
theorem dJ9_min_7cf53_10 : decode cJ9_min_7cf53 10 = .ok (.ireturn, 1) := by decide +kernel
theorem dJ0_length_8abf5_0 : decode cJ0_length_8abf5 0 = .ok (.aload_n 0, 1) := by decide +kernel
theorem dJ0_length_8abf5_1 : decode cJ0_length_8abf5 1 = .ok (.getfield 9, 3) := by decide +kernel
theorem dJ0_length_8abf5_4 : decode cJ0_length_8abf5 4 = .ok (.arraylength, 1) := by decide +kernel
theorem dJ0_length_8abf5_5 : decode cJ0_length_8abf5 5 = .ok (.aload_n 0, 1) := by decide +kernel
theorem dJ0_length_8abf5_6 : decode cJ0_length_8abf5 6 = .ok (.invokevirtual 335, 3) := by decide +kernel
theorem dJ0_length_8abf5_9 : decode cJ0_length_8abf5 9 = .ok (.ishr, 1) := by decide +kernel
theorem dJ0_length_8abf5_10 : decode cJ0_length_8abf5 10 = .ok (.ireturn, 1) := by decide +kernel
theorem dJ0_charAt_5068e_0 : decode cJ0_charAt_5068e 0 = .ok (.aload_n 0, 1) := by decide +kernel
theorem dJ0_charAt_5068e_1 : decode cJ0_charAt_5068e 1 = .ok (.invokevirtual 492, 3) := by decide +kernel
theorem dJ0_charAt_5068e_4 : decode cJ0_charAt_5068e 4 = .ok (.ifCond .eq 12, 3) := by decide +kernel
theorem dJ0_charAt_5068e_7 : decode cJ0_charAt_5068e 7 = .ok (.aload_n 0, 1) := by decide +kernel
theorem dJ0_charAt_5068e_8 : decode cJ0_charAt_5068e 8 = .ok (.getfield 9, 3) := by decide +kernel
theorem dJ0_charAt_5068e_11 : decode cJ0_charAt_5068e 11 = .ok (.iload_n 1, 1) := by decide +kernel
theorem dJ0_charAt_5068e_12 : decode cJ0_charAt_5068e 12 = .ok (.invokestatic 495, 3) := by decide +kernel
theorem dJ0_charAt_5068e_15 : decode cJ0_charAt_5068e 15 = .ok (.ireturn, 1) := by decide +kernel
theorem dJ0_charAt_5068e_16 : decode cJ0_charAt_5068e 16 = .ok (.aload_n 0, 1) := by decide +kernel
theorem dJ0_charAt_5068e_17 : decode cJ0_charAt_5068e 17 = .ok (.getfield 9, 3) := by decide +kernel
theorem dJ0_charAt_5068e_20 : decode cJ0_charAt_5068e 20 = .ok (.iload_n 1, 1) := by decide +kernel
theorem dJ0_charAt_5068e_21 : decode cJ0_charAt_5068e 21 = .ok (.invokestatic 498, 3) := by decide +kernel
theorem dJ0_charAt_5068e_24 : decode cJ0_charAt_5068e 24 = .ok (.ireturn, 1) := by decide +kernel
theorem dJ0_coder_7d493_0 : decode cJ0_coder_7d493 0 = .ok (.getstatic 38, 3) := by decide +kernel
theorem dJ0_coder_7d493_3 : decode cJ0_coder_7d493 3 = .ok (.ifCond .eq 10, 3) := by decide +kernel
theorem dJ0_coder_7d493_6 : decode cJ0_coder_7d493 6 = .ok (.aload_n 0, 1) := by decide +kernel
theorem dJ0_coder_7d493_7 : decode cJ0_coder_7d493 7 = .ok (.getfield 15, 3) := by decide +kernel
theorem dJ0_coder_7d493_10 : decode cJ0_coder_7d493 10 = .ok (.goto 4, 3) := by decide +kernel
theorem dJ0_coder_7d493_13 : decode cJ0_coder_7d493 13 = .ok (.iconst 1, 1) := by decide +kernel
theorem dJ0_coder_7d493_14 : decode cJ0_coder_7d493 14 = .ok (.ireturn, 1) := by decide +kernel
theorem dJ0_isLatin1_aae02_0 : decode cJ0_isLatin1_aae02 0 = .ok (.getstatic 38, 3) := by decide +kernel
theorem dJ0_isLatin1_aae02_3 : decode cJ0_isLatin1_aae02 3 = .ok (.ifCond .eq 14, 3) := by decide +kernel
theorem dJ0_isLatin1_aae02_6 : decode cJ0_isLatin1_aae02 6 = .ok (.aload_n 0, 1) := by decide +kernel
theorem dJ0_isLatin1_aae02_7 : decode cJ0_isLatin1_aae02 7 = .ok (.getfield 15, 3) := by decide +kernel
end
section
theorem dJ0_isLatin1_aae02_10 : decode cJ0_isLatin1_aae02 10 = .ok (.ifCond .ne 7, 3) := by decide +kernel
theorem dJ0_isLatin1_aae02_13 : decode cJ0_isLatin1_aae02 13 = .ok (.iconst 1, 1) := by decide +kernel
theorem dJ0_isLatin1_aae02_14 : decode cJ0_isLatin1_aae02 14 = .ok (.goto 4, 3) := by decide +kernel
theorem dJ0_isLatin1_aae02_17 : decode cJ0_isLatin1_aae02 17 = .ok (.iconst 0, 1) := by decide +kernel
theorem dJ0_isLatin1_aae02_18 : decode cJ0_isLatin1_aae02 18 = .ok (.ireturn, 1) := by decide +kernel
theorem dJ0_checkIndex_df160_0 : decode cJ0_checkIndex_df160 0 = .ok (.iload_n 0, 1) := by decide +kernel
theorem dJ0_checkIndex_df160_1 : decode cJ0_checkIndex_df160 1 = .ok (.iload_n 1, 1) := by decide +kernel
theorem dJ0_checkIndex_df160_2 : decode cJ0_checkIndex_df160 2 = .ok (.getstatic 1053, 3) := by decide +kernel
theorem dJ0_checkIndex_df160_5 : decode cJ0_checkIndex_df160 5 = .ok (.invokestatic 1059, 3) := by decide +kernel
theorem dJ0_checkIndex_df160_8 : decode cJ0_checkIndex_df160 8 = .ok (.pop, 1) := by decide +kernel
theorem dJ0_checkIndex_df160_9 : decode cJ0_checkIndex_df160 9 = .ok (.return_, 1) := by decide +kernel
theorem dJ1_charAt_3b067_0 : decode cJ1_charAt_3b067 0 = .ok (.iload_n 1, 1) := by decide +kernel
theorem dJ1_charAt_3b067_1 : decode cJ1_charAt_3b067 1 = .ok (.aload_n 0, 1) := by decide +kernel
theorem dJ1_charAt_3b067_2 : decode cJ1_charAt_3b067 2 = .ok (.arraylength, 1) := by decide +kernel
theorem dJ1_charAt_3b067_3 : decode cJ1_charAt_3b067 3 = .ok (.invokestatic 9, 3) := by decide +kernel
theorem dJ1_charAt_3b067_6 : decode cJ1_charAt_3b067 6 = .ok (.aload_n 0, 1) := by decide +kernel
theorem dJ1_charAt_3b067_7 : decode cJ1_charAt_3b067 7 = .ok (.iload_n 1, 1) := by decide +kernel
theorem dJ1_charAt_3b067_8 : decode cJ1_charAt_3b067 8 = .ok (.baload, 1) := by decide +kernel
theorem dJ1_charAt_3b067_9 : decode cJ1_charAt_3b067 9 = .ok (.sipush 255, 3) := by decide +kernel
theorem dJ1_charAt_3b067_12 : decode cJ1_charAt_3b067 12 = .ok (.iand, 1) := by decide +kernel
theorem dJ1_charAt_3b067_13 : decode cJ1_charAt_3b067 13 = .ok (.i2c, 1) := by decide +kernel
theorem dJ1_charAt_3b067_14 : decode cJ1_charAt_3b067 14 = .ok (.ireturn, 1) := by decide +kernel
theorem dJ2_getChar_3b067_0 : decode cJ2_getChar_3b067 0 = .ok (.getstatic 44, 3) := by decide +kernel
theorem dJ2_getChar_3b067_3 : decode cJ2_getChar_3b067 3 = .ok (.ifCond .ne 25, 3) := by decide +kernel
theorem dJ2_getChar_3b067_6 : decode cJ2_getChar_3b067 6 = .ok (.iload_n 1, 1) := by decide +kernel
theorem dJ2_getChar_3b067_7 : decode cJ2_getChar_3b067 7 = .ok (.ifCond .lt 11, 3) := by decide +kernel
theorem dJ2_getChar_3b067_10 : decode cJ2_getChar_3b067 10 = .ok (.iload_n 1, 1) := by decide +kernel
theorem dJ2_getChar_3b067_11 : decode cJ2_getChar_3b067 11 = .ok (.aload_n 0, 1) := by decide +kernel
theorem dJ2_getChar_3b067_12 : decode cJ2_getChar_3b067 12 = .ok (.invokestatic 48, 3) := by decide +kernel
theorem dJ2_getChar_3b067_15 : decode cJ2_getChar_3b067 15 = .ok (.if_icmp .lt 13, 3) := by decide +kernel
theorem dJ2_getChar_3b067_18 : decode cJ2_getChar_3b067 18 = .ok (.new 52, 3) := by decide +kernel
theorem dJ2_getChar_3b067_21 : decode cJ2_getChar_3b067 21 = .ok (.dup, 1) := by decide +kernel
theorem dJ2_getChar_3b067_22 : decode cJ2_getChar_3b067 22 = .ok (.ldc 54, 2) := by decide +kernel
theorem dJ2_getChar_3b067_24 : decode cJ2_getChar_3b067 24 = .ok (.invokespecial 56, 3) := by decide +kernel
theorem dJ2_getChar_3b067_27 : decode cJ2_getChar_3b067 27 = .ok (.athrow, 1) := by decide +kernel
theorem dJ2_getChar_3b067_28 : decode cJ2_getChar_3b067 28 = .ok (.iload_n 1, 1) := by decide +kernel
theorem dJ2_getChar_3b067_29 : decode cJ2_getChar_3b067 29 = .ok (.iconst 1, 1) := by decide +kernel
theorem dJ2_getChar_3b067_30 : decode cJ2_getChar_3b067 30 = .ok (.ishl, 1) := by decide +kernel
theorem dJ2_getChar_3b067_31 : decode cJ2_getChar_3b067 31 = .ok (.istore_n 1, 1) := by decide +kernel
theorem dJ2_getChar_3b067_32 : decode cJ2_getChar_3b067 32 = .ok (.aload_n 0, 1) := by decide +kernel
theorem dJ2_getChar_3b067_33 : decode cJ2_getChar_3b067 33 = .ok (.iload_n 1, 1) := by decide +kernel
theorem dJ2_getChar_3b067_34 : decode cJ2_getChar_3b067 34 = .ok (.iinc 1 1, 3) := by decide +kernel
theorem dJ2_getChar_3b067_37 : decode cJ2_getChar_3b067 37 = .ok (.baload, 1) := by decide +kernel
theorem dJ2_getChar_3b067_38 : decode cJ2_getChar_3b067 38 = .ok (.sipush 255, 3) := by decide +kernel
theorem dJ2_getChar_3b067_41 : decode cJ2_getChar_3b067 41 = .ok (.iand, 1) := by decide +kernel
theorem dJ2_getChar_3b067_42 : decode cJ2_getChar_3b067 42 = .ok (.getstatic 59, 3) := by decide +kernel
theorem dJ2_getChar_3b067_45 : decode cJ2_getChar_3b067 45 = .ok (.ishl, 1) := by decide +kernel
theorem dJ2_getChar_3b067_46 : decode cJ2_getChar_3b067 46 = .ok (.aload_n 0, 1) := by decide +kernel
theorem dJ2_getChar_3b067_47 : decode cJ2_getChar_3b067 47 = .ok (.iload_n 1, 1) := by decide +kernel
theorem dJ2_getChar_3b067_48 : decode cJ2_getChar_3b067 48 = .ok (.baload, 1) := by decide +kernel
theorem dJ2_getChar_3b067_49 : decode cJ2_getChar_3b067 49 = .ok (.sipush 255, 3) := by decide +kernel
theorem dJ2_getChar_3b067_52 : decode cJ2_getChar_3b067 52 = .ok (.iand, 1) := by decide +kernel
theorem dJ2_getChar_3b067_53 : decode cJ2_getChar_3b067 53 = .ok (.getstatic 63, 3) := by decide +kernel
theorem dJ2_getChar_3b067_56 : decode cJ2_getChar_3b067 56 = .ok (.ishl, 1) := by decide +kernel
theorem dJ2_getChar_3b067_57 : decode cJ2_getChar_3b067 57 = .ok (.ior, 1) := by decide +kernel
theorem dJ2_getChar_3b067_58 : decode cJ2_getChar_3b067 58 = .ok (.i2c, 1) := by decide +kernel
theorem dJ2_getChar_3b067_59 : decode cJ2_getChar_3b067 59 = .ok (.ireturn, 1) := by decide +kernel
theorem dJ2_length_9d52b_0 : decode cJ2_length_9d52b 0 = .ok (.aload_n 0, 1) := by decide +kernel
theorem dJ2_length_9d52b_1 : decode cJ2_length_9d52b 1 = .ok (.arraylength, 1) := by decide +kernel
theorem dJ2_length_9d52b_2 : decode cJ2_length_9d52b 2 = .ok (.iconst 1, 1) := by decide +kernel
theorem dJ2_length_9d52b_3 : decode cJ2_length_9d52b 3 = .ok (.ishr, 1) := by decide +kernel
theorem dJ2_length_9d52b_4 : decode cJ2_length_9d52b 4 = .ok (.ireturn, 1) := by decide +kernel
theorem dJ2_charAt_3b067_0 : decode cJ2_charAt_3b067 0 = .ok (.iload_n 1, 1) := by decide +kernel
theorem dJ2_charAt_3b067_1 : decode cJ2_charAt_3b067 1 = .ok (.aload_n 0, 1) := by decide +kernel
theorem dJ2_charAt_3b067_2 : decode cJ2_charAt_3b067 2 = .ok (.invokestatic 67, 3) := by decide +kernel
theorem dJ2_charAt_3b067_5 : decode cJ2_charAt_3b067 5 = .ok (.aload_n 0, 1) := by decide +kernel
theorem dJ2_charAt_3b067_6 : decode cJ2_charAt_3b067 6 = .ok (.iload_n 1, 1) := by decide +kernel
theorem dJ2_charAt_3b067_7 : decode cJ2_charAt_3b067 7 = .ok (.invokestatic 71, 3) := by decide +kernel
theorem dJ2_charAt_3b067_10 : decode cJ2_charAt_3b067 10 = .ok (.ireturn, 1) := by decide +kernel
theorem dJ2_checkIndex_2214a_0 : decode cJ2_checkIndex_2214a 0 = .ok (.iload_n 0, 1) := by decide +kernel
theorem dJ2_checkIndex_2214a_1 : decode cJ2_checkIndex_2214a 1 = .ok (.aload_n 1, 1) := by decide +kernel
theorem dJ2_checkIndex_2214a_2 : decode cJ2_checkIndex_2214a 2 = .ok (.invokestatic 48, 3) := by decide +kernel
theorem dJ2_checkIndex_2214a_5 : decode cJ2_checkIndex_2214a 5 = .ok (.invokestatic 414, 3) := by decide +kernel
theorem dJ2_checkIndex_2214a_8 : decode cJ2_checkIndex_2214a 8 = .ok (.return_, 1) := by decide +kernel
theorem dJ7_fill_d0a16_0 : decode cJ7_fill_d0a16 0 = .ok (.iconst 0, 1) := by decide +kernel
theorem dJ7_fill_d0a16_1 : decode cJ7_fill_d0a16 1 = .ok (.istore_n 3, 1) := by decide +kernel
theorem dJ7_fill_d0a16_2 : decode cJ7_fill_d0a16 2 = .ok (.aload_n 0, 1) := by decide +kernel
theorem dJ7_fill_d0a16_3 : decode cJ7_fill_d0a16 3 = .ok (.arraylength, 1) := by decide +kernel
theorem dJ7_fill_d0a16_4 : decode cJ7_fill_d0a16 4 = .ok (.istore 4, 2) := by decide +kernel
theorem dJ7_fill_d0a16_6 : decode cJ7_fill_d0a16 6 = .ok (.iload_n 3, 1) := by decide +kernel
theorem dJ7_fill_d0a16_7 : decode cJ7_fill_d0a16 7 = .ok (.iload 4, 2) := by decide +kernel
theorem dJ7_fill_d0a16_9 : decode cJ7_fill_d0a16 9 = .ok (.if_icmp .ge 13, 3) := by decide +kernel
theorem dJ7_fill_d0a16_12 : decode cJ7_fill_d0a16 12 = .ok (.aload_n 0, 1) := by decide +kernel
theorem dJ7_fill_d0a16_13 : decode cJ7_fill_d0a16 13 = .ok (.iload_n 3, 1) := by decide +kernel
theorem dJ7_fill_d0a16_14 : decode cJ7_fill_d0a16 14 = .ok (.lload_n 1, 1) := by decide +kernel
theorem dJ7_fill_d0a16_15 : decode cJ7_fill_d0a16 15 = .ok (.lastore, 1) := by decide +kernel
theorem dJ7_fill_d0a16_16 : decode cJ7_fill_d0a16 16 = .ok (.iinc 3 1, 3) := by decide +kernel
theorem dJ7_fill_d0a16_19 : decode cJ7_fill_d0a16 19 = .ok (.goto (-13), 3) := by decide +kernel
theorem dJ7_fill_d0a16_22 : decode cJ7_fill_d0a16 22 = .ok (.return_, 1) := by decide +kernel
theorem dJ3_checkIndex_8e157_0 : decode cJ3_checkIndex_8e157 0 = .ok (.iload_n 0, 1) := by decide +kernel
theorem dJ3_checkIndex_8e157_1 : decode cJ3_checkIndex_8e157 1 = .ok (.ifCond .lt 8, 3) := by decide +kernel
theorem dJ3_checkIndex_8e157_4 : decode cJ3_checkIndex_8e157 4 = .ok (.iload_n 0, 1) := by decide +kernel
theorem dJ3_checkIndex_8e157_5 : decode cJ3_checkIndex_8e157 5 = .ok (.iload_n 1, 1) := by decide +kernel
theorem dJ3_checkIndex_8e157_6 : decode cJ3_checkIndex_8e157 6 = .ok (.if_icmp .lt 10, 3) := by decide +kernel
theorem dJ3_checkIndex_8e157_9 : decode cJ3_checkIndex_8e157 9 = .ok (.aload_n 2, 1) := by decide +kernel
theorem dJ3_checkIndex_8e157_10 : decode cJ3_checkIndex_8e157 10 = .ok (.iload_n 0, 1) := by decide +kernel
theorem dJ3_checkIndex_8e157_11 : decode cJ3_checkIndex_8e157 11 = .ok (.iload_n 1, 1) := by decide +kernel
theorem dJ3_checkIndex_8e157_12 : decode cJ3_checkIndex_8e157 12 = .ok (.invokestatic 95, 3) := by decide +kernel
theorem dJ3_checkIndex_8e157_15 : decode cJ3_checkIndex_8e157 15 = .ok (.athrow, 1) := by decide +kernel
theorem dJ3_checkIndex_8e157_16 : decode cJ3_checkIndex_8e157 16 = .ok (.iload_n 0, 1) := by decide +kernel
theorem dJ3_checkIndex_8e157_17 : decode cJ3_checkIndex_8e157 17 = .ok (.ireturn, 1) := by decide +kernel
theorem dL_law_0 : decode cL_law 0 = .ok (.new 7, 3) := by decide +kernel
theorem dL_law_3 : decode cL_law 3 = .ok (.dup, 1) := by decide +kernel
theorem dL_law_4 : decode cL_law 4 = .ok (.invokespecial 9, 3) := by decide +kernel
theorem dL_law_7 : decode cL_law 7 = .ok (.astore_n 1, 1) := by decide +kernel
theorem dL_law_8 : decode cL_law 8 = .ok (.new 10, 3) := by decide +kernel
theorem dL_law_11 : decode cL_law 11 = .ok (.dup, 1) := by decide +kernel
theorem dL_law_12 : decode cL_law 12 = .ok (.invokespecial 12, 3) := by decide +kernel
theorem dL_law_15 : decode cL_law 15 = .ok (.astore_n 2, 1) := by decide +kernel
theorem dL_law_16 : decode cL_law 16 = .ok (.iconst 0, 1) := by decide +kernel
theorem dL_law_17 : decode cL_law 17 = .ok (.istore_n 3, 1) := by decide +kernel
theorem dL_law_18 : decode cL_law 18 = .ok (.iload_n 3, 1) := by decide +kernel
theorem dL_law_19 : decode cL_law 19 = .ok (.aload_n 0, 1) := by decide +kernel
theorem dL_law_20 : decode cL_law 20 = .ok (.arraylength, 1) := by decide +kernel
theorem dL_law_21 : decode cL_law 21 = .ok (.bipush 6, 2) := by decide +kernel
theorem dL_law_23 : decode cL_law 23 = .ok (.isub, 1) := by decide +kernel
theorem dL_law_24 : decode cL_law 24 = .ok (.if_icmp .gt 1437, 3) := by decide +kernel
theorem dL_law_27 : decode cL_law 27 = .ok (.aload_n 0, 1) := by decide +kernel
theorem dL_law_28 : decode cL_law 28 = .ok (.iload_n 3, 1) := by decide +kernel
theorem dL_law_29 : decode cL_law 29 = .ok (.iaload, 1) := by decide +kernel
theorem dL_law_30 : decode cL_law 30 = .ok (.bipush 63, 2) := by decide +kernel
theorem dL_law_32 : decode cL_law 32 = .ok (.iand, 1) := by decide +kernel
theorem dL_law_33 : decode cL_law 33 = .ok (.tableswitch 1422 0 39 #[175, 218, 291, 354, 388, 421, 444, 477, 520, 553, 586, 619, 652, 685, 718, 757, 780, 793, 836, 859, 882, 915, 958, 1001, 1014, 1047, 1060, 1093, 1126, 1149, 1182, 1205, 1238, 1251, 1284, 1307, 1350, 1373, 1386, 1399], 175) := by decide +kernel
theorem dL_law_208 : decode cL_law 208 = .ok (.aload_n 1, 1) := by decide +kernel
theorem dL_law_209 : decode cL_law 209 = .ok (.aload_n 0, 1) := by decide +kernel
theorem dL_law_210 : decode cL_law 210 = .ok (.iload_n 3, 1) := by decide +kernel
theorem dL_law_211 : decode cL_law 211 = .ok (.iconst 1, 1) := by decide +kernel
theorem dL_law_212 : decode cL_law 212 = .ok (.iadd, 1) := by decide +kernel
theorem dL_law_213 : decode cL_law 213 = .ok (.iaload, 1) := by decide +kernel
theorem dL_law_214 : decode cL_law 214 = .ok (.aload_n 0, 1) := by decide +kernel
theorem dL_law_215 : decode cL_law 215 = .ok (.iload_n 3, 1) := by decide +kernel
theorem dL_law_216 : decode cL_law 216 = .ok (.iconst 2, 1) := by decide +kernel
theorem dL_law_217 : decode cL_law 217 = .ok (.iadd, 1) := by decide +kernel
theorem dL_law_218 : decode cL_law 218 = .ok (.iaload, 1) := by decide +kernel
theorem dL_law_219 : decode cL_law 219 = .ok (.aload_n 0, 1) := by decide +kernel
theorem dL_law_220 : decode cL_law 220 = .ok (.iload_n 3, 1) := by decide +kernel
theorem dL_law_221 : decode cL_law 221 = .ok (.iconst 3, 1) := by decide +kernel
theorem dL_law_222 : decode cL_law 222 = .ok (.iadd, 1) := by decide +kernel
theorem dL_law_223 : decode cL_law 223 = .ok (.iaload, 1) := by decide +kernel
theorem dL_law_224 : decode cL_law 224 = .ok (.invokevirtual 13, 3) := by decide +kernel
theorem dL_law_227 : decode cL_law 227 = .ok (.aload_n 2, 1) := by decide +kernel
theorem dL_law_228 : decode cL_law 228 = .ok (.aload_n 0, 1) := by decide +kernel
theorem dL_law_229 : decode cL_law 229 = .ok (.iload_n 3, 1) := by decide +kernel
theorem dL_law_230 : decode cL_law 230 = .ok (.iconst 1, 1) := by decide +kernel
theorem dL_law_231 : decode cL_law 231 = .ok (.iadd, 1) := by decide +kernel
theorem dL_law_232 : decode cL_law 232 = .ok (.iaload, 1) := by decide +kernel
theorem dL_law_233 : decode cL_law 233 = .ok (.aload_n 0, 1) := by decide +kernel
theorem dL_law_234 : decode cL_law 234 = .ok (.iload_n 3, 1) := by decide +kernel
theorem dL_law_235 : decode cL_law 235 = .ok (.iconst 2, 1) := by decide +kernel
theorem dL_law_236 : decode cL_law 236 = .ok (.iadd, 1) := by decide +kernel
theorem dL_law_237 : decode cL_law 237 = .ok (.iaload, 1) := by decide +kernel
theorem dL_law_238 : decode cL_law 238 = .ok (.aload_n 0, 1) := by decide +kernel
theorem dL_law_239 : decode cL_law 239 = .ok (.iload_n 3, 1) := by decide +kernel
theorem dL_law_240 : decode cL_law 240 = .ok (.iconst 3, 1) := by decide +kernel
theorem dL_law_241 : decode cL_law 241 = .ok (.iadd, 1) := by decide +kernel
theorem dL_law_242 : decode cL_law 242 = .ok (.iaload, 1) := by decide +kernel
theorem dL_law_243 : decode cL_law 243 = .ok (.invokevirtual 17, 3) := by decide +kernel
theorem dL_law_246 : decode cL_law 246 = .ok (.if_icmp .eq 1209, 3) := by decide +kernel
theorem dL_law_249 : decode cL_law 249 = .ok (.iconst 0, 1) := by decide +kernel
theorem dL_law_250 : decode cL_law 250 = .ok (.ireturn, 1) := by decide +kernel
theorem dL_law_251 : decode cL_law 251 = .ok (.aload_n 1, 1) := by decide +kernel
theorem dL_law_252 : decode cL_law 252 = .ok (.aload_n 0, 1) := by decide +kernel
theorem dL_law_253 : decode cL_law 253 = .ok (.iload_n 3, 1) := by decide +kernel
theorem dL_law_254 : decode cL_law 254 = .ok (.iconst 1, 1) := by decide +kernel
theorem dL_law_255 : decode cL_law 255 = .ok (.iadd, 1) := by decide +kernel
theorem dL_law_256 : decode cL_law 256 = .ok (.iaload, 1) := by decide +kernel
theorem dL_law_257 : decode cL_law 257 = .ok (.aload_n 0, 1) := by decide +kernel
theorem dL_law_258 : decode cL_law 258 = .ok (.iload_n 3, 1) := by decide +kernel
theorem dL_law_259 : decode cL_law 259 = .ok (.iconst 2, 1) := by decide +kernel
theorem dL_law_260 : decode cL_law 260 = .ok (.iadd, 1) := by decide +kernel
theorem dL_law_261 : decode cL_law 261 = .ok (.iaload, 1) := by decide +kernel
theorem dL_law_262 : decode cL_law 262 = .ok (.aload_n 0, 1) := by decide +kernel
theorem dL_law_263 : decode cL_law 263 = .ok (.iload_n 3, 1) := by decide +kernel
theorem dL_law_264 : decode cL_law 264 = .ok (.iconst 3, 1) := by decide +kernel
theorem dL_law_265 : decode cL_law 265 = .ok (.iadd, 1) := by decide +kernel
theorem dL_law_266 : decode cL_law 266 = .ok (.iaload, 1) := by decide +kernel
theorem dL_law_267 : decode cL_law 267 = .ok (.i2l, 1) := by decide +kernel
theorem dL_law_268 : decode cL_law 268 = .ok (.bipush 32, 2) := by decide +kernel
theorem dL_law_270 : decode cL_law 270 = .ok (.lshl, 1) := by decide +kernel
theorem dL_law_271 : decode cL_law 271 = .ok (.aload_n 0, 1) := by decide +kernel
theorem dL_law_272 : decode cL_law 272 = .ok (.iload_n 3, 1) := by decide +kernel
theorem dL_law_273 : decode cL_law 273 = .ok (.iconst 4, 1) := by decide +kernel
theorem dL_law_274 : decode cL_law 274 = .ok (.iadd, 1) := by decide +kernel
theorem dL_law_275 : decode cL_law 275 = .ok (.iaload, 1) := by decide +kernel
theorem dL_law_276 : decode cL_law 276 = .ok (.i2l, 1) := by decide +kernel
theorem dL_law_277 : decode cL_law 277 = .ok (.ldc2_w 18, 3) := by decide +kernel
theorem dL_law_280 : decode cL_law 280 = .ok (.land, 1) := by decide +kernel
theorem dL_law_281 : decode cL_law 281 = .ok (.lor, 1) := by decide +kernel
theorem dL_law_282 : decode cL_law 282 = .ok (.invokevirtual 20, 3) := by decide +kernel
theorem dL_law_285 : decode cL_law 285 = .ok (.aload_n 2, 1) := by decide +kernel
theorem dL_law_286 : decode cL_law 286 = .ok (.aload_n 0, 1) := by decide +kernel
theorem dL_law_287 : decode cL_law 287 = .ok (.iload_n 3, 1) := by decide +kernel
theorem dL_law_288 : decode cL_law 288 = .ok (.iconst 1, 1) := by decide +kernel
theorem dL_law_289 : decode cL_law 289 = .ok (.iadd, 1) := by decide +kernel
theorem dL_law_290 : decode cL_law 290 = .ok (.iaload, 1) := by decide +kernel
theorem dL_law_291 : decode cL_law 291 = .ok (.aload_n 0, 1) := by decide +kernel
theorem dL_law_292 : decode cL_law 292 = .ok (.iload_n 3, 1) := by decide +kernel
theorem dL_law_293 : decode cL_law 293 = .ok (.iconst 2, 1) := by decide +kernel
theorem dL_law_294 : decode cL_law 294 = .ok (.iadd, 1) := by decide +kernel
theorem dL_law_295 : decode cL_law 295 = .ok (.iaload, 1) := by decide +kernel
theorem dL_law_296 : decode cL_law 296 = .ok (.aload_n 0, 1) := by decide +kernel
theorem dL_law_297 : decode cL_law 297 = .ok (.iload_n 3, 1) := by decide +kernel
theorem dL_law_298 : decode cL_law 298 = .ok (.iconst 3, 1) := by decide +kernel
theorem dL_law_299 : decode cL_law 299 = .ok (.iadd, 1) := by decide +kernel
theorem dL_law_300 : decode cL_law 300 = .ok (.iaload, 1) := by decide +kernel
theorem dL_law_301 : decode cL_law 301 = .ok (.i2l, 1) := by decide +kernel
theorem dL_law_302 : decode cL_law 302 = .ok (.bipush 32, 2) := by decide +kernel
theorem dL_law_304 : decode cL_law 304 = .ok (.lshl, 1) := by decide +kernel
theorem dL_law_305 : decode cL_law 305 = .ok (.aload_n 0, 1) := by decide +kernel
theorem dL_law_306 : decode cL_law 306 = .ok (.iload_n 3, 1) := by decide +kernel
theorem dL_law_307 : decode cL_law 307 = .ok (.iconst 4, 1) := by decide +kernel
theorem dL_law_308 : decode cL_law 308 = .ok (.iadd, 1) := by decide +kernel
theorem dL_law_309 : decode cL_law 309 = .ok (.iaload, 1) := by decide +kernel
theorem dL_law_310 : decode cL_law 310 = .ok (.i2l, 1) := by decide +kernel
theorem dL_law_311 : decode cL_law 311 = .ok (.ldc2_w 18, 3) := by decide +kernel
theorem dL_law_314 : decode cL_law 314 = .ok (.land, 1) := by decide +kernel
theorem dL_law_315 : decode cL_law 315 = .ok (.lor, 1) := by decide +kernel
theorem dL_law_316 : decode cL_law 316 = .ok (.invokevirtual 24, 3) := by decide +kernel
theorem dL_law_319 : decode cL_law 319 = .ok (.if_icmp .eq 1136, 3) := by decide +kernel
theorem dL_law_322 : decode cL_law 322 = .ok (.iconst 0, 1) := by decide +kernel
theorem dL_law_323 : decode cL_law 323 = .ok (.ireturn, 1) := by decide +kernel
theorem dL_law_324 : decode cL_law 324 = .ok (.aload_n 1, 1) := by decide +kernel
theorem dL_law_325 : decode cL_law 325 = .ok (.aload_n 0, 1) := by decide +kernel
theorem dL_law_326 : decode cL_law 326 = .ok (.iload_n 3, 1) := by decide +kernel
theorem dL_law_327 : decode cL_law 327 = .ok (.iconst 1, 1) := by decide +kernel
theorem dL_law_328 : decode cL_law 328 = .ok (.iadd, 1) := by decide +kernel
theorem dL_law_329 : decode cL_law 329 = .ok (.iaload, 1) := by decide +kernel
theorem dL_law_330 : decode cL_law 330 = .ok (.aload_n 0, 1) := by decide +kernel
theorem dL_law_331 : decode cL_law 331 = .ok (.iload_n 3, 1) := by decide +kernel
theorem dL_law_332 : decode cL_law 332 = .ok (.iconst 2, 1) := by decide +kernel
theorem dL_law_333 : decode cL_law 333 = .ok (.iadd, 1) := by decide +kernel
theorem dL_law_334 : decode cL_law 334 = .ok (.iaload, 1) := by decide +kernel
theorem dL_law_335 : decode cL_law 335 = .ok (.aload_n 0, 1) := by decide +kernel
theorem dL_law_336 : decode cL_law 336 = .ok (.iload_n 3, 1) := by decide +kernel
theorem dL_law_337 : decode cL_law 337 = .ok (.iconst 3, 1) := by decide +kernel
theorem dL_law_338 : decode cL_law 338 = .ok (.iadd, 1) := by decide +kernel
theorem dL_law_339 : decode cL_law 339 = .ok (.iaload, 1) := by decide +kernel
theorem dL_law_340 : decode cL_law 340 = .ok (.aload_n 0, 1) := by decide +kernel
theorem dL_law_341 : decode cL_law 341 = .ok (.iload_n 3, 1) := by decide +kernel
theorem dL_law_342 : decode cL_law 342 = .ok (.iconst 4, 1) := by decide +kernel
theorem dL_law_343 : decode cL_law 343 = .ok (.iadd, 1) := by decide +kernel
theorem dL_law_344 : decode cL_law 344 = .ok (.iaload, 1) := by decide +kernel
theorem dL_law_345 : decode cL_law 345 = .ok (.aload_n 0, 1) := by decide +kernel
theorem dL_law_346 : decode cL_law 346 = .ok (.iload_n 3, 1) := by decide +kernel
theorem dL_law_347 : decode cL_law 347 = .ok (.iconst 5, 1) := by decide +kernel
theorem dL_law_348 : decode cL_law 348 = .ok (.iadd, 1) := by decide +kernel
theorem dL_law_349 : decode cL_law 349 = .ok (.iaload, 1) := by decide +kernel
theorem dL_law_350 : decode cL_law 350 = .ok (.invokevirtual 25, 3) := by decide +kernel
theorem dL_law_353 : decode cL_law 353 = .ok (.aload_n 2, 1) := by decide +kernel
theorem dL_law_354 : decode cL_law 354 = .ok (.aload_n 0, 1) := by decide +kernel
theorem dL_law_355 : decode cL_law 355 = .ok (.iload_n 3, 1) := by decide +kernel
theorem dL_law_356 : decode cL_law 356 = .ok (.iconst 1, 1) := by decide +kernel
theorem dL_law_357 : decode cL_law 357 = .ok (.iadd, 1) := by decide +kernel
theorem dL_law_358 : decode cL_law 358 = .ok (.iaload, 1) := by decide +kernel
theorem dL_law_359 : decode cL_law 359 = .ok (.aload_n 0, 1) := by decide +kernel
theorem dL_law_360 : decode cL_law 360 = .ok (.iload_n 3, 1) := by decide +kernel
theorem dL_law_361 : decode cL_law 361 = .ok (.iconst 2, 1) := by decide +kernel
theorem dL_law_362 : decode cL_law 362 = .ok (.iadd, 1) := by decide +kernel
theorem dL_law_363 : decode cL_law 363 = .ok (.iaload, 1) := by decide +kernel
theorem dL_law_364 : decode cL_law 364 = .ok (.aload_n 0, 1) := by decide +kernel
theorem dL_law_365 : decode cL_law 365 = .ok (.iload_n 3, 1) := by decide +kernel
theorem dL_law_366 : decode cL_law 366 = .ok (.iconst 3, 1) := by decide +kernel
theorem dL_law_367 : decode cL_law 367 = .ok (.iadd, 1) := by decide +kernel
theorem dL_law_368 : decode cL_law 368 = .ok (.iaload, 1) := by decide +kernel
theorem dL_law_369 : decode cL_law 369 = .ok (.aload_n 0, 1) := by decide +kernel
theorem dL_law_370 : decode cL_law 370 = .ok (.iload_n 3, 1) := by decide +kernel
theorem dL_law_371 : decode cL_law 371 = .ok (.iconst 4, 1) := by decide +kernel
theorem dL_law_372 : decode cL_law 372 = .ok (.iadd, 1) := by decide +kernel
theorem dL_law_373 : decode cL_law 373 = .ok (.iaload, 1) := by decide +kernel
theorem dL_law_374 : decode cL_law 374 = .ok (.aload_n 0, 1) := by decide +kernel
theorem dL_law_375 : decode cL_law 375 = .ok (.iload_n 3, 1) := by decide +kernel
theorem dL_law_376 : decode cL_law 376 = .ok (.iconst 5, 1) := by decide +kernel
theorem dL_law_377 : decode cL_law 377 = .ok (.iadd, 1) := by decide +kernel
theorem dL_law_378 : decode cL_law 378 = .ok (.iaload, 1) := by decide +kernel
theorem dL_law_379 : decode cL_law 379 = .ok (.invokevirtual 29, 3) := by decide +kernel
theorem dL_law_382 : decode cL_law 382 = .ok (.if_icmp .eq 1073, 3) := by decide +kernel
theorem dL_law_385 : decode cL_law 385 = .ok (.iconst 0, 1) := by decide +kernel
theorem dL_law_386 : decode cL_law 386 = .ok (.ireturn, 1) := by decide +kernel
theorem dL_law_387 : decode cL_law 387 = .ok (.aload_n 1, 1) := by decide +kernel
theorem dL_law_388 : decode cL_law 388 = .ok (.aload_n 0, 1) := by decide +kernel
theorem dL_law_389 : decode cL_law 389 = .ok (.iload_n 3, 1) := by decide +kernel
theorem dL_law_390 : decode cL_law 390 = .ok (.iconst 1, 1) := by decide +kernel
theorem dL_law_391 : decode cL_law 391 = .ok (.iadd, 1) := by decide +kernel
theorem dL_law_392 : decode cL_law 392 = .ok (.iaload, 1) := by decide +kernel
theorem dL_law_393 : decode cL_law 393 = .ok (.aload_n 0, 1) := by decide +kernel
theorem dL_law_394 : decode cL_law 394 = .ok (.iload_n 3, 1) := by decide +kernel
theorem dL_law_395 : decode cL_law 395 = .ok (.iconst 2, 1) := by decide +kernel
theorem dL_law_396 : decode cL_law 396 = .ok (.iadd, 1) := by decide +kernel
theorem dL_law_397 : decode cL_law 397 = .ok (.iaload, 1) := by decide +kernel
theorem dL_law_398 : decode cL_law 398 = .ok (.invokevirtual 30, 3) := by decide +kernel
theorem dL_law_401 : decode cL_law 401 = .ok (.aload_n 2, 1) := by decide +kernel
theorem dL_law_402 : decode cL_law 402 = .ok (.aload_n 0, 1) := by decide +kernel
theorem dL_law_403 : decode cL_law 403 = .ok (.iload_n 3, 1) := by decide +kernel
theorem dL_law_404 : decode cL_law 404 = .ok (.iconst 1, 1) := by decide +kernel
theorem dL_law_405 : decode cL_law 405 = .ok (.iadd, 1) := by decide +kernel
theorem dL_law_406 : decode cL_law 406 = .ok (.iaload, 1) := by decide +kernel
theorem dL_law_407 : decode cL_law 407 = .ok (.aload_n 0, 1) := by decide +kernel
theorem dL_law_408 : decode cL_law 408 = .ok (.iload_n 3, 1) := by decide +kernel
theorem dL_law_409 : decode cL_law 409 = .ok (.iconst 2, 1) := by decide +kernel
theorem dL_law_410 : decode cL_law 410 = .ok (.iadd, 1) := by decide +kernel
theorem dL_law_411 : decode cL_law 411 = .ok (.iaload, 1) := by decide +kernel
theorem dL_law_412 : decode cL_law 412 = .ok (.invokevirtual 34, 3) := by decide +kernel
theorem dL_law_415 : decode cL_law 415 = .ok (.lcmp, 1) := by decide +kernel
theorem dL_law_416 : decode cL_law 416 = .ok (.ifCond .eq 1039, 3) := by decide +kernel
theorem dL_law_419 : decode cL_law 419 = .ok (.iconst 0, 1) := by decide +kernel
theorem dL_law_420 : decode cL_law 420 = .ok (.ireturn, 1) := by decide +kernel
theorem dL_law_421 : decode cL_law 421 = .ok (.aload_n 1, 1) := by decide +kernel
theorem dL_law_422 : decode cL_law 422 = .ok (.aload_n 0, 1) := by decide +kernel
theorem dL_law_423 : decode cL_law 423 = .ok (.iload_n 3, 1) := by decide +kernel
theorem dL_law_424 : decode cL_law 424 = .ok (.iconst 1, 1) := by decide +kernel
theorem dL_law_425 : decode cL_law 425 = .ok (.iadd, 1) := by decide +kernel
theorem dL_law_426 : decode cL_law 426 = .ok (.iaload, 1) := by decide +kernel
theorem dL_law_427 : decode cL_law 427 = .ok (.aload_n 0, 1) := by decide +kernel
theorem dL_law_428 : decode cL_law 428 = .ok (.iload_n 3, 1) := by decide +kernel
theorem dL_law_429 : decode cL_law 429 = .ok (.iconst 2, 1) := by decide +kernel
theorem dL_law_430 : decode cL_law 430 = .ok (.iadd, 1) := by decide +kernel
theorem dL_law_431 : decode cL_law 431 = .ok (.iaload, 1) := by decide +kernel
theorem dL_law_432 : decode cL_law 432 = .ok (.invokevirtual 35, 3) := by decide +kernel
theorem dL_law_435 : decode cL_law 435 = .ok (.aload_n 2, 1) := by decide +kernel
theorem dL_law_436 : decode cL_law 436 = .ok (.aload_n 0, 1) := by decide +kernel
theorem dL_law_437 : decode cL_law 437 = .ok (.iload_n 3, 1) := by decide +kernel
theorem dL_law_438 : decode cL_law 438 = .ok (.iconst 1, 1) := by decide +kernel
theorem dL_law_439 : decode cL_law 439 = .ok (.iadd, 1) := by decide +kernel
theorem dL_law_440 : decode cL_law 440 = .ok (.iaload, 1) := by decide +kernel
theorem dL_law_441 : decode cL_law 441 = .ok (.aload_n 0, 1) := by decide +kernel
theorem dL_law_442 : decode cL_law 442 = .ok (.iload_n 3, 1) := by decide +kernel
theorem dL_law_443 : decode cL_law 443 = .ok (.iconst 2, 1) := by decide +kernel
theorem dL_law_444 : decode cL_law 444 = .ok (.iadd, 1) := by decide +kernel
theorem dL_law_445 : decode cL_law 445 = .ok (.iaload, 1) := by decide +kernel
theorem dL_law_446 : decode cL_law 446 = .ok (.invokevirtual 39, 3) := by decide +kernel
theorem dL_law_449 : decode cL_law 449 = .ok (.if_icmp .eq 1006, 3) := by decide +kernel
theorem dL_law_452 : decode cL_law 452 = .ok (.iconst 0, 1) := by decide +kernel
theorem dL_law_453 : decode cL_law 453 = .ok (.ireturn, 1) := by decide +kernel
theorem dL_law_454 : decode cL_law 454 = .ok (.aload_n 1, 1) := by decide +kernel
theorem dL_law_455 : decode cL_law 455 = .ok (.aload_n 0, 1) := by decide +kernel
theorem dL_law_456 : decode cL_law 456 = .ok (.iload_n 3, 1) := by decide +kernel
theorem dL_law_457 : decode cL_law 457 = .ok (.iconst 1, 1) := by decide +kernel
theorem dL_law_458 : decode cL_law 458 = .ok (.iadd, 1) := by decide +kernel
theorem dL_law_459 : decode cL_law 459 = .ok (.iaload, 1) := by decide +kernel
theorem dL_law_460 : decode cL_law 460 = .ok (.invokevirtual 40, 3) := by decide +kernel
theorem dL_law_463 : decode cL_law 463 = .ok (.aload_n 2, 1) := by decide +kernel
theorem dL_law_464 : decode cL_law 464 = .ok (.aload_n 0, 1) := by decide +kernel
theorem dL_law_465 : decode cL_law 465 = .ok (.iload_n 3, 1) := by decide +kernel
theorem dL_law_466 : decode cL_law 466 = .ok (.iconst 1, 1) := by decide +kernel
theorem dL_law_467 : decode cL_law 467 = .ok (.iadd, 1) := by decide +kernel
theorem dL_law_468 : decode cL_law 468 = .ok (.iaload, 1) := by decide +kernel
theorem dL_law_469 : decode cL_law 469 = .ok (.invokevirtual 44, 3) := by decide +kernel
theorem dL_law_472 : decode cL_law 472 = .ok (.if_icmp .eq 983, 3) := by decide +kernel
theorem dL_law_475 : decode cL_law 475 = .ok (.iconst 0, 1) := by decide +kernel
theorem dL_law_476 : decode cL_law 476 = .ok (.ireturn, 1) := by decide +kernel
theorem dL_law_477 : decode cL_law 477 = .ok (.aload_n 1, 1) := by decide +kernel
theorem dL_law_478 : decode cL_law 478 = .ok (.aload_n 0, 1) := by decide +kernel
theorem dL_law_479 : decode cL_law 479 = .ok (.iload_n 3, 1) := by decide +kernel
theorem dL_law_480 : decode cL_law 480 = .ok (.iconst 1, 1) := by decide +kernel
theorem dL_law_481 : decode cL_law 481 = .ok (.iadd, 1) := by decide +kernel
theorem dL_law_482 : decode cL_law 482 = .ok (.iaload, 1) := by decide +kernel
theorem dL_law_483 : decode cL_law 483 = .ok (.aload_n 0, 1) := by decide +kernel
theorem dL_law_484 : decode cL_law 484 = .ok (.iload_n 3, 1) := by decide +kernel
theorem dL_law_485 : decode cL_law 485 = .ok (.iconst 2, 1) := by decide +kernel
theorem dL_law_486 : decode cL_law 486 = .ok (.iadd, 1) := by decide +kernel
theorem dL_law_487 : decode cL_law 487 = .ok (.iaload, 1) := by decide +kernel
theorem dL_law_488 : decode cL_law 488 = .ok (.invokevirtual 45, 3) := by decide +kernel
theorem dL_law_491 : decode cL_law 491 = .ok (.aload_n 2, 1) := by decide +kernel
theorem dL_law_492 : decode cL_law 492 = .ok (.aload_n 0, 1) := by decide +kernel
theorem dL_law_493 : decode cL_law 493 = .ok (.iload_n 3, 1) := by decide +kernel
theorem dL_law_494 : decode cL_law 494 = .ok (.iconst 1, 1) := by decide +kernel
theorem dL_law_495 : decode cL_law 495 = .ok (.iadd, 1) := by decide +kernel
theorem dL_law_496 : decode cL_law 496 = .ok (.iaload, 1) := by decide +kernel
theorem dL_law_497 : decode cL_law 497 = .ok (.aload_n 0, 1) := by decide +kernel
theorem dL_law_498 : decode cL_law 498 = .ok (.iload_n 3, 1) := by decide +kernel
theorem dL_law_499 : decode cL_law 499 = .ok (.iconst 2, 1) := by decide +kernel
theorem dL_law_500 : decode cL_law 500 = .ok (.iadd, 1) := by decide +kernel
theorem dL_law_501 : decode cL_law 501 = .ok (.iaload, 1) := by decide +kernel
theorem dL_law_502 : decode cL_law 502 = .ok (.invokevirtual 48, 3) := by decide +kernel
theorem dL_law_505 : decode cL_law 505 = .ok (.if_icmp .eq 950, 3) := by decide +kernel
theorem dL_law_508 : decode cL_law 508 = .ok (.iconst 0, 1) := by decide +kernel
theorem dL_law_509 : decode cL_law 509 = .ok (.ireturn, 1) := by decide +kernel
theorem dL_law_510 : decode cL_law 510 = .ok (.aload_n 1, 1) := by decide +kernel
theorem dL_law_511 : decode cL_law 511 = .ok (.aload_n 0, 1) := by decide +kernel
theorem dL_law_512 : decode cL_law 512 = .ok (.iload_n 3, 1) := by decide +kernel
theorem dL_law_513 : decode cL_law 513 = .ok (.iconst 1, 1) := by decide +kernel
theorem dL_law_514 : decode cL_law 514 = .ok (.iadd, 1) := by decide +kernel
theorem dL_law_515 : decode cL_law 515 = .ok (.iaload, 1) := by decide +kernel
theorem dL_law_516 : decode cL_law 516 = .ok (.aload_n 0, 1) := by decide +kernel
theorem dL_law_517 : decode cL_law 517 = .ok (.iload_n 3, 1) := by decide +kernel
theorem dL_law_518 : decode cL_law 518 = .ok (.iconst 2, 1) := by decide +kernel
theorem dL_law_519 : decode cL_law 519 = .ok (.iadd, 1) := by decide +kernel
theorem dL_law_520 : decode cL_law 520 = .ok (.iaload, 1) := by decide +kernel
theorem dL_law_521 : decode cL_law 521 = .ok (.aload_n 0, 1) := by decide +kernel
theorem dL_law_522 : decode cL_law 522 = .ok (.iload_n 3, 1) := by decide +kernel
theorem dL_law_523 : decode cL_law 523 = .ok (.iconst 3, 1) := by decide +kernel
theorem dL_law_524 : decode cL_law 524 = .ok (.iadd, 1) := by decide +kernel
theorem dL_law_525 : decode cL_law 525 = .ok (.iaload, 1) := by decide +kernel
theorem dL_law_526 : decode cL_law 526 = .ok (.invokevirtual 49, 3) := by decide +kernel
theorem dL_law_529 : decode cL_law 529 = .ok (.aload_n 2, 1) := by decide +kernel
theorem dL_law_530 : decode cL_law 530 = .ok (.aload_n 0, 1) := by decide +kernel
theorem dL_law_531 : decode cL_law 531 = .ok (.iload_n 3, 1) := by decide +kernel
theorem dL_law_532 : decode cL_law 532 = .ok (.iconst 1, 1) := by decide +kernel
theorem dL_law_533 : decode cL_law 533 = .ok (.iadd, 1) := by decide +kernel
theorem dL_law_534 : decode cL_law 534 = .ok (.iaload, 1) := by decide +kernel
theorem dL_law_535 : decode cL_law 535 = .ok (.aload_n 0, 1) := by decide +kernel
theorem dL_law_536 : decode cL_law 536 = .ok (.iload_n 3, 1) := by decide +kernel
theorem dL_law_537 : decode cL_law 537 = .ok (.iconst 2, 1) := by decide +kernel
theorem dL_law_538 : decode cL_law 538 = .ok (.iadd, 1) := by decide +kernel
theorem dL_law_539 : decode cL_law 539 = .ok (.iaload, 1) := by decide +kernel
theorem dL_law_540 : decode cL_law 540 = .ok (.aload_n 0, 1) := by decide +kernel
theorem dL_law_541 : decode cL_law 541 = .ok (.iload_n 3, 1) := by decide +kernel
theorem dL_law_542 : decode cL_law 542 = .ok (.iconst 3, 1) := by decide +kernel
theorem dL_law_543 : decode cL_law 543 = .ok (.iadd, 1) := by decide +kernel
theorem dL_law_544 : decode cL_law 544 = .ok (.iaload, 1) := by decide +kernel
theorem dL_law_545 : decode cL_law 545 = .ok (.invokevirtual 52, 3) := by decide +kernel
theorem dL_law_548 : decode cL_law 548 = .ok (.if_icmp .eq 907, 3) := by decide +kernel
theorem dL_law_551 : decode cL_law 551 = .ok (.iconst 0, 1) := by decide +kernel
theorem dL_law_552 : decode cL_law 552 = .ok (.ireturn, 1) := by decide +kernel
theorem dL_law_553 : decode cL_law 553 = .ok (.aload_n 1, 1) := by decide +kernel
theorem dL_law_554 : decode cL_law 554 = .ok (.aload_n 0, 1) := by decide +kernel
theorem dL_law_555 : decode cL_law 555 = .ok (.iload_n 3, 1) := by decide +kernel
theorem dL_law_556 : decode cL_law 556 = .ok (.iconst 1, 1) := by decide +kernel
theorem dL_law_557 : decode cL_law 557 = .ok (.iadd, 1) := by decide +kernel
theorem dL_law_558 : decode cL_law 558 = .ok (.iaload, 1) := by decide +kernel
theorem dL_law_559 : decode cL_law 559 = .ok (.aload_n 0, 1) := by decide +kernel
theorem dL_law_560 : decode cL_law 560 = .ok (.iload_n 3, 1) := by decide +kernel
theorem dL_law_561 : decode cL_law 561 = .ok (.iconst 2, 1) := by decide +kernel
theorem dL_law_562 : decode cL_law 562 = .ok (.iadd, 1) := by decide +kernel
theorem dL_law_563 : decode cL_law 563 = .ok (.iaload, 1) := by decide +kernel
theorem dL_law_564 : decode cL_law 564 = .ok (.invokevirtual 53, 3) := by decide +kernel
theorem dL_law_567 : decode cL_law 567 = .ok (.aload_n 2, 1) := by decide +kernel
theorem dL_law_568 : decode cL_law 568 = .ok (.aload_n 0, 1) := by decide +kernel
theorem dL_law_569 : decode cL_law 569 = .ok (.iload_n 3, 1) := by decide +kernel
theorem dL_law_570 : decode cL_law 570 = .ok (.iconst 1, 1) := by decide +kernel
theorem dL_law_571 : decode cL_law 571 = .ok (.iadd, 1) := by decide +kernel
theorem dL_law_572 : decode cL_law 572 = .ok (.iaload, 1) := by decide +kernel
theorem dL_law_573 : decode cL_law 573 = .ok (.aload_n 0, 1) := by decide +kernel
theorem dL_law_574 : decode cL_law 574 = .ok (.iload_n 3, 1) := by decide +kernel
theorem dL_law_575 : decode cL_law 575 = .ok (.iconst 2, 1) := by decide +kernel
theorem dL_law_576 : decode cL_law 576 = .ok (.iadd, 1) := by decide +kernel
theorem dL_law_577 : decode cL_law 577 = .ok (.iaload, 1) := by decide +kernel
theorem dL_law_578 : decode cL_law 578 = .ok (.invokevirtual 56, 3) := by decide +kernel
theorem dL_law_581 : decode cL_law 581 = .ok (.if_icmp .eq 874, 3) := by decide +kernel
theorem dL_law_584 : decode cL_law 584 = .ok (.iconst 0, 1) := by decide +kernel
theorem dL_law_585 : decode cL_law 585 = .ok (.ireturn, 1) := by decide +kernel
theorem dL_law_586 : decode cL_law 586 = .ok (.aload_n 1, 1) := by decide +kernel
theorem dL_law_587 : decode cL_law 587 = .ok (.aload_n 0, 1) := by decide +kernel
theorem dL_law_588 : decode cL_law 588 = .ok (.iload_n 3, 1) := by decide +kernel
theorem dL_law_589 : decode cL_law 589 = .ok (.iconst 1, 1) := by decide +kernel
theorem dL_law_590 : decode cL_law 590 = .ok (.iadd, 1) := by decide +kernel
theorem dL_law_591 : decode cL_law 591 = .ok (.iaload, 1) := by decide +kernel
theorem dL_law_592 : decode cL_law 592 = .ok (.aload_n 0, 1) := by decide +kernel
theorem dL_law_593 : decode cL_law 593 = .ok (.iload_n 3, 1) := by decide +kernel
theorem dL_law_594 : decode cL_law 594 = .ok (.iconst 2, 1) := by decide +kernel
theorem dL_law_595 : decode cL_law 595 = .ok (.iadd, 1) := by decide +kernel
theorem dL_law_596 : decode cL_law 596 = .ok (.iaload, 1) := by decide +kernel
theorem dL_law_597 : decode cL_law 597 = .ok (.invokevirtual 57, 3) := by decide +kernel
theorem dL_law_600 : decode cL_law 600 = .ok (.aload_n 2, 1) := by decide +kernel
theorem dL_law_601 : decode cL_law 601 = .ok (.aload_n 0, 1) := by decide +kernel
theorem dL_law_602 : decode cL_law 602 = .ok (.iload_n 3, 1) := by decide +kernel
theorem dL_law_603 : decode cL_law 603 = .ok (.iconst 1, 1) := by decide +kernel
theorem dL_law_604 : decode cL_law 604 = .ok (.iadd, 1) := by decide +kernel
theorem dL_law_605 : decode cL_law 605 = .ok (.iaload, 1) := by decide +kernel
theorem dL_law_606 : decode cL_law 606 = .ok (.aload_n 0, 1) := by decide +kernel
theorem dL_law_607 : decode cL_law 607 = .ok (.iload_n 3, 1) := by decide +kernel
theorem dL_law_608 : decode cL_law 608 = .ok (.iconst 2, 1) := by decide +kernel
theorem dL_law_609 : decode cL_law 609 = .ok (.iadd, 1) := by decide +kernel
theorem dL_law_610 : decode cL_law 610 = .ok (.iaload, 1) := by decide +kernel
theorem dL_law_611 : decode cL_law 611 = .ok (.invokevirtual 60, 3) := by decide +kernel
theorem dL_law_614 : decode cL_law 614 = .ok (.if_icmp .eq 841, 3) := by decide +kernel
theorem dL_law_617 : decode cL_law 617 = .ok (.iconst 0, 1) := by decide +kernel
theorem dL_law_618 : decode cL_law 618 = .ok (.ireturn, 1) := by decide +kernel
theorem dL_law_619 : decode cL_law 619 = .ok (.aload_n 1, 1) := by decide +kernel
theorem dL_law_620 : decode cL_law 620 = .ok (.aload_n 0, 1) := by decide +kernel
theorem dL_law_621 : decode cL_law 621 = .ok (.iload_n 3, 1) := by decide +kernel
theorem dL_law_622 : decode cL_law 622 = .ok (.iconst 1, 1) := by decide +kernel
theorem dL_law_623 : decode cL_law 623 = .ok (.iadd, 1) := by decide +kernel
theorem dL_law_624 : decode cL_law 624 = .ok (.iaload, 1) := by decide +kernel
theorem dL_law_625 : decode cL_law 625 = .ok (.aload_n 0, 1) := by decide +kernel
theorem dL_law_626 : decode cL_law 626 = .ok (.iload_n 3, 1) := by decide +kernel
theorem dL_law_627 : decode cL_law 627 = .ok (.iconst 2, 1) := by decide +kernel
theorem dL_law_628 : decode cL_law 628 = .ok (.iadd, 1) := by decide +kernel
theorem dL_law_629 : decode cL_law 629 = .ok (.iaload, 1) := by decide +kernel
theorem dL_law_630 : decode cL_law 630 = .ok (.invokevirtual 61, 3) := by decide +kernel
theorem dL_law_633 : decode cL_law 633 = .ok (.aload_n 2, 1) := by decide +kernel
theorem dL_law_634 : decode cL_law 634 = .ok (.aload_n 0, 1) := by decide +kernel
theorem dL_law_635 : decode cL_law 635 = .ok (.iload_n 3, 1) := by decide +kernel
theorem dL_law_636 : decode cL_law 636 = .ok (.iconst 1, 1) := by decide +kernel
theorem dL_law_637 : decode cL_law 637 = .ok (.iadd, 1) := by decide +kernel
theorem dL_law_638 : decode cL_law 638 = .ok (.iaload, 1) := by decide +kernel
theorem dL_law_639 : decode cL_law 639 = .ok (.aload_n 0, 1) := by decide +kernel
theorem dL_law_640 : decode cL_law 640 = .ok (.iload_n 3, 1) := by decide +kernel
theorem dL_law_641 : decode cL_law 641 = .ok (.iconst 2, 1) := by decide +kernel
theorem dL_law_642 : decode cL_law 642 = .ok (.iadd, 1) := by decide +kernel
theorem dL_law_643 : decode cL_law 643 = .ok (.iaload, 1) := by decide +kernel
theorem dL_law_644 : decode cL_law 644 = .ok (.invokevirtual 64, 3) := by decide +kernel
theorem dL_law_647 : decode cL_law 647 = .ok (.if_icmp .eq 808, 3) := by decide +kernel
theorem dL_law_650 : decode cL_law 650 = .ok (.iconst 0, 1) := by decide +kernel
theorem dL_law_651 : decode cL_law 651 = .ok (.ireturn, 1) := by decide +kernel
theorem dL_law_652 : decode cL_law 652 = .ok (.aload_n 1, 1) := by decide +kernel
theorem dL_law_653 : decode cL_law 653 = .ok (.aload_n 0, 1) := by decide +kernel
theorem dL_law_654 : decode cL_law 654 = .ok (.iload_n 3, 1) := by decide +kernel
theorem dL_law_655 : decode cL_law 655 = .ok (.iconst 1, 1) := by decide +kernel
theorem dL_law_656 : decode cL_law 656 = .ok (.iadd, 1) := by decide +kernel
theorem dL_law_657 : decode cL_law 657 = .ok (.iaload, 1) := by decide +kernel
theorem dL_law_658 : decode cL_law 658 = .ok (.aload_n 0, 1) := by decide +kernel
theorem dL_law_659 : decode cL_law 659 = .ok (.iload_n 3, 1) := by decide +kernel
theorem dL_law_660 : decode cL_law 660 = .ok (.iconst 2, 1) := by decide +kernel
theorem dL_law_661 : decode cL_law 661 = .ok (.iadd, 1) := by decide +kernel
theorem dL_law_662 : decode cL_law 662 = .ok (.iaload, 1) := by decide +kernel
theorem dL_law_663 : decode cL_law 663 = .ok (.invokevirtual 65, 3) := by decide +kernel
theorem dL_law_666 : decode cL_law 666 = .ok (.aload_n 2, 1) := by decide +kernel
theorem dL_law_667 : decode cL_law 667 = .ok (.aload_n 0, 1) := by decide +kernel
theorem dL_law_668 : decode cL_law 668 = .ok (.iload_n 3, 1) := by decide +kernel
theorem dL_law_669 : decode cL_law 669 = .ok (.iconst 1, 1) := by decide +kernel
theorem dL_law_670 : decode cL_law 670 = .ok (.iadd, 1) := by decide +kernel
theorem dL_law_671 : decode cL_law 671 = .ok (.iaload, 1) := by decide +kernel
theorem dL_law_672 : decode cL_law 672 = .ok (.aload_n 0, 1) := by decide +kernel
theorem dL_law_673 : decode cL_law 673 = .ok (.iload_n 3, 1) := by decide +kernel
theorem dL_law_674 : decode cL_law 674 = .ok (.iconst 2, 1) := by decide +kernel
theorem dL_law_675 : decode cL_law 675 = .ok (.iadd, 1) := by decide +kernel
theorem dL_law_676 : decode cL_law 676 = .ok (.iaload, 1) := by decide +kernel
theorem dL_law_677 : decode cL_law 677 = .ok (.invokevirtual 68, 3) := by decide +kernel
theorem dL_law_680 : decode cL_law 680 = .ok (.if_icmp .eq 775, 3) := by decide +kernel
theorem dL_law_683 : decode cL_law 683 = .ok (.iconst 0, 1) := by decide +kernel
theorem dL_law_684 : decode cL_law 684 = .ok (.ireturn, 1) := by decide +kernel
theorem dL_law_685 : decode cL_law 685 = .ok (.aload_n 1, 1) := by decide +kernel
theorem dL_law_686 : decode cL_law 686 = .ok (.aload_n 0, 1) := by decide +kernel
theorem dL_law_687 : decode cL_law 687 = .ok (.iload_n 3, 1) := by decide +kernel
theorem dL_law_688 : decode cL_law 688 = .ok (.iconst 1, 1) := by decide +kernel
theorem dL_law_689 : decode cL_law 689 = .ok (.iadd, 1) := by decide +kernel
theorem dL_law_690 : decode cL_law 690 = .ok (.iaload, 1) := by decide +kernel
theorem dL_law_691 : decode cL_law 691 = .ok (.aload_n 0, 1) := by decide +kernel
theorem dL_law_692 : decode cL_law 692 = .ok (.iload_n 3, 1) := by decide +kernel
theorem dL_law_693 : decode cL_law 693 = .ok (.iconst 2, 1) := by decide +kernel
theorem dL_law_694 : decode cL_law 694 = .ok (.iadd, 1) := by decide +kernel
theorem dL_law_695 : decode cL_law 695 = .ok (.iaload, 1) := by decide +kernel
theorem dL_law_696 : decode cL_law 696 = .ok (.invokevirtual 69, 3) := by decide +kernel
theorem dL_law_699 : decode cL_law 699 = .ok (.aload_n 2, 1) := by decide +kernel
theorem dL_law_700 : decode cL_law 700 = .ok (.aload_n 0, 1) := by decide +kernel
theorem dL_law_701 : decode cL_law 701 = .ok (.iload_n 3, 1) := by decide +kernel
theorem dL_law_702 : decode cL_law 702 = .ok (.iconst 1, 1) := by decide +kernel
theorem dL_law_703 : decode cL_law 703 = .ok (.iadd, 1) := by decide +kernel
theorem dL_law_704 : decode cL_law 704 = .ok (.iaload, 1) := by decide +kernel
theorem dL_law_705 : decode cL_law 705 = .ok (.aload_n 0, 1) := by decide +kernel
theorem dL_law_706 : decode cL_law 706 = .ok (.iload_n 3, 1) := by decide +kernel
theorem dL_law_707 : decode cL_law 707 = .ok (.iconst 2, 1) := by decide +kernel
theorem dL_law_708 : decode cL_law 708 = .ok (.iadd, 1) := by decide +kernel
theorem dL_law_709 : decode cL_law 709 = .ok (.iaload, 1) := by decide +kernel
theorem dL_law_710 : decode cL_law 710 = .ok (.invokevirtual 72, 3) := by decide +kernel
theorem dL_law_713 : decode cL_law 713 = .ok (.if_icmp .eq 742, 3) := by decide +kernel
theorem dL_law_716 : decode cL_law 716 = .ok (.iconst 0, 1) := by decide +kernel
theorem dL_law_717 : decode cL_law 717 = .ok (.ireturn, 1) := by decide +kernel
theorem dL_law_718 : decode cL_law 718 = .ok (.aload_n 1, 1) := by decide +kernel
theorem dL_law_719 : decode cL_law 719 = .ok (.aload_n 0, 1) := by decide +kernel
theorem dL_law_720 : decode cL_law 720 = .ok (.iload_n 3, 1) := by decide +kernel
theorem dL_law_721 : decode cL_law 721 = .ok (.iconst 1, 1) := by decide +kernel
theorem dL_law_722 : decode cL_law 722 = .ok (.iadd, 1) := by decide +kernel
theorem dL_law_723 : decode cL_law 723 = .ok (.iaload, 1) := by decide +kernel
theorem dL_law_724 : decode cL_law 724 = .ok (.aload_n 0, 1) := by decide +kernel
theorem dL_law_725 : decode cL_law 725 = .ok (.iload_n 3, 1) := by decide +kernel
theorem dL_law_726 : decode cL_law 726 = .ok (.iconst 2, 1) := by decide +kernel
theorem dL_law_727 : decode cL_law 727 = .ok (.iadd, 1) := by decide +kernel
theorem dL_law_728 : decode cL_law 728 = .ok (.iaload, 1) := by decide +kernel
theorem dL_law_729 : decode cL_law 729 = .ok (.invokevirtual 73, 3) := by decide +kernel
theorem dL_law_732 : decode cL_law 732 = .ok (.aload_n 2, 1) := by decide +kernel
theorem dL_law_733 : decode cL_law 733 = .ok (.aload_n 0, 1) := by decide +kernel
theorem dL_law_734 : decode cL_law 734 = .ok (.iload_n 3, 1) := by decide +kernel
theorem dL_law_735 : decode cL_law 735 = .ok (.iconst 1, 1) := by decide +kernel
theorem dL_law_736 : decode cL_law 736 = .ok (.iadd, 1) := by decide +kernel
theorem dL_law_737 : decode cL_law 737 = .ok (.iaload, 1) := by decide +kernel
theorem dL_law_738 : decode cL_law 738 = .ok (.aload_n 0, 1) := by decide +kernel
theorem dL_law_739 : decode cL_law 739 = .ok (.iload_n 3, 1) := by decide +kernel
theorem dL_law_740 : decode cL_law 740 = .ok (.iconst 2, 1) := by decide +kernel
theorem dL_law_741 : decode cL_law 741 = .ok (.iadd, 1) := by decide +kernel
theorem dL_law_742 : decode cL_law 742 = .ok (.iaload, 1) := by decide +kernel
theorem dL_law_743 : decode cL_law 743 = .ok (.invokevirtual 76, 3) := by decide +kernel
theorem dL_law_746 : decode cL_law 746 = .ok (.if_icmp .eq 709, 3) := by decide +kernel
theorem dL_law_749 : decode cL_law 749 = .ok (.iconst 0, 1) := by decide +kernel
theorem dL_law_750 : decode cL_law 750 = .ok (.ireturn, 1) := by decide +kernel
theorem dL_law_751 : decode cL_law 751 = .ok (.aload_n 1, 1) := by decide +kernel
theorem dL_law_752 : decode cL_law 752 = .ok (.aload_n 0, 1) := by decide +kernel
theorem dL_law_753 : decode cL_law 753 = .ok (.iload_n 3, 1) := by decide +kernel
theorem dL_law_754 : decode cL_law 754 = .ok (.iconst 1, 1) := by decide +kernel
theorem dL_law_755 : decode cL_law 755 = .ok (.iadd, 1) := by decide +kernel
theorem dL_law_756 : decode cL_law 756 = .ok (.iaload, 1) := by decide +kernel
theorem dL_law_757 : decode cL_law 757 = .ok (.ifCond .eq 7, 3) := by decide +kernel
theorem dL_law_760 : decode cL_law 760 = .ok (.iconst 1, 1) := by decide +kernel
theorem dL_law_761 : decode cL_law 761 = .ok (.goto 4, 3) := by decide +kernel
theorem dL_law_764 : decode cL_law 764 = .ok (.iconst 0, 1) := by decide +kernel
theorem dL_law_765 : decode cL_law 765 = .ok (.invokevirtual 77, 3) := by decide +kernel
theorem dL_law_768 : decode cL_law 768 = .ok (.aload_n 2, 1) := by decide +kernel
theorem dL_law_769 : decode cL_law 769 = .ok (.aload_n 0, 1) := by decide +kernel
theorem dL_law_770 : decode cL_law 770 = .ok (.iload_n 3, 1) := by decide +kernel
theorem dL_law_771 : decode cL_law 771 = .ok (.iconst 1, 1) := by decide +kernel
theorem dL_law_772 : decode cL_law 772 = .ok (.iadd, 1) := by decide +kernel
theorem dL_law_773 : decode cL_law 773 = .ok (.iaload, 1) := by decide +kernel
theorem dL_law_774 : decode cL_law 774 = .ok (.ifCond .eq 7, 3) := by decide +kernel
theorem dL_law_777 : decode cL_law 777 = .ok (.iconst 1, 1) := by decide +kernel
theorem dL_law_778 : decode cL_law 778 = .ok (.goto 4, 3) := by decide +kernel
theorem dL_law_781 : decode cL_law 781 = .ok (.iconst 0, 1) := by decide +kernel
theorem dL_law_782 : decode cL_law 782 = .ok (.invokevirtual 81, 3) := by decide +kernel
theorem dL_law_785 : decode cL_law 785 = .ok (.if_icmp .eq 670, 3) := by decide +kernel
theorem dL_law_788 : decode cL_law 788 = .ok (.iconst 0, 1) := by decide +kernel
theorem dL_law_789 : decode cL_law 789 = .ok (.ireturn, 1) := by decide +kernel
theorem dL_law_790 : decode cL_law 790 = .ok (.aload_n 1, 1) := by decide +kernel
theorem dL_law_791 : decode cL_law 791 = .ok (.aload_n 0, 1) := by decide +kernel
theorem dL_law_792 : decode cL_law 792 = .ok (.iload_n 3, 1) := by decide +kernel
theorem dL_law_793 : decode cL_law 793 = .ok (.iconst 1, 1) := by decide +kernel
theorem dL_law_794 : decode cL_law 794 = .ok (.iadd, 1) := by decide +kernel
theorem dL_law_795 : decode cL_law 795 = .ok (.iaload, 1) := by decide +kernel
theorem dL_law_796 : decode cL_law 796 = .ok (.invokevirtual 82, 3) := by decide +kernel
theorem dL_law_799 : decode cL_law 799 = .ok (.aload_n 2, 1) := by decide +kernel
theorem dL_law_800 : decode cL_law 800 = .ok (.aload_n 0, 1) := by decide +kernel
theorem dL_law_801 : decode cL_law 801 = .ok (.iload_n 3, 1) := by decide +kernel
theorem dL_law_802 : decode cL_law 802 = .ok (.iconst 1, 1) := by decide +kernel
theorem dL_law_803 : decode cL_law 803 = .ok (.iadd, 1) := by decide +kernel
theorem dL_law_804 : decode cL_law 804 = .ok (.iaload, 1) := by decide +kernel
theorem dL_law_805 : decode cL_law 805 = .ok (.invokevirtual 85, 3) := by decide +kernel
theorem dL_law_808 : decode cL_law 808 = .ok (.if_icmp .eq 647, 3) := by decide +kernel
theorem dL_law_811 : decode cL_law 811 = .ok (.iconst 0, 1) := by decide +kernel
theorem dL_law_812 : decode cL_law 812 = .ok (.ireturn, 1) := by decide +kernel
theorem dL_law_813 : decode cL_law 813 = .ok (.aload_n 1, 1) := by decide +kernel
theorem dL_law_814 : decode cL_law 814 = .ok (.invokevirtual 86, 3) := by decide +kernel
theorem dL_law_817 : decode cL_law 817 = .ok (.aload_n 2, 1) := by decide +kernel
theorem dL_law_818 : decode cL_law 818 = .ok (.invokevirtual 90, 3) := by decide +kernel
theorem dL_law_821 : decode cL_law 821 = .ok (.if_icmp .eq 634, 3) := by decide +kernel
theorem dL_law_824 : decode cL_law 824 = .ok (.iconst 0, 1) := by decide +kernel
theorem dL_law_825 : decode cL_law 825 = .ok (.ireturn, 1) := by decide +kernel
theorem dL_law_826 : decode cL_law 826 = .ok (.aload_n 1, 1) := by decide +kernel
theorem dL_law_827 : decode cL_law 827 = .ok (.aload_n 0, 1) := by decide +kernel
theorem dL_law_828 : decode cL_law 828 = .ok (.iload_n 3, 1) := by decide +kernel
theorem dL_law_829 : decode cL_law 829 = .ok (.iconst 1, 1) := by decide +kernel
theorem dL_law_830 : decode cL_law 830 = .ok (.iadd, 1) := by decide +kernel
theorem dL_law_831 : decode cL_law 831 = .ok (.iaload, 1) := by decide +kernel
theorem dL_law_832 : decode cL_law 832 = .ok (.aload_n 0, 1) := by decide +kernel
theorem dL_law_833 : decode cL_law 833 = .ok (.iload_n 3, 1) := by decide +kernel
theorem dL_law_834 : decode cL_law 834 = .ok (.iconst 2, 1) := by decide +kernel
theorem dL_law_835 : decode cL_law 835 = .ok (.iadd, 1) := by decide +kernel
theorem dL_law_836 : decode cL_law 836 = .ok (.iaload, 1) := by decide +kernel
theorem dL_law_837 : decode cL_law 837 = .ok (.aload_n 0, 1) := by decide +kernel
theorem dL_law_838 : decode cL_law 838 = .ok (.iload_n 3, 1) := by decide +kernel
theorem dL_law_839 : decode cL_law 839 = .ok (.iconst 3, 1) := by decide +kernel
theorem dL_law_840 : decode cL_law 840 = .ok (.iadd, 1) := by decide +kernel
theorem dL_law_841 : decode cL_law 841 = .ok (.iaload, 1) := by decide +kernel
theorem dL_law_842 : decode cL_law 842 = .ok (.invokevirtual 91, 3) := by decide +kernel
theorem dL_law_845 : decode cL_law 845 = .ok (.aload_n 2, 1) := by decide +kernel
theorem dL_law_846 : decode cL_law 846 = .ok (.aload_n 0, 1) := by decide +kernel
theorem dL_law_847 : decode cL_law 847 = .ok (.iload_n 3, 1) := by decide +kernel
theorem dL_law_848 : decode cL_law 848 = .ok (.iconst 1, 1) := by decide +kernel
theorem dL_law_849 : decode cL_law 849 = .ok (.iadd, 1) := by decide +kernel
theorem dL_law_850 : decode cL_law 850 = .ok (.iaload, 1) := by decide +kernel
theorem dL_law_851 : decode cL_law 851 = .ok (.aload_n 0, 1) := by decide +kernel
theorem dL_law_852 : decode cL_law 852 = .ok (.iload_n 3, 1) := by decide +kernel
theorem dL_law_853 : decode cL_law 853 = .ok (.iconst 2, 1) := by decide +kernel
theorem dL_law_854 : decode cL_law 854 = .ok (.iadd, 1) := by decide +kernel
theorem dL_law_855 : decode cL_law 855 = .ok (.iaload, 1) := by decide +kernel
theorem dL_law_856 : decode cL_law 856 = .ok (.aload_n 0, 1) := by decide +kernel
theorem dL_law_857 : decode cL_law 857 = .ok (.iload_n 3, 1) := by decide +kernel
theorem dL_law_858 : decode cL_law 858 = .ok (.iconst 3, 1) := by decide +kernel
theorem dL_law_859 : decode cL_law 859 = .ok (.iadd, 1) := by decide +kernel
theorem dL_law_860 : decode cL_law 860 = .ok (.iaload, 1) := by decide +kernel
theorem dL_law_861 : decode cL_law 861 = .ok (.invokevirtual 94, 3) := by decide +kernel
theorem dL_law_864 : decode cL_law 864 = .ok (.if_icmp .eq 591, 3) := by decide +kernel
theorem dL_law_867 : decode cL_law 867 = .ok (.iconst 0, 1) := by decide +kernel
theorem dL_law_868 : decode cL_law 868 = .ok (.ireturn, 1) := by decide +kernel
theorem dL_law_869 : decode cL_law 869 = .ok (.aload_n 1, 1) := by decide +kernel
theorem dL_law_870 : decode cL_law 870 = .ok (.aload_n 0, 1) := by decide +kernel
theorem dL_law_871 : decode cL_law 871 = .ok (.iload_n 3, 1) := by decide +kernel
theorem dL_law_872 : decode cL_law 872 = .ok (.iconst 1, 1) := by decide +kernel
theorem dL_law_873 : decode cL_law 873 = .ok (.iadd, 1) := by decide +kernel
theorem dL_law_874 : decode cL_law 874 = .ok (.iaload, 1) := by decide +kernel
theorem dL_law_875 : decode cL_law 875 = .ok (.invokevirtual 95, 3) := by decide +kernel
theorem dL_law_878 : decode cL_law 878 = .ok (.aload_n 2, 1) := by decide +kernel
theorem dL_law_879 : decode cL_law 879 = .ok (.aload_n 0, 1) := by decide +kernel
theorem dL_law_880 : decode cL_law 880 = .ok (.iload_n 3, 1) := by decide +kernel
theorem dL_law_881 : decode cL_law 881 = .ok (.iconst 1, 1) := by decide +kernel
theorem dL_law_882 : decode cL_law 882 = .ok (.iadd, 1) := by decide +kernel
theorem dL_law_883 : decode cL_law 883 = .ok (.iaload, 1) := by decide +kernel
theorem dL_law_884 : decode cL_law 884 = .ok (.invokevirtual 98, 3) := by decide +kernel
theorem dL_law_887 : decode cL_law 887 = .ok (.if_icmp .eq 568, 3) := by decide +kernel
theorem dL_law_890 : decode cL_law 890 = .ok (.iconst 0, 1) := by decide +kernel
theorem dL_law_891 : decode cL_law 891 = .ok (.ireturn, 1) := by decide +kernel
theorem dL_law_892 : decode cL_law 892 = .ok (.aload_n 1, 1) := by decide +kernel
theorem dL_law_893 : decode cL_law 893 = .ok (.aload_n 0, 1) := by decide +kernel
theorem dL_law_894 : decode cL_law 894 = .ok (.iload_n 3, 1) := by decide +kernel
theorem dL_law_895 : decode cL_law 895 = .ok (.iconst 1, 1) := by decide +kernel
theorem dL_law_896 : decode cL_law 896 = .ok (.iadd, 1) := by decide +kernel
theorem dL_law_897 : decode cL_law 897 = .ok (.iaload, 1) := by decide +kernel
theorem dL_law_898 : decode cL_law 898 = .ok (.invokevirtual 99, 3) := by decide +kernel
theorem dL_law_901 : decode cL_law 901 = .ok (.aload_n 2, 1) := by decide +kernel
theorem dL_law_902 : decode cL_law 902 = .ok (.aload_n 0, 1) := by decide +kernel
theorem dL_law_903 : decode cL_law 903 = .ok (.iload_n 3, 1) := by decide +kernel
theorem dL_law_904 : decode cL_law 904 = .ok (.iconst 1, 1) := by decide +kernel
theorem dL_law_905 : decode cL_law 905 = .ok (.iadd, 1) := by decide +kernel
theorem dL_law_906 : decode cL_law 906 = .ok (.iaload, 1) := by decide +kernel
theorem dL_law_907 : decode cL_law 907 = .ok (.invokevirtual 102, 3) := by decide +kernel
theorem dL_law_910 : decode cL_law 910 = .ok (.if_icmp .eq 545, 3) := by decide +kernel
theorem dL_law_913 : decode cL_law 913 = .ok (.iconst 0, 1) := by decide +kernel
theorem dL_law_914 : decode cL_law 914 = .ok (.ireturn, 1) := by decide +kernel
theorem dL_law_915 : decode cL_law 915 = .ok (.aload_n 1, 1) := by decide +kernel
theorem dL_law_916 : decode cL_law 916 = .ok (.aload_n 0, 1) := by decide +kernel
theorem dL_law_917 : decode cL_law 917 = .ok (.iload_n 3, 1) := by decide +kernel
theorem dL_law_918 : decode cL_law 918 = .ok (.iconst 1, 1) := by decide +kernel
theorem dL_law_919 : decode cL_law 919 = .ok (.iadd, 1) := by decide +kernel
theorem dL_law_920 : decode cL_law 920 = .ok (.iaload, 1) := by decide +kernel
theorem dL_law_921 : decode cL_law 921 = .ok (.aload_n 0, 1) := by decide +kernel
theorem dL_law_922 : decode cL_law 922 = .ok (.iload_n 3, 1) := by decide +kernel
theorem dL_law_923 : decode cL_law 923 = .ok (.iconst 2, 1) := by decide +kernel
theorem dL_law_924 : decode cL_law 924 = .ok (.iadd, 1) := by decide +kernel
theorem dL_law_925 : decode cL_law 925 = .ok (.iaload, 1) := by decide +kernel
theorem dL_law_926 : decode cL_law 926 = .ok (.invokevirtual 103, 3) := by decide +kernel
theorem dL_law_929 : decode cL_law 929 = .ok (.aload_n 2, 1) := by decide +kernel
theorem dL_law_930 : decode cL_law 930 = .ok (.aload_n 0, 1) := by decide +kernel
theorem dL_law_931 : decode cL_law 931 = .ok (.iload_n 3, 1) := by decide +kernel
theorem dL_law_932 : decode cL_law 932 = .ok (.iconst 1, 1) := by decide +kernel
theorem dL_law_933 : decode cL_law 933 = .ok (.iadd, 1) := by decide +kernel
theorem dL_law_934 : decode cL_law 934 = .ok (.iaload, 1) := by decide +kernel
theorem dL_law_935 : decode cL_law 935 = .ok (.aload_n 0, 1) := by decide +kernel
theorem dL_law_936 : decode cL_law 936 = .ok (.iload_n 3, 1) := by decide +kernel
theorem dL_law_937 : decode cL_law 937 = .ok (.iconst 2, 1) := by decide +kernel
theorem dL_law_938 : decode cL_law 938 = .ok (.iadd, 1) := by decide +kernel
theorem dL_law_939 : decode cL_law 939 = .ok (.iaload, 1) := by decide +kernel
theorem dL_law_940 : decode cL_law 940 = .ok (.invokevirtual 106, 3) := by decide +kernel
theorem dL_law_943 : decode cL_law 943 = .ok (.if_icmp .eq 512, 3) := by decide +kernel
theorem dL_law_946 : decode cL_law 946 = .ok (.iconst 0, 1) := by decide +kernel
theorem dL_law_947 : decode cL_law 947 = .ok (.ireturn, 1) := by decide +kernel
theorem dL_law_948 : decode cL_law 948 = .ok (.aload_n 1, 1) := by decide +kernel
theorem dL_law_949 : decode cL_law 949 = .ok (.aload_n 0, 1) := by decide +kernel
theorem dL_law_950 : decode cL_law 950 = .ok (.iload_n 3, 1) := by decide +kernel
theorem dL_law_951 : decode cL_law 951 = .ok (.iconst 1, 1) := by decide +kernel
theorem dL_law_952 : decode cL_law 952 = .ok (.iadd, 1) := by decide +kernel
theorem dL_law_953 : decode cL_law 953 = .ok (.iaload, 1) := by decide +kernel
theorem dL_law_954 : decode cL_law 954 = .ok (.aload_n 0, 1) := by decide +kernel
theorem dL_law_955 : decode cL_law 955 = .ok (.iload_n 3, 1) := by decide +kernel
theorem dL_law_956 : decode cL_law 956 = .ok (.iconst 2, 1) := by decide +kernel
theorem dL_law_957 : decode cL_law 957 = .ok (.iadd, 1) := by decide +kernel
theorem dL_law_958 : decode cL_law 958 = .ok (.iaload, 1) := by decide +kernel
theorem dL_law_959 : decode cL_law 959 = .ok (.aload_n 0, 1) := by decide +kernel
theorem dL_law_960 : decode cL_law 960 = .ok (.iload_n 3, 1) := by decide +kernel
theorem dL_law_961 : decode cL_law 961 = .ok (.iconst 3, 1) := by decide +kernel
theorem dL_law_962 : decode cL_law 962 = .ok (.iadd, 1) := by decide +kernel
theorem dL_law_963 : decode cL_law 963 = .ok (.iaload, 1) := by decide +kernel
theorem dL_law_964 : decode cL_law 964 = .ok (.invokevirtual 107, 3) := by decide +kernel
theorem dL_law_967 : decode cL_law 967 = .ok (.aload_n 2, 1) := by decide +kernel
theorem dL_law_968 : decode cL_law 968 = .ok (.aload_n 0, 1) := by decide +kernel
theorem dL_law_969 : decode cL_law 969 = .ok (.iload_n 3, 1) := by decide +kernel
theorem dL_law_970 : decode cL_law 970 = .ok (.iconst 1, 1) := by decide +kernel
theorem dL_law_971 : decode cL_law 971 = .ok (.iadd, 1) := by decide +kernel
theorem dL_law_972 : decode cL_law 972 = .ok (.iaload, 1) := by decide +kernel
theorem dL_law_973 : decode cL_law 973 = .ok (.aload_n 0, 1) := by decide +kernel
theorem dL_law_974 : decode cL_law 974 = .ok (.iload_n 3, 1) := by decide +kernel
theorem dL_law_975 : decode cL_law 975 = .ok (.iconst 2, 1) := by decide +kernel
theorem dL_law_976 : decode cL_law 976 = .ok (.iadd, 1) := by decide +kernel
theorem dL_law_977 : decode cL_law 977 = .ok (.iaload, 1) := by decide +kernel
theorem dL_law_978 : decode cL_law 978 = .ok (.aload_n 0, 1) := by decide +kernel
theorem dL_law_979 : decode cL_law 979 = .ok (.iload_n 3, 1) := by decide +kernel
theorem dL_law_980 : decode cL_law 980 = .ok (.iconst 3, 1) := by decide +kernel
theorem dL_law_981 : decode cL_law 981 = .ok (.iadd, 1) := by decide +kernel
theorem dL_law_982 : decode cL_law 982 = .ok (.iaload, 1) := by decide +kernel
theorem dL_law_983 : decode cL_law 983 = .ok (.invokevirtual 110, 3) := by decide +kernel
theorem dL_law_986 : decode cL_law 986 = .ok (.if_icmp .eq 469, 3) := by decide +kernel
theorem dL_law_989 : decode cL_law 989 = .ok (.iconst 0, 1) := by decide +kernel
theorem dL_law_990 : decode cL_law 990 = .ok (.ireturn, 1) := by decide +kernel
theorem dL_law_991 : decode cL_law 991 = .ok (.aload_n 1, 1) := by decide +kernel
theorem dL_law_992 : decode cL_law 992 = .ok (.aload_n 0, 1) := by decide +kernel
theorem dL_law_993 : decode cL_law 993 = .ok (.iload_n 3, 1) := by decide +kernel
theorem dL_law_994 : decode cL_law 994 = .ok (.iconst 1, 1) := by decide +kernel
theorem dL_law_995 : decode cL_law 995 = .ok (.iadd, 1) := by decide +kernel
theorem dL_law_996 : decode cL_law 996 = .ok (.iaload, 1) := by decide +kernel
theorem dL_law_997 : decode cL_law 997 = .ok (.aload_n 0, 1) := by decide +kernel
theorem dL_law_998 : decode cL_law 998 = .ok (.iload_n 3, 1) := by decide +kernel
theorem dL_law_999 : decode cL_law 999 = .ok (.iconst 2, 1) := by decide +kernel
theorem dL_law_1000 : decode cL_law 1000 = .ok (.iadd, 1) := by decide +kernel
theorem dL_law_1001 : decode cL_law 1001 = .ok (.iaload, 1) := by decide +kernel
theorem dL_law_1002 : decode cL_law 1002 = .ok (.aload_n 0, 1) := by decide +kernel
theorem dL_law_1003 : decode cL_law 1003 = .ok (.iload_n 3, 1) := by decide +kernel
theorem dL_law_1004 : decode cL_law 1004 = .ok (.iconst 3, 1) := by decide +kernel
theorem dL_law_1005 : decode cL_law 1005 = .ok (.iadd, 1) := by decide +kernel
theorem dL_law_1006 : decode cL_law 1006 = .ok (.iaload, 1) := by decide +kernel
theorem dL_law_1007 : decode cL_law 1007 = .ok (.invokevirtual 111, 3) := by decide +kernel
theorem dL_law_1010 : decode cL_law 1010 = .ok (.aload_n 2, 1) := by decide +kernel
theorem dL_law_1011 : decode cL_law 1011 = .ok (.aload_n 0, 1) := by decide +kernel
theorem dL_law_1012 : decode cL_law 1012 = .ok (.iload_n 3, 1) := by decide +kernel
theorem dL_law_1013 : decode cL_law 1013 = .ok (.iconst 1, 1) := by decide +kernel
theorem dL_law_1014 : decode cL_law 1014 = .ok (.iadd, 1) := by decide +kernel
theorem dL_law_1015 : decode cL_law 1015 = .ok (.iaload, 1) := by decide +kernel
theorem dL_law_1016 : decode cL_law 1016 = .ok (.aload_n 0, 1) := by decide +kernel
theorem dL_law_1017 : decode cL_law 1017 = .ok (.iload_n 3, 1) := by decide +kernel
theorem dL_law_1018 : decode cL_law 1018 = .ok (.iconst 2, 1) := by decide +kernel
theorem dL_law_1019 : decode cL_law 1019 = .ok (.iadd, 1) := by decide +kernel
theorem dL_law_1020 : decode cL_law 1020 = .ok (.iaload, 1) := by decide +kernel
theorem dL_law_1021 : decode cL_law 1021 = .ok (.aload_n 0, 1) := by decide +kernel
theorem dL_law_1022 : decode cL_law 1022 = .ok (.iload_n 3, 1) := by decide +kernel
theorem dL_law_1023 : decode cL_law 1023 = .ok (.iconst 3, 1) := by decide +kernel
theorem dL_law_1024 : decode cL_law 1024 = .ok (.iadd, 1) := by decide +kernel
theorem dL_law_1025 : decode cL_law 1025 = .ok (.iaload, 1) := by decide +kernel
theorem dL_law_1026 : decode cL_law 1026 = .ok (.invokevirtual 114, 3) := by decide +kernel
theorem dL_law_1029 : decode cL_law 1029 = .ok (.if_icmp .eq 426, 3) := by decide +kernel
theorem dL_law_1032 : decode cL_law 1032 = .ok (.iconst 0, 1) := by decide +kernel
theorem dL_law_1033 : decode cL_law 1033 = .ok (.ireturn, 1) := by decide +kernel
theorem dL_law_1034 : decode cL_law 1034 = .ok (.aload_n 1, 1) := by decide +kernel
theorem dL_law_1035 : decode cL_law 1035 = .ok (.invokevirtual 115, 3) := by decide +kernel
theorem dL_law_1038 : decode cL_law 1038 = .ok (.aload_n 2, 1) := by decide +kernel
theorem dL_law_1039 : decode cL_law 1039 = .ok (.invokevirtual 118, 3) := by decide +kernel
theorem dL_law_1042 : decode cL_law 1042 = .ok (.if_icmp .eq 413, 3) := by decide +kernel
theorem dL_law_1045 : decode cL_law 1045 = .ok (.iconst 0, 1) := by decide +kernel
theorem dL_law_1046 : decode cL_law 1046 = .ok (.ireturn, 1) := by decide +kernel
theorem dL_law_1047 : decode cL_law 1047 = .ok (.aload_n 1, 1) := by decide +kernel
theorem dL_law_1048 : decode cL_law 1048 = .ok (.aload_n 0, 1) := by decide +kernel
theorem dL_law_1049 : decode cL_law 1049 = .ok (.iload_n 3, 1) := by decide +kernel
theorem dL_law_1050 : decode cL_law 1050 = .ok (.iconst 1, 1) := by decide +kernel
theorem dL_law_1051 : decode cL_law 1051 = .ok (.iadd, 1) := by decide +kernel
theorem dL_law_1052 : decode cL_law 1052 = .ok (.iaload, 1) := by decide +kernel
theorem dL_law_1053 : decode cL_law 1053 = .ok (.aload_n 0, 1) := by decide +kernel
theorem dL_law_1054 : decode cL_law 1054 = .ok (.iload_n 3, 1) := by decide +kernel
theorem dL_law_1055 : decode cL_law 1055 = .ok (.iconst 2, 1) := by decide +kernel
theorem dL_law_1056 : decode cL_law 1056 = .ok (.iadd, 1) := by decide +kernel
theorem dL_law_1057 : decode cL_law 1057 = .ok (.iaload, 1) := by decide +kernel
theorem dL_law_1058 : decode cL_law 1058 = .ok (.invokevirtual 119, 3) := by decide +kernel
theorem dL_law_1061 : decode cL_law 1061 = .ok (.aload_n 2, 1) := by decide +kernel
theorem dL_law_1062 : decode cL_law 1062 = .ok (.aload_n 0, 1) := by decide +kernel
theorem dL_law_1063 : decode cL_law 1063 = .ok (.iload_n 3, 1) := by decide +kernel
theorem dL_law_1064 : decode cL_law 1064 = .ok (.iconst 1, 1) := by decide +kernel
theorem dL_law_1065 : decode cL_law 1065 = .ok (.iadd, 1) := by decide +kernel
theorem dL_law_1066 : decode cL_law 1066 = .ok (.iaload, 1) := by decide +kernel
theorem dL_law_1067 : decode cL_law 1067 = .ok (.aload_n 0, 1) := by decide +kernel
theorem dL_law_1068 : decode cL_law 1068 = .ok (.iload_n 3, 1) := by decide +kernel
theorem dL_law_1069 : decode cL_law 1069 = .ok (.iconst 2, 1) := by decide +kernel
theorem dL_law_1070 : decode cL_law 1070 = .ok (.iadd, 1) := by decide +kernel
theorem dL_law_1071 : decode cL_law 1071 = .ok (.iaload, 1) := by decide +kernel
theorem dL_law_1072 : decode cL_law 1072 = .ok (.invokevirtual 122, 3) := by decide +kernel
theorem dL_law_1075 : decode cL_law 1075 = .ok (.if_icmp .eq 380, 3) := by decide +kernel
theorem dL_law_1078 : decode cL_law 1078 = .ok (.iconst 0, 1) := by decide +kernel
theorem dL_law_1079 : decode cL_law 1079 = .ok (.ireturn, 1) := by decide +kernel
theorem dL_law_1080 : decode cL_law 1080 = .ok (.aload_n 1, 1) := by decide +kernel
theorem dL_law_1081 : decode cL_law 1081 = .ok (.invokevirtual 123, 3) := by decide +kernel
theorem dL_law_1084 : decode cL_law 1084 = .ok (.aload_n 2, 1) := by decide +kernel
theorem dL_law_1085 : decode cL_law 1085 = .ok (.invokevirtual 126, 3) := by decide +kernel
theorem dL_law_1088 : decode cL_law 1088 = .ok (.if_icmp .eq 367, 3) := by decide +kernel
theorem dL_law_1091 : decode cL_law 1091 = .ok (.iconst 0, 1) := by decide +kernel
theorem dL_law_1092 : decode cL_law 1092 = .ok (.ireturn, 1) := by decide +kernel
theorem dL_law_1093 : decode cL_law 1093 = .ok (.aload_n 1, 1) := by decide +kernel
theorem dL_law_1094 : decode cL_law 1094 = .ok (.aload_n 0, 1) := by decide +kernel
theorem dL_law_1095 : decode cL_law 1095 = .ok (.iload_n 3, 1) := by decide +kernel
theorem dL_law_1096 : decode cL_law 1096 = .ok (.iconst 1, 1) := by decide +kernel
theorem dL_law_1097 : decode cL_law 1097 = .ok (.iadd, 1) := by decide +kernel
theorem dL_law_1098 : decode cL_law 1098 = .ok (.iaload, 1) := by decide +kernel
theorem dL_law_1099 : decode cL_law 1099 = .ok (.aload_n 0, 1) := by decide +kernel
theorem dL_law_1100 : decode cL_law 1100 = .ok (.iload_n 3, 1) := by decide +kernel
theorem dL_law_1101 : decode cL_law 1101 = .ok (.iconst 2, 1) := by decide +kernel
theorem dL_law_1102 : decode cL_law 1102 = .ok (.iadd, 1) := by decide +kernel
theorem dL_law_1103 : decode cL_law 1103 = .ok (.iaload, 1) := by decide +kernel
theorem dL_law_1104 : decode cL_law 1104 = .ok (.invokevirtual 127, 3) := by decide +kernel
theorem dL_law_1107 : decode cL_law 1107 = .ok (.aload_n 2, 1) := by decide +kernel
theorem dL_law_1108 : decode cL_law 1108 = .ok (.aload_n 0, 1) := by decide +kernel
theorem dL_law_1109 : decode cL_law 1109 = .ok (.iload_n 3, 1) := by decide +kernel
theorem dL_law_1110 : decode cL_law 1110 = .ok (.iconst 1, 1) := by decide +kernel
theorem dL_law_1111 : decode cL_law 1111 = .ok (.iadd, 1) := by decide +kernel
theorem dL_law_1112 : decode cL_law 1112 = .ok (.iaload, 1) := by decide +kernel
theorem dL_law_1113 : decode cL_law 1113 = .ok (.aload_n 0, 1) := by decide +kernel
theorem dL_law_1114 : decode cL_law 1114 = .ok (.iload_n 3, 1) := by decide +kernel
theorem dL_law_1115 : decode cL_law 1115 = .ok (.iconst 2, 1) := by decide +kernel
theorem dL_law_1116 : decode cL_law 1116 = .ok (.iadd, 1) := by decide +kernel
theorem dL_law_1117 : decode cL_law 1117 = .ok (.iaload, 1) := by decide +kernel
theorem dL_law_1118 : decode cL_law 1118 = .ok (.invokevirtual 130, 3) := by decide +kernel
theorem dL_law_1121 : decode cL_law 1121 = .ok (.if_icmp .eq 334, 3) := by decide +kernel
theorem dL_law_1124 : decode cL_law 1124 = .ok (.iconst 0, 1) := by decide +kernel
theorem dL_law_1125 : decode cL_law 1125 = .ok (.ireturn, 1) := by decide +kernel
theorem dL_law_1126 : decode cL_law 1126 = .ok (.aload_n 1, 1) := by decide +kernel
theorem dL_law_1127 : decode cL_law 1127 = .ok (.aload_n 0, 1) := by decide +kernel
theorem dL_law_1128 : decode cL_law 1128 = .ok (.iload_n 3, 1) := by decide +kernel
theorem dL_law_1129 : decode cL_law 1129 = .ok (.iconst 1, 1) := by decide +kernel
theorem dL_law_1130 : decode cL_law 1130 = .ok (.iadd, 1) := by decide +kernel
theorem dL_law_1131 : decode cL_law 1131 = .ok (.iaload, 1) := by decide +kernel
theorem dL_law_1132 : decode cL_law 1132 = .ok (.aload_n 0, 1) := by decide +kernel
theorem dL_law_1133 : decode cL_law 1133 = .ok (.iload_n 3, 1) := by decide +kernel
theorem dL_law_1134 : decode cL_law 1134 = .ok (.iconst 2, 1) := by decide +kernel
theorem dL_law_1135 : decode cL_law 1135 = .ok (.iadd, 1) := by decide +kernel
theorem dL_law_1136 : decode cL_law 1136 = .ok (.iaload, 1) := by decide +kernel
theorem dL_law_1137 : decode cL_law 1137 = .ok (.invokevirtual 131, 3) := by decide +kernel
theorem dL_law_1140 : decode cL_law 1140 = .ok (.aload_n 2, 1) := by decide +kernel
theorem dL_law_1141 : decode cL_law 1141 = .ok (.aload_n 0, 1) := by decide +kernel
theorem dL_law_1142 : decode cL_law 1142 = .ok (.iload_n 3, 1) := by decide +kernel
theorem dL_law_1143 : decode cL_law 1143 = .ok (.iconst 1, 1) := by decide +kernel
theorem dL_law_1144 : decode cL_law 1144 = .ok (.iadd, 1) := by decide +kernel
theorem dL_law_1145 : decode cL_law 1145 = .ok (.iaload, 1) := by decide +kernel
theorem dL_law_1146 : decode cL_law 1146 = .ok (.aload_n 0, 1) := by decide +kernel
theorem dL_law_1147 : decode cL_law 1147 = .ok (.iload_n 3, 1) := by decide +kernel
theorem dL_law_1148 : decode cL_law 1148 = .ok (.iconst 2, 1) := by decide +kernel
theorem dL_law_1149 : decode cL_law 1149 = .ok (.iadd, 1) := by decide +kernel
theorem dL_law_1150 : decode cL_law 1150 = .ok (.iaload, 1) := by decide +kernel
theorem dL_law_1151 : decode cL_law 1151 = .ok (.invokevirtual 134, 3) := by decide +kernel
theorem dL_law_1154 : decode cL_law 1154 = .ok (.if_icmp .eq 301, 3) := by decide +kernel
theorem dL_law_1157 : decode cL_law 1157 = .ok (.iconst 0, 1) := by decide +kernel
theorem dL_law_1158 : decode cL_law 1158 = .ok (.ireturn, 1) := by decide +kernel
theorem dL_law_1159 : decode cL_law 1159 = .ok (.aload_n 1, 1) := by decide +kernel
theorem dL_law_1160 : decode cL_law 1160 = .ok (.aload_n 0, 1) := by decide +kernel
theorem dL_law_1161 : decode cL_law 1161 = .ok (.iload_n 3, 1) := by decide +kernel
theorem dL_law_1162 : decode cL_law 1162 = .ok (.iconst 1, 1) := by decide +kernel
theorem dL_law_1163 : decode cL_law 1163 = .ok (.iadd, 1) := by decide +kernel
theorem dL_law_1164 : decode cL_law 1164 = .ok (.iaload, 1) := by decide +kernel
theorem dL_law_1165 : decode cL_law 1165 = .ok (.invokevirtual 135, 3) := by decide +kernel
theorem dL_law_1168 : decode cL_law 1168 = .ok (.aload_n 2, 1) := by decide +kernel
theorem dL_law_1169 : decode cL_law 1169 = .ok (.aload_n 0, 1) := by decide +kernel
theorem dL_law_1170 : decode cL_law 1170 = .ok (.iload_n 3, 1) := by decide +kernel
theorem dL_law_1171 : decode cL_law 1171 = .ok (.iconst 1, 1) := by decide +kernel
theorem dL_law_1172 : decode cL_law 1172 = .ok (.iadd, 1) := by decide +kernel
theorem dL_law_1173 : decode cL_law 1173 = .ok (.iaload, 1) := by decide +kernel
theorem dL_law_1174 : decode cL_law 1174 = .ok (.invokevirtual 138, 3) := by decide +kernel
theorem dL_law_1177 : decode cL_law 1177 = .ok (.if_icmp .eq 278, 3) := by decide +kernel
theorem dL_law_1180 : decode cL_law 1180 = .ok (.iconst 0, 1) := by decide +kernel
theorem dL_law_1181 : decode cL_law 1181 = .ok (.ireturn, 1) := by decide +kernel
theorem dL_law_1182 : decode cL_law 1182 = .ok (.aload_n 1, 1) := by decide +kernel
theorem dL_law_1183 : decode cL_law 1183 = .ok (.aload_n 0, 1) := by decide +kernel
theorem dL_law_1184 : decode cL_law 1184 = .ok (.iload_n 3, 1) := by decide +kernel
theorem dL_law_1185 : decode cL_law 1185 = .ok (.iconst 1, 1) := by decide +kernel
theorem dL_law_1186 : decode cL_law 1186 = .ok (.iadd, 1) := by decide +kernel
theorem dL_law_1187 : decode cL_law 1187 = .ok (.iaload, 1) := by decide +kernel
theorem dL_law_1188 : decode cL_law 1188 = .ok (.aload_n 0, 1) := by decide +kernel
theorem dL_law_1189 : decode cL_law 1189 = .ok (.iload_n 3, 1) := by decide +kernel
theorem dL_law_1190 : decode cL_law 1190 = .ok (.iconst 2, 1) := by decide +kernel
theorem dL_law_1191 : decode cL_law 1191 = .ok (.iadd, 1) := by decide +kernel
theorem dL_law_1192 : decode cL_law 1192 = .ok (.iaload, 1) := by decide +kernel
theorem dL_law_1193 : decode cL_law 1193 = .ok (.invokevirtual 139, 3) := by decide +kernel
theorem dL_law_1196 : decode cL_law 1196 = .ok (.aload_n 2, 1) := by decide +kernel
theorem dL_law_1197 : decode cL_law 1197 = .ok (.aload_n 0, 1) := by decide +kernel
theorem dL_law_1198 : decode cL_law 1198 = .ok (.iload_n 3, 1) := by decide +kernel
theorem dL_law_1199 : decode cL_law 1199 = .ok (.iconst 1, 1) := by decide +kernel
theorem dL_law_1200 : decode cL_law 1200 = .ok (.iadd, 1) := by decide +kernel
theorem dL_law_1201 : decode cL_law 1201 = .ok (.iaload, 1) := by decide +kernel
theorem dL_law_1202 : decode cL_law 1202 = .ok (.aload_n 0, 1) := by decide +kernel
theorem dL_law_1203 : decode cL_law 1203 = .ok (.iload_n 3, 1) := by decide +kernel
theorem dL_law_1204 : decode cL_law 1204 = .ok (.iconst 2, 1) := by decide +kernel
theorem dL_law_1205 : decode cL_law 1205 = .ok (.iadd, 1) := by decide +kernel
theorem dL_law_1206 : decode cL_law 1206 = .ok (.iaload, 1) := by decide +kernel
theorem dL_law_1207 : decode cL_law 1207 = .ok (.invokevirtual 142, 3) := by decide +kernel
theorem dL_law_1210 : decode cL_law 1210 = .ok (.if_icmp .eq 245, 3) := by decide +kernel
theorem dL_law_1213 : decode cL_law 1213 = .ok (.iconst 0, 1) := by decide +kernel
theorem dL_law_1214 : decode cL_law 1214 = .ok (.ireturn, 1) := by decide +kernel
theorem dL_law_1215 : decode cL_law 1215 = .ok (.aload_n 1, 1) := by decide +kernel
theorem dL_law_1216 : decode cL_law 1216 = .ok (.aload_n 0, 1) := by decide +kernel
theorem dL_law_1217 : decode cL_law 1217 = .ok (.iload_n 3, 1) := by decide +kernel
theorem dL_law_1218 : decode cL_law 1218 = .ok (.iconst 1, 1) := by decide +kernel
theorem dL_law_1219 : decode cL_law 1219 = .ok (.iadd, 1) := by decide +kernel
theorem dL_law_1220 : decode cL_law 1220 = .ok (.iaload, 1) := by decide +kernel
theorem dL_law_1221 : decode cL_law 1221 = .ok (.invokevirtual 143, 3) := by decide +kernel
theorem dL_law_1224 : decode cL_law 1224 = .ok (.aload_n 2, 1) := by decide +kernel
theorem dL_law_1225 : decode cL_law 1225 = .ok (.aload_n 0, 1) := by decide +kernel
theorem dL_law_1226 : decode cL_law 1226 = .ok (.iload_n 3, 1) := by decide +kernel
theorem dL_law_1227 : decode cL_law 1227 = .ok (.iconst 1, 1) := by decide +kernel
theorem dL_law_1228 : decode cL_law 1228 = .ok (.iadd, 1) := by decide +kernel
theorem dL_law_1229 : decode cL_law 1229 = .ok (.iaload, 1) := by decide +kernel
theorem dL_law_1230 : decode cL_law 1230 = .ok (.invokevirtual 146, 3) := by decide +kernel
theorem dL_law_1233 : decode cL_law 1233 = .ok (.if_icmp .eq 222, 3) := by decide +kernel
theorem dL_law_1236 : decode cL_law 1236 = .ok (.iconst 0, 1) := by decide +kernel
theorem dL_law_1237 : decode cL_law 1237 = .ok (.ireturn, 1) := by decide +kernel
theorem dL_law_1238 : decode cL_law 1238 = .ok (.aload_n 1, 1) := by decide +kernel
theorem dL_law_1239 : decode cL_law 1239 = .ok (.aload_n 0, 1) := by decide +kernel
theorem dL_law_1240 : decode cL_law 1240 = .ok (.iload_n 3, 1) := by decide +kernel
theorem dL_law_1241 : decode cL_law 1241 = .ok (.iconst 1, 1) := by decide +kernel
theorem dL_law_1242 : decode cL_law 1242 = .ok (.iadd, 1) := by decide +kernel
theorem dL_law_1243 : decode cL_law 1243 = .ok (.iaload, 1) := by decide +kernel
theorem dL_law_1244 : decode cL_law 1244 = .ok (.aload_n 0, 1) := by decide +kernel
theorem dL_law_1245 : decode cL_law 1245 = .ok (.iload_n 3, 1) := by decide +kernel
theorem dL_law_1246 : decode cL_law 1246 = .ok (.iconst 2, 1) := by decide +kernel
theorem dL_law_1247 : decode cL_law 1247 = .ok (.iadd, 1) := by decide +kernel
theorem dL_law_1248 : decode cL_law 1248 = .ok (.iaload, 1) := by decide +kernel
theorem dL_law_1249 : decode cL_law 1249 = .ok (.invokevirtual 147, 3) := by decide +kernel
theorem dL_law_1252 : decode cL_law 1252 = .ok (.aload_n 2, 1) := by decide +kernel
theorem dL_law_1253 : decode cL_law 1253 = .ok (.aload_n 0, 1) := by decide +kernel
theorem dL_law_1254 : decode cL_law 1254 = .ok (.iload_n 3, 1) := by decide +kernel
theorem dL_law_1255 : decode cL_law 1255 = .ok (.iconst 1, 1) := by decide +kernel
theorem dL_law_1256 : decode cL_law 1256 = .ok (.iadd, 1) := by decide +kernel
theorem dL_law_1257 : decode cL_law 1257 = .ok (.iaload, 1) := by decide +kernel
theorem dL_law_1258 : decode cL_law 1258 = .ok (.aload_n 0, 1) := by decide +kernel
theorem dL_law_1259 : decode cL_law 1259 = .ok (.iload_n 3, 1) := by decide +kernel
theorem dL_law_1260 : decode cL_law 1260 = .ok (.iconst 2, 1) := by decide +kernel
theorem dL_law_1261 : decode cL_law 1261 = .ok (.iadd, 1) := by decide +kernel
theorem dL_law_1262 : decode cL_law 1262 = .ok (.iaload, 1) := by decide +kernel
theorem dL_law_1263 : decode cL_law 1263 = .ok (.invokevirtual 150, 3) := by decide +kernel
theorem dL_law_1266 : decode cL_law 1266 = .ok (.if_icmp .eq 189, 3) := by decide +kernel
theorem dL_law_1269 : decode cL_law 1269 = .ok (.iconst 0, 1) := by decide +kernel
theorem dL_law_1270 : decode cL_law 1270 = .ok (.ireturn, 1) := by decide +kernel
theorem dL_law_1271 : decode cL_law 1271 = .ok (.aload_n 1, 1) := by decide +kernel
theorem dL_law_1272 : decode cL_law 1272 = .ok (.invokevirtual 151, 3) := by decide +kernel
theorem dL_law_1275 : decode cL_law 1275 = .ok (.aload_n 2, 1) := by decide +kernel
theorem dL_law_1276 : decode cL_law 1276 = .ok (.invokevirtual 154, 3) := by decide +kernel
theorem dL_law_1279 : decode cL_law 1279 = .ok (.if_icmp .eq 176, 3) := by decide +kernel
theorem dL_law_1282 : decode cL_law 1282 = .ok (.iconst 0, 1) := by decide +kernel
theorem dL_law_1283 : decode cL_law 1283 = .ok (.ireturn, 1) := by decide +kernel
theorem dL_law_1284 : decode cL_law 1284 = .ok (.aload_n 1, 1) := by decide +kernel
theorem dL_law_1285 : decode cL_law 1285 = .ok (.aload_n 0, 1) := by decide +kernel
theorem dL_law_1286 : decode cL_law 1286 = .ok (.iload_n 3, 1) := by decide +kernel
theorem dL_law_1287 : decode cL_law 1287 = .ok (.iconst 1, 1) := by decide +kernel
theorem dL_law_1288 : decode cL_law 1288 = .ok (.iadd, 1) := by decide +kernel
theorem dL_law_1289 : decode cL_law 1289 = .ok (.iaload, 1) := by decide +kernel
theorem dL_law_1290 : decode cL_law 1290 = .ok (.aload_n 0, 1) := by decide +kernel
theorem dL_law_1291 : decode cL_law 1291 = .ok (.iload_n 3, 1) := by decide +kernel
theorem dL_law_1292 : decode cL_law 1292 = .ok (.iconst 2, 1) := by decide +kernel
theorem dL_law_1293 : decode cL_law 1293 = .ok (.iadd, 1) := by decide +kernel
theorem dL_law_1294 : decode cL_law 1294 = .ok (.iaload, 1) := by decide +kernel
theorem dL_law_1295 : decode cL_law 1295 = .ok (.invokevirtual 155, 3) := by decide +kernel
theorem dL_law_1298 : decode cL_law 1298 = .ok (.aload_n 2, 1) := by decide +kernel
theorem dL_law_1299 : decode cL_law 1299 = .ok (.aload_n 0, 1) := by decide +kernel
theorem dL_law_1300 : decode cL_law 1300 = .ok (.iload_n 3, 1) := by decide +kernel
theorem dL_law_1301 : decode cL_law 1301 = .ok (.iconst 1, 1) := by decide +kernel
theorem dL_law_1302 : decode cL_law 1302 = .ok (.iadd, 1) := by decide +kernel
theorem dL_law_1303 : decode cL_law 1303 = .ok (.iaload, 1) := by decide +kernel
theorem dL_law_1304 : decode cL_law 1304 = .ok (.aload_n 0, 1) := by decide +kernel
theorem dL_law_1305 : decode cL_law 1305 = .ok (.iload_n 3, 1) := by decide +kernel
theorem dL_law_1306 : decode cL_law 1306 = .ok (.iconst 2, 1) := by decide +kernel
theorem dL_law_1307 : decode cL_law 1307 = .ok (.iadd, 1) := by decide +kernel
theorem dL_law_1308 : decode cL_law 1308 = .ok (.iaload, 1) := by decide +kernel
theorem dL_law_1309 : decode cL_law 1309 = .ok (.invokevirtual 158, 3) := by decide +kernel
theorem dL_law_1312 : decode cL_law 1312 = .ok (.if_icmp .eq 143, 3) := by decide +kernel
theorem dL_law_1315 : decode cL_law 1315 = .ok (.iconst 0, 1) := by decide +kernel
theorem dL_law_1316 : decode cL_law 1316 = .ok (.ireturn, 1) := by decide +kernel
theorem dL_law_1317 : decode cL_law 1317 = .ok (.aload_n 1, 1) := by decide +kernel
theorem dL_law_1318 : decode cL_law 1318 = .ok (.aload_n 0, 1) := by decide +kernel
theorem dL_law_1319 : decode cL_law 1319 = .ok (.iload_n 3, 1) := by decide +kernel
theorem dL_law_1320 : decode cL_law 1320 = .ok (.iconst 1, 1) := by decide +kernel
theorem dL_law_1321 : decode cL_law 1321 = .ok (.iadd, 1) := by decide +kernel
theorem dL_law_1322 : decode cL_law 1322 = .ok (.iaload, 1) := by decide +kernel
theorem dL_law_1323 : decode cL_law 1323 = .ok (.invokevirtual 159, 3) := by decide +kernel
theorem dL_law_1326 : decode cL_law 1326 = .ok (.aload_n 2, 1) := by decide +kernel
theorem dL_law_1327 : decode cL_law 1327 = .ok (.aload_n 0, 1) := by decide +kernel
theorem dL_law_1328 : decode cL_law 1328 = .ok (.iload_n 3, 1) := by decide +kernel
theorem dL_law_1329 : decode cL_law 1329 = .ok (.iconst 1, 1) := by decide +kernel
theorem dL_law_1330 : decode cL_law 1330 = .ok (.iadd, 1) := by decide +kernel
theorem dL_law_1331 : decode cL_law 1331 = .ok (.iaload, 1) := by decide +kernel
theorem dL_law_1332 : decode cL_law 1332 = .ok (.invokevirtual 162, 3) := by decide +kernel
theorem dL_law_1335 : decode cL_law 1335 = .ok (.if_icmp .eq 120, 3) := by decide +kernel
theorem dL_law_1338 : decode cL_law 1338 = .ok (.iconst 0, 1) := by decide +kernel
theorem dL_law_1339 : decode cL_law 1339 = .ok (.ireturn, 1) := by decide +kernel
theorem dL_law_1340 : decode cL_law 1340 = .ok (.aload_n 1, 1) := by decide +kernel
theorem dL_law_1341 : decode cL_law 1341 = .ok (.aload_n 0, 1) := by decide +kernel
theorem dL_law_1342 : decode cL_law 1342 = .ok (.iload_n 3, 1) := by decide +kernel
theorem dL_law_1343 : decode cL_law 1343 = .ok (.iconst 1, 1) := by decide +kernel
theorem dL_law_1344 : decode cL_law 1344 = .ok (.iadd, 1) := by decide +kernel
theorem dL_law_1345 : decode cL_law 1345 = .ok (.iaload, 1) := by decide +kernel
theorem dL_law_1346 : decode cL_law 1346 = .ok (.aload_n 0, 1) := by decide +kernel
theorem dL_law_1347 : decode cL_law 1347 = .ok (.iload_n 3, 1) := by decide +kernel
theorem dL_law_1348 : decode cL_law 1348 = .ok (.iconst 2, 1) := by decide +kernel
theorem dL_law_1349 : decode cL_law 1349 = .ok (.iadd, 1) := by decide +kernel
theorem dL_law_1350 : decode cL_law 1350 = .ok (.iaload, 1) := by decide +kernel
theorem dL_law_1351 : decode cL_law 1351 = .ok (.aload_n 0, 1) := by decide +kernel
theorem dL_law_1352 : decode cL_law 1352 = .ok (.iload_n 3, 1) := by decide +kernel
theorem dL_law_1353 : decode cL_law 1353 = .ok (.iconst 3, 1) := by decide +kernel
theorem dL_law_1354 : decode cL_law 1354 = .ok (.iadd, 1) := by decide +kernel
theorem dL_law_1355 : decode cL_law 1355 = .ok (.iaload, 1) := by decide +kernel
theorem dL_law_1356 : decode cL_law 1356 = .ok (.invokevirtual 163, 3) := by decide +kernel
theorem dL_law_1359 : decode cL_law 1359 = .ok (.aload_n 2, 1) := by decide +kernel
theorem dL_law_1360 : decode cL_law 1360 = .ok (.aload_n 0, 1) := by decide +kernel
theorem dL_law_1361 : decode cL_law 1361 = .ok (.iload_n 3, 1) := by decide +kernel
theorem dL_law_1362 : decode cL_law 1362 = .ok (.iconst 1, 1) := by decide +kernel
theorem dL_law_1363 : decode cL_law 1363 = .ok (.iadd, 1) := by decide +kernel
theorem dL_law_1364 : decode cL_law 1364 = .ok (.iaload, 1) := by decide +kernel
theorem dL_law_1365 : decode cL_law 1365 = .ok (.aload_n 0, 1) := by decide +kernel
theorem dL_law_1366 : decode cL_law 1366 = .ok (.iload_n 3, 1) := by decide +kernel
theorem dL_law_1367 : decode cL_law 1367 = .ok (.iconst 2, 1) := by decide +kernel
theorem dL_law_1368 : decode cL_law 1368 = .ok (.iadd, 1) := by decide +kernel
theorem dL_law_1369 : decode cL_law 1369 = .ok (.iaload, 1) := by decide +kernel
theorem dL_law_1370 : decode cL_law 1370 = .ok (.aload_n 0, 1) := by decide +kernel
theorem dL_law_1371 : decode cL_law 1371 = .ok (.iload_n 3, 1) := by decide +kernel
theorem dL_law_1372 : decode cL_law 1372 = .ok (.iconst 3, 1) := by decide +kernel
theorem dL_law_1373 : decode cL_law 1373 = .ok (.iadd, 1) := by decide +kernel
theorem dL_law_1374 : decode cL_law 1374 = .ok (.iaload, 1) := by decide +kernel
theorem dL_law_1375 : decode cL_law 1375 = .ok (.invokevirtual 166, 3) := by decide +kernel
theorem dL_law_1378 : decode cL_law 1378 = .ok (.if_icmp .eq 77, 3) := by decide +kernel
theorem dL_law_1381 : decode cL_law 1381 = .ok (.iconst 0, 1) := by decide +kernel
theorem dL_law_1382 : decode cL_law 1382 = .ok (.ireturn, 1) := by decide +kernel
theorem dL_law_1383 : decode cL_law 1383 = .ok (.aload_n 1, 1) := by decide +kernel
theorem dL_law_1384 : decode cL_law 1384 = .ok (.aload_n 0, 1) := by decide +kernel
theorem dL_law_1385 : decode cL_law 1385 = .ok (.iload_n 3, 1) := by decide +kernel
theorem dL_law_1386 : decode cL_law 1386 = .ok (.iconst 1, 1) := by decide +kernel
theorem dL_law_1387 : decode cL_law 1387 = .ok (.iadd, 1) := by decide +kernel
theorem dL_law_1388 : decode cL_law 1388 = .ok (.iaload, 1) := by decide +kernel
theorem dL_law_1389 : decode cL_law 1389 = .ok (.invokevirtual 167, 3) := by decide +kernel
theorem dL_law_1392 : decode cL_law 1392 = .ok (.aload_n 2, 1) := by decide +kernel
theorem dL_law_1393 : decode cL_law 1393 = .ok (.aload_n 0, 1) := by decide +kernel
theorem dL_law_1394 : decode cL_law 1394 = .ok (.iload_n 3, 1) := by decide +kernel
theorem dL_law_1395 : decode cL_law 1395 = .ok (.iconst 1, 1) := by decide +kernel
theorem dL_law_1396 : decode cL_law 1396 = .ok (.iadd, 1) := by decide +kernel
theorem dL_law_1397 : decode cL_law 1397 = .ok (.iaload, 1) := by decide +kernel
theorem dL_law_1398 : decode cL_law 1398 = .ok (.invokevirtual 170, 3) := by decide +kernel
theorem dL_law_1401 : decode cL_law 1401 = .ok (.if_icmp .eq 54, 3) := by decide +kernel
theorem dL_law_1404 : decode cL_law 1404 = .ok (.iconst 0, 1) := by decide +kernel
theorem dL_law_1405 : decode cL_law 1405 = .ok (.ireturn, 1) := by decide +kernel
theorem dL_law_1406 : decode cL_law 1406 = .ok (.aload_n 1, 1) := by decide +kernel
theorem dL_law_1407 : decode cL_law 1407 = .ok (.invokevirtual 171, 3) := by decide +kernel
theorem dL_law_1410 : decode cL_law 1410 = .ok (.aload_n 2, 1) := by decide +kernel
theorem dL_law_1411 : decode cL_law 1411 = .ok (.invokevirtual 174, 3) := by decide +kernel
theorem dL_law_1414 : decode cL_law 1414 = .ok (.if_icmp .eq 41, 3) := by decide +kernel
theorem dL_law_1417 : decode cL_law 1417 = .ok (.iconst 0, 1) := by decide +kernel
theorem dL_law_1418 : decode cL_law 1418 = .ok (.ireturn, 1) := by decide +kernel
theorem dL_law_1419 : decode cL_law 1419 = .ok (.aload_n 1, 1) := by decide +kernel
theorem dL_law_1420 : decode cL_law 1420 = .ok (.invokevirtual 175, 3) := by decide +kernel
theorem dL_law_1423 : decode cL_law 1423 = .ok (.aload_n 2, 1) := by decide +kernel
theorem dL_law_1424 : decode cL_law 1424 = .ok (.invokevirtual 178, 3) := by decide +kernel
theorem dL_law_1427 : decode cL_law 1427 = .ok (.if_icmp .eq 28, 3) := by decide +kernel
theorem dL_law_1430 : decode cL_law 1430 = .ok (.iconst 0, 1) := by decide +kernel
theorem dL_law_1431 : decode cL_law 1431 = .ok (.ireturn, 1) := by decide +kernel
theorem dL_law_1432 : decode cL_law 1432 = .ok (.aload_n 1, 1) := by decide +kernel
theorem dL_law_1433 : decode cL_law 1433 = .ok (.aload_n 0, 1) := by decide +kernel
theorem dL_law_1434 : decode cL_law 1434 = .ok (.iload_n 3, 1) := by decide +kernel
theorem dL_law_1435 : decode cL_law 1435 = .ok (.iconst 1, 1) := by decide +kernel
theorem dL_law_1436 : decode cL_law 1436 = .ok (.iadd, 1) := by decide +kernel
theorem dL_law_1437 : decode cL_law 1437 = .ok (.iaload, 1) := by decide +kernel
theorem dL_law_1438 : decode cL_law 1438 = .ok (.invokevirtual 179, 3) := by decide +kernel
theorem dL_law_1441 : decode cL_law 1441 = .ok (.aload_n 2, 1) := by decide +kernel
theorem dL_law_1442 : decode cL_law 1442 = .ok (.aload_n 0, 1) := by decide +kernel
theorem dL_law_1443 : decode cL_law 1443 = .ok (.iload_n 3, 1) := by decide +kernel
theorem dL_law_1444 : decode cL_law 1444 = .ok (.iconst 1, 1) := by decide +kernel
theorem dL_law_1445 : decode cL_law 1445 = .ok (.iadd, 1) := by decide +kernel
theorem dL_law_1446 : decode cL_law 1446 = .ok (.iaload, 1) := by decide +kernel
theorem dL_law_1447 : decode cL_law 1447 = .ok (.invokevirtual 182, 3) := by decide +kernel
theorem dL_law_1450 : decode cL_law 1450 = .ok (.if_icmp .eq 5, 3) := by decide +kernel
theorem dL_law_1453 : decode cL_law 1453 = .ok (.iconst 0, 1) := by decide +kernel
theorem dL_law_1454 : decode cL_law 1454 = .ok (.ireturn, 1) := by decide +kernel
theorem dL_law_1455 : decode cL_law 1455 = .ok (.iinc 3 6, 3) := by decide +kernel
theorem dL_law_1458 : decode cL_law 1458 = .ok (.goto (-1440), 3) := by decide +kernel
theorem dL_law_1461 : decode cL_law 1461 = .ok (.iconst 1, 1) := by decide +kernel
theorem dL_law_1462 : decode cL_law 1462 = .ok (.ireturn, 1) := by decide +kernel
end
section
/-! THE LITTLE MACHINE: its tables (by program, out of the words of the Statement): fields, links, methods -/
def mm_fT : List (List Nat) := [
  [0, 0, 0, 0, 0, 0],
  [2, 0, 2, 0, 2, 1, 0, 0],
  [2, 2, 2, 0, 0, 0, 0],
  [2, 0, 0, 0, 0],
  [2, 0, 1, 0, 0, 0, 0, 0, 0, 0, 0, 0, 0, 0, 0, 0],
  [2, 0, 0],
  [0, 0],
  [0, 0, 2],
  [2, 2, 2, 1, 2, 2, 2, 2, 2, 2, 2, 2, 2, 0],
  [0, 0, 0, 0, 0, 0, 0, 0, 0, 0, 2, 2, 2, 2, 2, 2, 2, 2, 2, 2, 2, 2, 2, 2, 2, 2, 2, 2, 0, 0, 0, 0, 0, 2, 2, 0, 0, 0, 0, 0, 0, 0, 0, 0, 0, 0, 0, 2, 2, 2, 0, 2, 2, 2, 2, 2, 2, 0, 1]]
def mm_fF : List (List Bool) := [
  [false, false, false, false, false, false],
  [true, false, true, false, true, false, false, false],
  [true, true, true, false, false, false, false],
  [true, false, false, false, false],
  [true, false, false, false, false, false, false, false, false, false, false, false, false, false, false, false],
  [true, false, false],
  [false, false],
  [false, false, true],
  [true, true, true, false, true, true, true, true, true, true, true, true, true, false],
  [false, false, false, false, false, false, false, false, false, false, true, true, true, true, true, true, true, true, true, true, true, true, true, true, true, true, true, true, false, false, false, false, false, true, true, false, false, false, false, false, false, false, false, false, false, false, false, true, true, true, false, true, true, true, true, true, true, false, false]]
def mm_fl (own : Nat) : List (Nat × Nat × Nat) := ([[(7, 0, 0), (13, 0, 1), (16, 0, 2), (19, 0, 3), (22, 0, 4), (25, 0, 5)],
  [(11, 1, 0), (19, 1, 2), (23, 1, 4), (27, 1, 7), (33, 1, 1), (36, 1, 3), (39, 0, 0), (42, 0, 1), (45, 0, 2), (52, 0, 3), (55, 0, 4), (58, 0, 5), (61, 6, 0), (64, 6, 1), (81, 1, 5), (85, 1, 6)],
  [(9, 2, 0), (15, 2, 1), (18, 2, 2), (21, 2, 4), (31, 2, 5), (34, 2, 6), (40, 2, 3)],
  [(11, 3, 0), (15, 0, 0), (21, 3, 2), (22, 3, 3), (25, 0, 1), (28, 3, 4), (35, 3, 1)],
  [(12, 4, 0), (18, 4, 14), (28, 1, 0), (36, 4, 1), (39, 1, 5), (43, 4, 2), (44, 0, 3), (50, 1, 2), (54, 6, 0), (59, 0, 2), (68, 6, 1), (75, 4, 6), (78, 0, 0), (84, 4, 7), (87, 4, 8), (94, 1, 4), (98, 4, 3), (101, 4, 4), (108, 4, 5), (111, 4, 10), (114, 0, 4), (117, 4, 9), (120, 4, 11), (123, 4, 12), (126, 4, 13), (129, 4, 15), (132, 0, 1)],
  [(11, 5, 0), (15, 5, 2), (19, 5, 1), (26, 7, 1), (101, 1, 0), (105, 0, 3), (110, 0, 4), (117, 1, 1), (120, 1, 3)],
  [],
  [(9, 7, 0), (15, 7, 2), (19, 7, 1)],
  [(10, 8, 0), (16, 8, 1), (19, 8, 2), (24, 8, 4), (31, 8, 5), (35, 8, 6), (42, 8, 7), (49, 8, 8), (56, 8, 9), (60, 8, 10), (64, 8, 11), (67, 8, 12), (70, 8, 13), (112, 7, 2), (132, 7, 0), (138, 1, 0), (142, 0, 0), (154, 1, 1), (161, 1, 3), (175, 4, 0), (179, 0, 1), (182, 0, 2), (185, 0, 3), (188, 0, 4), (191, 4, 6), (194, 4, 7), (197, 4, 8), (200, 0, 5), (206, 1, 2), (210, 6, 0), (215, 6, 1), (227, 1, 4), (233, 1, 5), (248, 5, 2), (254, 4, 9), (256, 4, 10), (259, 4, 11), (262, 4, 12), (265, 4, 13), (304, 2, 3), (307, 2, 2), (323, 4, 14), (326, 7, 1), (340, 1, 7), (353, 8, 3), (356, 1, 6), (359, 3, 1), (365, 4, 2), (374, 4, 1), (390, 4, 3)],
  [(7, 9, 2), (13, 9, 3), (16, 9, 4), (19, 9, 5), (22, 9, 8), (25, 9, 9), (28, 9, 10), (32, 9, 11), (35, 9, 12), (38, 9, 13), (41, 9, 14), (44, 9, 15), (47, 9, 16), (50, 9, 17), (53, 9, 18), (56, 9, 19), (59, 9, 20), (62, 9, 21), (65, 9, 22), (68, 9, 23), (72, 9, 24), (75, 9, 25), (78, 9, 26), (81, 9, 27), (84, 9, 33), (87, 9, 34), (90, 9, 47), (93, 9, 48), (96, 9, 49), (99, 9, 51), (102, 9, 52), (105, 9, 53), (108, 9, 54), (111, 9, 55), (114, 9, 56), (117, 9, 0), (120, 9, 1), (170, 9, 6), (173, 9, 32), (176, 9, 29), (179, 9, 30), (182, 9, 28), (185, 9, 31), (211, 9, 7), (224, 9, 35), (227, 9, 36), (230, 9, 37), (233, 9, 40), (236, 9, 41), (245, 9, 38), (248, 9, 39), (254, 9, 43), (257, 9, 42), (260, 9, 44), (263, 9, 45), (266, 9, 46), (314, 9, 50), (346, 9, 57), (361, 9, 58)],
  []] : List (List (Nat × Nat × Nat))).getD own []
def mm_ml (own : Nat) : List (Nat × Nat × Nat) := ([[(1, 900, 0)],
  [(3, 900, 0), (31, 0, 1), (32, 47, 1), (48, 4, 0), (67, 103, 1), (71, 1, 0), (75, 906, 0)],
  [(3, 900, 0), (25, 903, 0), (43, 13, 0), (47, 906, 0), (53, 902, 0)],
  [(3, 900, 0), (31, 20, 0), (38, 102, 1), (48, 19, 0), (52, 18, 0)],
  [(3, 900, 0), (11, 0, 1), (22, 3, 0), (32, 1, 0), (47, 4, 0), (62, 901, 0), (71, 24, 0), (81, 25, 0), (90, 104, 1), (104, 902, 0), (135, 903, 0), (138, 27, 0), (141, 26, 0), (145, 28, 0), (149, 29, 0), (152, 23, 0), (156, 30, 0), (160, 31, 0)],
  [(5, 900, 0), (22, 36, 0), (31, 58, 0), (35, 37, 0), (39, 42, 0), (43, 43, 0), (47, 904, 0), (53, 44, 0), (56, 45, 0), (60, 46, 0), (64, 39, 0), (68, 40, 0), (72, 38, 0), (76, 902, 0), (81, 905, 0), (85, 41, 0), (89, 5, 0), (95, 6, 0), (98, 3, 0), (113, 7, 0), (137, 103, 1)],
  [(1, 900, 0)],
  [(3, 900, 0), (22, 221, 0), (28, 51, 0), (32, 56, 0), (36, 57, 0)],
  [(1, 900, 0), (9, 2, 0), (30, 21, 1), (41, 34, 1), (48, 10, 1), (55, 14, 1), (74, 48, 1), (75, 101, 0), (79, 100, 0), (83, 53, 0), (87, 107, 0), (90, 51, 0), (93, 55, 0), (97, 50, 0), (101, 106, 0), (105, 49, 0), (108, 52, 0), (116, 906, 0), (122, 57, 0), (126, 3, 0), (128, 54, 0), (135, 102, 0), (147, 104, 0), (150, 108, 0), (157, 5, 0), (164, 6, 0), (167, 22, 0), (171, 23, 0), (203, 4, 0), (218, 103, 0), (230, 7, 0), (237, 105, 0), (241, 9, 0), (244, 35, 0), (251, 30, 0), (268, 109, 0), (271, 114, 0), (274, 115, 0), (278, 116, 0), (281, 117, 0), (284, 110, 0), (287, 118, 0), (290, 112, 0), (294, 111, 0), (297, 11, 0), (301, 12, 0), (310, 113, 0), (313, 119, 0), (316, 120, 0), (319, 32, 0), (329, 121, 0), (333, 122, 0), (337, 123, 0), (343, 16, 0), (346, 15, 0), (350, 17, 0), (366, 903, 0), (371, 901, 0), (377, 33, 0), (381, 58, 0), (384, 124, 0), (387, 125, 0), (393, 27, 0), (396, 8, 0), (399, 26, 0), (402, 28, 0), (406, 31, 0)],
  [(1, 900, 0), (123, 129, 0), (127, 127, 0), (131, 130, 0), (134, 166, 0), (138, 170, 0), (142, 169, 0), (145, 171, 0), (148, 142, 0), (152, 143, 0), (156, 131, 0), (159, 150, 0), (163, 151, 0), (166, 152, 0), (188, 158, 0), (192, 155, 0), (195, 156, 0), (198, 157, 0), (201, 159, 0), (204, 160, 0), (207, 162, 0), (214, 140, 0), (217, 163, 0), (221, 161, 0), (239, 167, 0), (242, 132, 0), (251, 168, 0), (269, 175, 0), (272, 172, 0), (275, 176, 0), (278, 174, 0), (281, 173, 0), (284, 177, 0), (287, 178, 0), (290, 179, 0), (293, 180, 0), (296, 187, 0), (299, 182, 0), (302, 181, 0), (305, 189, 0), (308, 190, 0), (311, 184, 0), (317, 192, 0), (321, 194, 0), (324, 183, 0), (327, 197, 0), (330, 128, 0), (333, 141, 0), (337, 206, 0), (340, 207, 0), (343, 208, 0), (349, 212, 0), (352, 213, 0), (355, 214, 0), (358, 215, 0)],
  [(9, 59, 0), (12, 126, 0), (13, 60, 0), (17, 133, 0), (20, 61, 0), (24, 134, 0), (25, 62, 0), (29, 135, 0), (30, 63, 0), (34, 136, 0), (35, 64, 0), (39, 137, 0), (40, 65, 0), (44, 138, 0), (45, 66, 0), (48, 139, 0), (49, 67, 0), (52, 144, 0), (53, 68, 0), (56, 145, 0), (57, 69, 0), (60, 146, 0), (61, 70, 0), (64, 147, 0), (65, 71, 0), (68, 148, 0), (69, 72, 0), (72, 149, 0), (73, 73, 0), (76, 153, 0), (77, 74, 0), (81, 154, 0), (82, 75, 0), (85, 164, 0), (86, 76, 0), (90, 165, 0), (91, 77, 0), (94, 185, 0), (95, 78, 0), (98, 186, 0), (99, 79, 0), (102, 188, 0), (103, 80, 0), (106, 191, 0), (107, 81, 0), (110, 193, 0), (111, 82, 0), (114, 195, 0), (115, 83, 0), (118, 196, 0), (119, 84, 0), (122, 198, 0), (123, 85, 0), (126, 199, 0), (127, 86, 0), (130, 200, 0), (131, 87, 0), (134, 201, 0), (135, 88, 0), (138, 202, 0), (139, 89, 0), (142, 203, 0), (143, 90, 0), (146, 204, 0), (147, 91, 0), (150, 205, 0), (151, 92, 0), (154, 209, 0), (155, 93, 0), (158, 210, 0), (159, 94, 0), (162, 211, 0), (163, 95, 0), (166, 216, 0), (167, 96, 0), (170, 217, 0), (171, 97, 0), (174, 218, 0), (175, 98, 0), (178, 219, 0), (179, 99, 0), (182, 220, 0)]] : List (List (Nat × Nat × Nat))).getD own []
def mm_cl (own : Nat) : List (Nat × Nat) := ([[],
  [(9, 0), (17, 6)],
  [],
  [],
  [(9, 0)],
  [],
  [],
  [],
  [(7, 1), (22, 7), (28, 4), (39, 5), (46, 2), (53, 3)],
  [],
  [(7, 8), (10, 9)]] : List (List (Nat × Nat))).getD own []
def mm_cn (own : Nat) : List (Nat × Int32) := ([[],
  [(70, 1103515245)],
  [(39, 2147483647)],
  [],
  [],
  [],
  [],
  [],
  [],
  [(336, 1103515245)],
  []] : List (List (Nat × Int32))).getD own []
def mm_sl (own : Nat) : List (Nat × Nat × Nat) := ([[],
  [],
  [],
  [(42, 1003, 0), (45, 1000, 1)],
  [],
  [(140, 1001, 1), (143, 1002, 1)],
  [],
  [],
  [(221, 1001, 0), (224, 1002, 0), (362, 1000, 0)],
  [],
  []] : List (List (Nat × Nat × Nat))).getD own []
def mm_tl (own : Nat) : List (Nat × Nat) := if own = 5 then [(123, 1100), (125, 1101), (126, 1102), (128, 1103), (129, 1104), (131, 1105), (133, 1106), (135, 1107)] else []
def mm_tx : List String := ["child", "sack", "wears", "ahead", "way", "up", "rope", "wind"]
abbrev mm_Me : Type := MethodName × Nat × ByteArray × Nat × Option FieldType × Bool × Nat × Bool
def mm_me0 : List mm_Me := [
  (yX0_init, 0, cX0_init, 1, none, true, 1, false),
  (yX0_become, 0, cX0_become, 2, none, false, 2, false),
  (yX1_init, 1, cX1_init, 2, none, true, 1, false),
  (yX1_hasChild, 1, cX1_hasChild, 2, some .boolean, false, 2, false),
  (yX1_hasSack, 1, cX1_hasSack, 2, some .boolean, false, 2, false),
  (yX1_addChild, 1, cX1_addChild, 6, some .int, false, 4, false),
  (yX1_addSack, 1, cX1_addSack, 3, some .int, false, 3, false),
  (yX1_setTerm, 1, cX1_setTerm, 3, none, false, 3, false),
  (yX1_draw, 1, cX1_draw, 2, some .int, false, 2, false),
  (yX1_become, 1, cX1_become, 3, none, false, 2, false),
  (yX2_init, 2, cX2_init, 1, none, true, 1, false),
  (yX2_tell, 2, cX2_tell, 4, none, false, 4, false),
  (yX2_find, 2, cX2_find, 4, none, false, 4, false),
  (yX2_giveFrom, 2, cX2_giveFrom, 9, none, false, 6, true),
  (yX3_init, 3, cX3_init, 1, none, true, 1, false),
  (yX3_run, 3, cX3_run, 5, some .int, false, 5, false),
  (yX3_forget, 3, cX3_forget, 1, none, false, 1, false),
  (yX3_noted, 3, cX3_noted, 2, some .int, false, 2, false),
  (yX3_note, 3, cX3_note, 2, none, false, 2, false),
  (yX3_holderOf, 3, cX3_holderOf, 4, some .int, false, 2, true),
  (yX3_runFrom, 3, cX3_runFrom, 9, some .int, false, 5, true),
  (yX4_init, 4, cX4_init, 1, none, true, 1, false),
  (yX4_take, 4, cX4_take, 3, none, false, 3, false),
  (yX4_begin, 4, cX4_begin, 5, none, false, 2, false),
  (yX4_strideOf, 4, cX4_strideOf, 2, some .int, false, 2, true)]
def mm_me1 : List mm_Me := [
  (yX4_puffOf, 4, cX4_puffOf, 1, some .int, false, 1, true),
  (yX4_riskNow, 4, cX4_riskNow, 1, some .int, false, 1, false),
  (yX4_lie, 4, cX4_lie, 1, none, false, 1, false),
  (yX4_hop, 4, cX4_hop, 2, none, false, 2, false),
  (yX4_goASecond, 4, cX4_goASecond, 2, none, false, 1, false),
  (yX4_goToWay, 4, cX4_goToWay, 3, none, false, 2, false),
  (yX4_timeNow, 4, cX4_timeNow, 1, some .int, false, 1, false),
  (yX4_timeToRope, 4, cX4_timeToRope, 2, some .int, false, 2, false),
  (yX4_leastAheadFor, 4, cX4_leastAheadFor, 5, some .int, false, 3, false),
  (yX5_init, 5, cX5_init, 1, none, true, 1, false),
  (yX5_read, 5, cX5_read, 4, some .int, false, 3, false),
  (yX5_readItem, 5, cX5_readItem, 6, none, false, 3, false),
  (yX5_readWord, 5, cX5_readWord, 5, some .int, false, 2, false),
  (yX5_lettersAlike, 5, cX5_lettersAlike, 4, some .int, false, 3, false),
  (yX5_readNumber, 5, cX5_readNumber, 7, none, false, 5, false),
  (yX5_tell, 5, cX5_tell, 3, none, false, 3, false),
  (yX5_isDigit, 5, cX5_isDigit, 1, some .boolean, false, 1, true),
  (yX5_hasRoom, 5, cX5_hasRoom, 2, some .boolean, false, 2, true),
  (yX5_wordOf, 5, cX5_wordOf, 1, some (.object "java/lang/String"), false, 1, true),
  (yX5_numbersOf, 5, cX5_numbersOf, 1, some .int, false, 1, true),
  (yX5_leastOf, 5, cX5_leastOf, 2, some .int, false, 2, true),
  (yX5_mostOf, 5, cX5_mostOf, 3, some .int, false, 3, true),
  (yX6_init, 6, cX6_init, 1, none, true, 1, false),
  (yX7_init, 7, cX7_init, 1, none, true, 1, false),
  (yX7_hasRow, 7, cX7_hasRow, 1, some .boolean, false, 1, false)]
def mm_me2 : List mm_Me := [
  (yX7_hasChild, 7, cX7_hasChild, 1, some .boolean, false, 1, false),
  (yX7_has, 7, cX7_has, 2, some .boolean, false, 2, false),
  (yX7_hasPart, 7, cX7_hasPart, 3, some .boolean, false, 3, false),
  (yX7_holdRow, 7, cX7_holdRow, 3, none, false, 3, false),
  (yX7_holdChild, 7, cX7_holdChild, 2, none, false, 2, false),
  (yX7_put, 7, cX7_put, 4, none, false, 3, false),
  (yX7_lowest, 7, cX7_lowest, 3, some .long, false, 2, false),
  (yX7_at, 7, cX7_at, 2, some .long, false, 2, false),
  (yX7_asInt, 7, cX7_asInt, 2, some .int, false, 2, false),
  (yX8_init, 8, cX8_init, 2, none, true, 1, false),
  (yX8_row, 8, cX8_row, 4, some .int, false, 4, false),
  (yX8_set, 8, cX8_set, 6, some .int, false, 4, false),
  (yX8_copy, 8, cX8_copy, 8, some .int, false, 6, false),
  (yX8_element, 8, cX8_element, 3, some .long, false, 3, false),
  (yX8_show, 8, cX8_show, 3, some .int, false, 3, false),
  (yX8_holds, 8, cX8_holds, 2, some .int, false, 2, false),
  (yX8_says, 8, cX8_says, 4, some .int, false, 3, false),
  (yX8_child, 8, cX8_child, 4, some .int, false, 4, false),
  (yX8_sack, 8, cX8_sack, 3, some .int, false, 3, false),
  (yX8_childOf, 8, cX8_childOf, 3, some .int, false, 3, false),
  (yX8_sackOf, 8, cX8_sackOf, 3, some .int, false, 3, false),
  (yX8_wears, 8, cX8_wears, 4, some .int, false, 3, false),
  (yX8_ahead, 8, cX8_ahead, 4, some .int, false, 3, false),
  (yX8_ask, 8, cX8_ask, 4, some .int, false, 3, false),
  (yX8_roll, 8, cX8_roll, 3, some .int, false, 2, false)]
def mm_me3 : List mm_Me := [
  (yX8_field, 8, cX8_field, 4, some .int, false, 2, false),
  (yX8_fault, 8, cX8_fault, 1, some .int, false, 1, false),
  (yX8_behind, 8, cX8_behind, 4, some .int, false, 4, false),
  (yX8_comesIn, 8, cX8_comesIn, 2, some .int, false, 2, false),
  (yX8_wins, 8, cX8_wins, 3, some .int, false, 2, false),
  (yX8_best, 8, cX8_best, 3, some .int, false, 3, false),
  (yX8_given, 8, cX8_given, 6, some .int, false, 4, false),
  (yX8_two, 8, cX8_two, 4, some .int, false, 4, false),
  (yX8_pair, 8, cX8_pair, 6, some .int, false, 1, false),
  (yX8_start, 8, cX8_start, 3, some .int, false, 3, false),
  (yX8_atOnce, 8, cX8_atOnce, 5, some .int, false, 1, false),
  (yX8_heats, 8, cX8_heats, 6, some .int, false, 3, false),
  (yX8_legs, 8, cX8_legs, 4, some .int, false, 3, false),
  (yX8_wall, 8, cX8_wall, 2, some .int, false, 2, false),
  (yX8_judge, 8, cX8_judge, 4, some .int, false, 3, false),
  (yX8_meant, 8, cX8_meant, 5, some .int, false, 2, false),
  (yX8_worn, 8, cX8_worn, 5, some .int, false, 3, false),
  (yX8_race, 8, cX8_race, 1, some .int, false, 1, false),
  (yX8_summer, 8, cX8_summer, 5, some .int, false, 3, false),
  (yX8_seed, 8, cX8_seed, 3, some .int, false, 2, false),
  (yX8_act, 8, cX8_act, 4, some .int, false, 4, false),
  (yX8_trace, 8, cX8_trace, 2, some .int, false, 2, false),
  (yX8_image, 8, cX8_image, 1, some .int, false, 1, false),
  (yX8_restore, 8, cX8_restore, 2, some .int, false, 1, false),
  (yX8_status, 8, cX8_status, 2, some .int, false, 2, false)]
def mm_me4 : List mm_Me := [
  (yX8_refuse, 8, cX8_refuse, 3, some .int, false, 2, false),
  (yX8_isShelf, 8, cX8_isShelf, 1, some .boolean, false, 1, true),
  (yX8_isKind, 8, cX8_isKind, 1, some .boolean, false, 1, true),
  (yX8_isTerm, 8, cX8_isTerm, 1, some .boolean, false, 1, true),
  (yX8_isUnder, 8, cX8_isUnder, 4, some .boolean, false, 2, true),
  (yX8_bit, 8, cX8_bit, 1, some .int, false, 1, true),
  (yX8_areTwoSorts, 8, cX8_areTwoSorts, 2, some .boolean, false, 2, true),
  (yX8_whyNoRow, 8, cX8_whyNoRow, 2, some .int, false, 2, false),
  (yX8_saysAs, 8, cX8_saysAs, 3, some .int, false, 3, false),
  (yX8_timeOf, 8, cX8_timeOf, 2, some .int, false, 2, false),
  (yX8_timeAs, 8, cX8_timeAs, 3, some .int, false, 3, false),
  (yX8_timeIn, 8, cX8_timeIn, 3, some .int, false, 3, false),
  (yX8_timeRolling, 8, cX8_timeRolling, 3, some .int, false, 3, false),
  (yX8_timeOfTwo, 8, cX8_timeOfTwo, 6, some .int, false, 4, false),
  (yX8_timeAll, 8, cX8_timeAll, 2, none, false, 1, false),
  (yX8_winner, 8, cX8_winner, 3, some .int, false, 1, false),
  (yX8_leadOf, 8, cX8_leadOf, 4, some .int, false, 2, false),
  (yX8_bestKind, 8, cX8_bestKind, 6, some .int, false, 2, false),
  (yX8_bestSack, 8, cX8_bestSack, 6, some .int, false, 2, false),
  (yX8_leastAhead, 8, cX8_leastAhead, 3, some .int, false, 3, false),
  (yX8_heatsOfRound, 8, cX8_heatsOfRound, 7, some .int, false, 3, false),
  (yX8_wrongIn, 8, cX8_wrongIn, 8, some .int, false, 3, false),
  (yX8_allAsTold, 8, cX8_allAsTold, 4, some .boolean, false, 3, false),
  (yX8_raceInTruth, 8, cX8_raceInTruth, 3, some .int, false, 1, false),
  (yX8_secondInTruth, 8, cX8_secondInTruth, 4, some .int, false, 1, false)]
def mm_me5 : List mm_Me := [
  (yX8_firstInTruth, 8, cX8_firstInTruth, 5, some .int, false, 1, false),
  (yX9_init, 9, cX9_init, 1, none, true, 1, false),
  (yX9_no, 9, cX9_no, 2, some .int, false, 2, false),
  (yX9_noTen, 9, cX9_noTen, 2, some .int, false, 2, false),
  (yX9_isShelf, 9, cX9_isShelf, 2, some .boolean, false, 2, false),
  (yX9_isChild, 9, cX9_isChild, 2, some .boolean, false, 2, false),
  (yX9_isSack, 9, cX9_isSack, 2, some .boolean, false, 2, false),
  (yX9_abs, 9, cX9_abs, 2, some .int, false, 2, false),
  (yX9_row, 9, cX9_row, 5, some .int, false, 4, false),
  (yX9_set, 9, cX9_set, 5, some .int, false, 4, false),
  (yX9_copy, 9, cX9_copy, 7, some .int, false, 6, false),
  (yX9_element, 9, cX9_element, 3, some .long, false, 3, false),
  (yX9_show, 9, cX9_show, 3, some .int, false, 3, false),
  (yX9_holds, 9, cX9_holds, 2, some .int, false, 2, false),
  (yX9_says, 9, cX9_says, 6, some .int, false, 3, false),
  (yX9_wanted, 9, cX9_wanted, 2, some .int, false, 2, false),
  (yX9_intAt, 9, cX9_intAt, 3, some .int, false, 3, false),
  (yX9_addsChild, 9, cX9_addsChild, 4, some .int, false, 4, false),
  (yX9_addsSack, 9, cX9_addsSack, 3, some .int, false, 3, false),
  (yX9_child, 9, cX9_child, 4, some .int, false, 4, false),
  (yX9_sack, 9, cX9_sack, 3, some .int, false, 3, false),
  (yX9_childOf, 9, cX9_childOf, 3, some .int, false, 3, false),
  (yX9_sackOf, 9, cX9_sackOf, 3, some .int, false, 3, false),
  (yX9_wears, 9, cX9_wears, 4, some .int, false, 3, false),
  (yX9_ahead, 9, cX9_ahead, 4, some .int, false, 3, false)]
def mm_me6 : List mm_Me := [
  (yX9_isAsked, 9, cX9_isAsked, 3, some .boolean, false, 3, false),
  (yX9_told, 9, cX9_told, 2, some .int, false, 2, false),
  (yX9_tells, 9, cX9_tells, 3, none, false, 3, false),
  (yX9_ask, 9, cX9_ask, 4, some .int, false, 3, false),
  (yX9_roll, 9, cX9_roll, 3, some .int, false, 2, false),
  (yX9_wrong, 9, cX9_wrong, 2, some .boolean, false, 2, false),
  (yX9_stands, 9, cX9_stands, 4, some .boolean, false, 2, false),
  (yX9_word, 9, cX9_word, 6, some .int, false, 1, false),
  (yX9_isDigit, 9, cX9_isDigit, 1, some .boolean, false, 1, false),
  (yX9_reads, 9, cX9_reads, 2, some .boolean, false, 1, false),
  (yX9_isSo, 9, cX9_isSo, 3, some .boolean, false, 3, false),
  (yX9_item, 9, cX9_item, 4, some .boolean, false, 1, false),
  (yX9_carries, 9, cX9_carries, 6, some .int, false, 5, false),
  (yX9_all, 9, cX9_all, 5, none, false, 3, false),
  (yX9_field, 9, cX9_field, 5, some .int, false, 2, false),
  (yX9_fault, 9, cX9_fault, 1, some .int, false, 1, false),
  (yX9_puts, 9, cX9_puts, 2, none, false, 2, false),
  (yX9_putsIn, 9, cX9_putsIn, 2, none, false, 2, false),
  (yX9_one, 9, cX9_one, 2, some .int, false, 2, false),
  (yX9_stride, 9, cX9_stride, 1, some .int, false, 1, false),
  (yX9_puff, 9, cX9_puff, 1, some .int, false, 1, false),
  (yX9_risk, 9, cX9_risk, 2, some .int, false, 1, false),
  (yX9_riskNow, 9, cX9_riskNow, 1, some .int, false, 1, false),
  (yX9_starts, 9, cX9_starts, 1, none, false, 1, false),
  (yX9_falls, 9, cX9_falls, 1, none, false, 1, false)]
def mm_me7 : List mm_Me := [
  (yX9_rests, 9, cX9_rests, 1, none, false, 1, false),
  (yX9_puffs, 9, cX9_puffs, 1, none, false, 1, false),
  (yX9_second, 9, cX9_second, 1, none, false, 1, false),
  (yX9_withRope, 9, cX9_withRope, 3, some .int, false, 2, false),
  (yX9_in, 9, cX9_in, 2, some .int, false, 1, false),
  (yX9_inOf, 9, cX9_inOf, 2, some .int, false, 2, false),
  (yX9_inWith, 9, cX9_inWith, 3, some .int, false, 3, false),
  (yX9_inAs, 9, cX9_inAs, 3, some .int, false, 3, false),
  (yX9_inFrom, 9, cX9_inFrom, 3, some .int, false, 3, false),
  (yX9_inRolling, 9, cX9_inRolling, 3, some .int, false, 3, false),
  (yX9_behind, 9, cX9_behind, 5, some .int, false, 4, false),
  (yX9_comesIn, 9, cX9_comesIn, 2, some .int, false, 2, false),
  (yX9_firstIn, 9, cX9_firstIn, 3, some .int, false, 1, false),
  (yX9_wins, 9, cX9_wins, 6, some .int, false, 2, false),
  (yX9_how, 9, cX9_how, 4, some .int, false, 2, false),
  (yX9_bestSack, 9, cX9_bestSack, 4, some .int, false, 2, false),
  (yX9_best, 9, cX9_best, 3, some .int, false, 3, false),
  (yX9_gives, 9, cX9_gives, 10, none, false, 8, false),
  (yX9_given, 9, cX9_given, 6, some .int, false, 4, false),
  (yX9_twoIn, 9, cX9_twoIn, 4, some .int, false, 4, false),
  (yX9_two, 9, cX9_two, 4, some .int, false, 4, false),
  (yX9_pair, 9, cX9_pair, 6, some .int, false, 1, false),
  (yX9_startOf, 9, cX9_startOf, 4, some .int, false, 3, false),
  (yX9_start, 9, cX9_start, 3, some .int, false, 3, false),
  (yX9_atOnce, 9, cX9_atOnce, 5, some .int, false, 1, false)]
def mm_me8 : List mm_Me := [
  (yX9_heats, 9, cX9_heats, 9, some .int, false, 3, false),
  (yX9_legs, 9, cX9_legs, 6, some .int, false, 3, false),
  (yX9_wall, 9, cX9_wall, 3, some .int, false, 2, false),
  (yX9_judge, 9, cX9_judge, 8, some .int, false, 3, false),
  (yX9_meant, 9, cX9_meant, 7, some .int, false, 2, false),
  (yX9_worn, 9, cX9_worn, 5, some .int, false, 3, false),
  (yX9_draw, 9, cX9_draw, 2, some .int, false, 2, false),
  (yX9_secondInTruth, 9, cX9_secondInTruth, 2, none, false, 1, false),
  (yX9_raced, 9, cX9_raced, 3, some .int, false, 1, false),
  (yX9_race, 9, cX9_race, 1, some .int, false, 1, false),
  (yX9_summer, 9, cX9_summer, 5, some .int, false, 3, false),
  (yX9_seed, 9, cX9_seed, 3, some .int, false, 2, false),
  (yX9_body, 9, cX9_body, 2, none, false, 2, false),
  (yX9_hopping, 9, cX9_hopping, 5, some .int, false, 3, false),
  (yX9_falling, 9, cX9_falling, 7, some .int, false, 3, false),
  (yX9_rising, 9, cX9_rising, 5, some .int, false, 3, false),
  (yX9_act, 9, cX9_act, 4, some .int, false, 4, false),
  (yX9_trace, 9, cX9_trace, 2, some .int, false, 2, false),
  (yX9_image, 9, cX9_image, 1, some .int, false, 1, false),
  (yX9_restore, 9, cX9_restore, 2, some .int, false, 1, false),
  (yX9_status, 9, cX9_status, 2, some .int, false, 2, false),
  (yJ7_fill_d0a16, 11, cJ7_fill_d0a16, 5, none, false, 2, true)]
def mm_me (mi : Nat) : Option mm_Me := match mi / 25 with
  | 0 => mm_me0[mi % 25]?
  | 1 => mm_me1[mi % 25]?
  | 2 => mm_me2[mi % 25]?
  | 3 => mm_me3[mi % 25]?
  | 4 => mm_me4[mi % 25]?
  | 5 => mm_me5[mi % 25]?
  | 6 => mm_me6[mi % 25]?
  | 7 => mm_me7[mi % 25]?
  | 8 => mm_me8[mi % 25]?
  | _ => none
def mm_fld (own idx : Nat) : Option (Nat × Nat) := ((mm_fl own).find? (fun e => e.1 == idx)).map (·.2)
def mm_mt (own idx : Nat) : Option (Nat × Nat) := ((mm_ml own).find? (fun e => e.1 == idx)).map (·.2)
def mm_cls (own idx : Nat) : Option Nat := ((mm_cl own).find? (fun e => e.1 == idx)).map (·.2)
def mm_con (own idx : Nat) : Option Int32 := ((mm_cn own).find? (fun e => e.1 == idx)).map (·.2)
def mm_sta (own idx : Nat) : Option (Nat × Nat) := ((mm_sl own).find? (fun e => e.1 == idx)).map (·.2)
def mm_str (own idx : Nat) : Option Nat := ((mm_tl own).find? (fun e => e.1 == idx)).map (·.2)
def mm_ft (c j : Nat) : Nat := (mm_fT.getD c []).getD j 0
def mm_fn (c : Nat) : Nat := (mm_fT.getD c []).length
def mm_fi (c j : Nat) : Bool := (mm_fF.getD c []).getD j false
end
section
/-! THE LITTLE MACHINE: what an instruction does to numbered cells. Cells are numbered in the order in which they are made; numbers from 1000 on are constants (static arrays 1000.., texts 1100..). -/
abbrev mm_Ls : Type := List (Option Value)
abbrev mm_M : Type := List (Nat × Nat) × (Nat → Nat → Option Nat) × (Nat → Nat → Int32) × (Nat → Nat → Int64)
def mm_u {α : Type} (f : Nat → Nat → α) (k j : Nat) (v : α) : Nat → Nat → α := fun a b => if a = k then (if b = j then v else f a b) else f a b
def mm_z {α : Type} (f : Nat → Nat → α) (k : Nat) (v : α) : Nat → Nat → α := fun a b => if a = k then v else f a b
def mm_kl (a : Option Value) : Option Value := match a with
  | some v => if v.category = 2 then none else some v
  | none => none
/-- storing in the locals -/
def mm_so : mm_Ls → Nat → Value → mm_Ls
  | [], _, _ => []
  | _ :: t, 0, v => some v :: t
  | a :: t, 1, v => mm_kl a :: mm_so t 0 v
  | a :: t, i + 2, v => a :: mm_so t (i + 1) v
def mm_so2 : mm_Ls → Nat → Value → mm_Ls
  | [], _, _ => []
  | _ :: t, 0, v => some v :: t.set 0 none
  | a :: t, 1, v => mm_kl a :: mm_so2 t 0 v
  | a :: t, i + 2, v => a :: mm_so2 t (i + 1) v
def mm_ar : List Value → mm_Ls
  | [] => []
  | v :: r => if v.category = 2 then some v :: none :: mm_ar r else some v :: mm_ar r
def mm_en (n : Nat) (args : List Value) : mm_Ls := mm_ar args ++ List.replicate (n - (mm_ar args).length) none
def mm_is (t : Nat) (v : Value) : Bool := match v with
  | .int _ => t == 0
  | .long _ => t == 1
  | .ref _ => t == 2
  | _ => false
def mm_ln (i : Instr) : Nat := match i with
  | .aload _ => 2
  | .iload _ => 2
  | .lload _ => 2
  | .astore _ => 2
  | .istore _ => 2
  | .lstore _ => 2
  | .bipush _ => 2
  | .ldc _ => 2
  | .newarray _ => 2
  | .sipush _ => 3
  | .iinc _ _ => 3
  | .getfield _ => 3
  | .putfield _ => 3
  | .getstatic _ => 3
  | .invokestatic _ => 3
  | .invokevirtual _ => 3
  | .invokespecial _ => 3
  | .new _ => 3
  | .anewarray _ => 3
  | .ldc_w _ => 3
  | .ldc2_w _ => 3
  | .goto _ => 3
  | .ifCond _ _ => 3
  | .if_icmp _ _ => 3
  | _ => 1
def mm_sw (i : Instr) : Bool := match i with
  | .tableswitch _ _ _ _ => true
  | .lookupswitch _ _ => true
  | _ => false
def mm_1i (f : Int32 → Value) (st : List Value) : Option (List Value) := match st with
  | .int x :: r => some (f x :: r)
  | _ => none
def mm_2i (f : Int32 → Int32 → Option Value) (st : List Value) : Option (List Value) := match st with
  | .int y :: .int x :: r => match f x y with
    | some v => some (v :: r)
    | none => none
  | _ => none
def mm_2l (f : Int64 → Int64 → Value) (st : List Value) : Option (List Value) := match st with
  | .long y :: .long x :: r => some (f x y :: r)
  | _ => none
/-- the stack alone -/
def mm_pu (i : Instr) (st : List Value) : Option (List Value) := match i with
  | .iconst n => some (.int (Int32.ofInt n) :: st)
  | .bipush n => some (.int (Int8.ofInt n).toInt32 :: st)
  | .sipush n => some (.int (Int16.ofInt n).toInt32 :: st)
  | .lconst n => some (.long (Int64.ofNat n) :: st)
  | .iadd => mm_2i (fun x y => some (.int (x + y))) st
  | .isub => mm_2i (fun x y => some (.int (x - y))) st
  | .imul => mm_2i (fun x y => some (.int (x * y))) st
  | .iand => mm_2i (fun x y => some (.int (x &&& y))) st
  | .ior => mm_2i (fun x y => some (.int (x ||| y))) st
  | .ixor => mm_2i (fun x y => some (.int (x ^^^ y))) st
  | .ishl => mm_2i (fun x y => some (.int (x <<< (y &&& 31)))) st
  | .ishr => mm_2i (fun x y => some (.int (x >>> (y &&& 31)))) st
  | .iushr => mm_2i (fun x y => some (.int (x.toUInt32 >>> (y.toUInt32 &&& Int32.toUInt32 31)).toInt32)) st
  | .idiv => mm_2i (fun x y => if y = 0 then none else some (.int (x / y))) st
  | .irem => mm_2i (fun x y => if y = 0 then none else some (.int (x - x / y * y))) st
  | .ineg => mm_1i (fun x => .int (-x)) st
  | .i2l => mm_1i (fun x => .long x.toInt64) st
  | .i2b => mm_1i (fun x => .int x.toInt8.toInt32) st
  | .i2s => mm_1i (fun x => .int x.toInt16.toInt32) st
  | .l2i => match st with
    | .long x :: r => some (.int x.toInt32 :: r)
    | _ => none
  | .land => mm_2l (fun x y => .long (x &&& y)) st
  | .lor => mm_2l (fun x y => .long (x ||| y)) st
  | .lcmp => mm_2l (fun x y => .int (lg_cmp x y)) st
  | .lshl => match st with
    | .int y :: .long x :: r => some (.long (x <<< (y.toInt64 &&& 63)) :: r)
    | _ => none
  | .dup => match st with
    | v :: r => if v.category = 1 then some (v :: v :: r) else none
    | _ => none
  | .pop => match st with
    | v :: r => if v.category = 1 then some r else none
    | _ => none
  | .dup_x1 => match st with
    | v :: w :: r => if v.category = 1 ∧ w.category = 1 then some (v :: w :: v :: r) else none
    | _ => none
  | .dup2 => match st with
    | v :: w :: r => if v.category = 1 ∧ w.category = 1 then some (v :: w :: v :: w :: r) else none
    | _ => none
  | _ => none
def mm_ld (t k : Nat) (ls : mm_Ls) (st : List Value) : Option (mm_Ls × List Value) := match ls[k]? with
  | some (some v) => if mm_is t v = true then some (ls, v :: st) else none
  | _ => none
def mm_st (t k : Nat) (ls : mm_Ls) (st : List Value) : Option (mm_Ls × List Value) := match st with
  | v :: r => if mm_is t v = true then (if t = 1 then (if k + 1 < ls.length then some (mm_so2 ls k v, r) else none) else (if k < ls.length then some (mm_so ls k v, r) else none)) else none
  | _ => none
/-- loads and stores -/
def mm_lo (i : Instr) (ls : mm_Ls) (st : List Value) : Option (mm_Ls × List Value) := match i with
  | .iload k => mm_ld 0 k ls st
  | .iload_n k => mm_ld 0 k ls st
  | .lload k => mm_ld 1 k ls st
  | .lload_n k => mm_ld 1 k ls st
  | .aload k => mm_ld 2 k ls st
  | .aload_n k => mm_ld 2 k ls st
  | .istore k => mm_st 0 k ls st
  | .istore_n k => mm_st 0 k ls st
  | .lstore k => mm_st 1 k ls st
  | .lstore_n k => mm_st 1 k ls st
  | .astore k => mm_st 2 k ls st
  | .astore_n k => mm_st 2 k ls st
  | .iinc k n => match ls[k]? with
    | some (some (.int x)) => some (mm_so ls k (.int (x + Int32.ofInt n)), st)
    | _ => none
  | _ => none
def mm_tg (pc : Nat) (off : Int) : Option Nat := if 0 ≤ (pc : Int) + off then some ((pc : Int) + off).toNat else none
def mm_nx (pc : Nat) (off : Int) : Option Nat := if 0 ≤ (pc : Int) + off then some (pc + 3) else none
def mm_c1 (c : Jvm.ClassFile.Cond) (x : Int32) : Bool := match c with
  | .eq => decide (x = 0)
  | .ne => decide (¬ x = 0)
  | .lt => decide (x < 0)
  | .ge => decide (0 ≤ x)
  | .gt => decide (0 < x)
  | .le => decide (x ≤ 0)
def mm_c2 (c : Jvm.ClassFile.Cond) (x y : Int32) : Bool := match c with
  | .eq => decide (x = y)
  | .ne => decide (¬ x = y)
  | .lt => decide (x < y)
  | .ge => decide (y ≤ x)
  | .gt => decide (y < x)
  | .le => decide (x ≤ y)
def mm_to (o : Option Nat) (r : List Value) : Option (Nat × List Value) := match o with
  | some t => some (t, r)
  | none => none
/-- the switches' offsets -/
def mm_ts (x dflt lo hi : Int) (offs : Array Int) : Option Int := if x < lo ∨ hi < x then some dflt else offs[(x - lo).toNat]?
/-- jumps -/
def mm_br (pc : Nat) (i : Instr) (st : List Value) : Option (Nat × List Value) := match i with
  | .goto off => mm_to (mm_tg pc off) st
  | .ifCond c off => match st with
    | .int x :: r => mm_to (if mm_c1 c x = true then mm_tg pc off else mm_nx pc off) r
    | _ => none
  | .if_icmp c off => match st with
    | .int y :: .int x :: r => mm_to (if mm_c2 c x y = true then mm_tg pc off else mm_nx pc off) r
    | _ => none
  | .tableswitch dflt lo hi offs => match st with
    | .int x :: r => match mm_ts x.toInt dflt lo hi offs with
      | some off => mm_to (mm_tg pc off) r
      | none => none
    | _ => none
  | .lookupswitch dflt ps => match st with
    | .int x :: r => if (ps.toList.zip (ps.toList.drop 1)).all (fun (a, next) => a.1 < next.1) = true then mm_to (mm_tg pc (Op.lookupswitch.offset ps.toList dflt x.toInt)) r else none
    | _ => none
  | _ => none
/-- what the constants' arrays hold: static arrays, and (1004) what the law was given -/
abbrev mm_Cs : Type := Nat → Option (Nat × (Nat → Int32))
def mm_cs0 : mm_Cs := fun k => match k with
  | 1000 => some (7, fun j => ([-1, 0, 0, 1, 0, 2, 4] : List Int32).getD j 0)
  | 1001 => some (4, fun j => ([1, 1, 0, 0] : List Int32).getD j 0)
  | 1002 => some (4, fun j => ([200, 20, 9, 60] : List Int32).getD j 0)
  | 1003 => some (21, fun j => ([10, 20, 0, 0, 51, 0, 70, 11, 0, 30, 40, 0, 0, 71, 12, 0, 0, 0, 50, 60, 0] : List Int32).getD j 0)
  | _ => none
def mm_in (i : Int32) (n : Nat) : Bool := !(decide (i < 0)) && decide (i.toNatClampNeg < n)
def mm_ga (M : mm_M) (k j : Nat) (t : Nat) : Value := if t = 2 then va_rf (M.2.1 k j) else .int (M.2.2.1 k j)
/-- reading -/
def mm_rd (cs : mm_Cs) (own : Nat) (i : Instr) (st : List Value) (M : mm_M) : Option (List Value) := match i with
  | .getfield idx => match st with
    | .ref k :: r => match mm_fld own idx with
      | some (c, j) => if M.1[k]? = some (c, 0) then some (mm_ga M k j (mm_ft c j) :: r) else none
      | none => none
    | _ => none
  | .getstatic idx => match mm_sta own idx with
    | some (a, _) => some (.ref a :: st)
    | none => none
  | .ldc idx => match mm_con own idx with
    | some v => some (.int v :: st)
    | none => match mm_str own idx with
      | some a => some (.ref a :: st)
      | none => none
  | .ldc_w idx => match mm_con own idx with
    | some v => some (.int v :: st)
    | none => none
  | .ldc2_w idx => if own = 10 ∧ idx = 18 then some (.long 4294967295 :: st) else none
  | .arraylength => match st with
    | .ref k :: r => match cs k with
      | some (n, _) => some (.int (Int32.ofNat n) :: r)
      | none => match M.1[k]? with
        | some (t, n) => if 100 ≤ t then some (.int (Int32.ofNat n) :: r) else none
        | none => none
    | _ => none
  | .iaload => match st with
    | .int x :: .ref k :: r => match cs k with
      | some (n, f) => if mm_in x n = true then some (.int (f x.toNatClampNeg) :: r) else none
      | none => match M.1[k]? with
        | some (t, n) => if t = 100 ∧ mm_in x n = true then some (.int (M.2.2.1 k x.toNatClampNeg) :: r) else none
        | none => none
    | _ => none
  | .laload => match st with
    | .int x :: .ref k :: r => match M.1[k]? with
      | some (t, n) => if t = 101 ∧ mm_in x n = true then some (.long (M.2.2.2 k x.toNatClampNeg) :: r) else none
      | none => none
    | _ => none
  | .aaload => match st with
    | .int x :: .ref k :: r => match M.1[k]? with
      | some (t, n) => if 102 ≤ t ∧ mm_in x n = true then some (va_rf (M.2.1 k x.toNatClampNeg) :: r) else none
      | none => none
    | _ => none
  | _ => none
def mm_ok (M : mm_M) (a : Nat) : Bool := decide (a < M.1.length)
/-- writing a field -/
def mm_pf (M : mm_M) (k j : Nat) (t : Nat) (v : Value) : Option mm_M := match v with
  | .int x => if t = 0 ∨ (t = 1 ∧ (x = 0 ∨ x = 1)) then some (M.1, M.2.1, mm_u M.2.2.1 k j x, M.2.2.2) else none
  | .ref a => if t = 2 ∧ mm_ok M a = true then some (M.1, mm_u M.2.1 k j (some a), M.2.2.1, M.2.2.2) else none
  | _ => none
/-- writing -/
def mm_wr (ini : Bool) (own : Nat) (i : Instr) (st : List Value) (M : mm_M) : Option (List Value × mm_M) := match i with
  | .putfield idx => match st with
    | v :: .ref k :: r => match mm_fld own idx with
      | some (c, j) => if M.1[k]? = some (c, 0) ∧ (mm_fi c j = false ∨ (ini = true ∧ c = own)) then (match mm_pf M k j (mm_ft c j) v with
        | some M' => some (r, M')
        | none => none) else none
      | none => none
    | _ => none
  | .iastore => match st with
    | .int y :: .int x :: .ref k :: r => match M.1[k]? with
      | some (t, n) => if t = 100 ∧ mm_in x n = true then some (r, M.1, M.2.1, mm_u M.2.2.1 k x.toNatClampNeg y, M.2.2.2) else none
      | none => none
    | _ => none
  | .lastore => match st with
    | .long y :: .int x :: .ref k :: r => match M.1[k]? with
      | some (t, n) => if t = 101 ∧ mm_in x n = true then some (r, M.1, M.2.1, M.2.2.1, mm_u M.2.2.2 k x.toNatClampNeg y) else none
      | none => none
    | _ => none
  | .aastore => match st with
    | .ref a :: .int x :: .ref k :: r => match M.1[k]? with
      | some (t, n) => match M.1[a]? with
        | some (c, _) => if t = 102 + c ∧ c < 10 ∧ mm_in x n = true then some (r, M.1, mm_u M.2.1 k x.toNatClampNeg (some a), M.2.2.1, M.2.2.2) else none
        | none => none
      | none => none
    | _ => none
  | _ => none
/-- no cell is told of that isn't there -/
def mm_vo (n : Nat) (v : Value) : Bool := match v with
  | .ref a => decide (a < n ∨ 1000 ≤ a)
  | _ => true
def mm_vl (n : Nat) (ls : mm_Ls) : Bool := ls.all (fun o => match o with
  | some v => mm_vo n v
  | none => true)
def mm_nw (M : mm_M) (q : Nat × Nat) : mm_M := (M.1 ++ [q], mm_z M.2.1 M.1.length none, mm_z M.2.2.1 M.1.length 0, mm_z M.2.2.2 M.1.length 0)
/-- making -/
def mm_al (own : Nat) (i : Instr) (ls : mm_Ls) (st : List Value) (M : mm_M) : Option (List Value × mm_M) := if mm_vl M.1.length ls = true ∧ st.all (mm_vo M.1.length) = true ∧ M.1.length < 900 then (match i with
  | .new idx => match mm_cls own idx with
    | some c => some (.ref M.1.length :: st, mm_nw M (c, 0))
    | none => none
  | .newarray t => match st with
    | .int n :: r => if n < 0 ∨ 100000 < n.toNatClampNeg then none else match t with
      | .int => some (.ref M.1.length :: r, mm_nw M (100, n.toNatClampNeg))
      | .long => some (.ref M.1.length :: r, mm_nw M (101, n.toNatClampNeg))
      | _ => none
    | _ => none
  | .anewarray idx => match st with
    | .int n :: r => if n < 0 ∨ 100000 < n.toNatClampNeg then none else match mm_cls own idx with
      | some c => if c ∈ ([0, 4, 6, 7] : List Nat) then some (.ref M.1.length :: r, mm_nw M (102 + c, n.toNatClampNeg)) else none
      | none => none
    | _ => none
  | _ => none) else none
/-- the texts -/
def mm_sy (i : Nat) : List Int32 := (([[99, 104, 105, 108, 100], [115, 97, 99, 107], [119, 101, 97, 114, 115], [97, 104, 101, 97, 100], [119, 97, 121], [117, 112], [114, 111, 112, 101], [119, 105, 110, 100]] : List (List Int32))).getD i []
def mm_cy {α : Type} (f : Nat → Nat → α) (p q sp dp n : Nat) : Nat → Nat → α := fun a b => if a = q then va_cpy (f p) (f q) sp dp n b else f a b
/-- members of the JDK -/
def mm_bi (d b : Nat) (a : List Value) (M : mm_M) : Option (Option Value × mm_M) := match b with
  | 900 => match a with
    | [.ref _] => some (none, M)
    | _ => none
  | 901 => match a with
    | [.int x] => some (some (.int (if 0 ≤ x then x else 0 - x)), M)
    | _ => none
  | 902 => match a with
    | [.int x, .int y] => some (some (.int (if x < y then y else x)), M)
    | _ => none
  | 903 => match a with
    | [.int x, .int y] => some (some (.int (if y < x then y else x)), M)
    | _ => none
  | 904 => match a with
    | [.ref k] => if 4 ≤ d ∧ 1100 ≤ k ∧ k < 1108 then some (some (.int (Int32.ofNat (mm_sy (k - 1100)).length)), M) else none
    | _ => none
  | 905 => match a with
    | [.ref k, .int x] => if 4 ≤ d ∧ 1100 ≤ k ∧ k < 1108 ∧ mm_in x (mm_sy (k - 1100)).length = true then some (some (.int ((mm_sy (k - 1100)).getD x.toNatClampNeg 0)), M) else none
    | _ => none
  | 906 => match a with
    | [.ref p, .int sp, .ref q, .int dp, .int n] => if sp < 0 ∨ dp < 0 ∨ n < 0 then none else match M.1[p]? with
      | some (t0, n0) => match M.1[q]? with
        | some (t1, n1) => if sp.toNatClampNeg + n.toNatClampNeg ≤ n0 ∧ dp.toNatClampNeg + n.toNatClampNeg ≤ n1 ∧ t0 = t1 then (
            if t0 = 100 then some (none, M.1, M.2.1, mm_cy M.2.2.1 p q sp.toNatClampNeg dp.toNatClampNeg n.toNatClampNeg, M.2.2.2)
            else if t0 = 101 then some (none, M.1, M.2.1, M.2.2.1, mm_cy M.2.2.2 p q sp.toNatClampNeg dp.toNatClampNeg n.toNatClampNeg) else none) else none
        | none => none
      | none => none
    | _ => none
  | _ => none
/-- how many words a call takes, and whether it has no receiver -/
def mm_nb (b : Nat) : Nat := match b with
  | 902 => 2
  | 903 => 2
  | 905 => 2
  | 906 => 5
  | _ => 1
abbrev mm_Ca : Type := Nat → List Value → mm_M → Option (Option Value × mm_M)
/-- 0 static, 1 virtual, 2 special: which instruction calls what -/
def mm_kd (e : mm_Me) : Nat := if e.2.2.2.2.2.2.2 = true then 0 else if e.2.2.2.2.2.1 = true then 2 else 1
def mm_cw (st : List Value) : Bool := decide ((st.map fun v => v.category).sum ≤ 8)
def mm_pop (o : Option (Option Value × mm_M)) (rest : List Value) : Option (List Value × mm_M) := match o with
  | some (r, M') => some (r.toList ++ rest, M')
  | none => none
def mm_ci (cal : mm_Ca) (d : Nat) (own idx kind : Nat) (st : List Value) (M : mm_M) : Option (List Value × mm_M) := match mm_mt own idx with
  | some q =>
    if 900 ≤ q.1 then
      (if mm_nb q.1 ≤ st.length ∧ mm_cw (st.drop (mm_nb q.1)) = true then mm_pop (mm_bi d q.1 (st.take (mm_nb q.1)).reverse M) (st.drop (mm_nb q.1)) else none)
    else match mm_me q.1 with
      | some e => if mm_kd e = kind ∧ e.2.2.2.2.2.2.1 ≤ st.length ∧ mm_cw (st.drop e.2.2.2.2.2.2.1) = true then mm_pop (cal q.1 (st.take e.2.2.2.2.2.2.1).reverse M) (st.drop e.2.2.2.2.2.2.1) else none
      | none => none
  | none => none
def mm_ca (cal : mm_Ca) (d : Nat) (own : Nat) (i : Instr) (st : List Value) (M : mm_M) : Option (List Value × mm_M) := match i with
  | .invokestatic idx => mm_ci cal d own idx 0 st M
  | .invokevirtual idx => mm_ci cal d own idx 1 st M
  | .invokespecial idx => mm_ci cal d own idx 2 st M
  | _ => none
def mm_re (rt : Option FieldType) (i : Instr) (st : List Value) : Option (Option Value) := match i with
  | .ireturn => match st with
    | [.int v] => if rt = some .int ∨ (rt = some .boolean ∧ (v = 0 ∨ v = 1)) then some (some (.int v)) else none
    | _ => none
  | .lreturn => match st with
    | [.long v] => if rt = some .long then some (some (.long v)) else none
    | _ => none
  | .areturn => match st with
    | [.ref a] => if rt = some (.object "java/lang/String") then some (some (.ref a)) else none
    | _ => none
  | .return_ => match st with
    | [] => if rt = none then some none else none
    | _ => none
  | _ => none
end
section
/-! THE LITTLE MACHINE: a step, a walk, a call -/
abbrev mm_Cf : Type := Nat × mm_Ls × List Value × mm_M
def mm_st1 (cs : mm_Cs) (own : Nat) (ini : Bool) (rt : Option FieldType) (i : Instr) (n : Nat) (C : mm_Cf) : Option (mm_Cf ⊕ (Option Value × mm_M)) :=
  match mm_pu i C.2.2.1 with
  | some st' => some (.inl (C.1 + n, C.2.1, st', C.2.2.2))
  | none => match mm_lo i C.2.1 C.2.2.1 with
    | some q => some (.inl (C.1 + n, q.1, q.2, C.2.2.2))
    | none => match mm_br C.1 i C.2.2.1 with
      | some q => some (.inl (q.1, C.2.1, q.2, C.2.2.2))
      | none => match mm_rd cs own i C.2.2.1 C.2.2.2 with
        | some st' => some (.inl (C.1 + n, C.2.1, st', C.2.2.2))
        | none => match mm_wr ini own i C.2.2.1 C.2.2.2 with
          | some q => some (.inl (C.1 + n, C.2.1, q.1, q.2))
          | none => match mm_re rt i C.2.2.1 with
            | some v => some (.inr (v, C.2.2.2))
            | none => match mm_al own i C.2.1 C.2.2.1 C.2.2.2 with
              | some q => some (.inl (C.1 + n, C.2.1, q.1, q.2))
              | none => none
def mm_st2 (cal : mm_Ca) (d : Nat) (own : Nat) (i : Instr) (C : mm_Cf) : Option (mm_Cf ⊕ (Option Value × mm_M)) :=
  match mm_ca cal d own i C.2.2.1 C.2.2.2 with
  | some q => some (.inl (C.1 + 3, C.2.1, q.1, q.2))
  | none => none
def mm_step (cal : mm_Ca) (d : Nat) (cs : mm_Cs) (own : Nat) (ini : Bool) (rt : Option FieldType) (b : ByteArray) (C : mm_Cf) : Option (mm_Cf ⊕ (Option Value × mm_M)) :=
  match decode b C.1 with
  | .error _ => none
  | .ok q =>
    if q.2 = mm_ln q.1 ∨ mm_sw q.1 = true then
      match mm_st1 cs own ini rt q.1 q.2 C with
      | some r => some r
      | none => mm_st2 cal d own q.1 C
    else none
def mm_go (cal : mm_Ca) (d : Nat) (cs : mm_Cs) (own : Nat) (ini : Bool) (rt : Option FieldType) (b : ByteArray) : Nat → mm_Cf → Option (Option Value × mm_M)
  | 0, _ => none
  | n + 1, C => match mm_step cal d cs own ini rt b C with
    | some (.inl C') => mm_go cal d cs own ini rt b n C'
    | some (.inr r) => some r
    | none => none
def mm_exe (cs : mm_Cs) (N : Nat) : Nat → mm_Ca
  | 0 => fun _ _ _ => none
  | d + 1 => fun mi args M => match mm_me mi with
    | some e => if (mm_ar args).length ≤ e.2.2.2.1 ∧ args.length = e.2.2.2.2.2.2.1 then mm_go (mm_exe cs N d) d cs e.2.1 e.2.2.2.2.2.1 e.2.2.2.2.1 e.2.2.1 N (0, mm_en e.2.2.2.1 args, [], M) else none
    | none => none
/-- more fuel, the same answer -/
def mm_le (c c' : mm_Ca) : Prop := ∀ mi a M r, c mi a M = some r → c' mi a M = some r
theorem mm_ci_mono {c c' : mm_Ca} (h : mm_le c c') {d own idx k : Nat} {st : List Value} {M : mm_M} {r : List Value × mm_M} (hr : mm_ci c d own idx k st M = some r) : mm_ci c' d own idx k st M = some r := by
  cases h1 : mm_mt own idx with
  | none => simp [mm_ci, h1] at hr
  | some q =>
    by_cases h9 : 900 ≤ q.1
    · simp only [mm_ci, h1, if_pos h9] at hr ⊢
      exact hr
    · simp only [mm_ci, h1, if_neg h9] at hr ⊢
      cases h2 : mm_me q.1 with
      | none => simp [h2] at hr
      | some e =>
        simp only [h2] at hr ⊢
        split at hr
        · rename_i h3
          rw [if_pos h3]
          cases h4 : c q.1 (List.take e.2.2.2.2.2.2.1 st).reverse M with
          | none => simp [h4, mm_pop] at hr
          | some r0 =>
            rw [h4] at hr
            rw [h _ _ _ _ h4]
            exact hr
        · cases hr
theorem mm_ca_mono {c c' : mm_Ca} (h : mm_le c c') {d own : Nat} {i : Instr} {st : List Value} {M : mm_M} {r : List Value × mm_M} (hr : mm_ca c d own i st M = some r) : mm_ca c' d own i st M = some r := by
  cases i <;> first | exact mm_ci_mono h hr | (simp [mm_ca] at hr)
theorem mm_st2_mono {c c' : mm_Ca} (h : mm_le c c') {d own : Nat} {i : Instr} {C : mm_Cf} {r : mm_Cf ⊕ (Option Value × mm_M)} (hr : mm_st2 c d own i C = some r) : mm_st2 c' d own i C = some r := by
  unfold mm_st2 at hr ⊢
  cases h1 : mm_ca c d own i C.2.2.1 C.2.2.2 with
  | none => simp [h1] at hr
  | some q =>
    rw [h1] at hr
    rw [mm_ca_mono h h1]
    exact hr
theorem mm_step_mono {c c' : mm_Ca} (h : mm_le c c') {d : Nat} {cs : mm_Cs} {own : Nat} {ini : Bool} {rt : Option FieldType} {b : ByteArray} {C : mm_Cf} {r : mm_Cf ⊕ (Option Value × mm_M)} (hr : mm_step c d cs own ini rt b C = some r) : mm_step c' d cs own ini rt b C = some r := by
  unfold mm_step at hr ⊢
  cases h1 : decode b C.1 with
  | error e => rw [h1] at hr; cases hr
  | ok q =>
    rw [h1] at hr
    dsimp only at hr ⊢
    split at hr
    · rename_i h2
      rw [if_pos h2]
      cases h3 : mm_st1 cs own ini rt q.1 q.2 C with
      | some r0 => rw [h3] at hr; exact hr
      | none =>
        rw [h3] at hr
        exact mm_st2_mono h hr
    · cases hr
theorem mm_go_mono {c c' : mm_Ca} (h : mm_le c c') {d : Nat} {cs : mm_Cs} {own : Nat} {ini : Bool} {rt : Option FieldType} {b : ByteArray} {r : Option Value × mm_M} : ∀ (n n' : Nat) (C : mm_Cf), n ≤ n' → mm_go c d cs own ini rt b n C = some r → mm_go c' d cs own ini rt b n' C = some r := by
  intro n
  induction n with
  | zero => intro n' C _ hr; cases hr
  | succ n ih =>
    intro n' C hn hr
    obtain ⟨k, rfl⟩ : ∃ k, n' = k + 1 := ⟨n' - 1, by omega⟩
    unfold mm_go at hr ⊢
    cases h1 : mm_step c d cs own ini rt b C with
    | none => rw [h1] at hr; cases hr
    | some q =>
      rw [h1] at hr
      rw [mm_step_mono h h1]
      cases q with
      | inl C' => exact ih k C' (by omega) hr
      | inr r0 => exact hr
theorem mm_exe_mono (cs : mm_Cs) {N N' : Nat} (hN : N ≤ N') : ∀ d, mm_le (mm_exe cs N d) (mm_exe cs N' d) := by
  intro d
  induction d with
  | zero => intro mi a M r hr; cases hr
  | succ d ih =>
    intro mi a M r hr
    unfold mm_exe at hr ⊢
    cases h1 : mm_me mi with
    | none => rw [h1] at hr; cases hr
    | some e =>
      simp only [h1] at hr ⊢
      split at hr
      · rename_i h2
        rw [if_pos h2]
        exact mm_go_mono ih N N' _ hN hr
      · cases hr
/-- a method's answer -/
def mm_Call (cs : mm_Cs) (d mi : Nat) (args : List Value) (M : mm_M) (r : Option Value) (M' : mm_M) : Prop := ∃ N, mm_exe cs N d mi args M = some (r, M')
/-- a walk from a place in a method's body to its end -/
def mm_Go (cs : mm_Cs) (d own : Nat) (ini : Bool) (rt : Option FieldType) (b : ByteArray) (pc : Nat) (ls : mm_Ls) (st : List Value) (M : mm_M) (r : Option Value) (M' : mm_M) : Prop := ∃ N, mm_go (mm_exe cs N d) d cs own ini rt b N (pc, ls, st, M) = some (r, M')
theorem mm_Go.of_step {cs : mm_Cs} {d own : Nat} {ini : Bool} {rt : Option FieldType} {b : ByteArray} {pc pc' : Nat} {ls ls' : mm_Ls} {st st' : List Value} {M M1 : mm_M} {r : Option Value} {M' : mm_M}
    (h : ∃ N0, ∀ N, N0 ≤ N → mm_step (mm_exe cs N d) d cs own ini rt b (pc, ls, st, M) = some (.inl (pc', ls', st', M1))) (k : mm_Go cs d own ini rt b pc' ls' st' M1 r M') : mm_Go cs d own ini rt b pc ls st M r M' := by
  obtain ⟨N0, h⟩ := h
  obtain ⟨N, k⟩ := k
  refine ⟨N + N0 + 1, ?_⟩
  have h1 := h (N + N0 + 1) (by omega)
  unfold mm_go
  rw [h1]
  exact mm_go_mono (mm_exe_mono cs (by omega) d) N (N + N0) _ (by omega) k
theorem mm_Go.of_end {cs : mm_Cs} {d own : Nat} {ini : Bool} {rt : Option FieldType} {b : ByteArray} {pc : Nat} {ls : mm_Ls} {st : List Value} {M : mm_M} {r : Option Value} {M' : mm_M}
    (h : ∀ c, mm_step c d cs own ini rt b (pc, ls, st, M) = some (.inr (r, M'))) : mm_Go cs d own ini rt b pc ls st M r M' := by
  refine ⟨1, ?_⟩
  unfold mm_go
  rw [h]
theorem mm_Call.of_go {cs : mm_Cs} {d mi : Nat} {e : mm_Me} {args : List Value} {M : mm_M} {r : Option Value} {M' : mm_M} (he : mm_me mi = some e) (ha : (mm_ar args).length ≤ e.2.2.2.1 ∧ args.length = e.2.2.2.2.2.2.1)
    (h : mm_Go cs d e.2.1 e.2.2.2.2.2.1 e.2.2.2.2.1 e.2.2.1 0 (mm_en e.2.2.2.1 args) [] M r M') : mm_Call cs (d + 1) mi args M r M' := by
  obtain ⟨N, h⟩ := h
  refine ⟨N, ?_⟩
  unfold mm_exe
  rw [he]
  dsimp only
  rw [if_pos ha]
  exact h
end
section
/-! THE LITTLE MACHINE IS SOUND: instructions without the heap -/
def mm_v (ad : Nat → Nat) (v : Value) : Value := match v with
  | .ref k => .ref (ad k)
  | w => w
theorem mm_v_cat (ad : Nat → Nat) (v : Value) : (mm_v ad v).category = v.category := by cases v <;> rfl
theorem mm_v_int (ad : Nat → Nat) (x : Int32) : mm_v ad (.int x) = .int x := rfl
theorem mm_2i_inv {f : Int32 → Int32 → Option Value} {st st' : List Value} (h : mm_2i f st = some st') : ∃ x y r v, st = .int y :: .int x :: r ∧ f x y = some v ∧ st' = v :: r := by
  unfold mm_2i at h
  split at h
  · rename_i y x r
    split at h
    · rename_i v hv
      exact ⟨x, y, r, v, rfl, hv, (Option.some.inj h).symm⟩
    · cases h
  · cases h
theorem mm_2l_inv {f : Int64 → Int64 → Value} {st st' : List Value} (h : mm_2l f st = some st') : ∃ x y r, st = .long y :: .long x :: r ∧ st' = f x y :: r := by
  unfold mm_2l at h
  split at h
  · rename_i y x r
    exact ⟨x, y, r, rfl, (Option.some.inj h).symm⟩
  · cases h
theorem mm_1i_inv {f : Int32 → Value} {st st' : List Value} (h : mm_1i f st = some st') : ∃ x r, st = .int x :: r ∧ st' = f x :: r := by
  unfold mm_1i at h
  split at h
  · rename_i x r
    exact ⟨x, r, rfl, (Option.some.inj h).symm⟩
  · cases h
section MMS
variable {p : Program} {l : Launch} {e : Env} {R : Room} {s : State} {m : MethodId} {args : Array Value} {below : List Frame} {meth : Method} {c : Code} {H : Heap} {locs : List Loc} {cells slots : Nat} {Q : State → Prop}
variable {cc : ByteArray} {pc : Nat} {ls : Array Slot} {rest : List Value}
theorem mm_pu_W (ad : Nat → Nat) (hx : p.tables.exec = Jvm.exec) (hb : c.code = cc) {i : Instr} {st st' : List Value} (h : mm_pu i st = some st') (hd : decode cc pc = .ok (i, mm_ln i))
    (k : W p l e R s m args below meth c H locs cells slots Q (F0 m (pc + mm_ln i) ls (st'.map (mm_v ad)))) : W p l e R s m args below meth c H locs cells slots Q (F0 m pc ls (st.map (mm_v ad))) := by
  unfold mm_pu at h
  cases i
  case iconst n => cases h; exact lv_iconst hx hb hd rfl k
  case bipush n => cases h; exact lv_bipush hx hb hd rfl k
  case sipush n => cases h; exact lv_sipush hx hb hd rfl k
  case lconst n => cases h; exact lv_lconst hx hb hd rfl k
  case iadd => dsimp only at h; obtain ⟨x, y, r, v, rfl, hv, rfl⟩ := mm_2i_inv h; cases hv; exact lv_iadd hx hb hd k
  case isub => dsimp only at h; obtain ⟨x, y, r, v, rfl, hv, rfl⟩ := mm_2i_inv h; cases hv; exact lv_isub hx hb hd k
  case imul => dsimp only at h; obtain ⟨x, y, r, v, rfl, hv, rfl⟩ := mm_2i_inv h; cases hv; exact lv_imul hx hb hd k
  case iand => dsimp only at h; obtain ⟨x, y, r, v, rfl, hv, rfl⟩ := mm_2i_inv h; cases hv; exact lv_iand hx hb hd k
  case ior => dsimp only at h; obtain ⟨x, y, r, v, rfl, hv, rfl⟩ := mm_2i_inv h; cases hv; exact lv_ior hx hb hd k
  case ixor => dsimp only at h; obtain ⟨x, y, r, v, rfl, hv, rfl⟩ := mm_2i_inv h; cases hv; exact lv_ixor hx hb hd k
  case ishl => dsimp only at h; obtain ⟨x, y, r, v, rfl, hv, rfl⟩ := mm_2i_inv h; cases hv; exact lv_ishl hx hb hd k
  case ishr => dsimp only at h; obtain ⟨x, y, r, v, rfl, hv, rfl⟩ := mm_2i_inv h; cases hv; exact lv_ishr hx hb hd k
  case iushr => dsimp only at h; obtain ⟨x, y, r, v, rfl, hv, rfl⟩ := mm_2i_inv h; cases hv; exact lv_iushr hx hb hd rfl k
  case idiv =>
    dsimp only at h
    obtain ⟨x, y, r, v, rfl, hv, rfl⟩ := mm_2i_inv h
    by_cases h0 : y = 0
    · rw [if_pos h0] at hv; cases hv
    · rw [if_neg h0] at hv; cases hv; exact lv_idiv hx hb hd h0 k
  case irem =>
    dsimp only at h
    obtain ⟨x, y, r, v, rfl, hv, rfl⟩ := mm_2i_inv h
    by_cases h0 : y = 0
    · rw [if_pos h0] at hv; cases hv
    · rw [if_neg h0] at hv; cases hv; exact lv_irem hx hb hd h0 k
  case ineg => dsimp only at h; obtain ⟨x, r, rfl, rfl⟩ := mm_1i_inv h; exact lv_ineg hx hb hd k
  case i2l => dsimp only at h; obtain ⟨x, r, rfl, rfl⟩ := mm_1i_inv h; exact lv_i2l hx hb hd rfl k
  case i2b => dsimp only at h; obtain ⟨x, r, rfl, rfl⟩ := mm_1i_inv h; exact lv_i2b hx hb hd rfl k
  case i2s => dsimp only at h; obtain ⟨x, r, rfl, rfl⟩ := mm_1i_inv h; exact lv_i2s hx hb hd rfl k
  case l2i =>
    dsimp only at h
    split at h
    · cases h; exact lv_l2i hx hb hd rfl k
    · cases h
  case land => dsimp only at h; obtain ⟨x, y, r, rfl, rfl⟩ := mm_2l_inv h; exact lv_land hx hb hd k
  case lor => dsimp only at h; obtain ⟨x, y, r, rfl, rfl⟩ := mm_2l_inv h; exact lv_lor hx hb hd k
  case lcmp => dsimp only at h; obtain ⟨x, y, r, rfl, rfl⟩ := mm_2l_inv h; exact W.lcmp hx hb hd k
  case lshl =>
    dsimp only at h
    split at h
    · cases h; exact lv_lshl hx hb hd rfl k
    · cases h
  case dup =>
    dsimp only at h
    split at h
    · split at h
      · rename_i hc; cases h; exact lv_dup hx hb hd (by rw [mm_v_cat]; exact hc) k
      · cases h
    · cases h
  case pop =>
    dsimp only at h
    split at h
    · split at h
      · rename_i hc; cases h; exact lv_pop hx hb hd (by rw [mm_v_cat]; exact hc) k
      · cases h
    · cases h
  case dup_x1 =>
    dsimp only at h
    split at h
    · split at h
      · rename_i hc; cases h; exact lv_dup_x1 hx hb hd (by rw [mm_v_cat]; exact hc.1) (by rw [mm_v_cat]; exact hc.2) k
      · cases h
    · cases h
  case dup2 =>
    dsimp only at h
    split at h
    · split at h
      · rename_i hc; cases h; exact lv_dup2_11 hx hb hd (by rw [mm_v_cat]; exact hc.1) (by rw [mm_v_cat]; exact hc.2) k
      · cases h
    · cases h
  all_goals cases h
theorem mm_tg_inv {off : Int} {st : List Value} {q : Nat × List Value} (h : mm_to (mm_tg pc off) st = some q) : (pc : Int) + off = (q.1 : Int) ∧ q.2 = st := by
  unfold mm_to mm_tg at h
  by_cases h0 : 0 ≤ (pc : Int) + off
  · rw [if_pos h0] at h
    cases h
    exact ⟨(Int.toNat_of_nonneg h0).symm, rfl⟩
  · rw [if_neg h0] at h
    cases h
theorem mm_nx_inv {off : Int} {bb : Bool} {st : List Value} {q : Nat × List Value} (h : mm_to (if bb = true then mm_tg pc off else mm_nx pc off) st = some q) : ∃ tgt : Nat, (pc : Int) + off = (tgt : Int) ∧ q.2 = st ∧ ((bb = true ∧ q.1 = tgt) ∨ (bb = false ∧ q.1 = pc + 3)) := by
  unfold mm_to mm_tg mm_nx at h
  by_cases h0 : 0 ≤ (pc : Int) + off
  · refine ⟨((pc : Int) + off).toNat, (Int.toNat_of_nonneg h0).symm, ?_⟩
    cases bb
    · simp only [if_pos h0] at h
      simp at h
      subst h
      exact ⟨rfl, Or.inr ⟨rfl, rfl⟩⟩
    · simp only [if_pos h0] at h
      simp at h
      subst h
      exact ⟨rfl, Or.inl ⟨rfl, rfl⟩⟩
  · cases bb <;> simp [h0] at h
theorem mm_br_W (ad : Nat → Nat) (hx : p.tables.exec = Jvm.exec) (hb : c.code = cc) {i : Instr} {n : Nat} {st : List Value} {q : Nat × List Value} (h : mm_br pc i st = some q) (hn : n = mm_ln i ∨ mm_sw i = true) (hd : decode cc pc = .ok (i, n))
    (k : W p l e R s m args below meth c H locs cells slots Q (F0 m q.1 ls (q.2.map (mm_v ad)))) : W p l e R s m args below meth c H locs cells slots Q (F0 m pc ls (st.map (mm_v ad))) := by
  cases i
  case goto off =>
    rcases hn with hn | hn
    · subst hn
      obtain ⟨h1, h2⟩ := mm_tg_inv h
      rw [h2] at k
      exact lv_goto hx hb hd h1 k
    · cases hn
  case ifCond cd off =>
    rcases hn with hn | hn
    · subst hn
      unfold mm_br at h
      dsimp only at h
      split at h
      · obtain ⟨tgt, h1, h2, h3⟩ := mm_nx_inv h
        rw [h2] at k
        cases cd
        case eq => exact lv_if_eq hx hb hd h1 (fun z => by rcases h3 with ⟨-, g⟩ | ⟨g, -⟩; (rw [g] at k; exact k); exact absurd z (of_decide_eq_false g)) (fun z => by rcases h3 with ⟨g, -⟩ | ⟨-, g⟩; exact absurd (of_decide_eq_true g) z; (rw [g] at k; exact k))
        case ne => exact lv_if_ne hx hb hd h1 (fun z => by rcases h3 with ⟨-, g⟩ | ⟨g, -⟩; (rw [g] at k; exact k); exact absurd z (of_decide_eq_false g)) (fun z => by rcases h3 with ⟨g, -⟩ | ⟨-, g⟩; exact absurd z (of_decide_eq_true g); (rw [g] at k; exact k))
        case lt => exact lv_if_lt hx hb hd h1 (fun z => by rcases h3 with ⟨-, g⟩ | ⟨g, -⟩; (rw [g] at k; exact k); exact absurd z (of_decide_eq_false g)) (fun z => by rcases h3 with ⟨g, -⟩ | ⟨-, g⟩; exact absurd (of_decide_eq_true g) z; (rw [g] at k; exact k))
        case ge => exact lv_if_ge hx hb hd h1 (fun z => by rcases h3 with ⟨-, g⟩ | ⟨g, -⟩; (rw [g] at k; exact k); exact absurd z (of_decide_eq_false g)) (fun z => by rcases h3 with ⟨g, -⟩ | ⟨-, g⟩; exact absurd (of_decide_eq_true g) z; (rw [g] at k; exact k))
        case gt => exact lv_if_gt hx hb hd h1 (fun z => by rcases h3 with ⟨-, g⟩ | ⟨g, -⟩; (rw [g] at k; exact k); exact absurd z (of_decide_eq_false g)) (fun z => by rcases h3 with ⟨g, -⟩ | ⟨-, g⟩; exact absurd (of_decide_eq_true g) z; (rw [g] at k; exact k))
        case le => exact lv_if_le hx hb hd h1 (fun z => by rcases h3 with ⟨-, g⟩ | ⟨g, -⟩; (rw [g] at k; exact k); exact absurd z (of_decide_eq_false g)) (fun z => by rcases h3 with ⟨g, -⟩ | ⟨-, g⟩; exact absurd (of_decide_eq_true g) z; (rw [g] at k; exact k))
      · cases h
    · cases hn
  case if_icmp cd off =>
    rcases hn with hn | hn
    · subst hn
      unfold mm_br at h
      dsimp only at h
      split at h
      · obtain ⟨tgt, h1, h2, h3⟩ := mm_nx_inv h
        rw [h2] at k
        cases cd
        case eq => exact lv_icmp_eq hx hb hd h1 (fun z => by rcases h3 with ⟨-, g⟩ | ⟨g, -⟩; (rw [g] at k; exact k); exact absurd z (of_decide_eq_false g)) (fun z => by rcases h3 with ⟨g, -⟩ | ⟨-, g⟩; exact absurd (of_decide_eq_true g) z; (rw [g] at k; exact k))
        case ne => exact lv_icmp_ne hx hb hd h1 (fun z => by rcases h3 with ⟨-, g⟩ | ⟨g, -⟩; (rw [g] at k; exact k); exact absurd z (of_decide_eq_false g)) (fun z => by rcases h3 with ⟨g, -⟩ | ⟨-, g⟩; exact absurd z (of_decide_eq_true g); (rw [g] at k; exact k))
        case lt => exact lv_icmp_lt hx hb hd h1 (fun z => by rcases h3 with ⟨-, g⟩ | ⟨g, -⟩; (rw [g] at k; exact k); exact absurd z (of_decide_eq_false g)) (fun z => by rcases h3 with ⟨g, -⟩ | ⟨-, g⟩; exact absurd (of_decide_eq_true g) z; (rw [g] at k; exact k))
        case ge => exact lv_icmp_ge hx hb hd h1 (fun z => by rcases h3 with ⟨-, g⟩ | ⟨g, -⟩; (rw [g] at k; exact k); exact absurd z (of_decide_eq_false g)) (fun z => by rcases h3 with ⟨g, -⟩ | ⟨-, g⟩; exact absurd (of_decide_eq_true g) z; (rw [g] at k; exact k))
        case gt => exact lv_icmp_gt hx hb hd h1 (fun z => by rcases h3 with ⟨-, g⟩ | ⟨g, -⟩; (rw [g] at k; exact k); exact absurd z (of_decide_eq_false g)) (fun z => by rcases h3 with ⟨g, -⟩ | ⟨-, g⟩; exact absurd (of_decide_eq_true g) z; (rw [g] at k; exact k))
        case le => exact lv_icmp_le hx hb hd h1 (fun z => by rcases h3 with ⟨-, g⟩ | ⟨g, -⟩; (rw [g] at k; exact k); exact absurd z (of_decide_eq_false g)) (fun z => by rcases h3 with ⟨g, -⟩ | ⟨-, g⟩; exact absurd (of_decide_eq_true g) z; (rw [g] at k; exact k))
      · cases h
    · cases hn
  case tableswitch dflt lo hi offs =>
    unfold mm_br at h
    dsimp only at h
    split at h
    · rename_i x r
      split at h
      · rename_i off ho
        obtain ⟨h1, h2⟩ := mm_tg_inv h
        rw [h2] at k
        unfold mm_ts at ho
        by_cases hr : x.toInt < lo ∨ hi < x.toInt
        · rw [if_pos hr] at ho
          cases ho
          exact lv_tableOut hx hb hd hr h1 k
        · rw [if_neg hr] at ho
          exact lv_tableIn hx hb hd (fun z => hr (Or.inl z)) (fun z => hr (Or.inr z)) ho h1 k
      · cases h
    · cases h
  case lookupswitch dflt ps =>
    unfold mm_br at h
    dsimp only at h
    split at h
    · rename_i x r
      split at h
      · rename_i hp
        obtain ⟨h1, h2⟩ := mm_tg_inv h
        rw [h2] at k
        exact lv_lookup hx hb hd hp rfl h1 k
      · cases h
    · cases h
  all_goals cases h
end MMS
end
section
/-! THE LITTLE MACHINE IS SOUND: the locals; the cells as a world -/
def mm_lvs (ad : Nat → Nat) : Nat → mm_Ls → List (Nat × Value)
  | _, [] => []
  | i, none :: t => mm_lvs ad (i + 1) t
  | i, some v :: t => (i, mm_v ad v) :: mm_lvs ad (i + 1) t
theorem mm_lvs_in {ad : Nat → Nat} : ∀ (ls : mm_Ls) (i : Nat) (q : Nat × Value), q ∈ mm_lvs ad i ls → ∃ j v, ls[j]? = some (some v) ∧ q = (i + j, mm_v ad v)
  | [], _, _, h => by cases h
  | none :: t, i, q, h => by
    obtain ⟨j, v, h1, h2⟩ := mm_lvs_in t (i + 1) q h
    exact ⟨j + 1, v, h1, by rw [h2]; congr 1; omega⟩
  | some w :: t, i, q, h => by
    rcases List.mem_cons.mp h with h | h
    · exact ⟨0, w, rfl, h⟩
    · obtain ⟨j, v, h1, h2⟩ := mm_lvs_in t (i + 1) q h
      exact ⟨j + 1, v, h1, by rw [h2]; congr 1; omega⟩
theorem mm_lvs_of {ad : Nat → Nat} : ∀ (ls : mm_Ls) (i j : Nat) (v : Value), ls[j]? = some (some v) → (i + j, mm_v ad v) ∈ mm_lvs ad i ls
  | [], _, _, _, h => by simp at h
  | none :: t, i, j, v, h => by
    cases j with
    | zero => simp at h
    | succ j =>
      have := mm_lvs_of (ad := ad) t (i + 1) j v (by simpa using h)
      rw [show i + (j + 1) = i + 1 + j by omega]
      exact this
  | some w :: t, i, j, v, h => by
    cases j with
    | zero =>
      simp at h
      subst h
      exact List.mem_cons_self
    | succ j =>
      have := mm_lvs_of (ad := ad) t (i + 1) j v (by simpa using h)
      rw [show i + (j + 1) = i + 1 + j by omega]
      exact List.mem_cons_of_mem _ this
def mm_L (ad : Nat → Nat) (la : Array Slot) (nL : Nat) (ls : mm_Ls) : Prop := lv_has la nL (mm_lvs ad 0 ls) ∧ ls.length = nL
theorem mm_L.get {ad : Nat → Nat} {la : Array Slot} {nL k : Nat} {ls : mm_Ls} {v : Value} (h : mm_L ad la nL ls) (hk : ls[k]? = some (some v)) : la[k]? = some (.val (mm_v ad v)) := by
  have h1 := mm_lvs_of (ad := ad) ls 0 k v hk
  rw [Nat.zero_add] at h1
  exact h.1.2.2 _ h1
theorem mm_kl_some {a : Option Value} {u : Value} (h : mm_kl a = some u) : a = some u ∧ ¬ u.category = 2 := by
  cases a with
  | none => cases h
  | some v =>
    unfold mm_kl at h
    dsimp only at h
    split at h
    · cases h
    · rename_i h2
      cases h
      exact ⟨rfl, h2⟩
theorem mm_so_len : ∀ (ls : mm_Ls) (k : Nat) (v : Value), (mm_so ls k v).length = ls.length
  | [], _, _ => rfl
  | _ :: t, 0, v => rfl
  | a :: t, 1, v => by simp [mm_so, mm_so_len t 0 v]
  | a :: t, k + 2, v => by simp [mm_so, mm_so_len t (k + 1) v]
theorem mm_so2_len : ∀ (ls : mm_Ls) (k : Nat) (v : Value), (mm_so2 ls k v).length = ls.length
  | [], _, _ => rfl
  | _ :: t, 0, v => by simp [mm_so2]
  | a :: t, 1, v => by simp [mm_so2, mm_so2_len t 0 v]
  | a :: t, k + 2, v => by simp [mm_so2, mm_so2_len t (k + 1) v]
theorem mm_so_get : ∀ (ls : mm_Ls) (k : Nat) (v : Value) (j : Nat) (u : Value), (mm_so ls k v)[j]? = some (some u) → (j = k ∧ u = v) ∨ (j ≠ k ∧ ls[j]? = some (some u) ∧ ¬ (j + 1 = k ∧ u.category = 2))
  | [], k, v, j, u, h => by simp [mm_so] at h
  | a :: t, 0, v, j, u, h => by
    cases j with
    | zero => simp [mm_so] at h; exact Or.inl ⟨rfl, h.symm⟩
    | succ j => simp [mm_so] at h; exact Or.inr ⟨by omega, by simpa using h, by omega⟩
  | a :: t, 1, v, j, u, h => by
    cases j with
    | zero =>
      simp [mm_so] at h
      obtain ⟨h1, h2⟩ := mm_kl_some h
      exact Or.inr ⟨by omega, by simpa using h1, fun z => h2 z.2⟩
    | succ j =>
      simp only [mm_so, List.getElem?_cons_succ] at h
      rcases mm_so_get t 0 v j u h with ⟨h1, h2⟩ | ⟨h1, h2, h3⟩
      · exact Or.inl ⟨by omega, h2⟩
      · exact Or.inr ⟨by omega, by simpa using h2, by omega⟩
  | a :: t, k + 2, v, j, u, h => by
    cases j with
    | zero => simp [mm_so] at h; exact Or.inr ⟨by omega, by simpa using h, by omega⟩
    | succ j =>
      simp only [mm_so, List.getElem?_cons_succ] at h
      rcases mm_so_get t (k + 1) v j u h with ⟨h1, h2⟩ | ⟨h1, h2, h3⟩
      · exact Or.inl ⟨by omega, h2⟩
      · exact Or.inr ⟨by omega, by simpa using h2, fun z => h3 ⟨by omega, z.2⟩⟩
theorem mm_so2_get : ∀ (ls : mm_Ls) (k : Nat) (v : Value) (j : Nat) (u : Value), (mm_so2 ls k v)[j]? = some (some u) → (j = k ∧ u = v) ∨ (j ≠ k ∧ j ≠ k + 1 ∧ ls[j]? = some (some u) ∧ ¬ (j + 1 = k ∧ u.category = 2))
  | [], k, v, j, u, h => by simp [mm_so2] at h
  | a :: t, 0, v, j, u, h => by
    cases j with
    | zero => simp [mm_so2] at h; exact Or.inl ⟨rfl, h.symm⟩
    | succ j =>
      cases j with
      | zero => simp [mm_so2, List.getElem?_set] at h
      | succ j =>
        simp [mm_so2, List.getElem?_set] at h
        exact Or.inr ⟨by omega, by omega, by simpa using h, by omega⟩
  | a :: t, 1, v, j, u, h => by
    cases j with
    | zero =>
      simp [mm_so2] at h
      obtain ⟨h1, h2⟩ := mm_kl_some h
      exact Or.inr ⟨by omega, by omega, by simpa using h1, fun z => h2 z.2⟩
    | succ j =>
      simp only [mm_so2, List.getElem?_cons_succ] at h
      rcases mm_so2_get t 0 v j u h with ⟨h1, h2⟩ | ⟨h1, h0, h2, h3⟩
      · exact Or.inl ⟨by omega, h2⟩
      · exact Or.inr ⟨by omega, by omega, by simpa using h2, by omega⟩
  | a :: t, k + 2, v, j, u, h => by
    cases j with
    | zero => simp [mm_so2] at h; exact Or.inr ⟨by omega, by omega, by simpa using h, by omega⟩
    | succ j =>
      simp only [mm_so2, List.getElem?_cons_succ] at h
      rcases mm_so2_get t (k + 1) v j u h with ⟨h1, h2⟩ | ⟨h1, h0, h2, h3⟩
      · exact Or.inl ⟨by omega, h2⟩
      · exact Or.inr ⟨by omega, by omega, by simpa using h2, fun z => h3 ⟨by omega, z.2⟩⟩
theorem mm_L.so {ad : Nat → Nat} {la la1 : Array Slot} {nL k : Nat} {ls : mm_Ls} {v : Value} (h : mm_L ad la nL ls) (h1 : lv_has la1 nL ((k, mm_v ad v) :: (mm_lvs ad 0 ls).filter (fun q => !(q.1 == k) && !(q.1 + 1 == k && q.2.category == 2)))) : mm_L ad la1 nL (mm_so ls k v) := by
  refine ⟨⟨h1.1, h1.2.1, fun q hq => h1.2.2 q ?_⟩, by rw [mm_so_len]; exact h.2⟩
  obtain ⟨j, u, g1, g2⟩ := mm_lvs_in _ _ _ hq
  rw [Nat.zero_add] at g2
  rcases mm_so_get ls k v j u g1 with ⟨e1, e2⟩ | ⟨e1, e2, e3⟩
  · subst e1; subst e2
    rw [g2]
    exact List.mem_cons_self
  · refine List.mem_cons_of_mem _ (List.mem_filter.mpr ⟨?_, ?_⟩)
    · have := mm_lvs_of (ad := ad) ls 0 j u e2
      rw [Nat.zero_add] at this
      rw [g2]; exact this
    · rw [g2]
      simp only [mm_v_cat]
      simp [e1]
      exact Decidable.not_and_iff_or_not.mp e3
theorem mm_L.so2 {ad : Nat → Nat} {la la1 : Array Slot} {nL k : Nat} {ls : mm_Ls} {v : Value} (h : mm_L ad la nL ls) (h1 : lv_has la1 nL ((k, mm_v ad v) :: (mm_lvs ad 0 ls).filter (fun q => !(q.1 == k) && (!(q.1 == k + 1) && !(q.1 + 1 == k && q.2.category == 2))))) : mm_L ad la1 nL (mm_so2 ls k v) := by
  refine ⟨⟨h1.1, h1.2.1, fun q hq => h1.2.2 q ?_⟩, by rw [mm_so2_len]; exact h.2⟩
  obtain ⟨j, u, g1, g2⟩ := mm_lvs_in _ _ _ hq
  rw [Nat.zero_add] at g2
  rcases mm_so2_get ls k v j u g1 with ⟨e1, e2⟩ | ⟨e1, e0, e2, e3⟩
  · subst e1; subst e2
    rw [g2]
    exact List.mem_cons_self
  · refine List.mem_cons_of_mem _ (List.mem_filter.mpr ⟨?_, ?_⟩)
    · have := mm_lvs_of (ad := ad) ls 0 j u e2
      rw [Nat.zero_add] at this
      rw [g2]; exact this
    · rw [g2]
      simp only [mm_v_cat]
      simp [e1, e0]
      exact Decidable.not_and_iff_or_not.mp e3
theorem mm_is_int {v : Value} (h : mm_is 0 v = true) : ∃ x, v = .int x := by cases v <;> first | exact ⟨_, rfl⟩ | cases h
theorem mm_is_long {v : Value} (h : mm_is 1 v = true) : ∃ x, v = .long x := by cases v <;> first | exact ⟨_, rfl⟩ | cases h
theorem mm_is_ref {v : Value} (h : mm_is 2 v = true) : ∃ x, v = .ref x := by cases v <;> first | exact ⟨_, rfl⟩ | cases h
theorem mm_ld_inv {t k : Nat} {ls : mm_Ls} {st : List Value} {q : mm_Ls × List Value} (h : mm_ld t k ls st = some q) : ∃ v, ls[k]? = some (some v) ∧ mm_is t v = true ∧ q = (ls, v :: st) := by
  unfold mm_ld at h
  split at h
  · rename_i v hv
    split at h
    · rename_i ht
      exact ⟨v, hv, ht, (Option.some.inj h).symm⟩
    · cases h
  · cases h
theorem mm_st_inv {t k : Nat} {ls : mm_Ls} {st : List Value} {q : mm_Ls × List Value} (h : mm_st t k ls st = some q) : ∃ v r, st = v :: r ∧ mm_is t v = true ∧ ((t = 1 ∧ k + 1 < ls.length ∧ q = (mm_so2 ls k v, r)) ∨ (¬ t = 1 ∧ k < ls.length ∧ q = (mm_so ls k v, r))) := by
  unfold mm_st at h
  split at h
  · rename_i v r
    split at h
    · rename_i ht
      split at h
      · rename_i h1
        split at h
        · rename_i h2
          exact ⟨v, r, rfl, ht, Or.inl ⟨h1, h2, (Option.some.inj h).symm⟩⟩
        · cases h
      · rename_i h1
        split at h
        · rename_i h2
          exact ⟨v, r, rfl, ht, Or.inr ⟨h1, h2, (Option.some.inj h).symm⟩⟩
        · cases h
    · cases h
  · cases h
section MML
variable {p : Program} {l : Launch} {e : Env} {R : Room} {s : State} {m : MethodId} {args : Array Value} {below : List Frame} {meth : Method} {c : Code} {H : Heap} {locs : List Loc} {cells slots : Nat} {Q : State → Prop}
variable {cc : ByteArray} {pc : Nat} {la : Array Slot} {nL : Nat}
theorem mm_lo_W {ad : Nat → Nat} (hx : p.tables.exec = Jvm.exec) (hb : c.code = cc) {i : Instr} {ls : mm_Ls} {st : List Value} {q : mm_Ls × List Value} (h : mm_lo i ls st = some q) (hd : decode cc pc = .ok (i, mm_ln i)) (hL : mm_L ad la nL ls)
    (k : ∀ la1 : Array Slot, mm_L ad la1 nL q.1 → W p l e R s m args below meth c H locs cells slots Q (F0 m (pc + mm_ln i) la1 (q.2.map (mm_v ad)))) : W p l e R s m args below meth c H locs cells slots Q (F0 m pc la (st.map (mm_v ad))) := by
  unfold mm_lo at h
  have hlen := hL.2
  cases i
  case iload n => obtain ⟨v, h1, h2, rfl⟩ := mm_ld_inv h; obtain ⟨x, rfl⟩ := mm_is_int h2; exact lv_iload hx hb hd (hL.get h1) (k _ hL)
  case iload_n n => obtain ⟨v, h1, h2, rfl⟩ := mm_ld_inv h; obtain ⟨x, rfl⟩ := mm_is_int h2; exact lv_iload_n hx hb hd rfl (hL.get h1) (k _ hL)
  case lload n => obtain ⟨v, h1, h2, rfl⟩ := mm_ld_inv h; obtain ⟨x, rfl⟩ := mm_is_long h2; exact lv_lload hx hb hd (hL.get h1) (k _ hL)
  case lload_n n => obtain ⟨v, h1, h2, rfl⟩ := mm_ld_inv h; obtain ⟨x, rfl⟩ := mm_is_long h2; exact lv_lload_n hx hb hd rfl (hL.get h1) (k _ hL)
  case aload n => obtain ⟨v, h1, h2, rfl⟩ := mm_ld_inv h; obtain ⟨x, rfl⟩ := mm_is_ref h2; exact lv_aload hx hb hd (hL.get h1) (k _ hL)
  case aload_n n => obtain ⟨v, h1, h2, rfl⟩ := mm_ld_inv h; obtain ⟨x, rfl⟩ := mm_is_ref h2; exact lv_aload_n hx hb hd rfl (hL.get h1) (k _ hL)
  case istore n =>
    obtain ⟨v, r, rfl, h2, ⟨h3, -⟩ | ⟨-, h4, rfl⟩⟩ := mm_st_inv h
    · cases h3
    · obtain ⟨x, rfl⟩ := mm_is_int h2
      exact lv_istore hx hb hd hL.1 (hlen ▸ h4) rfl (fun la1 hl1 => k la1 (hL.so (v := .int x) hl1))
  case istore_n n =>
    obtain ⟨v, r, rfl, h2, ⟨h3, -⟩ | ⟨-, h4, rfl⟩⟩ := mm_st_inv h
    · cases h3
    · obtain ⟨x, rfl⟩ := mm_is_int h2
      exact lv_istore_n hx hb hd rfl hL.1 (hlen ▸ h4) rfl (fun la1 hl1 => k la1 (hL.so (v := .int x) hl1))
  case lstore n =>
    obtain ⟨v, r, rfl, h2, ⟨-, h4, rfl⟩ | ⟨h3, -⟩⟩ := mm_st_inv h
    · obtain ⟨x, rfl⟩ := mm_is_long h2
      exact lv_lstore hx hb hd hL.1 (hlen ▸ h4) rfl (fun la1 hl1 => k la1 (hL.so2 (v := .long x) hl1))
    · exact absurd rfl h3
  case lstore_n n =>
    obtain ⟨v, r, rfl, h2, ⟨-, h4, rfl⟩ | ⟨h3, -⟩⟩ := mm_st_inv h
    · obtain ⟨x, rfl⟩ := mm_is_long h2
      exact lv_lstore_n hx hb hd rfl hL.1 (hlen ▸ h4) rfl (fun la1 hl1 => k la1 (hL.so2 (v := .long x) hl1))
    · exact absurd rfl h3
  case astore n =>
    obtain ⟨v, r, rfl, h2, ⟨h3, -⟩ | ⟨-, h4, rfl⟩⟩ := mm_st_inv h
    · cases h3
    · obtain ⟨x, rfl⟩ := mm_is_ref h2
      exact lv_astore hx hb hd hL.1 (hlen ▸ h4) rfl (fun la1 hl1 => k la1 (hL.so (v := .ref x) hl1))
  case astore_n n =>
    obtain ⟨v, r, rfl, h2, ⟨h3, -⟩ | ⟨-, h4, rfl⟩⟩ := mm_st_inv h
    · cases h3
    · obtain ⟨x, rfl⟩ := mm_is_ref h2
      exact lv_astore_n hx hb hd rfl hL.1 (hlen ▸ h4) rfl (fun la1 hl1 => k la1 (hL.so (v := .ref x) hl1))
  case iinc n z =>
    dsimp only at h
    split at h
    · rename_i x h1
      cases h
      have h2 := mm_lvs_of (ad := ad) ls 0 n _ h1
      rw [Nat.zero_add] at h2
      obtain ⟨kk, hk⟩ := List.getElem?_of_mem h2
      exact lv_iinc hx hb hd hL.1 hk rfl (hlen ▸ (List.getElem?_eq_some_iff.mp h1).1) rfl (fun la1 hl1 => k la1 (hL.so (v := .int (x + Int32.ofInt z)) hl1))
    · cases h
  all_goals cases h
end MML
end
section
/-! THE LITTLE MACHINE IS SOUND: the cells as a world of the kit -/
def mm_cel (ad : Nat → Nat) (cA : ClassId) (q : Nat × Nat) (Rr : Nat → Option Nat) (Ir : Nat → Int32) (Lr : Nat → Int64) : va_E :=
  if q.1 < 100 then .inr (q.1, (List.range (mm_fn q.1)).map (fun j => if mm_ft q.1 j = 2 then va_rf ((Rr j).map ad) else .int (Ir j)))
  else .inl (cA, q.2, if q.1 = 100 then .inl Ir else if q.1 = 101 then .inr (.inl Lr) else .inr (.inr (.inr (.inr (fun j => (Rr j).map ad)))))
def mm_ws (ad : Nat → Nat) (dA : Nat → ClassId) (M : mm_M) : va_W := (List.range M.1.length).map (fun k => (ad k, mm_cel ad (dA k) (M.1.getD k (0, 0)) (M.2.1 k) (M.2.2.1 k) (M.2.2.2 k)))
theorem mm_ws_len (ad : Nat → Nat) (dA : Nat → ClassId) (M : mm_M) : (mm_ws ad dA M).length = M.1.length := by simp [mm_ws]
theorem mm_getD {l : List (Nat × Nat)} {k : Nat} {q : Nat × Nat} (h : l[k]? = some q) : l.getD k (0, 0) = q := by simp [h]
theorem mm_ws_get {ad : Nat → Nat} {dA : Nat → ClassId} {M : mm_M} {k : Nat} {q : Nat × Nat} (h : M.1[k]? = some q) : (mm_ws ad dA M)[k]? = some (ad k, mm_cel ad (dA k) q (M.2.1 k) (M.2.2.1 k) (M.2.2.2 k)) := by
  have hk := (List.getElem?_eq_some_iff.mp h).1
  simp only [mm_ws, List.getElem?_map, List.getElem?_range hk, Option.map_some]
  rw [mm_getD h]
theorem mm_ws_none {ad : Nat → Nat} {dA : Nat → ClassId} {M : mm_M} {k : Nat} (h : M.1.length ≤ k) : (mm_ws ad dA M)[k]? = none := List.getElem?_eq_none (by rw [mm_ws_len]; exact h)
theorem mm_ws_set {ad : Nat → Nat} {dA : Nat → ClassId} {M M' : mm_M} {k : Nat} {q : Nat × Nat} (h : M.1[k]? = some q) (hs : M'.1 = M.1) (ho : ∀ i, i ≠ k → M'.2.1 i = M.2.1 i ∧ M'.2.2.1 i = M.2.2.1 i ∧ M'.2.2.2 i = M.2.2.2 i) {e : va_E} (he : e = mm_cel ad (dA k) q (M'.2.1 k) (M'.2.2.1 k) (M'.2.2.2 k)) :
    (mm_ws ad dA M).set k (ad k, e) = mm_ws ad dA M' := by
  have hk := (List.getElem?_eq_some_iff.mp h).1
  subst he
  apply List.ext_getElem?
  intro i
  rw [List.getElem?_set, mm_ws_len]
  by_cases hi : k = i
  · subst hi
    rw [if_pos rfl, if_pos hk, mm_ws_get (M := M') (by rw [hs]; exact h)]
  · rw [if_neg hi]
    by_cases hl : i < M.1.length
    · have h1 : M.1[i]? = some M.1[i] := List.getElem?_eq_getElem hl
      have h2 : M'.1[i]? = some M.1[i] := by rw [hs]; exact h1
      obtain ⟨a, b, d⟩ := ho i (fun z => hi z.symm)
      rw [mm_ws_get h1, mm_ws_get h2, a, b, d]
    · rw [mm_ws_none (by omega), mm_ws_none (by rw [hs]; omega)]
def mm_ad (ad : Nat → Nat) (n q : Nat) : Nat → Nat := fun k => if k = n then q else ad k
theorem mm_map_ad {ad : Nat → Nat} {n q : Nat} {o : Option Nat} (h : ∀ a, o = some a → a < n) : o.map (mm_ad ad n q) = o.map ad := by
  cases o with
  | none => rfl
  | some a =>
    have := h a rfl
    simp only [Option.map_some, mm_ad]
    rw [if_neg (by omega)]
theorem mm_cel_ad {ad : Nat → Nat} {n q : Nat} {cA : ClassId} {s : Nat × Nat} {Rr : Nat → Option Nat} {Ir : Nat → Int32} {Lr : Nat → Int64} (h : ∀ j a, Rr j = some a → a < n) : mm_cel (mm_ad ad n q) cA s Rr Ir Lr = mm_cel ad cA s Rr Ir Lr := by
  have h1 : (fun j => (Rr j).map (mm_ad ad n q)) = fun j => (Rr j).map ad := funext fun j => mm_map_ad (h j)
  have h2 : ∀ j, (Rr j).map (mm_ad ad n q) = (Rr j).map ad := fun j => mm_map_ad (h j)
  unfold mm_cel
  simp only [h2]
theorem mm_ws_push {ad : Nat → Nat} {dA : Nat → ClassId} {M : mm_M} {q : Nat} {cA : ClassId} {s : Nat × Nat} {e : va_E} (hR : ∀ k j a, M.2.1 k j = some a → a < M.1.length) (he : e = mm_cel (mm_ad ad M.1.length q) cA s (fun _ => none) (fun _ => 0) (fun _ => 0)) :
    mm_ws ad dA M ++ [(q, e)] = mm_ws (mm_ad ad M.1.length q) (mm_ad dA M.1.length cA) (mm_nw M s) := by
  apply List.ext_getElem?
  intro i
  have hl : (mm_nw M s).1.length = M.1.length + 1 := by simp [mm_nw]
  by_cases h1 : i < M.1.length
  · rw [List.getElem?_append_left (by rw [mm_ws_len]; exact h1)]
    have g1 : M.1[i]? = some M.1[i] := List.getElem?_eq_getElem h1
    have g2 : (mm_nw M s).1[i]? = some M.1[i] := by
      show (M.1 ++ [s])[i]? = _
      rw [List.getElem?_append_left h1]
      exact g1
    rw [mm_ws_get g1, mm_ws_get g2]
    have hn : i ≠ M.1.length := by omega
    have e1 : (mm_nw M s).2.1 i = M.2.1 i := by funext b; simp [mm_nw, mm_z, hn]
    have e2 : (mm_nw M s).2.2.1 i = M.2.2.1 i := by funext b; simp [mm_nw, mm_z, hn]
    have e3 : (mm_nw M s).2.2.2 i = M.2.2.2 i := by funext b; simp [mm_nw, mm_z, hn]
    rw [e1, e2, e3, mm_cel_ad (fun j a h => hR i j a h)]
    simp [mm_ad, hn]
  · by_cases h2 : i = M.1.length
    · subst h2
      rw [List.getElem?_append_right (by rw [mm_ws_len]; exact Nat.le_refl _), mm_ws_len, Nat.sub_self]
      have g2 : (mm_nw M s).1[M.1.length]? = some s := by
        show (M.1 ++ [s])[M.1.length]? = _
        simp
      rw [mm_ws_get g2]
      have e1 : (mm_nw M s).2.1 M.1.length = fun _ => none := by funext b; simp [mm_nw, mm_z]
      have e2 : (mm_nw M s).2.2.1 M.1.length = fun _ => 0 := by funext b; simp [mm_nw, mm_z]
      have e3 : (mm_nw M s).2.2.2 M.1.length = fun _ => 0 := by funext b; simp [mm_nw, mm_z]
      rw [e1, e2, e3, he]
      simp [mm_ad]
    · rw [List.getElem?_eq_none (by simp [mm_ws_len]; omega), mm_ws_none (by omega)]
/-- the field types of the arrays, by their tags -/
def mm_RN (own : Nat) : String := ([RX0, RX1, RX2, RX3, RX4, RX5, RX6, RX7, RX8, RX9, RL, RJ7] : List String).getD own ""
def mm_ty (t : Nat) : FieldType := if t = 100 then .int else if t = 101 then .long else .object (mm_RN (t - 102))
/-- the heap holds the cells -/
def mm_H (D : va_G) (ad : Nat → Nat) (dA : Nat → ClassId) (M : mm_M) (A : Nat → Prop) (s : State) (H : Heap) : Prop :=
  va_P D vwCl (mm_ws ad dA M) H ∧ va_D A (mm_ws ad dA M) ∧ (∃ tys, va_K D vwCl tys s ∧ ∀ k t n, M.1[k]? = some (t, n) → 100 ≤ t → ∃ t0 : Nat, tys[t0]? = some (dA k, mm_ty t)) ∧ (∀ k j a, M.2.1 k j = some a → a < M.1.length) ∧ M.1.length ≤ 900
end
section
/-! THE LITTLE MACHINE IS SOUND: the words, the constants; reading -/
def mm_MW : List Cond := lw_tbl.filter goodWord
theorem mm_MW_in {w : Cond} (h1 : w ∈ lw_tbl) (h2 : goodWord w = true) : w ∈ mm_MW := List.mem_filter.mpr ⟨h1, h2⟩
def mm_wk (w : Cond) : Bool := decide (w ∈ lw_tbl) && goodWord w
theorem mm_wk_in {w : Cond} (h : mm_wk w = true) : w ∈ mm_MW := by
  unfold mm_wk at h
  rw [Bool.and_eq_true] at h
  exact mm_MW_in (of_decide_eq_true h.1) h.2
def mm_ckT (t : Nat) (o : Option FieldType) : Bool := match o with
  | some .int => t == 0
  | some .boolean => t == 1
  | some (.object _) => t == 2
  | some (.array _) => t == 2
  | _ => false
def mm_ckF (own : Nat) (e : Nat × Nat × Nat) : Bool := match vwCl[e.2.1]? with
  | some q => decide (e.2.2 < q.2.2) && decide (e.2.1 < 10) && mm_wk (.fieldLink (mm_RN own) e.1 (q.2.1 e.2.2).1 (q.2.1 e.2.2).2.1 (q.2.1 e.2.2).2.2.1) && decide ((q.2.1 e.2.2).2.2.2 = mm_fi e.2.1 e.2.2) && mm_ckT (mm_ft e.2.1 e.2.2) (parseFieldDescriptor (q.2.1 e.2.2).2.2.1) && decide ((q.2.1 e.2.2).1 = mm_RN e.2.1)
  | none => false
set_option maxRecDepth 100000 in
theorem mm_ckF_0 : ∀ own, own < 8 → (mm_fl own).all (mm_ckF own) = true := by decide +kernel
set_option maxRecDepth 100000 in
theorem mm_ckF_8 : (mm_fl 8).all (mm_ckF 8) = true := by decide +kernel
set_option maxRecDepth 100000 in
theorem mm_ckF_9 : (mm_fl 9).all (mm_ckF 9) = true := by decide +kernel
theorem mm_fl_big {own : Nat} (h : 10 ≤ own) : mm_fl own = [] := by
  obtain ⟨k, rfl⟩ : ∃ k, own = k + 10 := ⟨own - 10, by omega⟩
  cases k <;> rfl
theorem mm_find {α : Type} {l : List (Nat × α)} {idx : Nat} {r : α} (h : (l.find? (fun e => e.1 == idx)).map (·.2) = some r) : (idx, r) ∈ l := by
  cases h1 : l.find? (fun e => e.1 == idx) with
  | none => rw [h1] at h; cases h
  | some q =>
    rw [h1] at h
    have h2 := List.find?_some h1
    have h3 := List.mem_of_find?_eq_some h1
    cases h
    have h4 : q.1 = idx := by simpa using h2
    rw [← h4]
    exact h3
theorem mm_fld_ck {own idx : Nat} {r : Nat × Nat} (h : mm_fld own idx = some r) : mm_ckF own (idx, r) = true := by
  have h1 : (idx, r) ∈ mm_fl own := mm_find h
  by_cases a : own < 8
  · exact List.all_eq_true.mp (mm_ckF_0 own a) _ h1
  · by_cases b : own = 8
    · subst b; exact List.all_eq_true.mp mm_ckF_8 _ h1
    · by_cases c : own = 9
      · subst c; exact List.all_eq_true.mp mm_ckF_9 _ h1
      · rw [mm_fl_big (by omega)] at h1; cases h1
/-- what the tables say of a class's fields -/
def mm_Cl (c : Nat) (C : String) (T : u_T) (N : Nat) : Prop := vwCl[c]? = some (C, T, N) ∧ N = mm_fn c ∧ C = mm_RN c ∧ (∃ ty0 : Nat → FieldType, ∀ k, k < N → parseFieldDescriptor (T k).2.2.1 = some (ty0 k)) ∧ (∀ a, a < N → ∀ b, b < N → a ≠ b → (T a).2.1 ≠ (T b).2.1) ∧ ∀ w ∈ u_ws C T N, w ∈ mm_MW
theorem mm_uws {C : String} {T : u_T} {N : Nat} (h : (u_ws C T N).all mm_wk = true) : ∀ w ∈ u_ws C T N, w ∈ mm_MW := fun w hw => mm_wk_in (List.all_eq_true.mp h w hw)
set_option maxRecDepth 100000 in
theorem mm_Cl_0 : mm_Cl 0 RX0 TX0 6 := ⟨rfl, by decide, rfl, ⟨tyX0, tyX0_ok⟩, nmX0, mm_uws (by decide +kernel)⟩
set_option maxRecDepth 100000 in
theorem mm_Cl_1 : mm_Cl 1 RX1 TX1 8 := ⟨rfl, by decide, rfl, ⟨tyX1, tyX1_ok⟩, nmX1, mm_uws (by decide +kernel)⟩
set_option maxRecDepth 100000 in
theorem mm_Cl_2 : mm_Cl 2 RX2 TX2 7 := ⟨rfl, by decide, rfl, ⟨tyX2, tyX2_ok⟩, nmX2, mm_uws (by decide +kernel)⟩
set_option maxRecDepth 100000 in
theorem mm_Cl_3 : mm_Cl 3 RX3 TX3 5 := ⟨rfl, by decide, rfl, ⟨tyX3, tyX3_ok⟩, nmX3, mm_uws (by decide +kernel)⟩
set_option maxRecDepth 100000 in
theorem mm_Cl_4 : mm_Cl 4 RX4 TX4 16 := ⟨rfl, by decide, rfl, ⟨tyX4, tyX4_ok⟩, nmX4, mm_uws (by decide +kernel)⟩
set_option maxRecDepth 100000 in
theorem mm_Cl_5 : mm_Cl 5 RX5 TX5 3 := ⟨rfl, by decide, rfl, ⟨tyX5, tyX5_ok⟩, nmX5, mm_uws (by decide +kernel)⟩
set_option maxRecDepth 100000 in
theorem mm_Cl_6 : mm_Cl 6 RX6 TX6 2 := ⟨rfl, by decide, rfl, ⟨tyX6, tyX6_ok⟩, nmX6, mm_uws (by decide +kernel)⟩
set_option maxRecDepth 100000 in
theorem mm_Cl_7 : mm_Cl 7 RX7 TX7 3 := ⟨rfl, by decide, rfl, ⟨tyX7, tyX7_ok⟩, nmX7, mm_uws (by decide +kernel)⟩
set_option maxRecDepth 100000 in
theorem mm_Cl_8 : mm_Cl 8 RX8 TX8 14 := ⟨rfl, by decide, rfl, ⟨tyX8, tyX8_ok⟩, nmX8, mm_uws (by decide +kernel)⟩
set_option maxRecDepth 100000 in
theorem mm_Cl_9 : mm_Cl 9 RX9 TX9 59 := ⟨rfl, by decide, rfl, ⟨tyX9, tyX9_ok⟩, nmX9, mm_uws (by decide +kernel)⟩
theorem mm_Cl_all : ∀ c, c < 10 → ∃ C T N, mm_Cl c C T N := by
  intro c hc
  match c, hc with
  | 0, _ => exact ⟨_, _, _, mm_Cl_0⟩
  | 1, _ => exact ⟨_, _, _, mm_Cl_1⟩
  | 2, _ => exact ⟨_, _, _, mm_Cl_2⟩
  | 3, _ => exact ⟨_, _, _, mm_Cl_3⟩
  | 4, _ => exact ⟨_, _, _, mm_Cl_4⟩
  | 5, _ => exact ⟨_, _, _, mm_Cl_5⟩
  | 6, _ => exact ⟨_, _, _, mm_Cl_6⟩
  | 7, _ => exact ⟨_, _, _, mm_Cl_7⟩
  | 8, _ => exact ⟨_, _, _, mm_Cl_8⟩
  | 9, _ => exact ⟨_, _, _, mm_Cl_9⟩
  | n + 10, h => omega
def mm_stt : List (String × String × Nat) := [(RX8, "ABOVE", 1000), (RX8, "LEAST_TERM", 1001), (RX8, "MOST_TERM", 1002), (RX3, "BODIES", 1003)]
def mm_nst : List Cond := [.fieldLinkNest RX5 140 RX8 "LEAST_TERM" "[I" RX8,
  .fieldLinkNest RX5 143 RX8 "MOST_TERM" "[I" RX8,
  .fieldLinkNest RX3 45 RX8 "ABOVE" "[I" RX8,
  .methodLinkNest RX1 31 yX0_init RX8,
  .methodLinkNest RX1 32 yX6_init RX8,
  .methodLinkNest RX8 30 yX4_init RX8,
  .methodLinkNest RX4 11 yX0_init RX8,
  .methodLinkNest RX8 41 yX5_init RX8,
  .methodLinkNest RX8 48 yX2_init RX8,
  .methodLinkNest RX8 55 yX3_init RX8,
  .methodLinkNest RX8 74 yX7_init RX8,
  .methodLinkNest RX4 90 yX8_isUnder RX8,
  .methodLinkNest RX1 67 yX8_isTerm RX8,
  .methodLinkNest RX5 137 yX8_isTerm RX8,
  .methodLinkNest RX3 38 yX8_isKind RX8]
def mm_srs : List (Nat × String) := [(123, "child"), (125, "sack"), (126, "wears"), (128, "ahead"), (129, "way"), (131, "up"), (133, "rope"), (135, "wind")]
def mm_syl : List Nat := [5, 4, 5, 5, 3, 2, 4, 4]
def mm_ss : List (List Int32) := [[99, 104, 105, 108, 100], [115, 97, 99, 107], [119, 101, 97, 114, 115], [97, 104, 101, 97, 100], [119, 97, 121], [117, 112], [114, 111, 112, 101], [119, 105, 110, 100]]
end
section
/-- the texts -/
def mm_Ks (ad : Nat → Nat) (A : Nat → Prop) (U : State) (H : Heap) : Prop :=
  vk_S 8 mm_syl mm_ss (fun i => ad (1100 + i)) (fun i => ad (1200 + i)) A U H ∧ (∀ i q, mm_srs[i]? = some q → vk_R RX5 q.1 q.2 (ad (1100 + i)) U) ∧ va_Z "java/lang/String" "COMPACT_STRINGS" "Z" (.int 1) A U H ∧ va_Zq "jdk/internal/util/Preconditions" "SIOOBE_FORMATTER" "Ljava/util/function/BiFunction;" A U H
/-- the constants -/
def mm_Kc (cs : mm_Cs) (ad : Nat → Nat) (A : Nat → Prop) (U : State) (H : Heap) : Prop :=
  (∀ q ∈ mm_stt, va_Z q.1 q.2.1 "[I" (.ref (ad q.2.2)) A U H) ∧ (∀ k n f, cs k = some (n, f) → va_T .int (ad k) n (fun j => .int (f j)) A U H) ∧ (∀ w ∈ mm_nst, va_Nw w U) ∧ (∀ c ∈ ([0, 4, 6, 7] : List Nat), va_AO (mm_RN c) U) ∧ mm_Ks ad A U H
def mm_Fx (p : Program) (s : State) (m : MethodId) (args : Array Value) (meth : Method) (c : Code) (own : Nat) (b : ByteArray) (nL : Nat) (rt : Option FieldType) (ini : Bool) : Prop :=
  p.tables.exec = Jvm.exec ∧ c.code = b ∧ c.maxLocals = nL ∧ s.vm.findClass (mm_RN own) = some m.cls ∧ (∀ w ∈ mm_MW, w.before args s = true) ∧ meth.locks = false ∧ meth.sig.returnType = rt ∧ (ini = true → meth.name = "<init>")
theorem mm_cel_o {ad : Nat → Nat} {cA : ClassId} {c n : Nat} {Rr : Nat → Option Nat} {Ir : Nat → Int32} {Lr : Nat → Int64} (h : c < 10) : mm_cel ad cA (c, n) Rr Ir Lr = .inr (c, (List.range (mm_fn c)).map (fun j => if mm_ft c j = 2 then va_rf ((Rr j).map ad) else .int (Ir j))) := by
  unfold mm_cel
  rw [if_pos (show c < 100 by omega)]
theorem mm_cel_i {ad : Nat → Nat} {cA : ClassId} {n : Nat} {Rr : Nat → Option Nat} {Ir : Nat → Int32} {Lr : Nat → Int64} : mm_cel ad cA (100, n) Rr Ir Lr = .inl (cA, n, .inl Ir) := rfl
theorem mm_cel_l {ad : Nat → Nat} {cA : ClassId} {n : Nat} {Rr : Nat → Option Nat} {Ir : Nat → Int32} {Lr : Nat → Int64} : mm_cel ad cA (101, n) Rr Ir Lr = .inl (cA, n, .inr (.inl Lr)) := rfl
theorem mm_cel_r {ad : Nat → Nat} {cA : ClassId} {t n : Nat} {Rr : Nat → Option Nat} {Ir : Nat → Int32} {Lr : Nat → Int64} (h : 102 ≤ t) : mm_cel ad cA (t, n) Rr Ir Lr = .inl (cA, n, .inr (.inr (.inr (.inr (fun j => (Rr j).map ad))))) := by
  unfold mm_cel
  rw [if_neg (show ¬ t < 100 by omega), if_neg (show ¬ t = 100 by omega), if_neg (show ¬ t = 101 by omega)]
theorem mm_in_of {x : Int32} {n : Nat} (h : mm_in x n = true) : vp_in x n := by
  unfold mm_in at h
  simp only [Bool.and_eq_true, Bool.not_eq_true', decide_eq_false_iff_not, decide_eq_true_eq] at h
  exact fun z => z.elim (fun a => h.1 a) (fun a => by omega)
theorem mm_rf_map (ad : Nat → Nat) (o : Option Nat) : mm_v ad (va_rf o) = va_rf (o.map ad) := by cases o <;> rfl
theorem mm_ty_r {t : Nat} (h : 102 ≤ t) : mm_ty t = .object (mm_RN (t - 102)) := by
  unfold mm_ty
  rw [if_neg (show ¬ t = 100 by omega), if_neg (show ¬ t = 101 by omega)]
def mm_ckS (own : Nat) (e : Nat × Nat × Nat) : Bool := mm_stt.any (fun q => decide (q.2.2 = e.2.1) && (if e.2.2 = 0 then mm_wk (.fieldLink (mm_RN own) e.1 q.1 q.2.1 "[I") else decide (Cond.fieldLinkNest (mm_RN own) e.1 q.1 q.2.1 "[I" RX8 ∈ mm_nst)))
set_option maxRecDepth 100000 in
theorem mm_ckS_0 : ∀ own, own < 11 → (mm_sl own).all (mm_ckS own) = true := by decide +kernel
theorem mm_sl_big {own : Nat} (h : 11 ≤ own) : mm_sl own = [] := by
  obtain ⟨k, rfl⟩ : ∃ k, own = k + 11 := ⟨own - 11, by omega⟩
  rfl
set_option maxRecDepth 100000 in
theorem mm_ckN_0 : ∀ own, own < 11 → (mm_cn own).all (fun e => mm_wk (.constant (mm_RN own) e.1 e.2)) = true := by decide +kernel
theorem mm_cn_big {own : Nat} (h : 11 ≤ own) : mm_cn own = [] := by
  obtain ⟨k, rfl⟩ : ∃ k, own = k + 11 := ⟨own - 11, by omega⟩
  rfl
set_option maxRecDepth 100000 in
theorem mm_con_ck {own idx : Nat} {v : Int32} (hv : mm_con own idx = some v) : mm_wk (.constant (mm_RN own) idx v) = true := by
  have h1 : (idx, v) ∈ mm_cn own := mm_find hv
  by_cases z : own < 11
  · have h2 := List.all_eq_true.mp (mm_ckN_0 own z) (idx, v) h1
    exact h2
  · rw [mm_cn_big (by omega)] at h1; cases h1
theorem mm_ldc2_ok : Cond.constantLong RL 18 4294967295 ∈ mm_MW := mm_wk_in (by decide +kernel)
section MMR
variable {p : Program} {l : Launch} {e : Env} {R : Room} {s : State} {m : MethodId} {args : Array Value} {below : List Frame} {meth : Method} {c : Code} {H : Heap} {locs : List Loc} {cells slots : Nat} {Q : State → Prop}
variable {cc : ByteArray} {pc : Nat} {la : Array Slot} {nL : Nat} {D : va_G} {ad : Nat → Nat} {dA : Nat → ClassId} {M : mm_M} {A : Nat → Prop} {cs : mm_Cs} {own : Nat} {rt : Option FieldType} {ini : Bool}
set_option maxHeartbeats 1000000 in
theorem mm_rd_W (F : mm_Fx p s m args meth c own cc nL rt ini) (hH : mm_H D ad dA M A s H) (hK : mm_Kc cs ad A s s.heap) (hS : va_S A s.heap H locs) {i : Instr} {st st' : List Value} (h : mm_rd cs own i st M = some st') (hd : decode cc pc = .ok (i, mm_ln i))
    (k : W p l e R s m args below meth c H locs cells slots Q (F0 m (pc + mm_ln i) la (st'.map (mm_v ad)))) : W p l e R s m args below meth c H locs cells slots Q (F0 m pc la (st.map (mm_v ad))) := by
  obtain ⟨hx, hb, hml, hown, hts, -, -, -⟩ := F
  obtain ⟨hP, hD, ⟨tys, hKt, hty⟩, hR, -⟩ := hH
  unfold mm_rd at h
  cases i
  case getfield idx =>
    dsimp only at h
    split at h
    · rename_i a r
      split at h
      · rename_i cj c0 j hf
        split at h
        · rename_i hk
          cases h
          have ck := mm_fld_ck hf
          unfold mm_ckF at ck
          dsimp only at ck
          split at ck
          · rename_i q hq
            simp only [Bool.and_eq_true, decide_eq_true_eq] at ck
            obtain ⟨⟨⟨⟨⟨k1, k2⟩, k3⟩, k4⟩, k5⟩, k6⟩ := ck
            obtain ⟨C, T, N, e1, e2, e3, -, -, e4⟩ := mm_Cl_all c0 k2
            cases hq.symm.trans e1
            have hc := mm_ws_get (ad := ad) (dA := dA) hk
            rw [mm_cel_o k2] at hc
            have hj : j < N := k1
            refine va_get (ref := (T j).1) (C := C) (T := T) (N := N) hx hb hts e4 hown hKt hP a hc e1 j hj (hts _ (mm_wk_in k3)) (fun _ z => z) (v := mm_v ad (mm_ga M a j (mm_ft c0 j))) ?_ hd k
            rw [List.getElem?_map, List.getElem?_range (by rw [← e2]; exact hj)]
            show some (if mm_ft c0 j = 2 then va_rf ((M.2.1 a j).map ad) else Value.int (M.2.2.1 a j)) = some (mm_v ad (if mm_ft c0 j = 2 then va_rf (M.2.1 a j) else .int (M.2.2.1 a j)))
            congr 1
            split
            · rw [mm_rf_map]
            · rfl
          · cases ck
        · cases h
      · cases h
    · cases h
  case getstatic idx =>
    dsimp only at h
    split at h
    · rename_i a f hf
      cases h
      have h1 : (idx, a, f) ∈ mm_sl own := mm_find hf
      have h2 : mm_ckS own (idx, a, f) = true := by
        by_cases z : own < 11
        · exact List.all_eq_true.mp (mm_ckS_0 own z) _ h1
        · rw [mm_sl_big (by omega)] at h1; cases h1
      unfold mm_ckS at h2
      obtain ⟨q, hq, hz⟩ := List.any_eq_true.mp h2
      rw [Bool.and_eq_true] at hz
      have ha : q.2.2 = a := of_decide_eq_true hz.1
      have hZ := hK.1 q hq
      rw [ha] at hZ
      by_cases h0 : f = 0
      · have hw := hz.2
        rw [if_pos h0] at hw
        exact va_gets hx hb hZ hS hown (hts _ (mm_wk_in hw)) (fun _ z => z) hd k
      · have hw := hz.2
        rw [if_neg h0] at hw
        exact va_getsN hx hb hZ hS hown (va_Nw.use rfl (hK.2.2.1 _ (of_decide_eq_true hw))) (fun _ z => z) hd k
    · cases h
  case ldc idx =>
    dsimp only at h
    split at h
    · rename_i v hv
      cases h
      have h2 := mm_con_ck hv
      exact lv_ldc hx hb hown (hts _ (mm_wk_in h2)) hd k
    · split at h
      · rename_i a ha
        cases h
        have h1 : (idx, a) ∈ mm_tl own := mm_find ha
        unfold mm_tl at h1
        by_cases z : own = 5
        · rw [if_pos z] at h1
          subst z
          have h2 : ∃ i q, mm_srs[i]? = some q ∧ q.1 = idx ∧ 1100 + i = a := by
            simp only [List.mem_cons, List.not_mem_nil, or_false, Prod.mk.injEq] at h1
            rcases h1 with ⟨rfl, rfl⟩ | ⟨rfl, rfl⟩ | ⟨rfl, rfl⟩ | ⟨rfl, rfl⟩ | ⟨rfl, rfl⟩ | ⟨rfl, rfl⟩ | ⟨rfl, rfl⟩ | ⟨rfl, rfl⟩
            · exact ⟨0, _, rfl, rfl, rfl⟩
            · exact ⟨1, _, rfl, rfl, rfl⟩
            · exact ⟨2, _, rfl, rfl, rfl⟩
            · exact ⟨3, _, rfl, rfl, rfl⟩
            · exact ⟨4, _, rfl, rfl, rfl⟩
            · exact ⟨5, _, rfl, rfl, rfl⟩
            · exact ⟨6, _, rfl, rfl, rfl⟩
            · exact ⟨7, _, rfl, rfl, rfl⟩
          obtain ⟨i, q, g1, g2, g3⟩ := h2
          have hZ := hK.2.2.2.2.2.1 i q g1
          rw [g2, g3] at hZ
          exact va_ldcS hx hb hown hZ hd k
        · rw [if_neg z] at h1; cases h1
      · cases h
  case ldc_w idx =>
    dsimp only at h
    split at h
    · rename_i v hv
      cases h
      have h2 := mm_con_ck hv
      exact lv_ldcw hx hb hown (hts _ (mm_wk_in h2)) hd k
    · cases h
  case ldc2_w idx =>
    dsimp only at h
    split at h
    · rename_i hz
      obtain ⟨rfl, rfl⟩ := hz
      cases h
      exact lv_ldc2 hx hb hown (hts _ mm_ldc2_ok) hd k
    · cases h
  case arraylength =>
    dsimp only at h
    split at h
    · rename_i a r
      split at h
      · rename_i n f hc
        cases h
        exact va_tlen hx hb (hK.2.1 a n f hc) hS rfl hd k
      · split at h
        · rename_i t n hk
          split at h
          · rename_i ht
            cases h
            obtain ⟨t0, h0⟩ := hty a t n hk ht
            have hc := mm_ws_get (ad := ad) (dA := dA) hk
            have hc2 : mm_cel ad (dA a) (t, n) (M.2.1 a) (M.2.2.1 a) (M.2.2.2 a) = .inl (dA a, n, if t = 100 then .inl (M.2.2.1 a) else if t = 101 then .inr (.inl (M.2.2.2 a)) else .inr (.inr (.inr (.inr (fun j => (M.2.1 a j).map ad))))) := by
              unfold mm_cel
              rw [if_neg (show ¬ t < 100 by omega)]
            rw [hc2] at hc
            exact va_alen hx hb hKt hP a t0 hc h0 rfl hd k
          · cases h
        · cases h
    · cases h
  case iaload =>
    dsimp only at h
    split at h
    · rename_i x a r
      split at h
      · rename_i n f hc
        split at h
        · rename_i hi
          cases h
          exact va_ti hx hb (hK.2.1 a n f hc) hS (mm_in_of hi) rfl hd k
        · cases h
      · split at h
        · rename_i t n hk
          split at h
          · rename_i hi
            obtain ⟨rfl, hi⟩ := hi
            cases h
            obtain ⟨t0, h0⟩ := hty a _ n hk (Nat.le_refl _)
            have hc := mm_ws_get (ad := ad) (dA := dA) hk
            exact va_iald hx hb hKt hP a t0 hc h0 (mm_in_of hi) hd k
          · cases h
        · cases h
    · cases h
  case laload =>
    dsimp only at h
    split at h
    · rename_i x a r
      split at h
      · rename_i t n hk
        split at h
        · rename_i hi
          obtain ⟨rfl, hi⟩ := hi
          cases h
          obtain ⟨t0, h0⟩ := hty a _ n hk (by omega)
          have hc := mm_ws_get (ad := ad) (dA := dA) hk
          exact va_lald hx hb hKt hP a t0 hc h0 (mm_in_of hi) hd k
        · cases h
      · cases h
    · cases h
  case aaload =>
    dsimp only at h
    split at h
    · rename_i x a r
      split at h
      · rename_i t n hk
        split at h
        · rename_i hi
          obtain ⟨ht, hi⟩ := hi
          cases h
          obtain ⟨t0, h0⟩ := hty a _ n hk (by omega)
          have hc := mm_ws_get (ad := ad) (dA := dA) hk
          rw [mm_cel_r ht] at hc
          rw [mm_ty_r ht] at h0
          rw [List.map_cons, mm_rf_map] at k
          exact va_aldq hx hb hKt hP a t0 hc h0 (mm_in_of hi) hd k
        · cases h
      · cases h
    · cases h
  all_goals cases h
end MMR
end
section
/-! THE LITTLE MACHINE IS SOUND: writing -/
theorem mm_set_map {n j : Nat} {f g : Nat → Value} {v : Value} (hv : g j = v) (ho : ∀ i, i ≠ j → g i = f i) : ((List.range n).map f).set j v = (List.range n).map g := by
  apply List.ext_getElem?
  intro i
  rw [List.getElem?_set, List.getElem?_map, List.getElem?_map]
  simp only [List.length_map, List.length_range]
  by_cases hi : j = i
  · subst hi
    by_cases hn : j < n
    · simp [hn, hv]
    · simp [hn]
  · rw [if_neg hi]
    by_cases hn : i < n
    · simp [List.getElem?_range hn, ho i (fun z => hi z.symm)]
    · simp [hn]
theorem mm_u_same {α : Type} {f : Nat → Nat → α} {k j : Nat} {v : α} : mm_u f k j v k = fun b => if b = j then v else f k b := by
  funext b
  simp [mm_u]
theorem mm_u_other {α : Type} {f : Nat → Nat → α} {k j i : Nat} {v : α} (h : i ≠ k) : mm_u f k j v i = f i := by
  funext b
  simp [mm_u, h]
theorem mm_H.put {D : va_G} {ad : Nat → Nat} {dA : Nat → ClassId} {M M' : mm_M} {A : Nat → Prop} {s : State} {H H1 : Heap} {k : Nat} {q : Nat × Nat} {e : va_E} (h : mm_H D ad dA M A s H) (hk : M.1[k]? = some q) (hs : M'.1 = M.1) (ho : ∀ i, i ≠ k → M'.2.1 i = M.2.1 i ∧ M'.2.2.1 i = M.2.2.1 i ∧ M'.2.2.2 i = M.2.2.2 i)
    (hR : ∀ j a, M'.2.1 k j = some a → a < M.1.length) (he : e = mm_cel ad (dA k) q (M'.2.1 k) (M'.2.2.1 k) (M'.2.2.2 k)) (hP : va_P D vwCl ((mm_ws ad dA M).set k (ad k, e)) H1) (hD : va_D A ((mm_ws ad dA M).set k (ad k, e))) : mm_H D ad dA M' A s H1 := by
  obtain ⟨-, -, ⟨tys, hKt, hty⟩, hR0, h9⟩ := h
  have hw := mm_ws_set (ad := ad) (dA := dA) hk hs ho he
  rw [hw] at hP hD
  refine ⟨hP, hD, ⟨tys, hKt, by rw [hs]; exact hty⟩, fun i j a hr => ?_, by rw [hs]; exact h9⟩
  rw [hs]
  by_cases hi : i = k
  · subst hi; exact hR j a hr
  · rw [(ho i hi).1] at hr; exact hR0 i j a hr
theorem mm_ckT_i {o : Option FieldType} (h : mm_ckT 0 o = true) : o = some .int := by
  unfold mm_ckT at h
  split at h <;> first | rfl | cases h
theorem mm_ckT_b {o : Option FieldType} (h : mm_ckT 1 o = true) : o = some .boolean := by
  unfold mm_ckT at h
  split at h <;> first | rfl | cases h
theorem mm_ckT_r {o : Option FieldType} (h : mm_ckT 2 o = true) : (∃ n, o = some (.object n)) ∨ ∃ t, o = some (.array t) := by
  unfold mm_ckT at h
  split at h <;> first | exact Or.inl ⟨_, rfl⟩ | exact Or.inr ⟨_, rfl⟩ | cases h
/-- what is written into a field: of the field's type, and how the cell looks then -/
theorem mm_pf_inv {M M' : mm_M} {k j t c : Nat} {v : Value} {ad : Nat → Nat} (ht : t = mm_ft c j) (h : mm_pf M k j t v = some M') {o : Option FieldType} (hc : mm_ckT t o = true) :
    M'.1 = M.1 ∧ (∀ i, i ≠ k → M'.2.1 i = M.2.1 i ∧ M'.2.2.1 i = M.2.2.1 i ∧ M'.2.2.2 i = M.2.2.2 i) ∧ (∃ ty, o = some ty ∧ narrow ty (mm_v ad v) = mm_v ad v ∧ fits ty (mm_v ad v) = true) ∧ ((∀ j' a, M.2.1 k j' = some a → a < M.1.length) → ∀ j' a, M'.2.1 k j' = some a → a < M.1.length) ∧
    ∀ n, ((List.range n).map (fun j => if mm_ft c j = 2 then va_rf ((M.2.1 k j).map ad) else .int (M.2.2.1 k j))).set j (mm_v ad v) = (List.range n).map (fun j => if mm_ft c j = 2 then va_rf ((M'.2.1 k j).map ad) else .int (M'.2.2.1 k j)) := by
  unfold mm_pf at h
  split at h
  · rename_i x
    split at h
    · rename_i hx
      cases h
      have ht2 : ¬ mm_ft c j = 2 := by rcases hx with h | ⟨h, -⟩ <;> omega
      refine ⟨rfl, fun i hi => ⟨rfl, mm_u_other hi, rfl⟩, ?_, fun z => z, fun n => mm_set_map ?_ (fun i hi => ?_)⟩
      · rcases hx with h0 | ⟨h0, h1⟩
        · subst h0
          exact ⟨_, mm_ckT_i hc, rfl, rfl⟩
        · subst h0
          refine ⟨_, mm_ckT_b hc, ?_, ?_⟩
          · rcases h1 with rfl | rfl <;> rfl
          · rcases h1 with rfl | rfl <;> rfl
      · rw [if_neg ht2]
        simp [mm_u_same, mm_v]
      · simp [mm_u_same, hi]
    · cases h
  · rename_i a
    split at h
    · rename_i hx
      cases h
      obtain ⟨h0, h1⟩ := hx
      have ht2 : mm_ft c j = 2 := by omega
      refine ⟨rfl, fun i hi => ⟨mm_u_other hi, rfl, rfl⟩, ?_, fun z j' a' hr => ?_, fun n => mm_set_map ?_ (fun i hi => ?_)⟩
      · subst h0
        rcases mm_ckT_r hc with ⟨n, rfl⟩ | ⟨n, rfl⟩
        · exact ⟨_, rfl, rfl, rfl⟩
        · exact ⟨_, rfl, rfl, rfl⟩
      · simp only [mm_u_same] at hr
        split at hr
        · cases hr
          exact of_decide_eq_true h1
        · exact z j' a' hr
      · rw [if_pos ht2]
        simp [mm_u_same, mm_v, va_rf]
      · simp [mm_u_same, hi]
    · cases h
  · cases h
section MMW
variable {p : Program} {l : Launch} {e : Env} {R : Room} {s : State} {m : MethodId} {args : Array Value} {below : List Frame} {meth : Method} {c : Code} {H : Heap} {locs : List Loc} {cells slots : Nat} {Q : State → Prop}
variable {cc : ByteArray} {pc : Nat} {la : Array Slot} {nL : Nat} {D : va_G} {ad : Nat → Nat} {dA : Nat → ClassId} {M : mm_M} {A : Nat → Prop} {cs : mm_Cs} {own : Nat} {rt : Option FieldType} {ini : Bool}
set_option maxHeartbeats 1000000 in
theorem mm_wr_W (F : mm_Fx p s m args meth c own cc nL rt ini) (hH : mm_H D ad dA M A s H) (hS : va_S A s.heap H locs) {i : Instr} {st : List Value} {q : List Value × mm_M} (h : mm_wr ini own i st M = some q) (hd : decode cc pc = .ok (i, mm_ln i))
    (k : ∀ (H1 : Heap) (locs1 : List Loc), mm_H D ad dA q.2 A s H1 → va_S A s.heap H1 locs1 → W p l e R s m args below meth c H1 locs1 cells slots Q (F0 m (pc + mm_ln i) la (q.1.map (mm_v ad)))) : q.2.1 = M.1 ∧ W p l e R s m args below meth c H locs cells slots Q (F0 m pc la (st.map (mm_v ad))) := by
  obtain ⟨hx, hb, hml, hown, hts, -, -, hini⟩ := F
  have hH0 := hH
  obtain ⟨hP, hD, ⟨tys, hKt, hty⟩, hR, -⟩ := hH
  unfold mm_wr at h
  cases i
  case putfield idx =>
    dsimp only at h
    split at h
    · rename_i v a r
      split at h
      · rename_i c0 j hf
        split at h
        · rename_i hk
          obtain ⟨hk, hfin⟩ := hk
          split at h
          · rename_i M' hM
            cases h
            have ck := mm_fld_ck hf
            unfold mm_ckF at ck
            dsimp only at ck
            split at ck
            · rename_i q hq
              simp only [Bool.and_eq_true, decide_eq_true_eq] at ck
              obtain ⟨⟨⟨⟨⟨k1, k2⟩, k3⟩, k4⟩, k5⟩, k6⟩ := ck
              obtain ⟨C, T, N, e1, e2, e3, ⟨ty0, e4⟩, e5, e6⟩ := mm_Cl_all c0 k2
              cases hq.symm.trans e1
              have hc := mm_ws_get (ad := ad) (dA := dA) hk
              rw [mm_cel_o k2] at hc
              have hj : j < N := k1
              obtain ⟨g1, g2, ⟨ty, g3, g4, g5⟩, g6, g7⟩ := mm_pf_inv (ad := ad) rfl hM k5
              have hl : j < ((List.range (mm_fn c0)).map (fun j => if mm_ft c0 j = 2 then va_rf ((M.2.1 a j).map ad) else Value.int (M.2.2.1 a j))).length := by
                rw [List.length_map, List.length_range, ← e2]; exact hj
              have fin : ∀ (H1 : Heap) (locs1 : List Loc), va_P D vwCl ((mm_ws ad dA M).set a (ad a, .inr (c0, ((List.range (mm_fn c0)).map (fun j => if mm_ft c0 j = 2 then va_rf ((M.2.1 a j).map ad) else Value.int (M.2.2.1 a j))).set j (mm_v ad v)))) H1 → va_D A ((mm_ws ad dA M).set a (ad a, .inr (c0, ((List.range (mm_fn c0)).map (fun j => if mm_ft c0 j = 2 then va_rf ((M.2.1 a j).map ad) else Value.int (M.2.2.1 a j))).set j (mm_v ad v)))) → va_S A s.heap H1 locs1 → W p l e R s m args below meth c H1 locs1 cells slots Q (F0 m (pc + 3) la (r.map (mm_v ad))) := by
                intro H1 locs1 hP1 hD1 hS1
                refine k H1 locs1 (hH0.put hk g1 g2 (g6 (hR a)) ?_ hP1 hD1) hS1
                rw [mm_cel_o k2, g7]
              refine ⟨g1, ?_⟩
              by_cases hf0 : mm_fi c0 j = false
              · exact va_put (ref := (T j).1) (C := C) (T := T) (N := N) hx hb hts e6 ty0 e4 e5 hown hKt hP hD hS a hc e1 j hj (hts _ (mm_wk_in k3)) (fun _ z => z) (k4.trans hf0) g3 g4 g5 hl hd fin
              · rcases hfin with z | ⟨z1, z2⟩
                · exact absurd z hf0
                · subst z2
                  exact va_putF (ref := (T j).1) (C := C) (T := T) (N := N) hx hb hts e6 ty0 e4 e5 hown hKt hP hD hS a hc e1 j hj (hts _ (mm_wk_in k3)) (fun _ z => z) (k4.trans (by simpa using hf0)) (hini z1) k6 g3 g4 g5 hl hd fin
            · cases ck
          · cases h
        · cases h
      · cases h
    · cases h
  case iastore =>
    dsimp only at h
    split at h
    · rename_i y x a r
      split at h
      · rename_i t n hk
        split at h
        · rename_i hi
          obtain ⟨rfl, hi⟩ := hi
          cases h
          obtain ⟨t0, h0⟩ := hty a _ n hk (Nat.le_refl _)
          have hc := mm_ws_get (ad := ad) (dA := dA) hk
          refine ⟨rfl, va_iast hx hb hKt hP hD hS a t0 hc h0 (mm_in_of hi) hd (fun H1 locs1 hP1 hD1 hS1 => k H1 locs1 (hH0.put hk rfl (fun i hi => ⟨rfl, mm_u_other hi, rfl⟩) (hR a) ?_ hP1 hD1) hS1)⟩
          rw [mm_cel_i]
          show Sum.inl (dA a, n, Sum.inl (upd _ _ _)) = Sum.inl (dA a, n, Sum.inl (mm_u _ _ _ _ _))
          rw [mm_u_same]
          rfl
        · cases h
      · cases h
    · cases h
  case lastore =>
    dsimp only at h
    split at h
    · rename_i y x a r
      split at h
      · rename_i t n hk
        split at h
        · rename_i hi
          obtain ⟨rfl, hi⟩ := hi
          cases h
          obtain ⟨t0, h0⟩ := hty a _ n hk (by omega)
          have hc := mm_ws_get (ad := ad) (dA := dA) hk
          refine ⟨rfl, va_last hx hb hKt hP hD hS a t0 hc h0 (mm_in_of hi) hd (fun H1 locs1 hP1 hD1 hS1 => k H1 locs1 (hH0.put hk rfl (fun i hi => ⟨rfl, rfl, mm_u_other hi⟩) (hR a) ?_ hP1 hD1) hS1)⟩
          rw [mm_cel_l]
          show Sum.inl (dA a, n, Sum.inr (Sum.inl (vp_updL _ _ _))) = Sum.inl (dA a, n, Sum.inr (Sum.inl (mm_u _ _ _ _ _)))
          rw [mm_u_same]
          rfl
        · cases h
      · cases h
    · cases h
  case aastore =>
    dsimp only at h
    split at h
    · rename_i y x a r
      split at h
      · rename_i t n hk
        split at h
        · rename_i c1 n1 hk1
          split at h
          · rename_i hi
            obtain ⟨rfl, h10, hi⟩ := hi
            cases h
            obtain ⟨t0, h0⟩ := hty a _ n hk (by omega)
            have hc := mm_ws_get (ad := ad) (dA := dA) hk
            have hc1 := mm_ws_get (ad := ad) (dA := dA) hk1
            rw [mm_cel_r (by omega)] at hc
            rw [mm_cel_o h10] at hc1
            rw [mm_ty_r (by omega), Nat.add_sub_cancel_left] at h0
            obtain ⟨C, T, N, e1, e2, e3, -, -, -⟩ := mm_Cl_all c1 h10
            rw [← e3] at h0
            refine ⟨rfl, va_astq (r := (C, T, N)) hx hb hKt hP hD hS a t0 y c1 hc h0 hc1 e1 (mm_in_of hi) hd (fun H1 locs1 hP1 hD1 hS1 => k H1 locs1 (hH0.put hk rfl (fun i hi => ⟨mm_u_other hi, rfl, rfl⟩) (fun j' a' hr => ?_) ?_ hP1 hD1) hS1)⟩
            · simp only [mm_u_same] at hr
              split at hr
              · cases hr
                exact (List.getElem?_eq_some_iff.mp hk1).1
              · exact hR a j' a' hr
            · rw [mm_cel_r (by omega)]
              congr 2
              congr 1
              congr 1
              congr 1
              congr 1
              congr 1
              funext b
              simp only [mm_u_same, va_up]
              split <;> rfl
          · cases h
        · cases h
      · cases h
    · cases h
  all_goals cases h
end MMW
end
section
/-! THE LITTLE MACHINE IS SOUND: making -/
def mm_ckL (own : Nat) (e : Nat × Nat) : Bool := match vwCl[e.2]? with
  | some q => mm_wk (.classLink (mm_RN own) e.1 q.1) && mm_wk (.instantiable q.1 q.2.2) && mm_wk (.initialized q.1) && decide (e.2 < 10)
  | none => false
set_option maxRecDepth 100000 in
theorem mm_ckL_0 : ∀ own, own < 11 → (mm_cl own).all (mm_ckL own) = true := by decide +kernel
theorem mm_cl_big {own : Nat} (h : 11 ≤ own) : mm_cl own = [] := by
  obtain ⟨k, rfl⟩ : ∃ k, own = k + 11 := ⟨own - 11, by omega⟩
  rfl
theorem mm_cls_ck {own idx r : Nat} (h : mm_cls own idx = some r) : mm_ckL own (idx, r) = true := by
  have h1 : (idx, r) ∈ mm_cl own := mm_find h
  by_cases z : own < 11
  · exact List.all_eq_true.mp (mm_ckL_0 own z) _ h1
  · rw [mm_cl_big (by omega)] at h1; cases h1
def mm_ckY (c : Nat) : Bool := match vwCl[c]? with
  | some q => (List.range q.2.2).all (fun j => mm_ckT (mm_ft c j) (parseFieldDescriptor (q.2.1 j).2.2.1))
  | none => false
set_option maxRecDepth 100000 in
theorem mm_ckY_all : ∀ c, c < 10 → mm_ckY c = true := by decide +kernel
theorem mm_acI : Cond.arrayClass .int ∈ mm_MW := mm_wk_in (by decide +kernel)
theorem mm_acL : Cond.arrayClass .long ∈ mm_MW := mm_wk_in (by decide +kernel)
def mm_sz (q : Nat × Nat) : Nat := if q.1 < 100 then mm_fn q.1 else q.2
def mm_S (l : List (Nat × Nat)) : Nat := (l.map mm_sz).sum
theorem mm_S_push (l : List (Nat × Nat)) (q : Nat × Nat) : mm_S (l ++ [q]) = mm_S l + mm_sz q := by simp [mm_S]
theorem mm_vo_ad {ad : Nat → Nat} {n q : Nat} {v : Value} (hn : n < 900) (h : mm_vo n v = true) : mm_v (mm_ad ad n q) v = mm_v ad v := by
  cases v with
  | ref a =>
    have h1 : a < n ∨ 1000 ≤ a := of_decide_eq_true h
    show Value.ref _ = Value.ref _
    unfold mm_ad
    have h2 : ¬ a = n := by
      intro z
      rcases h1 with y | y
      · exact absurd y (by rw [z]; exact Nat.lt_irrefl n)
      · rw [z] at y
        exact absurd hn (Nat.not_lt.mpr (Nat.le_trans (by decide) y))
    rw [if_neg h2]
  | _ => rfl
theorem mm_st_ad {ad : Nat → Nat} {n q : Nat} {st : List Value} (hn : n < 900) (h : st.all (mm_vo n) = true) : st.map (mm_v (mm_ad ad n q)) = st.map (mm_v ad) :=
  List.map_congr_left (fun v hv => mm_vo_ad hn (List.all_eq_true.mp h v hv))
theorem mm_lvs_ad {ad : Nat → Nat} {n q : Nat} (hn : n < 900) : ∀ (ls : mm_Ls) (i : Nat), mm_vl n ls = true → mm_lvs (mm_ad ad n q) i ls = mm_lvs ad i ls
  | [], _, _ => rfl
  | none :: t, i, h => by
    unfold mm_vl at h
    rw [List.all_cons, Bool.and_eq_true] at h
    exact mm_lvs_ad hn t (i + 1) h.2
  | some v :: t, i, h => by
    unfold mm_vl at h
    rw [List.all_cons, Bool.and_eq_true] at h
    show (_, _) :: _ = (_, _) :: _
    rw [mm_vo_ad hn h.1, mm_lvs_ad hn t (i + 1) h.2]
theorem mm_L.ad {ad : Nat → Nat} {n q nL : Nat} {la : Array Slot} {ls : mm_Ls} (hn : n < 900) (h : mm_L ad la nL ls) (hv : mm_vl n ls = true) : mm_L (mm_ad ad n q) la nL ls := ⟨by rw [mm_lvs_ad hn ls 0 hv]; exact h.1, h.2⟩
theorem mm_H.push {D : va_G} {ad : Nat → Nat} {dA : Nat → ClassId} {M : mm_M} {A : Nat → Prop} {s : State} {H H1 : Heap} {q : Nat} {cA : ClassId} {sh : Nat × Nat} {e : va_E} (h : mm_H D ad dA M A s H) (hn : M.1.length < 900) (he : e = mm_cel (mm_ad ad M.1.length q) cA sh (fun _ => none) (fun _ => 0) (fun _ => 0))
    (hP : va_P D vwCl (mm_ws ad dA M ++ [(q, e)]) H1) (hD : va_D A (mm_ws ad dA M ++ [(q, e)])) (hK : ∃ tys, va_K D vwCl tys s ∧ (∀ k t n, M.1[k]? = some (t, n) → 100 ≤ t → ∃ t0 : Nat, tys[t0]? = some (dA k, mm_ty t)) ∧ (100 ≤ sh.1 → ∃ t0 : Nat, tys[t0]? = some (cA, mm_ty sh.1))) :
    mm_H D (mm_ad ad M.1.length q) (mm_ad dA M.1.length cA) (mm_nw M sh) A s H1 := by
  obtain ⟨-, -, -, hR0, -⟩ := h
  rw [mm_ws_push hR0 he] at hP hD
  obtain ⟨tys, h1, h2, h3⟩ := hK
  refine ⟨hP, hD, ⟨tys, h1, fun k t n hk ht => ?_⟩, fun k j a hr => ?_, ?_⟩
  · have hk' : (M.1 ++ [sh])[k]? = some (t, n) := hk
    unfold mm_ad
    by_cases hl : k < M.1.length
    · rw [List.getElem?_append_left hl] at hk'
      rw [if_neg (by omega)]
      exact h2 k t n hk' ht
    · have hk2 : k = M.1.length := by
        have := (List.getElem?_eq_some_iff.mp hk').1
        rw [List.length_append] at this
        simp at this
        omega
      subst hk2
      simp at hk'
      subst hk'
      rw [if_pos rfl]
      exact h3 ht
  · have hr' : mm_z M.2.1 M.1.length none k j = some a := hr
    unfold mm_z at hr'
    show a < (M.1 ++ [sh]).length
    rw [List.length_append]
    split at hr'
    · cases hr'
    · have := hR0 k j a hr'
      omega
  · show (M.1 ++ [sh]).length ≤ 900
    rw [List.length_append]
    simp
    omega
section MMA
variable {p : Program} {l : Launch} {e : Env} {R : Room} {s : State} {m : MethodId} {args : Array Value} {below : List Frame} {meth : Method} {c : Code} {H : Heap} {locs : List Loc} {cells slots : Nat} {Q : State → Prop}
variable {cc : ByteArray} {pc : Nat} {la : Array Slot} {nL : Nat} {D : va_G} {ad : Nat → Nat} {dA : Nat → ClassId} {M : mm_M} {A : Nat → Prop} {cs : mm_Cs} {own : Nat} {rt : Option FieldType} {ini : Bool}
set_option maxHeartbeats 1000000 in
theorem mm_al_W (F : mm_Fx p s m args meth c own cc nL rt ini) (hH : mm_H D ad dA M A s H) (hK : mm_Kc cs ad A s s.heap) (hS : va_S A s.heap H locs) (hA : ∀ q, s.heap.size ≤ q → A q) {i : Instr} {ls : mm_Ls} {st : List Value} {q : List Value × mm_M} (h : mm_al own i ls st M = some q) (hd : decode cc pc = .ok (i, mm_ln i)) (hL : mm_L ad la nL ls)
    (hc : cells + (q.2.1.length - M.1.length) ≤ R.cells) (hs : slots + (mm_S q.2.1 - mm_S M.1) ≤ R.slots)
    (k : ∀ (ad1 : Nat → Nat) (dA1 : Nat → ClassId) (H1 : Heap), (∀ k, k ≠ M.1.length → ad1 k = ad k) → mm_H D ad1 dA1 q.2 A s H1 → va_S A s.heap H1 locs → mm_L ad1 la nL ls → W p l e R s m args below meth c H1 locs (cells + (q.2.1.length - M.1.length)) (slots + (mm_S q.2.1 - mm_S M.1)) Q (F0 m (pc + mm_ln i) la (q.1.map (mm_v ad1)))) : M.1.length < 900 ∧ (∃ sh, q.2.1 = M.1 ++ [sh]) ∧ W p l e R s m args below meth c H locs cells slots Q (F0 m pc la (st.map (mm_v ad))) := by
  obtain ⟨hx, hb, hml, hown, hts, -, -, hini⟩ := F
  have hH0 := hH
  obtain ⟨hP, hD, ⟨tys, hKt, hty⟩, hR, -⟩ := hH
  unfold mm_al at h
  split at h
  · rename_i hv
    obtain ⟨hv1, hv2, hn⟩ := hv
    have hnq : ∀ (q : Nat) (k : Nat), k ≠ M.1.length → mm_ad ad M.1.length q k = ad k := fun q k hk => by unfold mm_ad; rw [if_neg hk]
    have hadn : ∀ q, mm_ad ad M.1.length q M.1.length = q := fun q => by unfold mm_ad; rw [if_pos rfl]
    refine ⟨hn, ?_⟩
    cases i
    case new idx =>
      dsimp only at h
      split at h
      · rename_i c0 hc0
        cases h
        have ck := mm_cls_ck hc0
        unfold mm_ckL at ck
        dsimp only at ck
        split at ck
        · rename_i q hq
          simp only [Bool.and_eq_true, decide_eq_true_eq] at ck
          obtain ⟨⟨⟨k1, k2⟩, k3⟩, k4⟩ := ck
          obtain ⟨C, T, N, e1, e2, e3, ⟨ty0, e4⟩, -, e6⟩ := mm_Cl_all c0 k4
          cases hq.symm.trans e1
          have hz : mm_sz (c0, 0) = N := by unfold mm_sz; rw [if_pos (show c0 < 100 by omega)]; exact e2.symm
          have q1 : (mm_nw M (c0, 0)).1.length - M.1.length = 1 := by simp [mm_nw]
          have q2 : mm_S (mm_nw M (c0, 0)).1 - mm_S M.1 = N := by
            show mm_S (M.1 ++ [(c0, 0)]) - mm_S M.1 = N
            rw [mm_S_push, hz]; omega
          dsimp only at hc hs k
          rw [q1] at hc k
          rw [q2] at hs k
          refine ⟨⟨_, rfl⟩, ?_⟩
          have hfs : ∀ j, j < N → defaultValue (ty0 j) = vp_V ((List.range (mm_fn c0)).map (fun j => if mm_ft c0 j = 2 then va_rf none else Value.int 0)) j := by
            intro j hj
            have hy := mm_ckY_all c0 k4
            unfold mm_ckY at hy
            rw [hq] at hy
            have hy2 := List.all_eq_true.mp hy j (List.mem_range.mpr hj)
            dsimp only at hy2
            rw [e4 j hj] at hy2
            have hg : vp_V ((List.range (mm_fn c0)).map (fun j => if mm_ft c0 j = 2 then va_rf none else Value.int 0)) j = if mm_ft c0 j = 2 then va_rf none else Value.int 0 := by
              unfold vp_V
              rw [← e2]
              simp [List.getD, List.getElem?_range hj]
            rw [hg]
            cases hty0 : ty0 j <;> rw [hty0] at hy2 <;> simp [mm_ckT] at hy2 <;> rw [hy2] <;> rfl
          refine va_new (C := C) (T := T) (N := N) hx hb hts e6 ty0 e4 hown (hts _ (mm_wk_in k1)) (hts _ (mm_wk_in k2)) (hts _ (mm_wk_in k3)) hKt hP hD hS hA e1 hfs hc hs hd (fun q H1 hP1 hD1 hS1 => ?_)
          have h9 := k _ _ H1 (hnq q) (hH0.push (sh := (c0, 0)) (cA := 0) hn (by rw [mm_cel_o k4]; rfl) hP1 hD1 ⟨tys, hKt, hty, fun z => absurd z (by omega)⟩) hS1 (hL.ad hn hv1)
          rw [List.map_cons, mm_st_ad hn hv2] at h9
          have hv0 : mm_v (mm_ad ad M.1.length q) (.ref M.1.length) = .ref q := by show Value.ref _ = _; rw [hadn]
          rw [hv0] at h9
          exact h9
        · cases ck
      · cases h
    case newarray t =>
      dsimp only at h
      split at h
      · rename_i n r
        split at h
        · cases h
        · rename_i hnn
          have n1 : ¬ n < 0 := fun z => hnn (Or.inl z)
          have n2 : n.toNatClampNeg ≤ 100000 := by omega
          have hv3 : r.all (mm_vo M.1.length) = true := by
            rw [List.all_cons, Bool.and_eq_true] at hv2; exact hv2.2
          cases t
          case int =>
            cases h
            have q1 : (mm_nw M (100, n.toNatClampNeg)).1.length - M.1.length = 1 := by simp [mm_nw]
            have q2 : mm_S (mm_nw M (100, n.toNatClampNeg)).1 - mm_S M.1 = n.toNatClampNeg := by
              show mm_S (M.1 ++ [(100, n.toNatClampNeg)]) - mm_S M.1 = _
              rw [mm_S_push]
              show mm_S M.1 + n.toNatClampNeg - mm_S M.1 = _
              omega
            dsimp only at hc hs k
            rw [q1] at hc k
            rw [q2] at hs k
            refine ⟨⟨_, rfl⟩, ?_⟩
            refine va_newa (atype := .int) (ty := .int) (a0 := (n.toNatClampNeg, .inl (fun _ => 0))) hx hb (hts _ mm_acI) rfl hKt hP hD hS hA (fun cA => rfl) n1 rfl (by have : componentBytes .int = 4 := rfl; rw [this]; omega) hc hs hd (fun q cA H1 hK1 hP1 hD1 hS1 => ?_)
            have h9 := k _ _ H1 (hnq q) (hH0.push (sh := (100, n.toNatClampNeg)) (cA := cA) hn rfl hP1 hD1 ⟨_, hK1, fun k t n hk ht => (by obtain ⟨t0, h0⟩ := hty k t n hk ht; exact ⟨t0, by rw [List.getElem?_append_left (List.getElem?_eq_some_iff.mp h0).1]; exact h0⟩), fun _ => ⟨tys.length, by simp [mm_ty]⟩⟩) hS1 (hL.ad hn hv1)
            rw [List.map_cons, mm_st_ad hn hv3] at h9
            have hv0 : mm_v (mm_ad ad M.1.length q) (.ref M.1.length) = .ref q := by show Value.ref _ = _; rw [hadn]
            rw [hv0] at h9
            exact h9
          case long =>
            cases h
            have q1 : (mm_nw M (101, n.toNatClampNeg)).1.length - M.1.length = 1 := by simp [mm_nw]
            have q2 : mm_S (mm_nw M (101, n.toNatClampNeg)).1 - mm_S M.1 = n.toNatClampNeg := by
              show mm_S (M.1 ++ [(101, n.toNatClampNeg)]) - mm_S M.1 = _
              rw [mm_S_push]
              show mm_S M.1 + n.toNatClampNeg - mm_S M.1 = _
              omega
            dsimp only at hc hs k
            rw [q1] at hc k
            rw [q2] at hs k
            refine ⟨⟨_, rfl⟩, ?_⟩
            refine va_newa (atype := .long) (ty := .long) (a0 := (n.toNatClampNeg, .inr (.inl (fun _ => 0)))) hx hb (hts _ mm_acL) rfl hKt hP hD hS hA (fun cA => rfl) n1 rfl (by have : componentBytes .long = 8 := rfl; rw [this]; omega) hc hs hd (fun q cA H1 hK1 hP1 hD1 hS1 => ?_)
            have h9 := k _ _ H1 (hnq q) (hH0.push (sh := (101, n.toNatClampNeg)) (cA := cA) hn rfl hP1 hD1 ⟨_, hK1, fun k t n hk ht => (by obtain ⟨t0, h0⟩ := hty k t n hk ht; exact ⟨t0, by rw [List.getElem?_append_left (List.getElem?_eq_some_iff.mp h0).1]; exact h0⟩), fun _ => ⟨tys.length, by simp [mm_ty]⟩⟩) hS1 (hL.ad hn hv1)
            rw [List.map_cons, mm_st_ad hn hv3] at h9
            have hv0 : mm_v (mm_ad ad M.1.length q) (.ref M.1.length) = .ref q := by show Value.ref _ = _; rw [hadn]
            rw [hv0] at h9
            exact h9
          all_goals cases h
      · cases h
    case anewarray idx =>
      dsimp only at h
      split at h
      · rename_i n r
        split at h
        · cases h
        · rename_i hnn
          have n1 : ¬ n < 0 := fun z => hnn (Or.inl z)
          have n2 : n.toNatClampNeg ≤ 100000 := by omega
          have hv3 : r.all (mm_vo M.1.length) = true := by
            rw [List.all_cons, Bool.and_eq_true] at hv2; exact hv2.2
          split at h
          · rename_i c0 hc0
            split at h
            · rename_i hao
              cases h
              have ck := mm_cls_ck hc0
              unfold mm_ckL at ck
              dsimp only at ck
              split at ck
              · rename_i q hq
                simp only [Bool.and_eq_true, decide_eq_true_eq] at ck
                obtain ⟨⟨⟨k1, k2⟩, k3⟩, k4⟩ := ck
                obtain ⟨C, T, N, e1, e2, e3, -, -, -⟩ := mm_Cl_all c0 k4
                cases hq.symm.trans e1
                have hz : mm_sz (102 + c0, n.toNatClampNeg) = n.toNatClampNeg := by unfold mm_sz; rw [if_neg (show ¬ 102 + c0 < 100 by omega)]
                have q1 : (mm_nw M (102 + c0, n.toNatClampNeg)).1.length - M.1.length = 1 := by simp [mm_nw]
                have q2 : mm_S (mm_nw M (102 + c0, n.toNatClampNeg)).1 - mm_S M.1 = n.toNatClampNeg := by
                  show mm_S (M.1 ++ [(102 + c0, n.toNatClampNeg)]) - mm_S M.1 = _
                  rw [mm_S_push, hz]
                  omega
                dsimp only at hc hs k
                rw [q1] at hc k
                rw [q2] at hs k
                refine ⟨⟨_, rfl⟩, ?_⟩
                have hAO := hK.2.2.2.1 c0 hao
                rw [← e3] at hAO
                refine va_newq (C := C) hx hb hown (hts _ (mm_wk_in k1)) hAO hKt hP hD hS hA n1 rfl (by omega) hc hs hd (fun q cA H1 hK1 hP1 hD1 hS1 => ?_)
                have h9 := k _ _ H1 (hnq q) (hH0.push (sh := (102 + c0, n.toNatClampNeg)) (cA := cA) hn (by rw [mm_cel_r (by omega)]; rfl) hP1 hD1 ⟨_, hK1, fun k t n hk ht => (by obtain ⟨t0, h0⟩ := hty k t n hk ht; exact ⟨t0, by rw [List.getElem?_append_left (List.getElem?_eq_some_iff.mp h0).1]; exact h0⟩), fun _ => ⟨tys.length, by rw [mm_ty_r (by show 102 ≤ 102 + c0; omega)]; simp [e3]⟩⟩) hS1 (hL.ad hn hv1)
                rw [List.map_cons, mm_st_ad hn hv3] at h9
                have hv0 : mm_v (mm_ad ad M.1.length q) (.ref M.1.length) = .ref q := by show Value.ref _ = _; rw [hadn]
                rw [hv0] at h9
                exact h9
              · cases ck
            · cases h
          · cases h
      · cases h
    all_goals cases h
  · cases h
end MMA
end
section
theorem zz_end : True := trivial
end
