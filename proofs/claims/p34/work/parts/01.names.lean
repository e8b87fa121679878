-- ===== PART A: goes FIRST, ahead of the names: the tables' words, and 'selects' of the private methods out of them =====
/-- a private method of a class that the tables say can be made, by its rows of tables_1 -/
def lw_okq (q : MethodName × Nat) : Prop := (q.1.cls ≠ "java/lang/invoke/MethodHandle" ∧ q.1.cls ≠ "java/lang/invoke/VarHandle") ∧ Cond.instantiable q.1.cls q.2 ∈ tables_1 ∧ Cond.privateMethod q.1 ∈ tables_1 ∧ Cond.instanceMethod q.1 ∈ tables_1
theorem lw_p0 : lw_okq (⟨"DuelDelays", "feedNumber", "(I)V"⟩, 14) := ⟨⟨by decide +kernel, by decide +kernel⟩, List.mem_of_getElem? (i := 24) (by decide +kernel), List.mem_of_getElem? (i := 569) (by decide +kernel), List.mem_of_getElem? (i := 570) (by decide +kernel)⟩
theorem lw_p1 : lw_okq (⟨"DuelDelays$Tokens", "takeLetters", "()V"⟩, 8) := ⟨⟨by decide +kernel, by decide +kernel⟩, List.mem_of_getElem? (i := 38) (by decide +kernel), List.mem_of_getElem? (i := 611) (by decide +kernel), List.mem_of_getElem? (i := 612) (by decide +kernel)⟩
theorem lw_p2 : lw_okq (⟨"DuelDelays$Tokens", "takeDigits", "()V"⟩, 8) := ⟨⟨by decide +kernel, by decide +kernel⟩, List.mem_of_getElem? (i := 38) (by decide +kernel), List.mem_of_getElem? (i := 621) (by decide +kernel), List.mem_of_getElem? (i := 622) (by decide +kernel)⟩
theorem lw_p3 : lw_okq (⟨"DuelDelays$Tokens", "takeSign", "()V"⟩, 8) := ⟨⟨by decide +kernel, by decide +kernel⟩, List.mem_of_getElem? (i := 38) (by decide +kernel), List.mem_of_getElem? (i := 625) (by decide +kernel), List.mem_of_getElem? (i := 626) (by decide +kernel)⟩
theorem lw_p4 : lw_okq (⟨"DuelDelays$Reader", "readMan", "()Z"⟩, 7) := ⟨⟨by decide +kernel, by decide +kernel⟩, List.mem_of_getElem? (i := 32) (by decide +kernel), List.mem_of_getElem? (i := 687) (by decide +kernel), List.mem_of_getElem? (i := 688) (by decide +kernel)⟩
theorem lw_p5 : lw_okq (⟨"DuelDelays$Reader", "refuse", "(I)Z"⟩, 7) := ⟨⟨by decide +kernel, by decide +kernel⟩, List.mem_of_getElem? (i := 32) (by decide +kernel), List.mem_of_getElem? (i := 691) (by decide +kernel), List.mem_of_getElem? (i := 692) (by decide +kernel)⟩
theorem lw_p6 : lw_okq (⟨"DuelDelays$Reader", "takeNewName", "([JI)Z"⟩, 7) := ⟨⟨by decide +kernel, by decide +kernel⟩, List.mem_of_getElem? (i := 32) (by decide +kernel), List.mem_of_getElem? (i := 696) (by decide +kernel), List.mem_of_getElem? (i := 697) (by decide +kernel)⟩
theorem lw_p7 : lw_okq (⟨"DuelDelays$Reader", "takeWord", "(I)Z"⟩, 7) := ⟨⟨by decide +kernel, by decide +kernel⟩, List.mem_of_getElem? (i := 32) (by decide +kernel), List.mem_of_getElem? (i := 701) (by decide +kernel), List.mem_of_getElem? (i := 702) (by decide +kernel)⟩
theorem lw_p8 : lw_okq (⟨"DuelDelays$Reader", "takeNumber", "(II)Z"⟩, 7) := ⟨⟨by decide +kernel, by decide +kernel⟩, List.mem_of_getElem? (i := 32) (by decide +kernel), List.mem_of_getElem? (i := 709) (by decide +kernel), List.mem_of_getElem? (i := 710) (by decide +kernel)⟩
theorem lw_p9 : lw_okq (⟨"DuelDelays$Reader", "takeOption", "(IIII)Z"⟩, 7) := ⟨⟨by decide +kernel, by decide +kernel⟩, List.mem_of_getElem? (i := 32) (by decide +kernel), List.mem_of_getElem? (i := 713) (by decide +kernel), List.mem_of_getElem? (i := 714) (by decide +kernel)⟩
theorem lw_p10 : lw_okq (⟨"DuelDelays$Reader", "takeNameOption", "(I[JI)Z"⟩, 7) := ⟨⟨by decide +kernel, by decide +kernel⟩, List.mem_of_getElem? (i := 32) (by decide +kernel), List.mem_of_getElem? (i := 717) (by decide +kernel), List.mem_of_getElem? (i := 718) (by decide +kernel)⟩
theorem lw_p11 : lw_okq (⟨"DuelDelays$Reader", "takeKnownName", "([JI)Z"⟩, 7) := ⟨⟨by decide +kernel, by decide +kernel⟩, List.mem_of_getElem? (i := 32) (by decide +kernel), List.mem_of_getElem? (i := 721) (by decide +kernel), List.mem_of_getElem? (i := 722) (by decide +kernel)⟩
theorem lw_p12 : lw_okq (⟨"DuelDelays$Reader", "takeSign", "(C)Z"⟩, 7) := ⟨⟨by decide +kernel, by decide +kernel⟩, List.mem_of_getElem? (i := 32) (by decide +kernel), List.mem_of_getElem? (i := 725) (by decide +kernel), List.mem_of_getElem? (i := 726) (by decide +kernel)⟩
theorem lw_p13 : lw_okq (⟨"DuelDelays$Reader", "readKind", "()Z"⟩, 7) := ⟨⟨by decide +kernel, by decide +kernel⟩, List.mem_of_getElem? (i := 32) (by decide +kernel), List.mem_of_getElem? (i := 733) (by decide +kernel), List.mem_of_getElem? (i := 734) (by decide +kernel)⟩
theorem lw_p14 : lw_okq (⟨"DuelDelays$Reader", "readChoice", "(I)Z"⟩, 7) := ⟨⟨by decide +kernel, by decide +kernel⟩, List.mem_of_getElem? (i := 32) (by decide +kernel), List.mem_of_getElem? (i := 741) (by decide +kernel), List.mem_of_getElem? (i := 742) (by decide +kernel)⟩
theorem lw_p15 : lw_okq (⟨"DuelDelays$Reader", "readBoth", "(I)Z"⟩, 7) := ⟨⟨by decide +kernel, by decide +kernel⟩, List.mem_of_getElem? (i := 32) (by decide +kernel), List.mem_of_getElem? (i := 745) (by decide +kernel), List.mem_of_getElem? (i := 746) (by decide +kernel)⟩
def lw_privs_1 : List (MethodName × Nat) := [(⟨"DuelDelays", "feedNumber", "(I)V"⟩, 14), (⟨"DuelDelays$Tokens", "takeLetters", "()V"⟩, 8), (⟨"DuelDelays$Tokens", "takeDigits", "()V"⟩, 8), (⟨"DuelDelays$Tokens", "takeSign", "()V"⟩, 8), (⟨"DuelDelays$Reader", "readMan", "()Z"⟩, 7), (⟨"DuelDelays$Reader", "refuse", "(I)Z"⟩, 7), (⟨"DuelDelays$Reader", "takeNewName", "([JI)Z"⟩, 7), (⟨"DuelDelays$Reader", "takeWord", "(I)Z"⟩, 7), (⟨"DuelDelays$Reader", "takeNumber", "(II)Z"⟩, 7), (⟨"DuelDelays$Reader", "takeOption", "(IIII)Z"⟩, 7), (⟨"DuelDelays$Reader", "takeNameOption", "(I[JI)Z"⟩, 7), (⟨"DuelDelays$Reader", "takeKnownName", "([JI)Z"⟩, 7), (⟨"DuelDelays$Reader", "takeSign", "(C)Z"⟩, 7), (⟨"DuelDelays$Reader", "readKind", "()Z"⟩, 7), (⟨"DuelDelays$Reader", "readChoice", "(I)Z"⟩, 7), (⟨"DuelDelays$Reader", "readBoth", "(I)Z"⟩, 7)]
theorem lw_r1 : ∀ q ∈ lw_privs_1, lw_okq q := List.forall_mem_cons.mpr ⟨lw_p0, List.forall_mem_cons.mpr ⟨lw_p1, List.forall_mem_cons.mpr ⟨lw_p2, List.forall_mem_cons.mpr ⟨lw_p3, List.forall_mem_cons.mpr ⟨lw_p4, List.forall_mem_cons.mpr ⟨lw_p5, List.forall_mem_cons.mpr ⟨lw_p6, List.forall_mem_cons.mpr ⟨lw_p7, List.forall_mem_cons.mpr ⟨lw_p8, List.forall_mem_cons.mpr ⟨lw_p9, List.forall_mem_cons.mpr ⟨lw_p10, List.forall_mem_cons.mpr ⟨lw_p11, List.forall_mem_cons.mpr ⟨lw_p12, List.forall_mem_cons.mpr ⟨lw_p13, List.forall_mem_cons.mpr ⟨lw_p14, List.forall_mem_cons.mpr ⟨lw_p15, fun _ h => absurd h List.not_mem_nil⟩⟩⟩⟩⟩⟩⟩⟩⟩⟩⟩⟩⟩⟩⟩⟩
theorem lw_p16 : lw_okq (⟨"DuelDelays$Reader", "readOne", "(I)Z"⟩, 7) := ⟨⟨by decide +kernel, by decide +kernel⟩, List.mem_of_getElem? (i := 32) (by decide +kernel), List.mem_of_getElem? (i := 749) (by decide +kernel), List.mem_of_getElem? (i := 750) (by decide +kernel)⟩
theorem lw_p17 : lw_okq (⟨"DuelDelays$Reader", "readSum", "(I)Z"⟩, 7) := ⟨⟨by decide +kernel, by decide +kernel⟩, List.mem_of_getElem? (i := 32) (by decide +kernel), List.mem_of_getElem? (i := 757) (by decide +kernel), List.mem_of_getElem? (i := 758) (by decide +kernel)⟩
theorem lw_p18 : lw_okq (⟨"DuelDelays$Reader", "readTerm", "(I)Z"⟩, 7) := ⟨⟨by decide +kernel, by decide +kernel⟩, List.mem_of_getElem? (i := 32) (by decide +kernel), List.mem_of_getElem? (i := 761) (by decide +kernel), List.mem_of_getElem? (i := 762) (by decide +kernel)⟩
theorem lw_p19 : lw_okq (⟨"DuelDelays$Reader", "readUnit", "(I)Z"⟩, 7) := ⟨⟨by decide +kernel, by decide +kernel⟩, List.mem_of_getElem? (i := 32) (by decide +kernel), List.mem_of_getElem? (i := 765) (by decide +kernel), List.mem_of_getElem? (i := 766) (by decide +kernel)⟩
theorem lw_p20 : lw_okq (⟨"DuelDelays$Reader", "isPlainUnit", "()Z"⟩, 7) := ⟨⟨by decide +kernel, by decide +kernel⟩, List.mem_of_getElem? (i := 32) (by decide +kernel), List.mem_of_getElem? (i := 769) (by decide +kernel), List.mem_of_getElem? (i := 770) (by decide +kernel)⟩
theorem lw_p21 : lw_okq (⟨"DuelDelays$Reader", "plainStep", "()I"⟩, 7) := ⟨⟨by decide +kernel, by decide +kernel⟩, List.mem_of_getElem? (i := 32) (by decide +kernel), List.mem_of_getElem? (i := 781) (by decide +kernel), List.mem_of_getElem? (i := 782) (by decide +kernel)⟩
theorem lw_p22 : lw_okq (⟨"DuelDelays$Reader", "product", "()I"⟩, 7) := ⟨⟨by decide +kernel, by decide +kernel⟩, List.mem_of_getElem? (i := 32) (by decide +kernel), List.mem_of_getElem? (i := 785) (by decide +kernel), List.mem_of_getElem? (i := 786) (by decide +kernel)⟩
theorem lw_p23 : lw_okq (⟨"DuelDelays$Reader", "addition", "()I"⟩, 7) := ⟨⟨by decide +kernel, by decide +kernel⟩, List.mem_of_getElem? (i := 32) (by decide +kernel), List.mem_of_getElem? (i := 789) (by decide +kernel), List.mem_of_getElem? (i := 790) (by decide +kernel)⟩
theorem lw_p24 : lw_okq (⟨"DuelDelays$Reader", "relation", "()I"⟩, 7) := ⟨⟨by decide +kernel, by decide +kernel⟩, List.mem_of_getElem? (i := 32) (by decide +kernel), List.mem_of_getElem? (i := 793) (by decide +kernel), List.mem_of_getElem? (i := 794) (by decide +kernel)⟩
theorem lw_p25 : lw_okq (⟨"DuelDelays$Reader", "readReason", "()Z"⟩, 7) := ⟨⟨by decide +kernel, by decide +kernel⟩, List.mem_of_getElem? (i := 32) (by decide +kernel), List.mem_of_getElem? (i := 801) (by decide +kernel), List.mem_of_getElem? (i := 802) (by decide +kernel)⟩
theorem lw_p26 : lw_okq (⟨"DuelDelays$Reader", "takeSort", "()I"⟩, 7) := ⟨⟨by decide +kernel, by decide +kernel⟩, List.mem_of_getElem? (i := 32) (by decide +kernel), List.mem_of_getElem? (i := 805) (by decide +kernel), List.mem_of_getElem? (i := 806) (by decide +kernel)⟩
theorem lw_p27 : lw_okq (⟨"DuelDelays$Reader", "readDuel", "()Z"⟩, 7) := ⟨⟨by decide +kernel, by decide +kernel⟩, List.mem_of_getElem? (i := 32) (by decide +kernel), List.mem_of_getElem? (i := 812) (by decide +kernel), List.mem_of_getElem? (i := 813) (by decide +kernel)⟩
theorem lw_p28 : lw_okq (⟨"DuelDelays$Reader", "readHonour", "()Z"⟩, 7) := ⟨⟨by decide +kernel, by decide +kernel⟩, List.mem_of_getElem? (i := 32) (by decide +kernel), List.mem_of_getElem? (i := 820) (by decide +kernel), List.mem_of_getElem? (i := 821) (by decide +kernel)⟩
theorem lw_p29 : lw_okq (⟨"DuelDelays$Reader", "readDraw", "()Z"⟩, 7) := ⟨⟨by decide +kernel, by decide +kernel⟩, List.mem_of_getElem? (i := 32) (by decide +kernel), List.mem_of_getElem? (i := 824) (by decide +kernel), List.mem_of_getElem? (i := 825) (by decide +kernel)⟩
theorem lw_p30 : lw_okq (⟨"DuelDelays", "nextState", "()LDuelDelays$State;"⟩, 14) := ⟨⟨by decide +kernel, by decide +kernel⟩, List.mem_of_getElem? (i := 24) (by decide +kernel), List.mem_of_getElem? (i := 987) (by decide +kernel), List.mem_of_getElem? (i := 988) (by decide +kernel)⟩
theorem lw_p31 : lw_okq (⟨"DuelDelays$State", "addLine", "(IIII)V"⟩, 14) := ⟨⟨by decide +kernel, by decide +kernel⟩, List.mem_of_getElem? (i := 443) (by decide +kernel), List.mem_of_getElem? (i := 1005) (by decide +kernel), List.mem_of_getElem? (i := 1006) (by decide +kernel)⟩
def lw_privs_2 : List (MethodName × Nat) := [(⟨"DuelDelays$Reader", "readOne", "(I)Z"⟩, 7), (⟨"DuelDelays$Reader", "readSum", "(I)Z"⟩, 7), (⟨"DuelDelays$Reader", "readTerm", "(I)Z"⟩, 7), (⟨"DuelDelays$Reader", "readUnit", "(I)Z"⟩, 7), (⟨"DuelDelays$Reader", "isPlainUnit", "()Z"⟩, 7), (⟨"DuelDelays$Reader", "plainStep", "()I"⟩, 7), (⟨"DuelDelays$Reader", "product", "()I"⟩, 7), (⟨"DuelDelays$Reader", "addition", "()I"⟩, 7), (⟨"DuelDelays$Reader", "relation", "()I"⟩, 7), (⟨"DuelDelays$Reader", "readReason", "()Z"⟩, 7), (⟨"DuelDelays$Reader", "takeSort", "()I"⟩, 7), (⟨"DuelDelays$Reader", "readDuel", "()Z"⟩, 7), (⟨"DuelDelays$Reader", "readHonour", "()Z"⟩, 7), (⟨"DuelDelays$Reader", "readDraw", "()Z"⟩, 7), (⟨"DuelDelays", "nextState", "()LDuelDelays$State;"⟩, 14), (⟨"DuelDelays$State", "addLine", "(IIII)V"⟩, 14)]
theorem lw_r2 : ∀ q ∈ lw_privs_2, lw_okq q := List.forall_mem_cons.mpr ⟨lw_p16, List.forall_mem_cons.mpr ⟨lw_p17, List.forall_mem_cons.mpr ⟨lw_p18, List.forall_mem_cons.mpr ⟨lw_p19, List.forall_mem_cons.mpr ⟨lw_p20, List.forall_mem_cons.mpr ⟨lw_p21, List.forall_mem_cons.mpr ⟨lw_p22, List.forall_mem_cons.mpr ⟨lw_p23, List.forall_mem_cons.mpr ⟨lw_p24, List.forall_mem_cons.mpr ⟨lw_p25, List.forall_mem_cons.mpr ⟨lw_p26, List.forall_mem_cons.mpr ⟨lw_p27, List.forall_mem_cons.mpr ⟨lw_p28, List.forall_mem_cons.mpr ⟨lw_p29, List.forall_mem_cons.mpr ⟨lw_p30, List.forall_mem_cons.mpr ⟨lw_p31, fun _ h => absurd h List.not_mem_nil⟩⟩⟩⟩⟩⟩⟩⟩⟩⟩⟩⟩⟩⟩⟩⟩
theorem lw_p32 : lw_okq (⟨"DuelDelays$State", "bury", "(LDuelDelays$Land;I)V"⟩, 14) := ⟨⟨by decide +kernel, by decide +kernel⟩, List.mem_of_getElem? (i := 443) (by decide +kernel), List.mem_of_getElem? (i := 1036) (by decide +kernel), List.mem_of_getElem? (i := 1037) (by decide +kernel)⟩
theorem lw_p33 : lw_okq (⟨"DuelDelays$State", "fight", "(LDuelDelays$Land;I)V"⟩, 14) := ⟨⟨by decide +kernel, by decide +kernel⟩, List.mem_of_getElem? (i := 443) (by decide +kernel), List.mem_of_getElem? (i := 1042) (by decide +kernel), List.mem_of_getElem? (i := 1043) (by decide +kernel)⟩
theorem lw_p34 : lw_okq (⟨"DuelDelays$Search", "reach", "(III)Z"⟩, 12) := ⟨⟨by decide +kernel, by decide +kernel⟩, List.mem_of_getElem? (i := 337) (by decide +kernel), List.mem_of_getElem? (i := 1079) (by decide +kernel), List.mem_of_getElem? (i := 1080) (by decide +kernel)⟩
theorem lw_p35 : lw_okq (⟨"DuelDelays$Search", "slotOf", "(I)I"⟩, 12) := ⟨⟨by decide +kernel, by decide +kernel⟩, List.mem_of_getElem? (i := 337) (by decide +kernel), List.mem_of_getElem? (i := 1083) (by decide +kernel), List.mem_of_getElem? (i := 1084) (by decide +kernel)⟩
theorem lw_p36 : lw_okq (⟨"DuelDelays$Search", "isTaken", "(I)Z"⟩, 12) := ⟨⟨by decide +kernel, by decide +kernel⟩, List.mem_of_getElem? (i := 337) (by decide +kernel), List.mem_of_getElem? (i := 1088) (by decide +kernel), List.mem_of_getElem? (i := 1089) (by decide +kernel)⟩
theorem lw_p37 : lw_okq (⟨"DuelDelays$Search", "morningOf", "(I)I"⟩, 12) := ⟨⟨by decide +kernel, by decide +kernel⟩, List.mem_of_getElem? (i := 337) (by decide +kernel), List.mem_of_getElem? (i := 1096) (by decide +kernel), List.mem_of_getElem? (i := 1097) (by decide +kernel)⟩
theorem lw_p38 : lw_okq (⟨"DuelDelays$Search", "keepPath", "(II)V"⟩, 12) := ⟨⟨by decide +kernel, by decide +kernel⟩, List.mem_of_getElem? (i := 337) (by decide +kernel), List.mem_of_getElem? (i := 1100) (by decide +kernel), List.mem_of_getElem? (i := 1101) (by decide +kernel)⟩
theorem lw_p39 : lw_okq (⟨"DuelDelays$Search", "expand", "(IIII)Z"⟩, 12) := ⟨⟨by decide +kernel, by decide +kernel⟩, List.mem_of_getElem? (i := 337) (by decide +kernel), List.mem_of_getElem? (i := 1104) (by decide +kernel), List.mem_of_getElem? (i := 1105) (by decide +kernel)⟩
theorem lw_p40 : lw_okq (⟨"DuelDelays$Search", "allows", "(II)Z"⟩, 12) := ⟨⟨by decide +kernel, by decide +kernel⟩, List.mem_of_getElem? (i := 337) (by decide +kernel), List.mem_of_getElem? (i := 1108) (by decide +kernel), List.mem_of_getElem? (i := 1109) (by decide +kernel)⟩
theorem lw_p41 : lw_okq (⟨"DuelDelays$Search", "usedOf", "(I)I"⟩, 12) := ⟨⟨by decide +kernel, by decide +kernel⟩, List.mem_of_getElem? (i := 337) (by decide +kernel), List.mem_of_getElem? (i := 1113) (by decide +kernel), List.mem_of_getElem? (i := 1114) (by decide +kernel)⟩
theorem lw_p42 : lw_okq (⟨"DuelDelays$Search", "keyBehind", "(II)I"⟩, 12) := ⟨⟨by decide +kernel, by decide +kernel⟩, List.mem_of_getElem? (i := 337) (by decide +kernel), List.mem_of_getElem? (i := 1117) (by decide +kernel), List.mem_of_getElem? (i := 1118) (by decide +kernel)⟩
theorem lw_p43 : lw_okq (⟨"DuelDelays$Search", "winningReason", "(II)I"⟩, 12) := ⟨⟨by decide +kernel, by decide +kernel⟩, List.mem_of_getElem? (i := 337) (by decide +kernel), List.mem_of_getElem? (i := 1148) (by decide +kernel), List.mem_of_getElem? (i := 1149) (by decide +kernel)⟩
theorem lw_p44 : lw_okq (⟨"DuelDelays$State", "earlierOn", "(I[II)I"⟩, 14) := ⟨⟨by decide +kernel, by decide +kernel⟩, List.mem_of_getElem? (i := 443) (by decide +kernel), List.mem_of_getElem? (i := 1179) (by decide +kernel), List.mem_of_getElem? (i := 1180) (by decide +kernel)⟩
theorem lw_p45 : lw_okq (⟨"DuelDelays$Parting", "fillMoves", "(LDuelDelays$Land;LDuelDelays$State;I)V"⟩, 4) := ⟨⟨by decide +kernel, by decide +kernel⟩, List.mem_of_getElem? (i := 408) (by decide +kernel), List.mem_of_getElem? (i := 1193) (by decide +kernel), List.mem_of_getElem? (i := 1194) (by decide +kernel)⟩
theorem lw_p46 : lw_okq (⟨"DuelDelays$Parting", "findOne", "(LDuelDelays$State;I)Z"⟩, 4) := ⟨⟨by decide +kernel, by decide +kernel⟩, List.mem_of_getElem? (i := 408) (by decide +kernel), List.mem_of_getElem? (i := 1212) (by decide +kernel), List.mem_of_getElem? (i := 1213) (by decide +kernel)⟩
theorem lw_p47 : lw_okq (⟨"DuelDelays$Parting", "isParted", "(LDuelDelays$State;II)Z"⟩, 4) := ⟨⟨by decide +kernel, by decide +kernel⟩, List.mem_of_getElem? (i := 408) (by decide +kernel), List.mem_of_getElem? (i := 1216) (by decide +kernel), List.mem_of_getElem? (i := 1217) (by decide +kernel)⟩
def lw_privs_3 : List (MethodName × Nat) := [(⟨"DuelDelays$State", "bury", "(LDuelDelays$Land;I)V"⟩, 14), (⟨"DuelDelays$State", "fight", "(LDuelDelays$Land;I)V"⟩, 14), (⟨"DuelDelays$Search", "reach", "(III)Z"⟩, 12), (⟨"DuelDelays$Search", "slotOf", "(I)I"⟩, 12), (⟨"DuelDelays$Search", "isTaken", "(I)Z"⟩, 12), (⟨"DuelDelays$Search", "morningOf", "(I)I"⟩, 12), (⟨"DuelDelays$Search", "keepPath", "(II)V"⟩, 12), (⟨"DuelDelays$Search", "expand", "(IIII)Z"⟩, 12), (⟨"DuelDelays$Search", "allows", "(II)Z"⟩, 12), (⟨"DuelDelays$Search", "usedOf", "(I)I"⟩, 12), (⟨"DuelDelays$Search", "keyBehind", "(II)I"⟩, 12), (⟨"DuelDelays$Search", "winningReason", "(II)I"⟩, 12), (⟨"DuelDelays$State", "earlierOn", "(I[II)I"⟩, 14), (⟨"DuelDelays$Parting", "fillMoves", "(LDuelDelays$Land;LDuelDelays$State;I)V"⟩, 4), (⟨"DuelDelays$Parting", "findOne", "(LDuelDelays$State;I)Z"⟩, 4), (⟨"DuelDelays$Parting", "isParted", "(LDuelDelays$State;II)Z"⟩, 4)]
theorem lw_r3 : ∀ q ∈ lw_privs_3, lw_okq q := List.forall_mem_cons.mpr ⟨lw_p32, List.forall_mem_cons.mpr ⟨lw_p33, List.forall_mem_cons.mpr ⟨lw_p34, List.forall_mem_cons.mpr ⟨lw_p35, List.forall_mem_cons.mpr ⟨lw_p36, List.forall_mem_cons.mpr ⟨lw_p37, List.forall_mem_cons.mpr ⟨lw_p38, List.forall_mem_cons.mpr ⟨lw_p39, List.forall_mem_cons.mpr ⟨lw_p40, List.forall_mem_cons.mpr ⟨lw_p41, List.forall_mem_cons.mpr ⟨lw_p42, List.forall_mem_cons.mpr ⟨lw_p43, List.forall_mem_cons.mpr ⟨lw_p44, List.forall_mem_cons.mpr ⟨lw_p45, List.forall_mem_cons.mpr ⟨lw_p46, List.forall_mem_cons.mpr ⟨lw_p47, fun _ h => absurd h List.not_mem_nil⟩⟩⟩⟩⟩⟩⟩⟩⟩⟩⟩⟩⟩⟩⟩⟩
theorem lw_p48 : lw_okq (⟨"DuelDelays$Parting", "findTwo", "(LDuelDelays$Land;LDuelDelays$State;I)Z"⟩, 4) := ⟨⟨by decide +kernel, by decide +kernel⟩, List.mem_of_getElem? (i := 408) (by decide +kernel), List.mem_of_getElem? (i := 1220) (by decide +kernel), List.mem_of_getElem? (i := 1221) (by decide +kernel)⟩
theorem lw_p49 : lw_okq (⟨"DuelDelays$Parting", "findSecond", "(LDuelDelays$Land;LDuelDelays$State;I)Z"⟩, 4) := ⟨⟨by decide +kernel, by decide +kernel⟩, List.mem_of_getElem? (i := 408) (by decide +kernel), List.mem_of_getElem? (i := 1224) (by decide +kernel), List.mem_of_getElem? (i := 1225) (by decide +kernel)⟩
theorem lw_p50 : lw_okq (⟨"DuelDelaysModel", "clearBank", "()V"⟩, 87) := ⟨⟨by decide +kernel, by decide +kernel⟩, List.mem_of_getElem? (i := 1288) (by decide +kernel), List.mem_of_getElem? (i := 1294) (by decide +kernel), List.mem_of_getElem? (i := 1295) (by decide +kernel)⟩
theorem lw_p51 : lw_okq (⟨"DuelDelaysModel", "startAnew", "()V"⟩, 87) := ⟨⟨by decide +kernel, by decide +kernel⟩, List.mem_of_getElem? (i := 1288) (by decide +kernel), List.mem_of_getElem? (i := 1298) (by decide +kernel), List.mem_of_getElem? (i := 1299) (by decide +kernel)⟩
theorem lw_p52 : lw_okq (⟨"DuelDelaysModel", "addDuel", "(III)V"⟩, 87) := ⟨⟨by decide +kernel, by decide +kernel⟩, List.mem_of_getElem? (i := 1288) (by decide +kernel), List.mem_of_getElem? (i := 1302) (by decide +kernel), List.mem_of_getElem? (i := 1303) (by decide +kernel)⟩
theorem lw_p53 : lw_okq (⟨"DuelDelaysModel", "goOn", "()V"⟩, 87) := ⟨⟨by decide +kernel, by decide +kernel⟩, List.mem_of_getElem? (i := 1288) (by decide +kernel), List.mem_of_getElem? (i := 1572) (by decide +kernel), List.mem_of_getElem? (i := 1573) (by decide +kernel)⟩
theorem lw_p54 : lw_okq (⟨"DuelDelaysModel", "sign", "(I)I"⟩, 87) := ⟨⟨by decide +kernel, by decide +kernel⟩, List.mem_of_getElem? (i := 1288) (by decide +kernel), List.mem_of_getElem? (i := 1576) (by decide +kernel), List.mem_of_getElem? (i := 1577) (by decide +kernel)⟩
theorem lw_p55 : lw_okq (⟨"DuelDelaysModel", "isGood", "()Z"⟩, 87) := ⟨⟨by decide +kernel, by decide +kernel⟩, List.mem_of_getElem? (i := 1288) (by decide +kernel), List.mem_of_getElem? (i := 1616) (by decide +kernel), List.mem_of_getElem? (i := 1617) (by decide +kernel)⟩
theorem lw_p56 : lw_okq (⟨"DuelDelaysModel", "readLine", "()V"⟩, 87) := ⟨⟨by decide +kernel, by decide +kernel⟩, List.mem_of_getElem? (i := 1288) (by decide +kernel), List.mem_of_getElem? (i := 1620) (by decide +kernel), List.mem_of_getElem? (i := 1621) (by decide +kernel)⟩
theorem lw_p57 : lw_okq (⟨"DuelDelaysModel", "isFull", "()Z"⟩, 87) := ⟨⟨by decide +kernel, by decide +kernel⟩, List.mem_of_getElem? (i := 1288) (by decide +kernel), List.mem_of_getElem? (i := 1624) (by decide +kernel), List.mem_of_getElem? (i := 1625) (by decide +kernel)⟩
theorem lw_p58 : lw_okq (⟨"DuelDelaysModel", "isWord", "(J)Z"⟩, 87) := ⟨⟨by decide +kernel, by decide +kernel⟩, List.mem_of_getElem? (i := 1288) (by decide +kernel), List.mem_of_getElem? (i := 1628) (by decide +kernel), List.mem_of_getElem? (i := 1629) (by decide +kernel)⟩
theorem lw_p59 : lw_okq (⟨"DuelDelaysModel", "misplaced", "()V"⟩, 87) := ⟨⟨by decide +kernel, by decide +kernel⟩, List.mem_of_getElem? (i := 1288) (by decide +kernel), List.mem_of_getElem? (i := 1632) (by decide +kernel), List.mem_of_getElem? (i := 1633) (by decide +kernel)⟩
theorem lw_p60 : lw_okq (⟨"DuelDelaysModel", "fails", "(II)V"⟩, 87) := ⟨⟨by decide +kernel, by decide +kernel⟩, List.mem_of_getElem? (i := 1288) (by decide +kernel), List.mem_of_getElem? (i := 1636) (by decide +kernel), List.mem_of_getElem? (i := 1637) (by decide +kernel)⟩
theorem lw_p61 : lw_okq (⟨"DuelDelaysModel", "readMan", "()V"⟩, 87) := ⟨⟨by decide +kernel, by decide +kernel⟩, List.mem_of_getElem? (i := 1288) (by decide +kernel), List.mem_of_getElem? (i := 1640) (by decide +kernel), List.mem_of_getElem? (i := 1641) (by decide +kernel)⟩
theorem lw_p62 : lw_okq (⟨"DuelDelaysModel", "manHere", "()I"⟩, 87) := ⟨⟨by decide +kernel, by decide +kernel⟩, List.mem_of_getElem? (i := 1288) (by decide +kernel), List.mem_of_getElem? (i := 1644) (by decide +kernel), List.mem_of_getElem? (i := 1645) (by decide +kernel)⟩
theorem lw_p63 : lw_okq (⟨"DuelDelaysModel", "here", "([JII)I"⟩, 87) := ⟨⟨by decide +kernel, by decide +kernel⟩, List.mem_of_getElem? (i := 1288) (by decide +kernel), List.mem_of_getElem? (i := 1648) (by decide +kernel), List.mem_of_getElem? (i := 1649) (by decide +kernel)⟩
def lw_privs_4 : List (MethodName × Nat) := [(⟨"DuelDelays$Parting", "findTwo", "(LDuelDelays$Land;LDuelDelays$State;I)Z"⟩, 4), (⟨"DuelDelays$Parting", "findSecond", "(LDuelDelays$Land;LDuelDelays$State;I)Z"⟩, 4), (⟨"DuelDelaysModel", "clearBank", "()V"⟩, 87), (⟨"DuelDelaysModel", "startAnew", "()V"⟩, 87), (⟨"DuelDelaysModel", "addDuel", "(III)V"⟩, 87), (⟨"DuelDelaysModel", "goOn", "()V"⟩, 87), (⟨"DuelDelaysModel", "sign", "(I)I"⟩, 87), (⟨"DuelDelaysModel", "isGood", "()Z"⟩, 87), (⟨"DuelDelaysModel", "readLine", "()V"⟩, 87), (⟨"DuelDelaysModel", "isFull", "()Z"⟩, 87), (⟨"DuelDelaysModel", "isWord", "(J)Z"⟩, 87), (⟨"DuelDelaysModel", "misplaced", "()V"⟩, 87), (⟨"DuelDelaysModel", "fails", "(II)V"⟩, 87), (⟨"DuelDelaysModel", "readMan", "()V"⟩, 87), (⟨"DuelDelaysModel", "manHere", "()I"⟩, 87), (⟨"DuelDelaysModel", "here", "([JII)I"⟩, 87)]
theorem lw_r4 : ∀ q ∈ lw_privs_4, lw_okq q := List.forall_mem_cons.mpr ⟨lw_p48, List.forall_mem_cons.mpr ⟨lw_p49, List.forall_mem_cons.mpr ⟨lw_p50, List.forall_mem_cons.mpr ⟨lw_p51, List.forall_mem_cons.mpr ⟨lw_p52, List.forall_mem_cons.mpr ⟨lw_p53, List.forall_mem_cons.mpr ⟨lw_p54, List.forall_mem_cons.mpr ⟨lw_p55, List.forall_mem_cons.mpr ⟨lw_p56, List.forall_mem_cons.mpr ⟨lw_p57, List.forall_mem_cons.mpr ⟨lw_p58, List.forall_mem_cons.mpr ⟨lw_p59, List.forall_mem_cons.mpr ⟨lw_p60, List.forall_mem_cons.mpr ⟨lw_p61, List.forall_mem_cons.mpr ⟨lw_p62, List.forall_mem_cons.mpr ⟨lw_p63, fun _ h => absurd h List.not_mem_nil⟩⟩⟩⟩⟩⟩⟩⟩⟩⟩⟩⟩⟩⟩⟩⟩
theorem lw_p64 : lw_okq (⟨"DuelDelaysModel", "fresh", "(I)J"⟩, 87) := ⟨⟨by decide +kernel, by decide +kernel⟩, List.mem_of_getElem? (i := 1288) (by decide +kernel), List.mem_of_getElem? (i := 1652) (by decide +kernel), List.mem_of_getElem? (i := 1653) (by decide +kernel)⟩
theorem lw_p65 : lw_okq (⟨"DuelDelaysModel", "after", "(JII)I"⟩, 87) := ⟨⟨by decide +kernel, by decide +kernel⟩, List.mem_of_getElem? (i := 1288) (by decide +kernel), List.mem_of_getElem? (i := 1656) (by decide +kernel), List.mem_of_getElem? (i := 1657) (by decide +kernel)⟩
theorem lw_p66 : lw_okq (⟨"DuelDelaysModel", "must", "(Z)V"⟩, 87) := ⟨⟨by decide +kernel, by decide +kernel⟩, List.mem_of_getElem? (i := 1288) (by decide +kernel), List.mem_of_getElem? (i := 1660) (by decide +kernel), List.mem_of_getElem? (i := 1661) (by decide +kernel)⟩
theorem lw_p67 : lw_okq (⟨"DuelDelaysModel", "numeral", "(II)I"⟩, 87) := ⟨⟨by decide +kernel, by decide +kernel⟩, List.mem_of_getElem? (i := 1288) (by decide +kernel), List.mem_of_getElem? (i := 1664) (by decide +kernel), List.mem_of_getElem? (i := 1665) (by decide +kernel)⟩
theorem lw_p68 : lw_okq (⟨"DuelDelaysModel", "perhaps", "(JIII)I"⟩, 87) := ⟨⟨by decide +kernel, by decide +kernel⟩, List.mem_of_getElem? (i := 1288) (by decide +kernel), List.mem_of_getElem? (i := 1668) (by decide +kernel), List.mem_of_getElem? (i := 1669) (by decide +kernel)⟩
theorem lw_p69 : lw_okq (⟨"DuelDelaysModel", "known", "(I)I"⟩, 87) := ⟨⟨by decide +kernel, by decide +kernel⟩, List.mem_of_getElem? (i := 1288) (by decide +kernel), List.mem_of_getElem? (i := 1672) (by decide +kernel), List.mem_of_getElem? (i := 1673) (by decide +kernel)⟩
theorem lw_p70 : lw_okq (⟨"DuelDelaysModel", "readKind", "()V"⟩, 87) := ⟨⟨by decide +kernel, by decide +kernel⟩, List.mem_of_getElem? (i := 1288) (by decide +kernel), List.mem_of_getElem? (i := 1676) (by decide +kernel), List.mem_of_getElem? (i := 1677) (by decide +kernel)⟩
theorem lw_p71 : lw_okq (⟨"DuelDelaysModel", "kindHere", "()I"⟩, 87) := ⟨⟨by decide +kernel, by decide +kernel⟩, List.mem_of_getElem? (i := 1288) (by decide +kernel), List.mem_of_getElem? (i := 1680) (by decide +kernel), List.mem_of_getElem? (i := 1681) (by decide +kernel)⟩
theorem lw_p72 : lw_okq (⟨"DuelDelaysModel", "readRule", "(I)V"⟩, 87) := ⟨⟨by decide +kernel, by decide +kernel⟩, List.mem_of_getElem? (i := 1288) (by decide +kernel), List.mem_of_getElem? (i := 1684) (by decide +kernel), List.mem_of_getElem? (i := 1685) (by decide +kernel)⟩
theorem lw_p73 : lw_okq (⟨"DuelDelaysModel", "e", "()V"⟩, 87) := ⟨⟨by decide +kernel, by decide +kernel⟩, List.mem_of_getElem? (i := 1288) (by decide +kernel), List.mem_of_getElem? (i := 1688) (by decide +kernel), List.mem_of_getElem? (i := 1689) (by decide +kernel)⟩
theorem lw_p74 : lw_okq (⟨"DuelDelaysModel", "pushE", "(II)V"⟩, 87) := ⟨⟨by decide +kernel, by decide +kernel⟩, List.mem_of_getElem? (i := 1288) (by decide +kernel), List.mem_of_getElem? (i := 1692) (by decide +kernel), List.mem_of_getElem? (i := 1693) (by decide +kernel)⟩
theorem lw_p75 : lw_okq (⟨"DuelDelaysModel", "unit", "()Z"⟩, 87) := ⟨⟨by decide +kernel, by decide +kernel⟩, List.mem_of_getElem? (i := 1288) (by decide +kernel), List.mem_of_getElem? (i := 1696) (by decide +kernel), List.mem_of_getElem? (i := 1697) (by decide +kernel)⟩
theorem lw_p76 : lw_okq (⟨"DuelDelaysModel", "isSignHere", "(I)Z"⟩, 87) := ⟨⟨by decide +kernel, by decide +kernel⟩, List.mem_of_getElem? (i := 1288) (by decide +kernel), List.mem_of_getElem? (i := 1700) (by decide +kernel), List.mem_of_getElem? (i := 1701) (by decide +kernel)⟩
theorem lw_p77 : lw_okq (⟨"DuelDelaysModel", "wordHere", "()I"⟩, 87) := ⟨⟨by decide +kernel, by decide +kernel⟩, List.mem_of_getElem? (i := 1288) (by decide +kernel), List.mem_of_getElem? (i := 1704) (by decide +kernel), List.mem_of_getElem? (i := 1705) (by decide +kernel)⟩
theorem lw_p78 : lw_okq (⟨"DuelDelaysModel", "emit", "(II)V"⟩, 87) := ⟨⟨by decide +kernel, by decide +kernel⟩, List.mem_of_getElem? (i := 1288) (by decide +kernel), List.mem_of_getElem? (i := 1708) (by decide +kernel), List.mem_of_getElem? (i := 1709) (by decide +kernel)⟩
theorem lw_p79 : lw_okq (⟨"DuelDelaysModel", "behindUnit", "()Z"⟩, 87) := ⟨⟨by decide +kernel, by decide +kernel⟩, List.mem_of_getElem? (i := 1288) (by decide +kernel), List.mem_of_getElem? (i := 1712) (by decide +kernel), List.mem_of_getElem? (i := 1713) (by decide +kernel)⟩
def lw_privs_5 : List (MethodName × Nat) := [(⟨"DuelDelaysModel", "fresh", "(I)J"⟩, 87), (⟨"DuelDelaysModel", "after", "(JII)I"⟩, 87), (⟨"DuelDelaysModel", "must", "(Z)V"⟩, 87), (⟨"DuelDelaysModel", "numeral", "(II)I"⟩, 87), (⟨"DuelDelaysModel", "perhaps", "(JIII)I"⟩, 87), (⟨"DuelDelaysModel", "known", "(I)I"⟩, 87), (⟨"DuelDelaysModel", "readKind", "()V"⟩, 87), (⟨"DuelDelaysModel", "kindHere", "()I"⟩, 87), (⟨"DuelDelaysModel", "readRule", "(I)V"⟩, 87), (⟨"DuelDelaysModel", "e", "()V"⟩, 87), (⟨"DuelDelaysModel", "pushE", "(II)V"⟩, 87), (⟨"DuelDelaysModel", "unit", "()Z"⟩, 87), (⟨"DuelDelaysModel", "isSignHere", "(I)Z"⟩, 87), (⟨"DuelDelaysModel", "wordHere", "()I"⟩, 87), (⟨"DuelDelaysModel", "emit", "(II)V"⟩, 87), (⟨"DuelDelaysModel", "behindUnit", "()Z"⟩, 87)]
theorem lw_r5 : ∀ q ∈ lw_privs_5, lw_okq q := List.forall_mem_cons.mpr ⟨lw_p64, List.forall_mem_cons.mpr ⟨lw_p65, List.forall_mem_cons.mpr ⟨lw_p66, List.forall_mem_cons.mpr ⟨lw_p67, List.forall_mem_cons.mpr ⟨lw_p68, List.forall_mem_cons.mpr ⟨lw_p69, List.forall_mem_cons.mpr ⟨lw_p70, List.forall_mem_cons.mpr ⟨lw_p71, List.forall_mem_cons.mpr ⟨lw_p72, List.forall_mem_cons.mpr ⟨lw_p73, List.forall_mem_cons.mpr ⟨lw_p74, List.forall_mem_cons.mpr ⟨lw_p75, List.forall_mem_cons.mpr ⟨lw_p76, List.forall_mem_cons.mpr ⟨lw_p77, List.forall_mem_cons.mpr ⟨lw_p78, List.forall_mem_cons.mpr ⟨lw_p79, fun _ h => absurd h List.not_mem_nil⟩⟩⟩⟩⟩⟩⟩⟩⟩⟩⟩⟩⟩⟩⟩⟩
theorem lw_p80 : lw_okq (⟨"DuelDelaysModel", "rankHere", "()I"⟩, 87) := ⟨⟨by decide +kernel, by decide +kernel⟩, List.mem_of_getElem? (i := 1288) (by decide +kernel), List.mem_of_getElem? (i := 1716) (by decide +kernel), List.mem_of_getElem? (i := 1717) (by decide +kernel)⟩
theorem lw_p81 : lw_okq (⟨"DuelDelaysModel", "isCompared", "()Z"⟩, 87) := ⟨⟨by decide +kernel, by decide +kernel⟩, List.mem_of_getElem? (i := 1288) (by decide +kernel), List.mem_of_getElem? (i := 1720) (by decide +kernel), List.mem_of_getElem? (i := 1721) (by decide +kernel)⟩
theorem lw_p82 : lw_okq (⟨"DuelDelaysModel", "readReason", "()V"⟩, 87) := ⟨⟨by decide +kernel, by decide +kernel⟩, List.mem_of_getElem? (i := 1288) (by decide +kernel), List.mem_of_getElem? (i := 1724) (by decide +kernel), List.mem_of_getElem? (i := 1725) (by decide +kernel)⟩
theorem lw_p83 : lw_okq (⟨"DuelDelaysModel", "readDuel", "()V"⟩, 87) := ⟨⟨by decide +kernel, by decide +kernel⟩, List.mem_of_getElem? (i := 1288) (by decide +kernel), List.mem_of_getElem? (i := 1728) (by decide +kernel), List.mem_of_getElem? (i := 1729) (by decide +kernel)⟩
theorem lw_p84 : lw_okq (⟨"DuelDelaysModel", "isTold", "(II)Z"⟩, 87) := ⟨⟨by decide +kernel, by decide +kernel⟩, List.mem_of_getElem? (i := 1288) (by decide +kernel), List.mem_of_getElem? (i := 1732) (by decide +kernel), List.mem_of_getElem? (i := 1733) (by decide +kernel)⟩
theorem lw_p85 : lw_okq (⟨"DuelDelaysModel", "isMan", "(I)Z"⟩, 87) := ⟨⟨by decide +kernel, by decide +kernel⟩, List.mem_of_getElem? (i := 1288) (by decide +kernel), List.mem_of_getElem? (i := 1744) (by decide +kernel), List.mem_of_getElem? (i := 1745) (by decide +kernel)⟩
theorem lw_p86 : lw_okq (⟨"DuelDelaysModel", "isAlive", "(I)Z"⟩, 87) := ⟨⟨by decide +kernel, by decide +kernel⟩, List.mem_of_getElem? (i := 1288) (by decide +kernel), List.mem_of_getElem? (i := 1751) (by decide +kernel), List.mem_of_getElem? (i := 1752) (by decide +kernel)⟩
theorem lw_p87 : lw_okq (⟨"DuelDelaysModel", "diesOn", "(I)I"⟩, 87) := ⟨⟨by decide +kernel, by decide +kernel⟩, List.mem_of_getElem? (i := 1288) (by decide +kernel), List.mem_of_getElem? (i := 1755) (by decide +kernel), List.mem_of_getElem? (i := 1756) (by decide +kernel)⟩
theorem lw_p88 : lw_okq (⟨"DuelDelaysModel", "isDuel", "(I)Z"⟩, 87) := ⟨⟨by decide +kernel, by decide +kernel⟩, List.mem_of_getElem? (i := 1288) (by decide +kernel), List.mem_of_getElem? (i := 1763) (by decide +kernel), List.mem_of_getElem? (i := 1764) (by decide +kernel)⟩
theorem lw_p89 : lw_okq (⟨"DuelDelaysModel", "of", "(II)I"⟩, 87) := ⟨⟨by decide +kernel, by decide +kernel⟩, List.mem_of_getElem? (i := 1288) (by decide +kernel), List.mem_of_getElem? (i := 1767) (by decide +kernel), List.mem_of_getElem? (i := 1768) (by decide +kernel)⟩
theorem lw_p90 : lw_okq (⟨"DuelDelaysModel", "isReason", "(I)Z"⟩, 87) := ⟨⟨by decide +kernel, by decide +kernel⟩, List.mem_of_getElem? (i := 1288) (by decide +kernel), List.mem_of_getElem? (i := 1778) (by decide +kernel), List.mem_of_getElem? (i := 1779) (by decide +kernel)⟩
theorem lw_p91 : lw_okq (⟨"DuelDelaysModel", "isStruck", "(I)Z"⟩, 87) := ⟨⟨by decide +kernel, by decide +kernel⟩, List.mem_of_getElem? (i := 1288) (by decide +kernel), List.mem_of_getElem? (i := 1782) (by decide +kernel), List.mem_of_getElem? (i := 1783) (by decide +kernel)⟩
theorem lw_p92 : lw_okq (⟨"DuelDelaysModel", "worthBy", "(IIII)I"⟩, 87) := ⟨⟨by decide +kernel, by decide +kernel⟩, List.mem_of_getElem? (i := 1288) (by decide +kernel), List.mem_of_getElem? (i := 1790) (by decide +kernel), List.mem_of_getElem? (i := 1791) (by decide +kernel)⟩
theorem lw_p93 : lw_okq (⟨"DuelDelaysModel", "comesTo", "(I)I"⟩, 87) := ⟨⟨by decide +kernel, by decide +kernel⟩, List.mem_of_getElem? (i := 1288) (by decide +kernel), List.mem_of_getElem? (i := 1794) (by decide +kernel), List.mem_of_getElem? (i := 1795) (by decide +kernel)⟩
theorem lw_p94 : lw_okq (⟨"DuelDelaysModel", "asked", "(II)I"⟩, 87) := ⟨⟨by decide +kernel, by decide +kernel⟩, List.mem_of_getElem? (i := 1288) (by decide +kernel), List.mem_of_getElem? (i := 1798) (by decide +kernel), List.mem_of_getElem? (i := 1799) (by decide +kernel)⟩
theorem lw_p95 : lw_okq (⟨"DuelDelaysModel", "mayToday", "(III)Z"⟩, 87) := ⟨⟨by decide +kernel, by decide +kernel⟩, List.mem_of_getElem? (i := 1288) (by decide +kernel), List.mem_of_getElem? (i := 1812) (by decide +kernel), List.mem_of_getElem? (i := 1813) (by decide +kernel)⟩
def lw_privs_6 : List (MethodName × Nat) := [(⟨"DuelDelaysModel", "rankHere", "()I"⟩, 87), (⟨"DuelDelaysModel", "isCompared", "()Z"⟩, 87), (⟨"DuelDelaysModel", "readReason", "()V"⟩, 87), (⟨"DuelDelaysModel", "readDuel", "()V"⟩, 87), (⟨"DuelDelaysModel", "isTold", "(II)Z"⟩, 87), (⟨"DuelDelaysModel", "isMan", "(I)Z"⟩, 87), (⟨"DuelDelaysModel", "isAlive", "(I)Z"⟩, 87), (⟨"DuelDelaysModel", "diesOn", "(I)I"⟩, 87), (⟨"DuelDelaysModel", "isDuel", "(I)Z"⟩, 87), (⟨"DuelDelaysModel", "of", "(II)I"⟩, 87), (⟨"DuelDelaysModel", "isReason", "(I)Z"⟩, 87), (⟨"DuelDelaysModel", "isStruck", "(I)Z"⟩, 87), (⟨"DuelDelaysModel", "worthBy", "(IIII)I"⟩, 87), (⟨"DuelDelaysModel", "comesTo", "(I)I"⟩, 87), (⟨"DuelDelaysModel", "asked", "(II)I"⟩, 87), (⟨"DuelDelaysModel", "mayToday", "(III)Z"⟩, 87)]
theorem lw_r6 : ∀ q ∈ lw_privs_6, lw_okq q := List.forall_mem_cons.mpr ⟨lw_p80, List.forall_mem_cons.mpr ⟨lw_p81, List.forall_mem_cons.mpr ⟨lw_p82, List.forall_mem_cons.mpr ⟨lw_p83, List.forall_mem_cons.mpr ⟨lw_p84, List.forall_mem_cons.mpr ⟨lw_p85, List.forall_mem_cons.mpr ⟨lw_p86, List.forall_mem_cons.mpr ⟨lw_p87, List.forall_mem_cons.mpr ⟨lw_p88, List.forall_mem_cons.mpr ⟨lw_p89, List.forall_mem_cons.mpr ⟨lw_p90, List.forall_mem_cons.mpr ⟨lw_p91, List.forall_mem_cons.mpr ⟨lw_p92, List.forall_mem_cons.mpr ⟨lw_p93, List.forall_mem_cons.mpr ⟨lw_p94, List.forall_mem_cons.mpr ⟨lw_p95, fun _ h => absurd h List.not_mem_nil⟩⟩⟩⟩⟩⟩⟩⟩⟩⟩⟩⟩⟩⟩⟩⟩
theorem lw_p96 : lw_okq (⟨"DuelDelaysModel", "isOpen", "(I)Z"⟩, 87) := ⟨⟨by decide +kernel, by decide +kernel⟩, List.mem_of_getElem? (i := 1288) (by decide +kernel), List.mem_of_getElem? (i := 1816) (by decide +kernel), List.mem_of_getElem? (i := 1817) (by decide +kernel)⟩
theorem lw_p97 : lw_okq (⟨"DuelDelaysModel", "isTime", "(II)Z"⟩, 87) := ⟨⟨by decide +kernel, by decide +kernel⟩, List.mem_of_getElem? (i := 1288) (by decide +kernel), List.mem_of_getElem? (i := 1820) (by decide +kernel), List.mem_of_getElem? (i := 1821) (by decide +kernel)⟩
theorem lw_p98 : lw_okq (⟨"DuelDelaysModel", "ownerOf", "(I)I"⟩, 87) := ⟨⟨by decide +kernel, by decide +kernel⟩, List.mem_of_getElem? (i := 1288) (by decide +kernel), List.mem_of_getElem? (i := 1824) (by decide +kernel), List.mem_of_getElem? (i := 1825) (by decide +kernel)⟩
theorem lw_p99 : lw_okq (⟨"DuelDelaysModel", "isHis", "(IIZI)Z"⟩, 87) := ⟨⟨by decide +kernel, by decide +kernel⟩, List.mem_of_getElem? (i := 1288) (by decide +kernel), List.mem_of_getElem? (i := 1828) (by decide +kernel), List.mem_of_getElem? (i := 1829) (by decide +kernel)⟩
theorem lw_p100 : lw_okq (⟨"DuelDelaysModel", "elsewhere", "(I)I"⟩, 87) := ⟨⟨by decide +kernel, by decide +kernel⟩, List.mem_of_getElem? (i := 1288) (by decide +kernel), List.mem_of_getElem? (i := 1832) (by decide +kernel), List.mem_of_getElem? (i := 1833) (by decide +kernel)⟩
theorem lw_p101 : lw_okq (⟨"DuelDelaysModel", "isNew", "(IIII)Z"⟩, 87) := ⟨⟨by decide +kernel, by decide +kernel⟩, List.mem_of_getElem? (i := 1288) (by decide +kernel), List.mem_of_getElem? (i := 1836) (by decide +kernel), List.mem_of_getElem? (i := 1837) (by decide +kernel)⟩
theorem lw_p102 : lw_okq (⟨"DuelDelaysModel", "keepAct", "()V"⟩, 87) := ⟨⟨by decide +kernel, by decide +kernel⟩, List.mem_of_getElem? (i := 1288) (by decide +kernel), List.mem_of_getElem? (i := 1844) (by decide +kernel), List.mem_of_getElem? (i := 1845) (by decide +kernel)⟩
theorem lw_p103 : lw_okq (⟨"DuelDelaysModel", "haveOpen", "(II)Z"⟩, 87) := ⟨⟨by decide +kernel, by decide +kernel⟩, List.mem_of_getElem? (i := 1288) (by decide +kernel), List.mem_of_getElem? (i := 1863) (by decide +kernel), List.mem_of_getElem? (i := 1864) (by decide +kernel)⟩
theorem lw_p104 : lw_okq (⟨"DuelDelaysModel", "doOppose", "(III)Z"⟩, 87) := ⟨⟨by decide +kernel, by decide +kernel⟩, List.mem_of_getElem? (i := 1288) (by decide +kernel), List.mem_of_getElem? (i := 1867) (by decide +kernel), List.mem_of_getElem? (i := 1868) (by decide +kernel)⟩
theorem lw_p105 : lw_okq (⟨"DuelDelaysModel", "goDay", "()V"⟩, 87) := ⟨⟨by decide +kernel, by decide +kernel⟩, List.mem_of_getElem? (i := 1288) (by decide +kernel), List.mem_of_getElem? (i := 1875) (by decide +kernel), List.mem_of_getElem? (i := 1876) (by decide +kernel)⟩
theorem lw_p106 : lw_okq (⟨"DuelDelaysModel", "dieNow", "(I)V"⟩, 87) := ⟨⟨by decide +kernel, by decide +kernel⟩, List.mem_of_getElem? (i := 1288) (by decide +kernel), List.mem_of_getElem? (i := 1879) (by decide +kernel), List.mem_of_getElem? (i := 1880) (by decide +kernel)⟩
theorem lw_p107 : lw_okq (⟨"DuelDelaysModel", "heirOf", "(I)I"⟩, 87) := ⟨⟨by decide +kernel, by decide +kernel⟩, List.mem_of_getElem? (i := 1288) (by decide +kernel), List.mem_of_getElem? (i := 1883) (by decide +kernel), List.mem_of_getElem? (i := 1884) (by decide +kernel)⟩
theorem lw_p108 : lw_okq (⟨"DuelDelaysModel", "fight", "(I)V"⟩, 87) := ⟨⟨by decide +kernel, by decide +kernel⟩, List.mem_of_getElem? (i := 1288) (by decide +kernel), List.mem_of_getElem? (i := 1887) (by decide +kernel), List.mem_of_getElem? (i := 1888) (by decide +kernel)⟩
theorem lw_p109 : lw_okq (⟨"DuelDelaysModel", "exchange", "()V"⟩, 87) := ⟨⟨by decide +kernel, by decide +kernel⟩, List.mem_of_getElem? (i := 1288) (by decide +kernel), List.mem_of_getElem? (i := 1895) (by decide +kernel), List.mem_of_getElem? (i := 1896) (by decide +kernel)⟩
theorem lw_p110 : lw_okq (⟨"DuelDelaysModel", "openDuel", "(I)V"⟩, 87) := ⟨⟨by decide +kernel, by decide +kernel⟩, List.mem_of_getElem? (i := 1288) (by decide +kernel), List.mem_of_getElem? (i := 1911) (by decide +kernel), List.mem_of_getElem? (i := 1912) (by decide +kernel)⟩
theorem lw_p111 : lw_okq (⟨"DuelDelaysModel", "open", "(IIIIII)V"⟩, 87) := ⟨⟨by decide +kernel, by decide +kernel⟩, List.mem_of_getElem? (i := 1288) (by decide +kernel), List.mem_of_getElem? (i := 1915) (by decide +kernel), List.mem_of_getElem? (i := 1916) (by decide +kernel)⟩
def lw_privs_7 : List (MethodName × Nat) := [(⟨"DuelDelaysModel", "isOpen", "(I)Z"⟩, 87), (⟨"DuelDelaysModel", "isTime", "(II)Z"⟩, 87), (⟨"DuelDelaysModel", "ownerOf", "(I)I"⟩, 87), (⟨"DuelDelaysModel", "isHis", "(IIZI)Z"⟩, 87), (⟨"DuelDelaysModel", "elsewhere", "(I)I"⟩, 87), (⟨"DuelDelaysModel", "isNew", "(IIII)Z"⟩, 87), (⟨"DuelDelaysModel", "keepAct", "()V"⟩, 87), (⟨"DuelDelaysModel", "haveOpen", "(II)Z"⟩, 87), (⟨"DuelDelaysModel", "doOppose", "(III)Z"⟩, 87), (⟨"DuelDelaysModel", "goDay", "()V"⟩, 87), (⟨"DuelDelaysModel", "dieNow", "(I)V"⟩, 87), (⟨"DuelDelaysModel", "heirOf", "(I)I"⟩, 87), (⟨"DuelDelaysModel", "fight", "(I)V"⟩, 87), (⟨"DuelDelaysModel", "exchange", "()V"⟩, 87), (⟨"DuelDelaysModel", "openDuel", "(I)V"⟩, 87), (⟨"DuelDelaysModel", "open", "(IIIIII)V"⟩, 87)]
theorem lw_r7 : ∀ q ∈ lw_privs_7, lw_okq q := List.forall_mem_cons.mpr ⟨lw_p96, List.forall_mem_cons.mpr ⟨lw_p97, List.forall_mem_cons.mpr ⟨lw_p98, List.forall_mem_cons.mpr ⟨lw_p99, List.forall_mem_cons.mpr ⟨lw_p100, List.forall_mem_cons.mpr ⟨lw_p101, List.forall_mem_cons.mpr ⟨lw_p102, List.forall_mem_cons.mpr ⟨lw_p103, List.forall_mem_cons.mpr ⟨lw_p104, List.forall_mem_cons.mpr ⟨lw_p105, List.forall_mem_cons.mpr ⟨lw_p106, List.forall_mem_cons.mpr ⟨lw_p107, List.forall_mem_cons.mpr ⟨lw_p108, List.forall_mem_cons.mpr ⟨lw_p109, List.forall_mem_cons.mpr ⟨lw_p110, List.forall_mem_cons.mpr ⟨lw_p111, fun _ h => absurd h List.not_mem_nil⟩⟩⟩⟩⟩⟩⟩⟩⟩⟩⟩⟩⟩⟩⟩⟩
theorem lw_p112 : lw_okq (⟨"DuelDelaysModel", "seekLife", "()I"⟩, 87) := ⟨⟨by decide +kernel, by decide +kernel⟩, List.mem_of_getElem? (i := 1288) (by decide +kernel), List.mem_of_getElem? (i := 1919) (by decide +kernel), List.mem_of_getElem? (i := 1920) (by decide +kernel)⟩
theorem lw_p113 : lw_okq (⟨"DuelDelaysModel", "overIn", "()I"⟩, 87) := ⟨⟨by decide +kernel, by decide +kernel⟩, List.mem_of_getElem? (i := 1288) (by decide +kernel), List.mem_of_getElem? (i := 1923) (by decide +kernel), List.mem_of_getElem? (i := 1924) (by decide +kernel)⟩
theorem lw_p114 : lw_okq (⟨"DuelDelaysModel", "isOver", "(I)Z"⟩, 87) := ⟨⟨by decide +kernel, by decide +kernel⟩, List.mem_of_getElem? (i := 1288) (by decide +kernel), List.mem_of_getElem? (i := 1927) (by decide +kernel), List.mem_of_getElem? (i := 1928) (by decide +kernel)⟩
theorem lw_p115 : lw_okq (⟨"DuelDelaysModel", "goLevel", "(II)Z"⟩, 87) := ⟨⟨by decide +kernel, by decide +kernel⟩, List.mem_of_getElem? (i := 1288) (by decide +kernel), List.mem_of_getElem? (i := 1931) (by decide +kernel), List.mem_of_getElem? (i := 1932) (by decide +kernel)⟩
theorem lw_p116 : lw_okq (⟨"DuelDelaysModel", "layWorths", "(I)V"⟩, 87) := ⟨⟨by decide +kernel, by decide +kernel⟩, List.mem_of_getElem? (i := 1288) (by decide +kernel), List.mem_of_getElem? (i := 1935) (by decide +kernel), List.mem_of_getElem? (i := 1936) (by decide +kernel)⟩
theorem lw_p117 : lw_okq (⟨"DuelDelaysModel", "mayIn", "(III)Z"⟩, 87) := ⟨⟨by decide +kernel, by decide +kernel⟩, List.mem_of_getElem? (i := 1288) (by decide +kernel), List.mem_of_getElem? (i := 1939) (by decide +kernel), List.mem_of_getElem? (i := 1940) (by decide +kernel)⟩
theorem lw_p118 : lw_okq (⟨"DuelDelaysModel", "stateOf", "(IIII)I"⟩, 87) := ⟨⟨by decide +kernel, by decide +kernel⟩, List.mem_of_getElem? (i := 1288) (by decide +kernel), List.mem_of_getElem? (i := 1943) (by decide +kernel), List.mem_of_getElem? (i := 1944) (by decide +kernel)⟩
theorem lw_p119 : lw_okq (⟨"DuelDelaysModel", "winsBy", "(III)I"⟩, 87) := ⟨⟨by decide +kernel, by decide +kernel⟩, List.mem_of_getElem? (i := 1288) (by decide +kernel), List.mem_of_getElem? (i := 1955) (by decide +kernel), List.mem_of_getElem? (i := 1956) (by decide +kernel)⟩
theorem lw_p120 : lw_okq (⟨"DuelDelaysModel", "canRent", "(I)I"⟩, 87) := ⟨⟨by decide +kernel, by decide +kernel⟩, List.mem_of_getElem? (i := 1288) (by decide +kernel), List.mem_of_getElem? (i := 1967) (by decide +kernel), List.mem_of_getElem? (i := 1968) (by decide +kernel)⟩
theorem lw_p121 : lw_okq (⟨"DuelDelaysModel", "rents", "(I)I"⟩, 87) := ⟨⟨by decide +kernel, by decide +kernel⟩, List.mem_of_getElem? (i := 1288) (by decide +kernel), List.mem_of_getElem? (i := 1971) (by decide +kernel), List.mem_of_getElem? (i := 1972) (by decide +kernel)⟩
theorem lw_p122 : lw_okq (⟨"DuelDelaysModel", "isIn2", "(II)Z"⟩, 87) := ⟨⟨by decide +kernel, by decide +kernel⟩, List.mem_of_getElem? (i := 1288) (by decide +kernel), List.mem_of_getElem? (i := 1979) (by decide +kernel), List.mem_of_getElem? (i := 1980) (by decide +kernel)⟩
theorem lw_p123 : lw_okq (⟨"DuelDelaysModel", "partsBy", "(IIII)Z"⟩, 87) := ⟨⟨by decide +kernel, by decide +kernel⟩, List.mem_of_getElem? (i := 1288) (by decide +kernel), List.mem_of_getElem? (i := 1988) (by decide +kernel), List.mem_of_getElem? (i := 1989) (by decide +kernel)⟩
theorem lw_p124 : lw_okq (⟨"DuelDelaysModel", "tries", "(III)I"⟩, 87) := ⟨⟨by decide +kernel, by decide +kernel⟩, List.mem_of_getElem? (i := 1288) (by decide +kernel), List.mem_of_getElem? (i := 1992) (by decide +kernel), List.mem_of_getElem? (i := 1993) (by decide +kernel)⟩
theorem lw_p125 : lw_okq (⟨"DuelDelaysModel", "partsBySecond", "(II)Z"⟩, 87) := ⟨⟨by decide +kernel, by decide +kernel⟩, List.mem_of_getElem? (i := 1288) (by decide +kernel), List.mem_of_getElem? (i := 1996) (by decide +kernel), List.mem_of_getElem? (i := 1997) (by decide +kernel)⟩
theorem lw_p126 : lw_okq (⟨"DuelDelaysModel", "takeBack", "(IIII)V"⟩, 87) := ⟨⟨by decide +kernel, by decide +kernel⟩, List.mem_of_getElem? (i := 1288) (by decide +kernel), List.mem_of_getElem? (i := 2000) (by decide +kernel), List.mem_of_getElem? (i := 2001) (by decide +kernel)⟩
theorem lw_p127 : lw_okq (⟨"DuelDelaysModel", "isFalse", "(II)Z"⟩, 87) := ⟨⟨by decide +kernel, by decide +kernel⟩, List.mem_of_getElem? (i := 1288) (by decide +kernel), List.mem_of_getElem? (i := 2046) (by decide +kernel), List.mem_of_getElem? (i := 2047) (by decide +kernel)⟩
def lw_privs_8 : List (MethodName × Nat) := [(⟨"DuelDelaysModel", "seekLife", "()I"⟩, 87), (⟨"DuelDelaysModel", "overIn", "()I"⟩, 87), (⟨"DuelDelaysModel", "isOver", "(I)Z"⟩, 87), (⟨"DuelDelaysModel", "goLevel", "(II)Z"⟩, 87), (⟨"DuelDelaysModel", "layWorths", "(I)V"⟩, 87), (⟨"DuelDelaysModel", "mayIn", "(III)Z"⟩, 87), (⟨"DuelDelaysModel", "stateOf", "(IIII)I"⟩, 87), (⟨"DuelDelaysModel", "winsBy", "(III)I"⟩, 87), (⟨"DuelDelaysModel", "canRent", "(I)I"⟩, 87), (⟨"DuelDelaysModel", "rents", "(I)I"⟩, 87), (⟨"DuelDelaysModel", "isIn2", "(II)Z"⟩, 87), (⟨"DuelDelaysModel", "partsBy", "(IIII)Z"⟩, 87), (⟨"DuelDelaysModel", "tries", "(III)I"⟩, 87), (⟨"DuelDelaysModel", "partsBySecond", "(II)Z"⟩, 87), (⟨"DuelDelaysModel", "takeBack", "(IIII)V"⟩, 87), (⟨"DuelDelaysModel", "isFalse", "(II)Z"⟩, 87)]
theorem lw_r8 : ∀ q ∈ lw_privs_8, lw_okq q := List.forall_mem_cons.mpr ⟨lw_p112, List.forall_mem_cons.mpr ⟨lw_p113, List.forall_mem_cons.mpr ⟨lw_p114, List.forall_mem_cons.mpr ⟨lw_p115, List.forall_mem_cons.mpr ⟨lw_p116, List.forall_mem_cons.mpr ⟨lw_p117, List.forall_mem_cons.mpr ⟨lw_p118, List.forall_mem_cons.mpr ⟨lw_p119, List.forall_mem_cons.mpr ⟨lw_p120, List.forall_mem_cons.mpr ⟨lw_p121, List.forall_mem_cons.mpr ⟨lw_p122, List.forall_mem_cons.mpr ⟨lw_p123, List.forall_mem_cons.mpr ⟨lw_p124, List.forall_mem_cons.mpr ⟨lw_p125, List.forall_mem_cons.mpr ⟨lw_p126, List.forall_mem_cons.mpr ⟨lw_p127, fun _ h => absurd h List.not_mem_nil⟩⟩⟩⟩⟩⟩⟩⟩⟩⟩⟩⟩⟩⟩⟩⟩
theorem lw_p128 : lw_okq (⟨"DuelDelaysModel", "openMany", "()I"⟩, 87) := ⟨⟨by decide +kernel, by decide +kernel⟩, List.mem_of_getElem? (i := 1288) (by decide +kernel), List.mem_of_getElem? (i := 2062) (by decide +kernel), List.mem_of_getElem? (i := 2063) (by decide +kernel)⟩
def lw_privs_9 : List (MethodName × Nat) := [(⟨"DuelDelaysModel", "openMany", "()I"⟩, 87)]
theorem lw_r9 : ∀ q ∈ lw_privs_9, lw_okq q := List.forall_mem_cons.mpr ⟨lw_p128, fun _ h => absurd h List.not_mem_nil⟩
def lw_privs : List (MethodName × Nat) := lw_privs_1 ++ (lw_privs_2 ++ (lw_privs_3 ++ (lw_privs_4 ++ (lw_privs_5 ++ (lw_privs_6 ++ (lw_privs_7 ++ (lw_privs_8 ++ (lw_privs_9))))))))
def lw_tbl : List Cond := k2_sels lw_privs ++ tables_1
theorem lw_privs_ok : ∀ q ∈ lw_privs, lw_okq q := by
  show ∀ q ∈ lw_privs_1 ++ (lw_privs_2 ++ (lw_privs_3 ++ (lw_privs_4 ++ (lw_privs_5 ++ (lw_privs_6 ++ (lw_privs_7 ++ (lw_privs_8 ++ (lw_privs_9)))))))), lw_okq q
  exact List.forall_mem_append.mpr ⟨lw_r1, List.forall_mem_append.mpr ⟨lw_r2, List.forall_mem_append.mpr ⟨lw_r3, List.forall_mem_append.mpr ⟨lw_r4, List.forall_mem_append.mpr ⟨lw_r5, List.forall_mem_append.mpr ⟨lw_r6, List.forall_mem_append.mpr ⟨lw_r7, List.forall_mem_append.mpr ⟨lw_r8, lw_r9⟩⟩⟩⟩⟩⟩⟩⟩

theorem goodIn_r {big : List Cond} (ws : List Cond) (ps : List Nat) (hp : ws = ps.filterMap (fun i => big[i]?)) (h : ws.all goodWord = true) : GoodIn big ws := by
  intro w hw
  have h1 := List.all_eq_true.mp h w hw
  rw [hp] at hw
  obtain ⟨i, -, hi⟩ := List.mem_filterMap.mp hw
  have hm : w ∈ big := by first | exact List.mem_of_getElem? hi | exact List.getElem?_mem hi
  exact ⟨hm, good_of_word h1⟩
theorem goodIn_app {big a b : List Cond} (ha : GoodIn big a) (hb : GoodIn big b) : GoodIn big (a ++ b) := fun w h => (List.mem_append.mp h).elim (ha w) (hb w)
theorem goodIn_ca {big a b : List Cond} {c : Cond} (ha : GoodIn big (c :: a)) (hb : GoodIn big b) : GoodIn big (c :: (a ++ b)) := fun w h => (List.mem_cons.mp h).elim (fun e => ha w (List.mem_cons.mpr (Or.inl e))) (fun h => (List.mem_append.mp h).elim (fun h => ha w (List.mem_cons.mpr (Or.inr h))) (hb w))
theorem goodIn_sub {big ws : List Cond} (hm : ∀ w ∈ ws, w ∈ big) (h : ws.all goodWord = true) : GoodIn big ws := fun w hw => ⟨hm w hw, good_of_word (List.all_eq_true.mp h w hw)⟩

def RX0 : String := "DuelDelays$Formulas"
def TX0 : u_T := fun k => match k with
  | 0 => ("DuelDelays$Formulas", "count", "I", false)
  | 1 => ("DuelDelays$Formulas", "units", "I", false)
  | 2 => ("DuelDelays$Formulas", "names", "[J", true)
  | 3 => ("DuelDelays$Formulas", "unitsOfThis", "I", false)
  | 4 => ("DuelDelays$Formulas", "length", "I", false)
  | 5 => ("DuelDelays$Formulas", "starts", "[I", true)
  | 6 => ("DuelDelays$Formulas", "steps", "[I", true)
  | _ => ("DuelDelays$Formulas", "stack", "[I", true)
def tyX0 : Nat → FieldType := fun k => match k with
  | 0 => .int
  | 1 => .int
  | 2 => .array .long
  | 3 => .int
  | 4 => .int
  | 5 => .array .int
  | 6 => .array .int
  | _ => .array .int
abbrev wsX00 : List Cond := u_ws RX0 TX0 8
theorem nmX0 : ∀ a, a < 8 → ∀ b, b < 8 → a ≠ b → (TX0 a).2.1 ≠ (TX0 b).2.1 := by decide +kernel
theorem tyX0_ok : ∀ k, k < 8 → parseFieldDescriptor (TX0 k).2.2.1 = some (tyX0 k) := by decide +kernel
abbrev cX0_init : ByteArray := prog_2_method_1_code
def yX0_init : MethodName := ⟨RX0, "<init>", "()V"⟩
abbrev cX0_clear : ByteArray := prog_2_method_2_code
def yX0_clear : MethodName := ⟨RX0, "clear", "()V"⟩
abbrev cX0_beginKind : ByteArray := prog_2_method_3_code
def yX0_beginKind : MethodName := ⟨RX0, "beginKind", "()V"⟩
abbrev cX0_closeKind : ByteArray := prog_2_method_4_code
def yX0_closeKind : MethodName := ⟨RX0, "closeKind", "()V"⟩
abbrev cX0_hasRoomForUnit : ByteArray := prog_2_method_5_code
def yX0_hasRoomForUnit : MethodName := ⟨RX0, "hasRoomForUnit", "()Z"⟩
abbrev cX0_countUnit : ByteArray := prog_2_method_6_code
def yX0_countUnit : MethodName := ⟨RX0, "countUnit", "()V"⟩
abbrev cX0_addStep : ByteArray := prog_2_method_7_code
def yX0_addStep : MethodName := ⟨RX0, "addStep", "(I)V"⟩
abbrev cX0_valueOf : ByteArray := prog_2_method_8_code
def yX0_valueOf : MethodName := ⟨RX0, "valueOf", "(IIII)I"⟩
abbrev cX0_leaf : ByteArray := prog_2_method_9_code
def yX0_leaf : MethodName := ⟨RX0, "leaf", "(IIII)I"⟩
abbrev cX0_joined : ByteArray := prog_2_method_10_code
def yX0_joined : MethodName := ⟨RX0, "joined", "(III)I"⟩
def RX1 : String := "DuelDelays$Heap"
def TX1 : u_T := fun k => match k with
  | 0 => ("DuelDelays$Heap", "count", "I", false)
  | _ => ("DuelDelays$Heap", "numbers", "[I", true)
def tyX1 : Nat → FieldType := fun k => match k with
  | 0 => .int
  | _ => .array .int
abbrev wsX10 : List Cond := u_ws RX1 TX1 2
theorem nmX1 : ∀ a, a < 2 → ∀ b, b < 2 → a ≠ b → (TX1 a).2.1 ≠ (TX1 b).2.1 := by decide +kernel
theorem tyX1_ok : ∀ k, k < 2 → parseFieldDescriptor (TX1 k).2.2.1 = some (tyX1 k) := by decide +kernel
abbrev cX1_init : ByteArray := prog_3_method_1_code
def yX1_init : MethodName := ⟨RX1, "<init>", "()V"⟩
abbrev cX1_clear : ByteArray := prog_3_method_2_code
def yX1_clear : MethodName := ⟨RX1, "clear", "()V"⟩
abbrev cX1_add : ByteArray := prog_3_method_3_code
def yX1_add : MethodName := ⟨RX1, "add", "(I)V"⟩
def RX2 : String := "DuelDelays$Land"
def TX2 : u_T := fun k => match k with
  | 0 => ("DuelDelays$Land", "men", "LDuelDelays$Men;", true)
  | 1 => ("DuelDelays$Land", "formulas", "LDuelDelays$Formulas;", true)
  | 2 => ("DuelDelays$Land", "reasons", "LDuelDelays$Reasons;", true)
  | 3 => ("DuelDelays$Land", "duels", "I", false)
  | 4 => ("DuelDelays$Land", "duelSides", "[I", true)
  | 5 => ("DuelDelays$Land", "duelMornings", "[I", true)
  | 6 => ("DuelDelays$Land", "honour", "I", false)
  | 7 => ("DuelDelays$Land", "draw", "I", false)
  | _ => ("DuelDelays$Land", "usesOfKind", "[I", true)
def tyX2 : Nat → FieldType := fun k => match k with
  | 0 => .object "DuelDelays$Men"
  | 1 => .object "DuelDelays$Formulas"
  | 2 => .object "DuelDelays$Reasons"
  | 3 => .int
  | 4 => .array .int
  | 5 => .array .int
  | 6 => .int
  | 7 => .int
  | _ => .array .int
abbrev wsX20 : List Cond := u_ws RX2 TX2 9
theorem nmX2 : ∀ a, a < 9 → ∀ b, b < 9 → a ≠ b → (TX2 a).2.1 ≠ (TX2 b).2.1 := by decide +kernel
theorem tyX2_ok : ∀ k, k < 9 → parseFieldDescriptor (TX2 k).2.2.1 = some (tyX2 k) := by decide +kernel
abbrev cX2_init : ByteArray := prog_4_method_1_code
def yX2_init : MethodName := ⟨RX2, "<init>", "()V"⟩
abbrev cX2_clear : ByteArray := prog_4_method_2_code
def yX2_clear : MethodName := ⟨RX2, "clear", "()V"⟩
abbrev cX2_isDuelTold : ByteArray := prog_4_method_3_code
def yX2_isDuelTold : MethodName := ⟨RX2, "isDuelTold", "(II)Z"⟩
abbrev cX2_worthOf : ByteArray := prog_4_method_4_code
def yX2_worthOf : MethodName := ⟨RX2, "worthOf", "(III)I"⟩
def RX3 : String := "DuelDelays$Men"
def TX3 : u_T := fun k => match k with
  | 0 => ("DuelDelays$Men", "count", "I", false)
  | 1 => ("DuelDelays$Men", "names", "[J", true)
  | 2 => ("DuelDelays$Men", "dies", "[I", true)
  | 3 => ("DuelDelays$Men", "coins", "[I", true)
  | _ => ("DuelDelays$Men", "fathers", "[I", true)
def tyX3 : Nat → FieldType := fun k => match k with
  | 0 => .int
  | 1 => .array .long
  | 2 => .array .int
  | 3 => .array .int
  | _ => .array .int
abbrev wsX30 : List Cond := u_ws RX3 TX3 5
theorem nmX3 : ∀ a, a < 5 → ∀ b, b < 5 → a ≠ b → (TX3 a).2.1 ≠ (TX3 b).2.1 := by decide +kernel
theorem tyX3_ok : ∀ k, k < 5 → parseFieldDescriptor (TX3 k).2.2.1 = some (tyX3 k) := by decide +kernel
abbrev cX3_init : ByteArray := prog_5_method_1_code
def yX3_init : MethodName := ⟨RX3, "<init>", "()V"⟩
abbrev cX3_has : ByteArray := prog_5_method_2_code
def yX3_has : MethodName := ⟨RX3, "has", "(I)Z"⟩
def RX4 : String := "DuelDelays$Parting"
def TX4 : u_T := fun k => match k with
  | 0 => ("DuelDelays$Parting", "first", "I", false)
  | 1 => ("DuelDelays$Parting", "second", "I", false)
  | 2 => ("DuelDelays$Parting", "behind", "[I", true)
  | _ => ("DuelDelays$Parting", "mornings", "[I", true)
def tyX4 : Nat → FieldType := fun k => match k with
  | 0 => .int
  | 1 => .int
  | 2 => .array .int
  | _ => .array .int
abbrev wsX40 : List Cond := u_ws RX4 TX4 4
theorem nmX4 : ∀ a, a < 4 → ∀ b, b < 4 → a ≠ b → (TX4 a).2.1 ≠ (TX4 b).2.1 := by decide +kernel
theorem tyX4_ok : ∀ k, k < 4 → parseFieldDescriptor (TX4 k).2.2.1 = some (tyX4 k) := by decide +kernel
abbrev cX4_init : ByteArray := prog_6_method_1_code
def yX4_init : MethodName := ⟨RX4, "<init>", "()V"⟩
abbrev cX4_told : ByteArray := prog_6_method_2_code
def yX4_told : MethodName := ⟨RX4, "told", "(I)I"⟩
abbrev cX4_find : ByteArray := prog_6_method_3_code
def yX4_find : MethodName := ⟨RX4, "find", "(LDuelDelays$Land;LDuelDelays$State;I)I"⟩
abbrev cX4_fillMoves : ByteArray := prog_6_method_4_code
def yX4_fillMoves : MethodName := ⟨RX4, "fillMoves", "(LDuelDelays$Land;LDuelDelays$State;I)V"⟩
abbrev cX4_findOne : ByteArray := prog_6_method_5_code
def yX4_findOne : MethodName := ⟨RX4, "findOne", "(LDuelDelays$State;I)Z"⟩
abbrev cX4_findTwo : ByteArray := prog_6_method_6_code
def yX4_findTwo : MethodName := ⟨RX4, "findTwo", "(LDuelDelays$Land;LDuelDelays$State;I)Z"⟩
abbrev cX4_findSecond : ByteArray := prog_6_method_7_code
def yX4_findSecond : MethodName := ⟨RX4, "findSecond", "(LDuelDelays$Land;LDuelDelays$State;I)Z"⟩
abbrev cX4_isParted : ByteArray := prog_6_method_8_code
def yX4_isParted : MethodName := ⟨RX4, "isParted", "(LDuelDelays$State;II)Z"⟩
abbrev cX4_duelOf : ByteArray := prog_6_method_9_code
def yX4_duelOf : MethodName := ⟨RX4, "duelOf", "(I)I"⟩
abbrev cX4_sideOf : ByteArray := prog_6_method_10_code
def yX4_sideOf : MethodName := ⟨RX4, "sideOf", "(I)I"⟩
abbrev cX4_reasonOf : ByteArray := prog_6_method_11_code
def yX4_reasonOf : MethodName := ⟨RX4, "reasonOf", "(I)I"⟩
def RX5 : String := "DuelDelays$Reader"
def TX5 : u_T := fun k => match k with
  | 0 => ("DuelDelays$Reader", "faultCode", "I", false)
  | 1 => ("DuelDelays$Reader", "faultPlace", "I", false)
  | 2 => ("DuelDelays$Reader", "tokens", "LDuelDelays$Tokens;", true)
  | 3 => ("DuelDelays$Reader", "land", "LDuelDelays$Land;", false)
  | 4 => ("DuelDelays$Reader", "honourTold", "Z", false)
  | 5 => ("DuelDelays$Reader", "drawTold", "Z", false)
  | _ => ("DuelDelays$Reader", "taken", "I", false)
def tyX5 : Nat → FieldType := fun k => match k with
  | 0 => .int
  | 1 => .int
  | 2 => .object "DuelDelays$Tokens"
  | 3 => .object "DuelDelays$Land"
  | 4 => .boolean
  | 5 => .boolean
  | _ => .int
abbrev wsX50 : List Cond := u_ws RX5 TX5 7
theorem nmX5 : ∀ a, a < 7 → ∀ b, b < 7 → a ≠ b → (TX5 a).2.1 ≠ (TX5 b).2.1 := by decide +kernel
theorem tyX5_ok : ∀ k, k < 7 → parseFieldDescriptor (TX5 k).2.2.1 = some (tyX5 k) := by decide +kernel
abbrev cX5_init : ByteArray := prog_7_method_1_code
def yX5_init : MethodName := ⟨RX5, "<init>", "()V"⟩
abbrev cX5_read : ByteArray := prog_7_method_2_code
def yX5_read : MethodName := ⟨RX5, "read", "([BILDuelDelays$Land;)Z"⟩
abbrev cX5_refuse : ByteArray := prog_7_method_3_code
def yX5_refuse : MethodName := ⟨RX5, "refuse", "(I)Z"⟩
abbrev cX5_readMan : ByteArray := prog_7_method_4_code
def yX5_readMan : MethodName := ⟨RX5, "readMan", "()Z"⟩
abbrev cX5_readKind : ByteArray := prog_7_method_5_code
def yX5_readKind : MethodName := ⟨RX5, "readKind", "()Z"⟩
abbrev cX5_readReason : ByteArray := prog_7_method_6_code
def yX5_readReason : MethodName := ⟨RX5, "readReason", "()Z"⟩
abbrev cX5_takeSort : ByteArray := prog_7_method_7_code
def yX5_takeSort : MethodName := ⟨RX5, "takeSort", "()I"⟩
abbrev cX5_readDuel : ByteArray := prog_7_method_8_code
def yX5_readDuel : MethodName := ⟨RX5, "readDuel", "()Z"⟩
abbrev cX5_readHonour : ByteArray := prog_7_method_9_code
def yX5_readHonour : MethodName := ⟨RX5, "readHonour", "()Z"⟩
abbrev cX5_readDraw : ByteArray := prog_7_method_10_code
def yX5_readDraw : MethodName := ⟨RX5, "readDraw", "()Z"⟩
abbrev cX5_takeWord : ByteArray := prog_7_method_11_code
def yX5_takeWord : MethodName := ⟨RX5, "takeWord", "(I)Z"⟩
abbrev cX5_takeSign : ByteArray := prog_7_method_12_code
def yX5_takeSign : MethodName := ⟨RX5, "takeSign", "(C)Z"⟩
abbrev cX5_takeNumber : ByteArray := prog_7_method_13_code
def yX5_takeNumber : MethodName := ⟨RX5, "takeNumber", "(II)Z"⟩
abbrev cX5_takeOption : ByteArray := prog_7_method_14_code
def yX5_takeOption : MethodName := ⟨RX5, "takeOption", "(IIII)Z"⟩
abbrev cX5_takeNewName : ByteArray := prog_7_method_15_code
def yX5_takeNewName : MethodName := ⟨RX5, "takeNewName", "([JI)Z"⟩
abbrev cX5_takeKnownName : ByteArray := prog_7_method_16_code
def yX5_takeKnownName : MethodName := ⟨RX5, "takeKnownName", "([JI)Z"⟩
abbrev cX5_takeNameOption : ByteArray := prog_7_method_17_code
def yX5_takeNameOption : MethodName := ⟨RX5, "takeNameOption", "(I[JI)Z"⟩
abbrev cX5_readChoice : ByteArray := prog_7_method_18_code
def yX5_readChoice : MethodName := ⟨RX5, "readChoice", "(I)Z"⟩
abbrev cX5_readBoth : ByteArray := prog_7_method_19_code
def yX5_readBoth : MethodName := ⟨RX5, "readBoth", "(I)Z"⟩
abbrev cX5_readOne : ByteArray := prog_7_method_20_code
def yX5_readOne : MethodName := ⟨RX5, "readOne", "(I)Z"⟩
abbrev cX5_readSum : ByteArray := prog_7_method_21_code
def yX5_readSum : MethodName := ⟨RX5, "readSum", "(I)Z"⟩
abbrev cX5_readTerm : ByteArray := prog_7_method_22_code
def yX5_readTerm : MethodName := ⟨RX5, "readTerm", "(I)Z"⟩
abbrev cX5_readUnit : ByteArray := prog_7_method_23_code
def yX5_readUnit : MethodName := ⟨RX5, "readUnit", "(I)Z"⟩
abbrev cX5_isPlainUnit : ByteArray := prog_7_method_24_code
def yX5_isPlainUnit : MethodName := ⟨RX5, "isPlainUnit", "()Z"⟩
abbrev cX5_plainStep : ByteArray := prog_7_method_25_code
def yX5_plainStep : MethodName := ⟨RX5, "plainStep", "()I"⟩
abbrev cX5_relation : ByteArray := prog_7_method_26_code
def yX5_relation : MethodName := ⟨RX5, "relation", "()I"⟩
abbrev cX5_addition : ByteArray := prog_7_method_27_code
def yX5_addition : MethodName := ⟨RX5, "addition", "()I"⟩
abbrev cX5_product : ByteArray := prog_7_method_28_code
def yX5_product : MethodName := ⟨RX5, "product", "()I"⟩
def RX6 : String := "DuelDelays$Reasons"
def TX6 : u_T := fun k => match k with
  | 0 => ("DuelDelays$Reasons", "count", "I", false)
  | 1 => ("DuelDelays$Reasons", "names", "[J", true)
  | 2 => ("DuelDelays$Reasons", "kinds", "[I", true)
  | 3 => ("DuelDelays$Reasons", "owners", "[I", true)
  | 4 => ("DuelDelays$Reasons", "froms", "[I", true)
  | 5 => ("DuelDelays$Reasons", "tos", "[I", true)
  | 6 => ("DuelDelays$Reasons", "rents", "[I", true)
  | _ => ("DuelDelays$Reasons", "sorts", "[I", true)
def tyX6 : Nat → FieldType := fun k => match k with
  | 0 => .int
  | 1 => .array .long
  | 2 => .array .int
  | 3 => .array .int
  | 4 => .array .int
  | 5 => .array .int
  | 6 => .array .int
  | _ => .array .int
abbrev wsX60 : List Cond := u_ws RX6 TX6 8
theorem nmX6 : ∀ a, a < 8 → ∀ b, b < 8 → a ≠ b → (TX6 a).2.1 ≠ (TX6 b).2.1 := by decide +kernel
theorem tyX6_ok : ∀ k, k < 8 → parseFieldDescriptor (TX6 k).2.2.1 = some (tyX6 k) := by decide +kernel
abbrev cX6_init : ByteArray := prog_8_method_1_code
def yX6_init : MethodName := ⟨RX6, "<init>", "()V"⟩
abbrev cX6_has : ByteArray := prog_8_method_2_code
def yX6_has : MethodName := ⟨RX6, "has", "(I)Z"⟩
abbrev cX6_isInTime : ByteArray := prog_8_method_3_code
def yX6_isInTime : MethodName := ⟨RX6, "isInTime", "(II)Z"⟩
abbrev cX6_priceOf : ByteArray := prog_8_method_4_code
def yX6_priceOf : MethodName := ⟨RX6, "priceOf", "(I)I"⟩
def RX7 : String := "DuelDelays$Search"
def TX7 : u_T := fun k => match k with
  | 0 => ("DuelDelays$Search", "land", "LDuelDelays$Land;", false)
  | 1 => ("DuelDelays$Search", "deathDay", "I", false)
  | 2 => ("DuelDelays$Search", "freeFrom", "[I", true)
  | 3 => ("DuelDelays$Search", "barring", "[I", true)
  | 4 => ("DuelDelays$Search", "keys", "[I", true)
  | 5 => ("DuelDelays$Search", "ways", "[I", true)
  | 6 => ("DuelDelays$Search", "count", "I", false)
  | 7 => ("DuelDelays$Search", "wins", "[Z", true)
  | 8 => ("DuelDelays$Search", "slots", "[I", true)
  | 9 => ("DuelDelays$Search", "round", "I", false)
  | 10 => ("DuelDelays$Search", "worths", "[I", true)
  | _ => ("DuelDelays$Search", "path", "[I", true)
def tyX7 : Nat → FieldType := fun k => match k with
  | 0 => .object "DuelDelays$Land"
  | 1 => .int
  | 2 => .array .int
  | 3 => .array .int
  | 4 => .array .int
  | 5 => .array .int
  | 6 => .int
  | 7 => .array .boolean
  | 8 => .array .int
  | 9 => .int
  | 10 => .array .int
  | _ => .array .int
abbrev wsX70 : List Cond := u_ws RX7 TX7 12
theorem nmX7 : ∀ a, a < 12 → ∀ b, b < 12 → a ≠ b → (TX7 a).2.1 ≠ (TX7 b).2.1 := by decide +kernel
theorem tyX7_ok : ∀ k, k < 12 → parseFieldDescriptor (TX7 k).2.2.1 = some (tyX7 k) := by decide +kernel
abbrev cX7_init : ByteArray := prog_9_method_1_code
def yX7_init : MethodName := ⟨RX7, "<init>", "()V"⟩
abbrev cX7_pathMove : ByteArray := prog_9_method_2_code
def yX7_pathMove : MethodName := ⟨RX7, "pathMove", "(I)I"⟩
abbrev cX7_prepareDuel : ByteArray := prog_9_method_3_code
def yX7_prepareDuel : MethodName := ⟨RX7, "prepareDuel", "(LDuelDelays$Land;LDuelDelays$State;III)V"⟩
abbrev cX7_prepare : ByteArray := prog_9_method_4_code
def yX7_prepare : MethodName := ⟨RX7, "prepare", "(LDuelDelays$Land;LDuelDelays$State;IIII)V"⟩
abbrev cX7_startAt : ByteArray := prog_9_method_5_code
def yX7_startAt : MethodName := ⟨RX7, "startAt", "(II)V"⟩
abbrev cX7_findLife : ByteArray := prog_9_method_6_code
def yX7_findLife : MethodName := ⟨RX7, "findLife", "()I"⟩
abbrev cX7_findLatest : ByteArray := prog_9_method_7_code
def yX7_findLatest : MethodName := ⟨RX7, "findLatest", "(I)I"⟩
abbrev cX7_findLastReason : ByteArray := prog_9_method_8_code
def yX7_findLastReason : MethodName := ⟨RX7, "findLastReason", "(I)I"⟩
abbrev cX7_winningReason : ByteArray := prog_9_method_9_code
def yX7_winningReason : MethodName := ⟨RX7, "winningReason", "(II)I"⟩
abbrev cX7_usedOf : ByteArray := prog_9_method_10_code
def yX7_usedOf : MethodName := ⟨RX7, "usedOf", "(I)I"⟩
abbrev cX7_morningOf : ByteArray := prog_9_method_11_code
def yX7_morningOf : MethodName := ⟨RX7, "morningOf", "(I)I"⟩
abbrev cX7_keepPath : ByteArray := prog_9_method_12_code
def yX7_keepPath : MethodName := ⟨RX7, "keepPath", "(II)V"⟩
abbrev cX7_expand : ByteArray := prog_9_method_13_code
def yX7_expand : MethodName := ⟨RX7, "expand", "(IIII)Z"⟩
abbrev cX7_allows : ByteArray := prog_9_method_14_code
def yX7_allows : MethodName := ⟨RX7, "allows", "(II)Z"⟩
abbrev cX7_keyBehind : ByteArray := prog_9_method_15_code
def yX7_keyBehind : MethodName := ⟨RX7, "keyBehind", "(II)I"⟩
abbrev cX7_reach : ByteArray := prog_9_method_16_code
def yX7_reach : MethodName := ⟨RX7, "reach", "(III)Z"⟩
abbrev cX7_slotOf : ByteArray := prog_9_method_17_code
def yX7_slotOf : MethodName := ⟨RX7, "slotOf", "(I)I"⟩
abbrev cX7_isTaken : ByteArray := prog_9_method_18_code
def yX7_isTaken : MethodName := ⟨RX7, "isTaken", "(I)Z"⟩
def RX8 : String := "DuelDelays$Sights"
def TX8 : u_T := fun k => match k with
  | 0 => ("DuelDelays$Sights", "time", "I", false)
  | 1 => ("DuelDelays$Sights", "count", "I", false)
  | 2 => ("DuelDelays$Sights", "reasons", "[I", true)
  | 3 => ("DuelDelays$Sights", "days", "[I", true)
  | 4 => ("DuelDelays$Sights", "toldAt", "[I", true)
  | _ => ("DuelDelays$Sights", "untoldAt", "[I", true)
def tyX8 : Nat → FieldType := fun k => match k with
  | 0 => .int
  | 1 => .int
  | 2 => .array .int
  | 3 => .array .int
  | 4 => .array .int
  | _ => .array .int
abbrev wsX80 : List Cond := u_ws RX8 TX8 6
theorem nmX8 : ∀ a, a < 6 → ∀ b, b < 6 → a ≠ b → (TX8 a).2.1 ≠ (TX8 b).2.1 := by decide +kernel
theorem tyX8_ok : ∀ k, k < 6 → parseFieldDescriptor (TX8 k).2.2.1 = some (tyX8 k) := by decide +kernel
abbrev cX8_init : ByteArray := prog_10_method_1_code
def yX8_init : MethodName := ⟨RX8, "<init>", "()V"⟩
abbrev cX8_clear : ByteArray := prog_10_method_2_code
def yX8_clear : MethodName := ⟨RX8, "clear", "()V"⟩
abbrev cX8_tell : ByteArray := prog_10_method_3_code
def yX8_tell : MethodName := ⟨RX8, "tell", "(II)I"⟩
abbrev cX8_takeBack : ByteArray := prog_10_method_4_code
def yX8_takeBack : MethodName := ⟨RX8, "takeBack", "(I)Z"⟩
abbrev cX8_sawLater : ByteArray := prog_10_method_5_code
def yX8_sawLater : MethodName := ⟨RX8, "sawLater", "(III)Z"⟩
def RX9 : String := "DuelDelays$State"
def TX9 : u_T := fun k => match k with
  | 0 => ("DuelDelays$State", "day", "I", false)
  | 1 => ("DuelDelays$State", "seed", "I", false)
  | 2 => ("DuelDelays$State", "alive", "I", false)
  | 3 => ("DuelDelays$State", "struck", "I", false)
  | 4 => ("DuelDelays$State", "open", "I", false)
  | 5 => ("DuelDelays$State", "duels", "I", false)
  | 6 => ("DuelDelays$State", "lines", "I", false)
  | 7 => ("DuelDelays$State", "coins", "[I", true)
  | 8 => ("DuelDelays$State", "rented", "[I", true)
  | 9 => ("DuelDelays$State", "mornings", "[I", true)
  | 10 => ("DuelDelays$State", "honours", "[I", true)
  | 11 => ("DuelDelays$State", "used", "[I", true)
  | 12 => ("DuelDelays$State", "sides", "[I", true)
  | _ => ("DuelDelays$State", "log", "[I", true)
def tyX9 : Nat → FieldType := fun k => match k with
  | 0 => .int
  | 1 => .int
  | 2 => .int
  | 3 => .int
  | 4 => .int
  | 5 => .int
  | 6 => .int
  | 7 => .array .int
  | 8 => .array .int
  | 9 => .array .int
  | 10 => .array .int
  | 11 => .array .int
  | 12 => .array .int
  | _ => .array .int
abbrev wsX90 : List Cond := u_ws RX9 TX9 14
theorem nmX9 : ∀ a, a < 14 → ∀ b, b < 14 → a ≠ b → (TX9 a).2.1 ≠ (TX9 b).2.1 := by decide +kernel
theorem tyX9_ok : ∀ k, k < 14 → parseFieldDescriptor (TX9 k).2.2.1 = some (tyX9 k) := by decide +kernel
abbrev cX9_init : ByteArray := prog_11_method_1_code
def yX9_init : MethodName := ⟨RX9, "<init>", "()V"⟩
abbrev cX9_begin : ByteArray := prog_11_method_2_code
def yX9_begin : MethodName := ⟨RX9, "begin", "(LDuelDelays$Land;)V"⟩
abbrev cX9_copy : ByteArray := prog_11_method_3_code
def yX9_copy : MethodName := ⟨RX9, "copy", "(LDuelDelays$State;)V"⟩
abbrev cX9_isAlive : ByteArray := prog_11_method_4_code
def yX9_isAlive : MethodName := ⟨RX9, "isAlive", "(I)Z"⟩
abbrev cX9_isStruck : ByteArray := prog_11_method_5_code
def yX9_isStruck : MethodName := ⟨RX9, "isStruck", "(I)Z"⟩
abbrev cX9_hasDuel : ByteArray := prog_11_method_6_code
def yX9_hasDuel : MethodName := ⟨RX9, "hasDuel", "(I)Z"⟩
abbrev cX9_isOpen : ByteArray := prog_11_method_7_code
def yX9_isOpen : MethodName := ⟨RX9, "isOpen", "(I)Z"⟩
abbrev cX9_manOf : ByteArray := prog_11_method_8_code
def yX9_manOf : MethodName := ⟨RX9, "manOf", "(II)I"⟩
abbrev cX9_sideOf : ByteArray := prog_11_method_9_code
def yX9_sideOf : MethodName := ⟨RX9, "sideOf", "(II)I"⟩
abbrev cX9_lineOf : ByteArray := prog_11_method_10_code
def yX9_lineOf : MethodName := ⟨RX9, "lineOf", "(II)I"⟩
abbrev cX9_addLine : ByteArray := prog_11_method_11_code
def yX9_addLine : MethodName := ⟨RX9, "addLine", "(IIII)V"⟩
abbrev cX9_haveOpenDuel : ByteArray := prog_11_method_12_code
def yX9_haveOpenDuel : MethodName := ⟨RX9, "haveOpenDuel", "(II)Z"⟩
abbrev cX9_firstOpen : ByteArray := prog_11_method_13_code
def yX9_firstOpen : MethodName := ⟨RX9, "firstOpen", "()I"⟩
abbrev cX9_heirOf : ByteArray := prog_11_method_14_code
def yX9_heirOf : MethodName := ⟨RX9, "heirOf", "(LDuelDelays$Land;I)I"⟩
abbrev cX9_timesUsed : ByteArray := prog_11_method_15_code
def yX9_timesUsed : MethodName := ⟨RX9, "timesUsed", "(I)I"⟩
abbrev cX9_ownerOf : ByteArray := prog_11_method_16_code
def yX9_ownerOf : MethodName := ⟨RX9, "ownerOf", "(LDuelDelays$Land;I)I"⟩
abbrev cX9_isRentable : ByteArray := prog_11_method_17_code
def yX9_isRentable : MethodName := ⟨RX9, "isRentable", "(LDuelDelays$Land;II)Z"⟩
abbrev cX9_freeFrom : ByteArray := prog_11_method_18_code
def yX9_freeFrom : MethodName := ⟨RX9, "freeFrom", "(LDuelDelays$Land;II)I"⟩
abbrev cX9_isGone : ByteArray := prog_11_method_19_code
def yX9_isGone : MethodName := ⟨RX9, "isGone", "(LDuelDelays$Land;I)Z"⟩
abbrev cX9_mayUse : ByteArray := prog_11_method_20_code
def yX9_mayUse : MethodName := ⟨RX9, "mayUse", "(LDuelDelays$Land;III)Z"⟩
abbrev cX9_usable : ByteArray := prog_11_method_21_code
def yX9_usable : MethodName := ⟨RX9, "usable", "(LDuelDelays$Land;II)I"⟩
abbrev cX9_worthRenting : ByteArray := prog_11_method_22_code
def yX9_worthRenting : MethodName := ⟨RX9, "worthRenting", "(LDuelDelays$Land;II)I"⟩
abbrev cX9_putOffBy : ByteArray := prog_11_method_23_code
def yX9_putOffBy : MethodName := ⟨RX9, "putOffBy", "(LDuelDelays$Land;II)I"⟩
abbrev cX9_use : ByteArray := prog_11_method_24_code
def yX9_use : MethodName := ⟨RX9, "use", "(LDuelDelays$Land;III)V"⟩
abbrev cX9_addDuel : ByteArray := prog_11_method_25_code
def yX9_addDuel : MethodName := ⟨RX9, "addDuel", "(III)V"⟩
abbrev cX9_passDay : ByteArray := prog_11_method_26_code
def yX9_passDay : MethodName := ⟨RX9, "passDay", "(LDuelDelays$Land;)V"⟩
abbrev cX9_fight : ByteArray := prog_11_method_27_code
def yX9_fight : MethodName := ⟨RX9, "fight", "(LDuelDelays$Land;I)V"⟩
abbrev cX9_bury : ByteArray := prog_11_method_28_code
def yX9_bury : MethodName := ⟨RX9, "bury", "(LDuelDelays$Land;I)V"⟩
abbrev cX9_clashes : ByteArray := prog_11_method_29_code
def yX9_clashes : MethodName := ⟨RX9, "clashes", "(I[I)I"⟩
abbrev cX9_earlierOn : ByteArray := prog_11_method_30_code
def yX9_earlierOn : MethodName := ⟨RX9, "earlierOn", "(I[II)I"⟩
def RX10 : String := "DuelDelays$Tokens"
def TX10 : u_T := fun k => match k with
  | 0 => ("DuelDelays$Tokens", "sort", "I", false)
  | 1 => ("DuelDelays$Tokens", "place", "I", false)
  | 2 => ("DuelDelays$Tokens", "value", "I", false)
  | 3 => ("DuelDelays$Tokens", "name", "J", false)
  | 4 => ("DuelDelays$Tokens", "text", "[B", false)
  | 5 => ("DuelDelays$Tokens", "length", "I", false)
  | 6 => ("DuelDelays$Tokens", "following", "I", false)
  | _ => ("DuelDelays$Tokens", "words", "[J", true)
def tyX10 : Nat → FieldType := fun k => match k with
  | 0 => .int
  | 1 => .int
  | 2 => .int
  | 3 => .long
  | 4 => .array .byte
  | 5 => .int
  | 6 => .int
  | _ => .array .long
abbrev wsX100 : List Cond := u_ws RX10 TX10 8
theorem nmX10 : ∀ a, a < 8 → ∀ b, b < 8 → a ≠ b → (TX10 a).2.1 ≠ (TX10 b).2.1 := by decide +kernel
theorem tyX10_ok : ∀ k, k < 8 → parseFieldDescriptor (TX10 k).2.2.1 = some (tyX10 k) := by decide +kernel
abbrev cX10_init : ByteArray := prog_12_method_1_code
def yX10_init : MethodName := ⟨RX10, "<init>", "()V"⟩
abbrev cX10_open : ByteArray := prog_12_method_2_code
def yX10_open : MethodName := ⟨RX10, "open", "([BI)V"⟩
abbrev cX10_advance : ByteArray := prog_12_method_3_code
def yX10_advance : MethodName := ⟨RX10, "advance", "()V"⟩
abbrev cX10_isWord : ByteArray := prog_12_method_4_code
def yX10_isWord : MethodName := ⟨RX10, "isWord", "(I)Z"⟩
abbrev cX10_isSign : ByteArray := prog_12_method_5_code
def yX10_isSign : MethodName := ⟨RX10, "isSign", "(C)Z"⟩
abbrev cX10_takeLetters : ByteArray := prog_12_method_6_code
def yX10_takeLetters : MethodName := ⟨RX10, "takeLetters", "()V"⟩
abbrev cX10_takeDigits : ByteArray := prog_12_method_7_code
def yX10_takeDigits : MethodName := ⟨RX10, "takeDigits", "()V"⟩
abbrev cX10_takeSign : ByteArray := prog_12_method_8_code
def yX10_takeSign : MethodName := ⟨RX10, "takeSign", "()V"⟩
abbrev cX10_withLetter : ByteArray := prog_12_method_9_code
def yX10_withLetter : MethodName := ⟨RX10, "withLetter", "(JI)J"⟩
abbrev cX10_isBlank : ByteArray := prog_12_method_10_code
def yX10_isBlank : MethodName := ⟨RX10, "isBlank", "(I)Z"⟩
abbrev cX10_isLetter : ByteArray := prog_12_method_11_code
def yX10_isLetter : MethodName := ⟨RX10, "isLetter", "(I)Z"⟩
abbrev cX10_isDigit : ByteArray := prog_12_method_12_code
def yX10_isDigit : MethodName := ⟨RX10, "isDigit", "(I)Z"⟩
def RX11 : String := "DuelDelays"
def TX11 : u_T := fun k => match k with
  | 0 => ("DuelDelays", "tape", "[B", true)
  | 1 => ("DuelDelays", "tapeLength", "I", false)
  | 2 => ("DuelDelays", "reader", "LDuelDelays$Reader;", true)
  | 3 => ("DuelDelays", "land", "LDuelDelays$Land;", false)
  | 4 => ("DuelDelays", "spareLand", "LDuelDelays$Land;", false)
  | 5 => ("DuelDelays", "states", "[LDuelDelays$State;", true)
  | 6 => ("DuelDelays", "current", "I", false)
  | 7 => ("DuelDelays", "newest", "I", false)
  | 8 => ("DuelDelays", "boxes", "[LDuelDelays$State;", true)
  | 9 => ("DuelDelays", "fullBoxes", "I", false)
  | 10 => ("DuelDelays", "search", "LDuelDelays$Search;", true)
  | 11 => ("DuelDelays", "sights", "LDuelDelays$Sights;", true)
  | 12 => ("DuelDelays", "parting", "LDuelDelays$Parting;", true)
  | _ => ("DuelDelays", "heap", "LDuelDelays$Heap;", true)
def tyX11 : Nat → FieldType := fun k => match k with
  | 0 => .array .byte
  | 1 => .int
  | 2 => .object "DuelDelays$Reader"
  | 3 => .object "DuelDelays$Land"
  | 4 => .object "DuelDelays$Land"
  | 5 => .array (.object "DuelDelays$State")
  | 6 => .int
  | 7 => .int
  | 8 => .array (.object "DuelDelays$State")
  | 9 => .int
  | 10 => .object "DuelDelays$Search"
  | 11 => .object "DuelDelays$Sights"
  | 12 => .object "DuelDelays$Parting"
  | _ => .object "DuelDelays$Heap"
abbrev wsX110 : List Cond := u_ws RX11 TX11 14
theorem nmX11 : ∀ a, a < 14 → ∀ b, b < 14 → a ≠ b → (TX11 a).2.1 ≠ (TX11 b).2.1 := by decide +kernel
theorem tyX11_ok : ∀ k, k < 14 → parseFieldDescriptor (TX11 k).2.2.1 = some (tyX11 k) := by decide +kernel
abbrev cX11_init : ByteArray := prog_1_method_1_code
def yX11_init : MethodName := ⟨RX11, "<init>", "()V"⟩
abbrev cX11_feed : ByteArray := prog_1_method_2_code
def yX11_feed : MethodName := ⟨RX11, "feed", "(IIIII)I"⟩
abbrev cX11_feedNumber : ByteArray := prog_1_method_3_code
def yX11_feedNumber : MethodName := ⟨RX11, "feedNumber", "(I)V"⟩
abbrev cX11_end : ByteArray := prog_1_method_4_code
def yX11_end : MethodName := ⟨RX11, "end", "(I)I"⟩
abbrev cX11_code : ByteArray := prog_1_method_5_code
def yX11_code : MethodName := ⟨RX11, "code", "()I"⟩
abbrev cX11_fault : ByteArray := prog_1_method_6_code
def yX11_fault : MethodName := ⟨RX11, "fault", "(I)I"⟩
abbrev cX11_man : ByteArray := prog_1_method_7_code
def yX11_man : MethodName := ⟨RX11, "man", "(II)I"⟩
abbrev cX11_duel : ByteArray := prog_1_method_8_code
def yX11_duel : MethodName := ⟨RX11, "duel", "(II)I"⟩
abbrev cX11_reason : ByteArray := prog_1_method_9_code
def yX11_reason : MethodName := ⟨RX11, "reason", "(II)I"⟩
abbrev cX11_worth : ByteArray := prog_1_method_10_code
def yX11_worth : MethodName := ⟨RX11, "worth", "(III)I"⟩
abbrev cX11_may : ByteArray := prog_1_method_11_code
def yX11_may : MethodName := ⟨RX11, "may", "(II)I"⟩
abbrev cX11_next : ByteArray := prog_1_method_12_code
def yX11_next : MethodName := ⟨RX11, "next", "(I)I"⟩
abbrev cX11_heir : ByteArray := prog_1_method_13_code
def yX11_heir : MethodName := ⟨RX11, "heir", "(I)I"⟩
abbrev cX11_his : ByteArray := prog_1_method_14_code
def yX11_his : MethodName := ⟨RX11, "his", "(I)I"⟩
abbrev cX11_comes : ByteArray := prog_1_method_15_code
def yX11_comes : MethodName := ⟨RX11, "comes", "(II)I"⟩
abbrev cX11_nextState : ByteArray := prog_1_method_16_code
def yX11_nextState : MethodName := ⟨RX11, "nextState", "()LDuelDelays$State;"⟩
abbrev cX11_put : ByteArray := prog_1_method_17_code
def yX11_put : MethodName := ⟨RX11, "put", "(III)I"⟩
abbrev cX11_rent : ByteArray := prog_1_method_18_code
def yX11_rent : MethodName := ⟨RX11, "rent", "(II)I"⟩
abbrev cX11_strike : ByteArray := prog_1_method_19_code
def yX11_strike : MethodName := ⟨RX11, "strike", "(I)Z"⟩
abbrev cX11_insult : ByteArray := prog_1_method_20_code
def yX11_insult : MethodName := ⟨RX11, "insult", "(II)I"⟩
abbrev cX11_days : ByteArray := prog_1_method_21_code
def yX11_days : MethodName := ⟨RX11, "days", "(I)I"⟩
abbrev cX11_undo : ByteArray := prog_1_method_22_code
def yX11_undo : MethodName := ⟨RX11, "undo", "()Z"⟩
abbrev cX11_redo : ByteArray := prog_1_method_23_code
def yX11_redo : MethodName := ⟨RX11, "redo", "()Z"⟩
abbrev cX11_life : ByteArray := prog_1_method_24_code
def yX11_life : MethodName := ⟨RX11, "life", "(I)I"⟩
abbrev cX11_late : ByteArray := prog_1_method_25_code
def yX11_late : MethodName := ⟨RX11, "late", "(II)I"⟩
abbrev cX11_last : ByteArray := prog_1_method_26_code
def yX11_last : MethodName := ⟨RX11, "last", "(II)I"⟩
abbrev cX11_shun : ByteArray := prog_1_method_27_code
def yX11_shun : MethodName := ⟨RX11, "shun", "(I)I"⟩
abbrev cX11_hire : ByteArray := prog_1_method_28_code
def yX11_hire : MethodName := ⟨RX11, "hire", "(II)I"⟩
abbrev cX11_clash : ByteArray := prog_1_method_29_code
def yX11_clash : MethodName := ⟨RX11, "clash", "(I)I"⟩
abbrev cX11_part : ByteArray := prog_1_method_30_code
def yX11_part : MethodName := ⟨RX11, "part", "(I)I"⟩
abbrev cX11_lies : ByteArray := prog_1_method_31_code
def yX11_lies : MethodName := ⟨RX11, "lies", "(I)I"⟩
abbrev cX11_log : ByteArray := prog_1_method_32_code
def yX11_log : MethodName := ⟨RX11, "log", "(II)I"⟩
abbrev cX11_began : ByteArray := prog_1_method_33_code
def yX11_began : MethodName := ⟨RX11, "began", "(I)I"⟩
abbrev cX11_sight : ByteArray := prog_1_method_34_code
def yX11_sight : MethodName := ⟨RX11, "sight", "(II)I"⟩
abbrev cX11_untell : ByteArray := prog_1_method_35_code
def yX11_untell : MethodName := ⟨RX11, "untell", "(I)Z"⟩
abbrev cX11_later : ByteArray := prog_1_method_36_code
def yX11_later : MethodName := ⟨RX11, "later", "(I)I"⟩
abbrev cX11_falses : ByteArray := prog_1_method_37_code
def yX11_falses : MethodName := ⟨RX11, "falses", "(I)I"⟩
abbrev cX11_image : ByteArray := prog_1_method_38_code
def yX11_image : MethodName := ⟨RX11, "image", "(I)I"⟩
abbrev cX11_back : ByteArray := prog_1_method_39_code
def yX11_back : MethodName := ⟨RX11, "back", "(I)I"⟩
abbrev cX11_about : ByteArray := prog_1_method_40_code
def yX11_about : MethodName := ⟨RX11, "about", "(I)I"⟩
abbrev cX11_isSide : ByteArray := prog_1_method_41_code
def yX11_isSide : MethodName := ⟨RX11, "isSide", "(I)Z"⟩
abbrev cX11_indexOf : ByteArray := prog_1_method_42_code
def yX11_indexOf : MethodName := ⟨RX11, "indexOf", "([JIJ)I"⟩
abbrev cX11_barringUses : ByteArray := prog_1_method_43_code
def yX11_barringUses : MethodName := ⟨RX11, "barringUses", "(III)I"⟩
def RX12 : String := "DuelDelaysModel"
def TX12 : u_T := fun k => match k with
  | 0 => ("DuelDelaysModel", "tape", "[B", true)
  | 1 => ("DuelDelaysModel", "text", "[B", true)
  | 2 => ("DuelDelaysModel", "taped", "I", false)
  | 3 => ("DuelDelaysModel", "size", "I", false)
  | 4 => ("DuelDelaysModel", "faultKind", "I", false)
  | 5 => ("DuelDelaysModel", "faultPlace", "I", false)
  | 6 => ("DuelDelaysModel", "at", "I", false)
  | 7 => ("DuelDelaysModel", "end", "I", false)
  | 8 => ("DuelDelaysModel", "token", "I", false)
  | 9 => ("DuelDelaysModel", "number", "I", false)
  | 10 => ("DuelDelaysModel", "name", "J", false)
  | 11 => ("DuelDelaysModel", "men", "[I", true)
  | 12 => ("DuelDelaysModel", "kinds", "[I", true)
  | 13 => ("DuelDelaysModel", "reasons", "[I", true)
  | 14 => ("DuelDelaysModel", "told", "[I", true)
  | 15 => ("DuelDelaysModel", "units", "[I", true)
  | 16 => ("DuelDelaysModel", "honour", "[I", true)
  | 17 => ("DuelDelaysModel", "draw", "[I", true)
  | 18 => ("DuelDelaysModel", "dies", "[I", true)
  | 19 => ("DuelDelaysModel", "coin", "[I", true)
  | 20 => ("DuelDelaysModel", "sonOf", "[I", true)
  | 21 => ("DuelDelaysModel", "kindOf", "[I", true)
  | 22 => ("DuelDelaysModel", "owner", "[I", true)
  | 23 => ("DuelDelaysModel", "first", "[I", true)
  | 24 => ("DuelDelaysModel", "last", "[I", true)
  | 25 => ("DuelDelaysModel", "rent", "[I", true)
  | 26 => ("DuelDelaysModel", "sort", "[I", true)
  | 27 => ("DuelDelaysModel", "duelOne", "[I", true)
  | 28 => ("DuelDelaysModel", "duelOther", "[I", true)
  | 29 => ("DuelDelaysModel", "duelOn", "[I", true)
  | 30 => ("DuelDelaysModel", "ruleFrom", "[I", true)
  | 31 => ("DuelDelaysModel", "ruleTo", "[I", true)
  | 32 => ("DuelDelaysModel", "hasHonour", "[Z", true)
  | 33 => ("DuelDelaysModel", "hasDraw", "[Z", true)
  | 34 => ("DuelDelaysModel", "mName", "[J", true)
  | 35 => ("DuelDelaysModel", "kName", "[J", true)
  | 36 => ("DuelDelaysModel", "rName", "[J", true)
  | 37 => ("DuelDelaysModel", "dName", "[J", true)
  | 38 => ("DuelDelaysModel", "code", "[I", true)
  | 39 => ("DuelDelaysModel", "codeNumber", "[I", true)
  | 40 => ("DuelDelaysModel", "eWhat", "[I", true)
  | 41 => ("DuelDelaysModel", "eSign", "[I", true)
  | 42 => ("DuelDelaysModel", "pile", "[I", true)
  | 43 => ("DuelDelaysModel", "bank", "I", false)
  | 44 => ("DuelDelaysModel", "rb", "I", false)
  | 45 => ("DuelDelaysModel", "codes", "I", false)
  | 46 => ("DuelDelaysModel", "within", "I", false)
  | 47 => ("DuelDelaysModel", "piled", "I", false)
  | 48 => ("DuelDelaysModel", "unitsInRule", "I", false)
  | 49 => ("DuelDelaysModel", "askDay", "I", false)
  | 50 => ("DuelDelaysModel", "askUses", "I", false)
  | 51 => ("DuelDelaysModel", "askSpent", "I", false)
  | 52 => ("DuelDelaysModel", "all", "[I", true)
  | 53 => ("DuelDelaysModel", "was", "[I", true)
  | 54 => ("DuelDelaysModel", "acts", "I", false)
  | 55 => ("DuelDelaysModel", "undone", "I", false)
  | 56 => ("DuelDelaysModel", "usedBy0", "[I", true)
  | 57 => ("DuelDelaysModel", "usedBy1", "[I", true)
  | 58 => ("DuelDelaysModel", "mornings", "[I", true)
  | 59 => ("DuelDelaysModel", "cameFrom", "[I", true)
  | 60 => ("DuelDelaysModel", "cameBy", "[I", true)
  | 61 => ("DuelDelaysModel", "levelAt", "[I", true)
  | 62 => ("DuelDelaysModel", "wins", "[Z", true)
  | 63 => ("DuelDelaysModel", "slots", "[I", true)
  | 64 => ("DuelDelaysModel", "levelOf", "[I", true)
  | 65 => ("DuelDelaysModel", "worthOf", "[I", true)
  | 66 => ("DuelDelaysModel", "states", "I", false)
  | 67 => ("DuelDelaysModel", "levels", "I", false)
  | 68 => ("DuelDelaysModel", "side0", "I", false)
  | 69 => ("DuelDelaysModel", "side1", "I", false)
  | 70 => ("DuelDelaysModel", "deathDay", "I", false)
  | 71 => ("DuelDelaysModel", "away", "I", false)
  | 72 => ("DuelDelaysModel", "hires", "I", false)
  | 73 => ("DuelDelaysModel", "hirer", "I", false)
  | 74 => ("DuelDelaysModel", "slotFound", "I", false)
  | 75 => ("DuelDelaysModel", "isSpent", "Z", false)
  | 76 => ("DuelDelaysModel", "found", "I", false)
  | 77 => ("DuelDelaysModel", "laid", "I", false)
  | 78 => ("DuelDelaysModel", "laidRow", "[I", true)
  | 79 => ("DuelDelaysModel", "gReason", "[I", true)
  | 80 => ("DuelDelaysModel", "gDay", "[I", true)
  | 81 => ("DuelDelaysModel", "gTold", "[I", true)
  | 82 => ("DuelDelaysModel", "gUntold", "[I", true)
  | 83 => ("DuelDelaysModel", "sights", "I", false)
  | 84 => ("DuelDelaysModel", "time", "I", false)
  | 85 => ("DuelDelaysModel", "boxAll", "[I", true)
  | _ => ("DuelDelaysModel", "isBoxed", "[Z", true)
def tyX12 : Nat → FieldType := fun k => match k with
  | 0 => .array .byte
  | 1 => .array .byte
  | 2 => .int
  | 3 => .int
  | 4 => .int
  | 5 => .int
  | 6 => .int
  | 7 => .int
  | 8 => .int
  | 9 => .int
  | 10 => .long
  | 11 => .array .int
  | 12 => .array .int
  | 13 => .array .int
  | 14 => .array .int
  | 15 => .array .int
  | 16 => .array .int
  | 17 => .array .int
  | 18 => .array .int
  | 19 => .array .int
  | 20 => .array .int
  | 21 => .array .int
  | 22 => .array .int
  | 23 => .array .int
  | 24 => .array .int
  | 25 => .array .int
  | 26 => .array .int
  | 27 => .array .int
  | 28 => .array .int
  | 29 => .array .int
  | 30 => .array .int
  | 31 => .array .int
  | 32 => .array .boolean
  | 33 => .array .boolean
  | 34 => .array .long
  | 35 => .array .long
  | 36 => .array .long
  | 37 => .array .long
  | 38 => .array .int
  | 39 => .array .int
  | 40 => .array .int
  | 41 => .array .int
  | 42 => .array .int
  | 43 => .int
  | 44 => .int
  | 45 => .int
  | 46 => .int
  | 47 => .int
  | 48 => .int
  | 49 => .int
  | 50 => .int
  | 51 => .int
  | 52 => .array .int
  | 53 => .array .int
  | 54 => .int
  | 55 => .int
  | 56 => .array .int
  | 57 => .array .int
  | 58 => .array .int
  | 59 => .array .int
  | 60 => .array .int
  | 61 => .array .int
  | 62 => .array .boolean
  | 63 => .array .int
  | 64 => .array .int
  | 65 => .array .int
  | 66 => .int
  | 67 => .int
  | 68 => .int
  | 69 => .int
  | 70 => .int
  | 71 => .int
  | 72 => .int
  | 73 => .int
  | 74 => .int
  | 75 => .boolean
  | 76 => .int
  | 77 => .int
  | 78 => .array .int
  | 79 => .array .int
  | 80 => .array .int
  | 81 => .array .int
  | 82 => .array .int
  | 83 => .int
  | 84 => .int
  | 85 => .array .int
  | _ => .array .boolean
abbrev wsX120 : List Cond := u_ws RX12 TX12 87
theorem nmX12 : ∀ a, a < 87 → ∀ b, b < 87 → a ≠ b → (TX12 a).2.1 ≠ (TX12 b).2.1 := by decide +kernel
theorem tyX12_ok : ∀ k, k < 87 → parseFieldDescriptor (TX12 k).2.2.1 = some (tyX12 k) := by decide +kernel
abbrev cX12_init : ByteArray := prog_14_method_1_code
def yX12_init : MethodName := ⟨RX12, "<init>", "()V"⟩
abbrev cX12_sign : ByteArray := prog_14_method_2_code
def yX12_sign : MethodName := ⟨RX12, "sign", "(I)I"⟩
abbrev cX12_isLetter : ByteArray := prog_14_method_3_code
def yX12_isLetter : MethodName := ⟨RX12, "isLetter", "(I)Z"⟩
abbrev cX12_isDigit : ByteArray := prog_14_method_4_code
def yX12_isDigit : MethodName := ⟨RX12, "isDigit", "(I)Z"⟩
abbrev cX12_fails : ByteArray := prog_14_method_5_code
def yX12_fails : MethodName := ⟨RX12, "fails", "(II)V"⟩
abbrev cX12_isGood : ByteArray := prog_14_method_6_code
def yX12_isGood : MethodName := ⟨RX12, "isGood", "()Z"⟩
abbrev cX12_isKept : ByteArray := prog_14_method_7_code
def yX12_isKept : MethodName := ⟨RX12, "isKept", "(J)Z"⟩
abbrev cX12_isSign : ByteArray := prog_14_method_8_code
def yX12_isSign : MethodName := ⟨RX12, "isSign", "(I)Z"⟩
abbrev cX12_goOn : ByteArray := prog_14_method_9_code
def yX12_goOn : MethodName := ⟨RX12, "goOn", "()V"⟩
abbrev cX12_isSignHere : ByteArray := prog_14_method_10_code
def yX12_isSignHere : MethodName := ⟨RX12, "isSignHere", "(I)Z"⟩
abbrev cX12_isWord : ByteArray := prog_14_method_11_code
def yX12_isWord : MethodName := ⟨RX12, "isWord", "(J)Z"⟩
abbrev cX12_misplaced : ByteArray := prog_14_method_12_code
def yX12_misplaced : MethodName := ⟨RX12, "misplaced", "()V"⟩
abbrev cX12_must : ByteArray := prog_14_method_13_code
def yX12_must : MethodName := ⟨RX12, "must", "(Z)V"⟩
abbrev cX12_numeral : ByteArray := prog_14_method_14_code
def yX12_numeral : MethodName := ⟨RX12, "numeral", "(II)I"⟩
abbrev cX12_after : ByteArray := prog_14_method_15_code
def yX12_after : MethodName := ⟨RX12, "after", "(JII)I"⟩
abbrev cX12_perhaps : ByteArray := prog_14_method_16_code
def yX12_perhaps : MethodName := ⟨RX12, "perhaps", "(JIII)I"⟩
abbrev cX12_clearBank : ByteArray := prog_14_method_17_code
def yX12_clearBank : MethodName := ⟨RX12, "clearBank", "()V"⟩
abbrev cX12_code : ByteArray := prog_14_method_18_code
def yX12_code : MethodName := ⟨RX12, "code", "()I"⟩
abbrev cX12_isFull : ByteArray := prog_14_method_19_code
def yX12_isFull : MethodName := ⟨RX12, "isFull", "()Z"⟩
abbrev cX12_readLine : ByteArray := prog_14_method_20_code
def yX12_readLine : MethodName := ⟨RX12, "readLine", "()V"⟩
abbrev cX12_here : ByteArray := prog_14_method_21_code
def yX12_here : MethodName := ⟨RX12, "here", "([JII)I"⟩
abbrev cX12_manHere : ByteArray := prog_14_method_22_code
def yX12_manHere : MethodName := ⟨RX12, "manHere", "()I"⟩
abbrev cX12_kindHere : ByteArray := prog_14_method_23_code
def yX12_kindHere : MethodName := ⟨RX12, "kindHere", "()I"⟩
abbrev cX12_fresh : ByteArray := prog_14_method_24_code
def yX12_fresh : MethodName := ⟨RX12, "fresh", "(I)J"⟩
abbrev cX12_known : ByteArray := prog_14_method_25_code
def yX12_known : MethodName := ⟨RX12, "known", "(I)I"⟩
abbrev cX12_readMan : ByteArray := prog_14_method_26_code
def yX12_readMan : MethodName := ⟨RX12, "readMan", "()V"⟩
abbrev cX12_readKind : ByteArray := prog_14_method_27_code
def yX12_readKind : MethodName := ⟨RX12, "readKind", "()V"⟩
abbrev cX12_readReason : ByteArray := prog_14_method_28_code
def yX12_readReason : MethodName := ⟨RX12, "readReason", "()V"⟩
abbrev cX12_isTold : ByteArray := prog_14_method_29_code
def yX12_isTold : MethodName := ⟨RX12, "isTold", "(II)Z"⟩
abbrev cX12_readDuel : ByteArray := prog_14_method_30_code
def yX12_readDuel : MethodName := ⟨RX12, "readDuel", "()V"⟩
abbrev cX12_readRule : ByteArray := prog_14_method_31_code
def yX12_readRule : MethodName := ⟨RX12, "readRule", "(I)V"⟩
abbrev cX12_emit : ByteArray := prog_14_method_32_code
def yX12_emit : MethodName := ⟨RX12, "emit", "(II)V"⟩
abbrev cX12_pushE : ByteArray := prog_14_method_33_code
def yX12_pushE : MethodName := ⟨RX12, "pushE", "(II)V"⟩
abbrev cX12_e : ByteArray := prog_14_method_34_code
def yX12_e : MethodName := ⟨RX12, "e", "()V"⟩
abbrev cX12_wordHere : ByteArray := prog_14_method_35_code
def yX12_wordHere : MethodName := ⟨RX12, "wordHere", "()I"⟩
abbrev cX12_unit : ByteArray := prog_14_method_36_code
def yX12_unit : MethodName := ⟨RX12, "unit", "()Z"⟩
abbrev cX12_rankHere : ByteArray := prog_14_method_37_code
def yX12_rankHere : MethodName := ⟨RX12, "rankHere", "()I"⟩
abbrev cX12_isCompared : ByteArray := prog_14_method_38_code
def yX12_isCompared : MethodName := ⟨RX12, "isCompared", "()Z"⟩
abbrev cX12_behindUnit : ByteArray := prog_14_method_39_code
def yX12_behindUnit : MethodName := ⟨RX12, "behindUnit", "()Z"⟩
abbrev cX12_two : ByteArray := prog_14_method_40_code
def yX12_two : MethodName := ⟨RX12, "two", "(III)I"⟩
abbrev cX12_asked : ByteArray := prog_14_method_41_code
def yX12_asked : MethodName := ⟨RX12, "asked", "(II)I"⟩
abbrev cX12_comesTo : ByteArray := prog_14_method_42_code
def yX12_comesTo : MethodName := ⟨RX12, "comesTo", "(I)I"⟩
abbrev cX12_fault : ByteArray := prog_14_method_43_code
def yX12_fault : MethodName := ⟨RX12, "fault", "(I)I"⟩
abbrev cX12_isIn : ByteArray := prog_14_method_44_code
def yX12_isIn : MethodName := ⟨RX12, "isIn", "(III)Z"⟩
abbrev cX12_bitsOf : ByteArray := prog_14_method_45_code
def yX12_bitsOf : MethodName := ⟨RX12, "bitsOf", "(I)I"⟩
abbrev cX12_isMan : ByteArray := prog_14_method_46_code
def yX12_isMan : MethodName := ⟨RX12, "isMan", "(I)Z"⟩
abbrev cX12_isReason : ByteArray := prog_14_method_47_code
def yX12_isReason : MethodName := ⟨RX12, "isReason", "(I)Z"⟩
abbrev cX12_isDuel : ByteArray := prog_14_method_48_code
def yX12_isDuel : MethodName := ⟨RX12, "isDuel", "(I)Z"⟩
abbrev cX12_isSide : ByteArray := prog_14_method_49_code
def yX12_isSide : MethodName := ⟨RX12, "isSide", "(I)Z"⟩
abbrev cX12_isAlive : ByteArray := prog_14_method_50_code
def yX12_isAlive : MethodName := ⟨RX12, "isAlive", "(I)Z"⟩
abbrev cX12_of : ByteArray := prog_14_method_51_code
def yX12_of : MethodName := ⟨RX12, "of", "(II)I"⟩
abbrev cX12_isOpen : ByteArray := prog_14_method_52_code
def yX12_isOpen : MethodName := ⟨RX12, "isOpen", "(I)Z"⟩
abbrev cX12_diesOn : ByteArray := prog_14_method_53_code
def yX12_diesOn : MethodName := ⟨RX12, "diesOn", "(I)I"⟩
abbrev cX12_ownerOf : ByteArray := prog_14_method_54_code
def yX12_ownerOf : MethodName := ⟨RX12, "ownerOf", "(I)I"⟩
abbrev cX12_startAnew : ByteArray := prog_14_method_55_code
def yX12_startAnew : MethodName := ⟨RX12, "startAnew", "()V"⟩
abbrev cX12_addDuel : ByteArray := prog_14_method_56_code
def yX12_addDuel : MethodName := ⟨RX12, "addDuel", "(III)V"⟩
abbrev cX12_man : ByteArray := prog_14_method_57_code
def yX12_man : MethodName := ⟨RX12, "man", "(II)I"⟩
abbrev cX12_duel : ByteArray := prog_14_method_58_code
def yX12_duel : MethodName := ⟨RX12, "duel", "(II)I"⟩
abbrev cX12_isStruck : ByteArray := prog_14_method_59_code
def yX12_isStruck : MethodName := ⟨RX12, "isStruck", "(I)Z"⟩
abbrev cX12_reason : ByteArray := prog_14_method_60_code
def yX12_reason : MethodName := ⟨RX12, "reason", "(II)I"⟩
abbrev cX12_worthBy : ByteArray := prog_14_method_61_code
def yX12_worthBy : MethodName := ⟨RX12, "worthBy", "(IIII)I"⟩
abbrev cX12_isNew : ByteArray := prog_14_method_62_code
def yX12_isNew : MethodName := ⟨RX12, "isNew", "(IIII)Z"⟩
abbrev cX12_isHis : ByteArray := prog_14_method_63_code
def yX12_isHis : MethodName := ⟨RX12, "isHis", "(IIZI)Z"⟩
abbrev cX12_isTime : ByteArray := prog_14_method_64_code
def yX12_isTime : MethodName := ⟨RX12, "isTime", "(II)Z"⟩
abbrev cX12_elsewhere : ByteArray := prog_14_method_65_code
def yX12_elsewhere : MethodName := ⟨RX12, "elsewhere", "(I)I"⟩
abbrev cX12_mayToday : ByteArray := prog_14_method_66_code
def yX12_mayToday : MethodName := ⟨RX12, "mayToday", "(III)Z"⟩
abbrev cX12_worth : ByteArray := prog_14_method_67_code
def yX12_worth : MethodName := ⟨RX12, "worth", "(III)I"⟩
abbrev cX12_may : ByteArray := prog_14_method_68_code
def yX12_may : MethodName := ⟨RX12, "may", "(II)I"⟩
abbrev cX12_keepAct : ByteArray := prog_14_method_69_code
def yX12_keepAct : MethodName := ⟨RX12, "keepAct", "()V"⟩
abbrev cX12_exchange : ByteArray := prog_14_method_70_code
def yX12_exchange : MethodName := ⟨RX12, "exchange", "()V"⟩
abbrev cX12_latestOf : ByteArray := prog_14_method_71_code
def yX12_latestOf : MethodName := ⟨RX12, "latestOf", "(I)I"⟩
abbrev cX12_put : ByteArray := prog_14_method_72_code
def yX12_put : MethodName := ⟨RX12, "put", "(III)I"⟩
abbrev cX12_rent : ByteArray := prog_14_method_73_code
def yX12_rent : MethodName := ⟨RX12, "rent", "(II)I"⟩
abbrev cX12_strike : ByteArray := prog_14_method_74_code
def yX12_strike : MethodName := ⟨RX12, "strike", "(I)Z"⟩
abbrev cX12_doOppose : ByteArray := prog_14_method_75_code
def yX12_doOppose : MethodName := ⟨RX12, "doOppose", "(III)Z"⟩
abbrev cX12_haveOpen : ByteArray := prog_14_method_76_code
def yX12_haveOpen : MethodName := ⟨RX12, "haveOpen", "(II)Z"⟩
abbrev cX12_insult : ByteArray := prog_14_method_77_code
def yX12_insult : MethodName := ⟨RX12, "insult", "(II)I"⟩
abbrev cX12_heirOf : ByteArray := prog_14_method_78_code
def yX12_heirOf : MethodName := ⟨RX12, "heirOf", "(I)I"⟩
abbrev cX12_dieNow : ByteArray := prog_14_method_79_code
def yX12_dieNow : MethodName := ⟨RX12, "dieNow", "(I)V"⟩
abbrev cX12_fight : ByteArray := prog_14_method_80_code
def yX12_fight : MethodName := ⟨RX12, "fight", "(I)V"⟩
abbrev cX12_goDay : ByteArray := prog_14_method_81_code
def yX12_goDay : MethodName := ⟨RX12, "goDay", "()V"⟩
abbrev cX12_days : ByteArray := prog_14_method_82_code
def yX12_days : MethodName := ⟨RX12, "days", "(I)I"⟩
abbrev cX12_undo : ByteArray := prog_14_method_83_code
def yX12_undo : MethodName := ⟨RX12, "undo", "()Z"⟩
abbrev cX12_redo : ByteArray := prog_14_method_84_code
def yX12_redo : MethodName := ⟨RX12, "redo", "()Z"⟩
abbrev cX12_open : ByteArray := prog_14_method_85_code
def yX12_open : MethodName := ⟨RX12, "open", "(IIIIII)V"⟩
abbrev cX12_layWorths : ByteArray := prog_14_method_86_code
def yX12_layWorths : MethodName := ⟨RX12, "layWorths", "(I)V"⟩
abbrev cX12_openDuel : ByteArray := prog_14_method_87_code
def yX12_openDuel : MethodName := ⟨RX12, "openDuel", "(I)V"⟩
abbrev cX12_mayIn : ByteArray := prog_14_method_88_code
def yX12_mayIn : MethodName := ⟨RX12, "mayIn", "(III)Z"⟩
abbrev cX12_stateOf : ByteArray := prog_14_method_89_code
def yX12_stateOf : MethodName := ⟨RX12, "stateOf", "(IIII)I"⟩
abbrev cX12_isOver : ByteArray := prog_14_method_90_code
def yX12_isOver : MethodName := ⟨RX12, "isOver", "(I)Z"⟩
abbrev cX12_goLevel : ByteArray := prog_14_method_91_code
def yX12_goLevel : MethodName := ⟨RX12, "goLevel", "(II)Z"⟩
abbrev cX12_overIn : ByteArray := prog_14_method_92_code
def yX12_overIn : MethodName := ⟨RX12, "overIn", "()I"⟩
abbrev cX12_seekLife : ByteArray := prog_14_method_93_code
def yX12_seekLife : MethodName := ⟨RX12, "seekLife", "()I"⟩
abbrev cX12_lies : ByteArray := prog_14_method_94_code
def yX12_lies : MethodName := ⟨RX12, "lies", "(I)I"⟩
abbrev cX12_life : ByteArray := prog_14_method_95_code
def yX12_life : MethodName := ⟨RX12, "life", "(I)I"⟩
abbrev cX12_late : ByteArray := prog_14_method_96_code
def yX12_late : MethodName := ⟨RX12, "late", "(II)I"⟩
abbrev cX12_winsBy : ByteArray := prog_14_method_97_code
def yX12_winsBy : MethodName := ⟨RX12, "winsBy", "(III)I"⟩
abbrev cX12_last : ByteArray := prog_14_method_98_code
def yX12_last : MethodName := ⟨RX12, "last", "(II)I"⟩
abbrev cX12_shun : ByteArray := prog_14_method_99_code
def yX12_shun : MethodName := ⟨RX12, "shun", "(I)I"⟩
abbrev cX12_rents : ByteArray := prog_14_method_100_code
def yX12_rents : MethodName := ⟨RX12, "rents", "(I)I"⟩
abbrev cX12_canRent : ByteArray := prog_14_method_101_code
def yX12_canRent : MethodName := ⟨RX12, "canRent", "(I)I"⟩
abbrev cX12_hire : ByteArray := prog_14_method_102_code
def yX12_hire : MethodName := ⟨RX12, "hire", "(II)I"⟩
abbrev cX12_isIn2 : ByteArray := prog_14_method_103_code
def yX12_isIn2 : MethodName := ⟨RX12, "isIn2", "(II)Z"⟩
abbrev cX12_clash : ByteArray := prog_14_method_104_code
def yX12_clash : MethodName := ⟨RX12, "clash", "(I)I"⟩
abbrev cX12_tries : ByteArray := prog_14_method_105_code
def yX12_tries : MethodName := ⟨RX12, "tries", "(III)I"⟩
abbrev cX12_takeBack : ByteArray := prog_14_method_106_code
def yX12_takeBack : MethodName := ⟨RX12, "takeBack", "(IIII)V"⟩
abbrev cX12_partsBy : ByteArray := prog_14_method_107_code
def yX12_partsBy : MethodName := ⟨RX12, "partsBy", "(IIII)Z"⟩
abbrev cX12_partsBySecond : ByteArray := prog_14_method_108_code
def yX12_partsBySecond : MethodName := ⟨RX12, "partsBySecond", "(II)Z"⟩
abbrev cX12_part : ByteArray := prog_14_method_109_code
def yX12_part : MethodName := ⟨RX12, "part", "(I)I"⟩
abbrev cX12_next : ByteArray := prog_14_method_110_code
def yX12_next : MethodName := ⟨RX12, "next", "(I)I"⟩
abbrev cX12_heir : ByteArray := prog_14_method_111_code
def yX12_heir : MethodName := ⟨RX12, "heir", "(I)I"⟩
abbrev cX12_his : ByteArray := prog_14_method_112_code
def yX12_his : MethodName := ⟨RX12, "his", "(I)I"⟩
abbrev cX12_comes : ByteArray := prog_14_method_113_code
def yX12_comes : MethodName := ⟨RX12, "comes", "(II)I"⟩
abbrev cX12_log : ByteArray := prog_14_method_114_code
def yX12_log : MethodName := ⟨RX12, "log", "(II)I"⟩
abbrev cX12_began : ByteArray := prog_14_method_115_code
def yX12_began : MethodName := ⟨RX12, "began", "(I)I"⟩
abbrev cX12_sight : ByteArray := prog_14_method_116_code
def yX12_sight : MethodName := ⟨RX12, "sight", "(II)I"⟩
abbrev cX12_untell : ByteArray := prog_14_method_117_code
def yX12_untell : MethodName := ⟨RX12, "untell", "(I)Z"⟩
abbrev cX12_later : ByteArray := prog_14_method_118_code
def yX12_later : MethodName := ⟨RX12, "later", "(I)I"⟩
abbrev cX12_isFalse : ByteArray := prog_14_method_119_code
def yX12_isFalse : MethodName := ⟨RX12, "isFalse", "(II)Z"⟩
abbrev cX12_falses : ByteArray := prog_14_method_120_code
def yX12_falses : MethodName := ⟨RX12, "falses", "(I)I"⟩
abbrev cX12_image : ByteArray := prog_14_method_121_code
def yX12_image : MethodName := ⟨RX12, "image", "(I)I"⟩
abbrev cX12_back : ByteArray := prog_14_method_122_code
def yX12_back : MethodName := ⟨RX12, "back", "(I)I"⟩
abbrev cX12_openMany : ByteArray := prog_14_method_123_code
def yX12_openMany : MethodName := ⟨RX12, "openMany", "()I"⟩
abbrev cX12_about : ByteArray := prog_14_method_124_code
def yX12_about : MethodName := ⟨RX12, "about", "(I)I"⟩
abbrev cX12_feed : ByteArray := prog_14_method_125_code
def yX12_feed : MethodName := ⟨RX12, "feed", "(IIIII)I"⟩
abbrev cX12_end : ByteArray := prog_14_method_126_code
def yX12_end : MethodName := ⟨RX12, "end", "(I)I"⟩
def RJx145de : String := "java/io/Serializable"
def RJx9f9b0 : String := "java/lang/CharSequence"
def RJ11 : String := "java/lang/Character"
abbrev cJ11_isValidCodePoint_9a6ad : ByteArray := prog_15_method_11_code
def yJ11_isValidCodePoint_9a6ad : MethodName := ⟨RJ11, "isValidCodePoint", "(I)Z"⟩
abbrev cJ11_highSurrogate_5068e : ByteArray := prog_15_method_28_code
def yJ11_highSurrogate_5068e : MethodName := ⟨RJ11, "highSurrogate", "(I)C"⟩
abbrev cJ11_lowSurrogate_5068e : ByteArray := prog_15_method_29_code
def yJ11_lowSurrogate_5068e : MethodName := ⟨RJ11, "lowSurrogate", "(I)C"⟩
def RJxb160c : String := "java/lang/Comparable"
def RJ6 : String := "java/lang/Integer"
abbrev cJ6_bitCount_0f7a4 : ByteArray := prog_16_method_49_code
def yJ6_bitCount_0f7a4 : MethodName := ⟨RJ6, "bitCount", "(I)I"⟩
def RJ9 : String := "java/lang/Math"
abbrev cJ9_max_7cf53 : ByteArray := prog_17_method_65_code
def yJ9_max_7cf53 : MethodName := ⟨RJ9, "max", "(II)I"⟩
abbrev cJ9_min_7cf53 : ByteArray := prog_17_method_69_code
def yJ9_min_7cf53 : MethodName := ⟨RJ9, "min", "(II)I"⟩
def RJ0 : String := "java/lang/String"
abbrev cJ0_length_8abf5 : ByteArray := prog_18_method_54_code
def yJ0_length_8abf5 : MethodName := ⟨RJ0, "length", "()I"⟩
abbrev cJ0_charAt_5068e : ByteArray := prog_18_method_56_code
def yJ0_charAt_5068e : MethodName := ⟨RJ0, "charAt", "(I)C"⟩
abbrev cJ0_indexOf_0f7a4 : ByteArray := prog_18_method_79_code
def yJ0_indexOf_0f7a4 : MethodName := ⟨RJ0, "indexOf", "(I)I"⟩
abbrev cJ0_indexOf_7cf53 : ByteArray := prog_18_method_80_code
def yJ0_indexOf_7cf53 : MethodName := ⟨RJ0, "indexOf", "(II)I"⟩
abbrev cJ0_coder_7d493 : ByteArray := prog_18_method_152_code
def yJ0_coder_7d493 : MethodName := ⟨RJ0, "coder", "()B"⟩
abbrev cJ0_isLatin1_aae02 : ByteArray := prog_18_method_154_code
def yJ0_isLatin1_aae02 : MethodName := ⟨RJ0, "isLatin1", "()Z"⟩
abbrev cJ0_checkIndex_df160 : ByteArray := prog_18_method_155_code
def yJ0_checkIndex_df160 : MethodName := ⟨RJ0, "checkIndex", "(II)V"⟩
abbrev cJ0_checkBoundsBeginEnd_23922 : ByteArray := prog_18_method_158_code
def yJ0_checkBoundsBeginEnd_23922 : MethodName := ⟨RJ0, "checkBoundsBeginEnd", "(III)V"⟩
def RJ1 : String := "java/lang/StringLatin1"
abbrev cJ1_charAt_3b067 : ByteArray := prog_19_method_2_code
def yJ1_charAt_3b067 : MethodName := ⟨RJ1, "charAt", "([BI)C"⟩
abbrev cJ1_canEncode_9a6ad : ByteArray := prog_19_method_4_code
def yJ1_canEncode_9a6ad : MethodName := ⟨RJ1, "canEncode", "(I)Z"⟩
abbrev cJ1_indexOf_4cfef : ByteArray := prog_19_method_22_code
def yJ1_indexOf_4cfef : MethodName := ⟨RJ1, "indexOf", "([BIII)I"⟩
abbrev cJ1_indexOfChar_4cfef : ByteArray := prog_19_method_23_code
def yJ1_indexOfChar_4cfef : MethodName := ⟨RJ1, "indexOfChar", "([BIII)I"⟩
def RJ2 : String := "java/lang/StringUTF16"
abbrev cJ2_getChar_3b067 : ByteArray := prog_20_method_5_code
def yJ2_getChar_3b067 : MethodName := ⟨RJ2, "getChar", "([BI)C"⟩
abbrev cJ2_length_9d52b : ByteArray := prog_20_method_6_code
def yJ2_length_9d52b : MethodName := ⟨RJ2, "length", "([B)I"⟩
abbrev cJ2_indexOf_4cfef : ByteArray := prog_20_method_40_code
def yJ2_indexOf_4cfef : MethodName := ⟨RJ2, "indexOf", "([BIII)I"⟩
abbrev cJ2_indexOfChar_4cfef : ByteArray := prog_20_method_47_code
def yJ2_indexOfChar_4cfef : MethodName := ⟨RJ2, "indexOfChar", "([BIII)I"⟩
abbrev cJ2_indexOfCharUnsafe_4cfef : ByteArray := prog_20_method_48_code
def yJ2_indexOfCharUnsafe_4cfef : MethodName := ⟨RJ2, "indexOfCharUnsafe", "([BIII)I"⟩
abbrev cJ2_indexOfSupplementary_4cfef : ByteArray := prog_20_method_49_code
def yJ2_indexOfSupplementary_4cfef : MethodName := ⟨RJ2, "indexOfSupplementary", "([BIII)I"⟩
abbrev cJ2_charAt_3b067 : ByteArray := prog_20_method_83_code
def yJ2_charAt_3b067 : MethodName := ⟨RJ2, "charAt", "([BI)C"⟩
abbrev cJ2_checkIndex_2214a : ByteArray := prog_20_method_91_code
def yJ2_checkIndex_2214a : MethodName := ⟨RJ2, "checkIndex", "(I[B)V"⟩
abbrev cJ2_checkBoundsBeginEnd_d044e : ByteArray := prog_20_method_93_code
def yJ2_checkBoundsBeginEnd_d044e : MethodName := ⟨RJ2, "checkBoundsBeginEnd", "(II[B)V"⟩
def RJ10 : String := "java/lang/System"
def RJxfd54e : String := "java/lang/constant/Constable"
def RJx3cf43 : String := "java/lang/constant/ConstantDesc"
def RJ7 : String := "java/util/Arrays"
abbrev cJ7_fill_53178 : ByteArray := prog_22_method_103_code
def yJ7_fill_53178 : MethodName := ⟨RJ7, "fill", "([II)V"⟩
def RJ3 : String := "jdk/internal/util/Preconditions"
abbrev cJ3_checkIndex_8e157 : ByteArray := prog_23_method_11_code
def yJ3_checkIndex_8e157 : MethodName := ⟨RJ3, "checkIndex", "(IILjava/util/function/BiFunction;)I"⟩
abbrev cJ3_checkFromToIndex_8c36e : ByteArray := prog_23_method_12_code
def yJ3_checkFromToIndex_8c36e : MethodName := ⟨RJ3, "checkFromToIndex", "(IIILjava/util/function/BiFunction;)I"⟩
def RL : String := "DuelDelaysLaw"
abbrev cL_law : ByteArray := code

abbrev vwCl : List vw_C := [(RX0, TX0, 8), (RX1, TX1, 2), (RX2, TX2, 9), (RX3, TX3, 5), (RX4, TX4, 4), (RX5, TX5, 7), (RX6, TX6, 8), (RX7, TX7, 12), (RX8, TX8, 6), (RX9, TX9, 14), (RX10, TX10, 8), (RX11, TX11, 14), (RX12, TX12, 87)]
def R_law : String := "DuelDelaysLaw"
def lw_P (b : Addr) (xs : List Int32) (args : Array Value) (s : State) : Prop := args = #[.ref b] ∧ s.IntsAt b xs ∧ xs.length ≤ 3072 ∧ (Jvm.Cond.and given_1 narrow_1).before args s = true
def lw_Q (_ : Array Value) (s : State) (o : Outcome) (t : State) : Prop := o = .returned (some (.int 1)) ∧ Framed s o t [] 600000 7302250
def lw_Z (below : List Frame) (a : Array Value) (s : State) : State → Prop := fun t => ∃ o, t.status = .running ∧ Ended t below o ∧ lw_Q a s o t
/-- the law's own end, with 1 on the stack, nothing written that was there before, its room as the claim has it -/
theorem lw_ret {p : Program} {l : Launch} {e : Env} {s : State} {m : MethodId} {below : List Frame} {meth : Method} {c : Code} {b : Nat} (hx : p.tables.exec = Jvm.exec) (hb : c.code = code) (hr : meth.sig.returnType = ret) (hlocks : meth.locks = false) {pc : Nat} {H : Heap} {ls : Array Slot} (hdg : decode code pc = .ok (.ireturn, 1)) : W p l e room_1 s m #[Value.ref b] below meth c H [] 600000 7302250 (lw_Z below #[Value.ref b] s) (F0 m pc ls [.int 1]) := by
  intro T hT X
  obtain ⟨fs, hret, hrun, hended, hW, hframe⟩ := X.leave (v := some (.int 1)) (hlocks := hlocks) (fun h => by rw [hr] at h; cases h)
  have hmeth' : T.vm.method? m = some meth := X.method'
  refine ⟨T.setFrames fs, ?_, .returned (some (.int 1)), hrun, hended, rfl, ⟨_, rfl⟩, hW, hframe⟩
  jvm_step X.here [X.here.top, hx, hb, hdg, hmeth', hr, ret, narrow_b1]
  (try refine ⟨rfl, ?_⟩); (try refine ⟨rfl, ?_⟩)
  first | (intro acts; rw [hret _ acts rfl rfl rfl]) | rw [hret _ _ rfl rfl rfl]
  exact Steps.refl _
/-- what holds at the law's entry: the machine, the code, the tables' words (any of lw_tbl by 'hts w (by decide +kernel)'), the script of L ints xs at the cell b, what the Statement gives of the start (any of its parts by flat_of_before) -/
def lw_At (p : Program) (s : State) (m : MethodId) (meth : Method) (c : Code) (b L : Nat) (xs : Nat → Int32) : Prop :=
  p.tables.exec = Jvm.exec ∧ c.code = code ∧ meth.sig.returnType = ret ∧ c.maxLocals = 4 ∧ s.vm.findClass R_law = some m.cls ∧ (∀ w ∈ lw_tbl, w.before #[Value.ref b] s = true) ∧ va_X b L xs s s.heap ∧ b < s.heap.size ∧ meth.locks = false ∧ (Jvm.Cond.and given_1 narrow_1).before #[Value.ref b] s = true

