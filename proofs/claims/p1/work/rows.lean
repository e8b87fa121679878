section
-- ===== PART A: goes FIRST, ahead of the names: the tables' words, and 'selects' of the private methods out of them =====
/-- a private method of a class that the tables say can be made, by its rows of tables_1 -/
def lw_okq (q : MethodName × Nat) : Prop := (q.1.cls ≠ "java/lang/invoke/MethodHandle" ∧ q.1.cls ≠ "java/lang/invoke/VarHandle") ∧ Cond.instantiable q.1.cls q.2 ∈ tables_1 ∧ Cond.privateMethod q.1 ∈ tables_1 ∧ Cond.instanceMethod q.1 ∈ tables_1
theorem lw_p0 : lw_okq (⟨"DuelDelays", "feedNumber", "(I)V"⟩, 14) := ⟨⟨by decide +kernel, by decide +kernel⟩, List.mem_of_getElem? (i := 24) (by decide +kernel), List.mem_of_getElem? (i := 569) (by decide +kernel), List.mem_of_getElem? (i := 570) (by decide +kernel)⟩
theorem lw_p1 : lw_okq (⟨"DuelDelays$Tokens", "takeLetters", "()V"⟩, 8) := ⟨⟨by decide +kernel, by decide +kernel⟩, List.mem_of_getElem? (i := 38) (by decide +kernel), List.mem_of_getElem? (i := 611) (by decide +kernel), List.mem_of_getElem? (i := 612) (by decide +kernel)⟩
theorem lw_p2 : lw_okq (⟨"DuelDelays$Tokens", "takeDigits", "()V"⟩, 8) := ⟨⟨by decide +kernel, by decide +kernel⟩, List.mem_of_getElem? (i := 38) (by decide +kernel), List.mem_of_getElem? (i := 621) (by decide +kernel), List.mem_of_getElem? (i := 622) (by decide +kernel)⟩
theorem lw_p3 : lw_okq (⟨"DuelDelays$Tokens", "takeSign", "()V"⟩, 8) := ⟨⟨by decide +kernel, by decide +kernel⟩, List.mem_of_getElem? (i := 38) (by decide +kernel), List.mem_of_getElem? (i := 625) (by decide +kernel), List.mem_of_getElem? (i := 626) (by decide +kernel)⟩
theorem lw_p4 : lw_okq (⟨"DuelDelays$Reader", "readMan", "()Z"⟩, 7) := ⟨⟨by decide +kernel, by decide +kernel⟩, List.mem_of_getElem? (i := 32) (by decide +kernel), List.mem_of_getElem? (i := 687) (by decide +kernel), List.mem_of_getElem? (i := 688) (by decide +kernel)⟩
theorem lw_p5 : lw_okq (⟨"DuelDelays$Reader", "refuse", "(I)Z"⟩, 7) := ⟨⟨by decide +kernel, by decide +kernel⟩, List.mem_of_getElem? (i := 32) (by decide +kernel), List.mem_of_getElem? (i := 691) (by decide +kernel), List.mem_of_getElem? (i := 692) (by decide +kernel)⟩
theorem lw_p6 : lw_okq (⟨"DuelDelays$Reader", "takeNewName", "([JI)Z"⟩, 7) := ⟨⟨by decide +kernel, by decide +kernel⟩, List.mem_of_getElem? (i := 32) (by decide +kernel), List.mem_of_getElem? (i := 696) (by decide +kernel), List.mem_of_getElem? (i := 697) (by decide +kernel)⟩
theorem lw_p7 : lw_okq (⟨"DuelDelays$Reader", "takeWord", "(I)Z"⟩, 7) := ⟨⟨by decide +kernel, by decide +kernel⟩, List.mem_of_getElem? (i := 32) (by decide +kernel), List.mem_of_getElem? (i := 701) (by decide +kernel), List.mem_of_getElem? (i := 702) (by decide +kernel)⟩
theorem lw_p8 : lw_okq (⟨"DuelDelays$Reader", "takeNumber", "(II)Z"⟩, 7) := ⟨⟨by decide +kernel, by decide +kernel⟩, List.mem_of_getElem? (i := 32) (by decide +kernel), List.mem_of_getElem? (i := 709) (by decide +kernel), List.mem_of_getElem? (i := 710) (by decide +kernel)⟩
theorem lw_p9 : lw_okq (⟨"DuelDelays$Reader", "takeOption", "(IIII)Z"⟩, 7) := ⟨⟨by decide +kernel, by decide +kernel⟩, List.mem_of_getElem? (i := 32) (by decide +kernel), List.mem_of_getElem? (i := 713) (by decide +kernel), List.mem_of_getElem? (i := 714) (by decide +kernel)⟩
theorem lw_p10 : lw_okq (⟨"DuelDelays$Reader", "takeNameOption", "(I[JI)Z"⟩, 7) := ⟨⟨by decide +kernel, by decide +kernel⟩, List.mem_of_getElem? (i := 32) (by decide +kernel), List.mem_of_getElem? (i := 717) (by decide +kernel), List.mem_of_getElem? (i := 718) (by decide +kernel)⟩
theorem lw_p11 : lw_okq (⟨"DuelDelays$Reader", "takeKnownName", "([JI)Z"⟩, 7) := ⟨⟨by decide +kernel, by decide +kernel⟩, List.mem_of_getElem? (i := 32) (by decide +kernel), List.mem_of_getElem? (i := 721) (by decide +kernel), List.mem_of_getElem? (i := 722) (by decide +kernel)⟩
theorem lw_p12 : lw_okq (⟨"DuelDelays$Reader", "takeSign", "(C)Z"⟩, 7) := ⟨⟨by decide +kernel, by decide +kernel⟩, List.mem_of_getElem? (i := 32) (by decide +kernel), List.mem_of_getElem? (i := 725) (by decide +kernel), List.mem_of_getElem? (i := 726) (by decide +kernel)⟩
theorem lw_p13 : lw_okq (⟨"DuelDelays$Reader", "readKind", "()Z"⟩, 7) := ⟨⟨by decide +kernel, by decide +kernel⟩, List.mem_of_getElem? (i := 32) (by decide +kernel), List.mem_of_getElem? (i := 733) (by decide +kernel), List.mem_of_getElem? (i := 734) (by decide +kernel)⟩
theorem lw_p14 : lw_okq (⟨"DuelDelays$Reader", "readChoice", "(I)Z"⟩, 7) := ⟨⟨by decide +kernel, by decide +kernel⟩, List.mem_of_getElem? (i := 32) (by decide +kernel), List.mem_of_getElem? (i := 741) (by decide +kernel), List.mem_of_getElem? (i := 742) (by decide +kernel)⟩
theorem lw_p15 : lw_okq (⟨"DuelDelays$Reader", "readBoth", "(I)Z"⟩, 7) := ⟨⟨by decide +kernel, by decide +kernel⟩, List.mem_of_getElem? (i := 32) (by decide +kernel), List.mem_of_getElem? (i := 745) (by decide +kernel), List.mem_of_getElem? (i := 746) (by decide +kernel)⟩
def lw_privs_1 : List (MethodName × Nat) := [(⟨"DuelDelays", "feedNumber", "(I)V"⟩, 14), (⟨"DuelDelays$Tokens", "takeLetters", "()V"⟩, 8), (⟨"DuelDelays$Tokens", "takeDigits", "()V"⟩, 8), (⟨"DuelDelays$Tokens", "takeSign", "()V"⟩, 8), (⟨"DuelDelays$Reader", "readMan", "()Z"⟩, 7), (⟨"DuelDelays$Reader", "refuse", "(I)Z"⟩, 7), (⟨"DuelDelays$Reader", "takeNewName", "([JI)Z"⟩, 7), (⟨"DuelDelays$Reader", "takeWord", "(I)Z"⟩, 7), (⟨"DuelDelays$Reader", "takeNumber", "(II)Z"⟩, 7), (⟨"DuelDelays$Reader", "takeOption", "(IIII)Z"⟩, 7), (⟨"DuelDelays$Reader", "takeNameOption", "(I[JI)Z"⟩, 7), (⟨"DuelDelays$Reader", "takeKnownName", "([JI)Z"⟩, 7), (⟨"DuelDelays$Reader", "takeSign", "(C)Z"⟩, 7), (⟨"DuelDelays$Reader", "readKind", "()Z"⟩, 7), (⟨"DuelDelays$Reader", "readChoice", "(I)Z"⟩, 7), (⟨"DuelDelays$Reader", "readBoth", "(I)Z"⟩, 7)]
theorem lw_r1 : ∀ q ∈ lw_privs_1, lw_okq q := List.forall_mem_cons.mpr ⟨lw_p0, List.forall_mem_cons.mpr ⟨lw_p1, List.forall_mem_cons.mpr ⟨lw_p2, List.forall_mem_cons.mpr ⟨lw_p3, List.forall_mem_cons.mpr ⟨lw_p4, List.forall_mem_cons.mpr ⟨lw_p5, List.forall_mem_cons.mpr ⟨lw_p6, List.forall_mem_cons.mpr ⟨lw_p7, List.forall_mem_cons.mpr ⟨lw_p8, List.forall_mem_cons.mpr ⟨lw_p9, List.forall_mem_cons.mpr ⟨lw_p10, List.forall_mem_cons.mpr ⟨lw_p11, List.forall_mem_cons.mpr ⟨lw_p12, List.forall_mem_cons.mpr ⟨lw_p13, List.forall_mem_cons.mpr ⟨lw_p14, List.forall_mem_cons.mpr ⟨lw_p15, fun _ h => absurd h List.not_mem_nil⟩⟩⟩⟩⟩⟩⟩⟩⟩⟩⟩⟩⟩⟩⟩⟩
theorem lw_p16 : lw_okq (⟨"DuelDelays$Reader", "readOne", "(I)Z"⟩, 7) := ⟨⟨by decide +kernel, by decide +kernel⟩, List.mem_of_getElem? (i := 32) (by decide +kernel), List.mem_of_getElem? (i := 749) (by decide +kernel), List.mem_of_getElem? (i := 750) (by decide +kernel)⟩
theorem lw_p17 : lw_okq (⟨"DuelDelays$Reader", "readSum", "(I)Z"⟩, 7) := ⟨⟨by decide +kernel, by decide +kernel⟩, List.mem_of_getElem? (i := 32) (by decide +kernel), List.mem_of_getElem? (i := 757) (by decide +kernel), List.mem_of_getElem? (i := 758) (by decide +kernel)⟩
theorem lw_p18 : lw_okq (⟨"DuelDelays$Reader", "readTerm", "(I)Z"⟩, 7) := ⟨⟨by decide +kernel, by decide +kernel⟩, List.mem_of_getElem? (i := 32) (by decide +kernel), List.mem_of_getElem? (i := 761) (by decide +kernel), List.mem_of_getElem? (i := 762) (by decide +kernel)⟩
theorem lw_p19 : lw_okq (⟨"DuelDelays$Reader", "readUnit", "(I)Z"⟩, 7) := ⟨⟨by decide +kernel, by decide +kernel⟩, List.mem_of_getElem? (i := 32) (by decide +kernel), List.mem_of_getElem? (i := 765) (by decide +kernel), List.mem_of_getElem? (i := 766) (by decide +kernel)⟩
theorem lw_p20 : lw_okq (⟨"DuelDelays$Reader", "isPlainUnit", "()Z"⟩, 7) := ⟨⟨by decide +kernel, by decide +kernel⟩, List.mem_of_getElem? (i := 32) (by decide +kernel), List.mem_of_getElem? (i := 769) (by decide +kernel), List.mem_of_getElem? (i := 770) (by decide +kernel)⟩
theorem lw_p21 : lw_okq (⟨"DuelDelays$Reader", "plainStep", "()I"⟩, 7) := ⟨⟨by decide +kernel, by decide +kernel⟩, List.mem_of_getElem? (i := 32) (by decide +kernel), List.mem_of_getElem? (i := 781) (by decide +kernel), List.mem_of_getElem? (i := 782) (by decide +kernel)⟩
theorem lw_p22 : lw_okq (⟨"DuelDelays$Reader", "product", "()I"⟩, 7) := ⟨⟨by decide +kernel, by decide +kernel⟩, List.mem_of_getElem? (i := 32) (by decide +kernel), List.mem_of_getElem? (i := 785) (by decide +kernel), List.mem_of_getElem? (i := 786) (by decide +kernel)⟩
theorem lw_p23 : lw_okq (⟨"DuelDelays$Reader", "addition", "()I"⟩, 7) := ⟨⟨by decide +kernel, by decide +kernel⟩, List.mem_of_getElem? (i := 32) (by decide +kernel), List.mem_of_getElem? (i := 789) (by decide +kernel), List.mem_of_getElem? (i := 790) (by decide +kernel)⟩
theorem lw_p24 : lw_okq (⟨"DuelDelays$Reader", "relation", "()I"⟩, 7) := ⟨⟨by decide +kernel, by decide +kernel⟩, List.mem_of_getElem? (i := 32) (by decide +kernel), List.mem_of_getElem? (i := 793) (by decide +kernel), List.mem_of_getElem? (i := 794) (by decide +kernel)⟩
theorem lw_p25 : lw_okq (⟨"DuelDelays$Reader", "readReason", "()Z"⟩, 7) := ⟨⟨by decide +kernel, by decide +kernel⟩, List.mem_of_getElem? (i := 32) (by decide +kernel), List.mem_of_getElem? (i := 801) (by decide +kernel), List.mem_of_getElem? (i := 802) (by decide +kernel)⟩
theorem lw_p26 : lw_okq (⟨"DuelDelays$Reader", "takeSort", "()I"⟩, 7) := ⟨⟨by decide +kernel, by decide +kernel⟩, List.mem_of_getElem? (i := 32) (by decide +kernel), List.mem_of_getElem? (i := 805) (by decide +kernel), List.mem_of_getElem? (i := 806) (by decide +kernel)⟩
theorem lw_p27 : lw_okq (⟨"DuelDelays$Reader", "readDuel", "()Z"⟩, 7) := ⟨⟨by decide +kernel, by decide +kernel⟩, List.mem_of_getElem? (i := 32) (by decide +kernel), List.mem_of_getElem? (i := 812) (by decide +kernel), List.mem_of_getElem? (i := 813) (by decide +kernel)⟩
theorem lw_p28 : lw_okq (⟨"DuelDelays$Reader", "readHonour", "()Z"⟩, 7) := ⟨⟨by decide +kernel, by decide +kernel⟩, List.mem_of_getElem? (i := 32) (by decide +kernel), List.mem_of_getElem? (i := 820) (by decide +kernel), List.mem_of_getElem? (i := 821) (by decide +kernel)⟩
theorem lw_p29 : lw_okq (⟨"DuelDelays$Reader", "readDraw", "()Z"⟩, 7) := ⟨⟨by decide +kernel, by decide +kernel⟩, List.mem_of_getElem? (i := 32) (by decide +kernel), List.mem_of_getElem? (i := 824) (by decide +kernel), List.mem_of_getElem? (i := 825) (by decide +kernel)⟩
theorem lw_p30 : lw_okq (⟨"DuelDelays", "nextState", "()LDuelDelays$State;"⟩, 14) := ⟨⟨by decide +kernel, by decide +kernel⟩, List.mem_of_getElem? (i := 24) (by decide +kernel), List.mem_of_getElem? (i := 987) (by decide +kernel), List.mem_of_getElem? (i := 988) (by decide +kernel)⟩
theorem lw_p31 : lw_okq (⟨"DuelDelays$State", "addLine", "(IIII)V"⟩, 14) := ⟨⟨by decide +kernel, by decide +kernel⟩, List.mem_of_getElem? (i := 443) (by decide +kernel), List.mem_of_getElem? (i := 1005) (by decide +kernel), List.mem_of_getElem? (i := 1006) (by decide +kernel)⟩
def lw_privs_2 : List (MethodName × Nat) := [(⟨"DuelDelays$Reader", "readOne", "(I)Z"⟩, 7), (⟨"DuelDelays$Reader", "readSum", "(I)Z"⟩, 7), (⟨"DuelDelays$Reader", "readTerm", "(I)Z"⟩, 7), (⟨"DuelDelays$Reader", "readUnit", "(I)Z"⟩, 7), (⟨"DuelDelays$Reader", "isPlainUnit", "()Z"⟩, 7), (⟨"DuelDelays$Reader", "plainStep", "()I"⟩, 7), (⟨"DuelDelays$Reader", "product", "()I"⟩, 7), (⟨"DuelDelays$Reader", "addition", "()I"⟩, 7), (⟨"DuelDelays$Reader", "relation", "()I"⟩, 7), (⟨"DuelDelays$Reader", "readReason", "()Z"⟩, 7), (⟨"DuelDelays$Reader", "takeSort", "()I"⟩, 7), (⟨"DuelDelays$Reader", "readDuel", "()Z"⟩, 7), (⟨"DuelDelays$Reader", "readHonour", "()Z"⟩, 7), (⟨"DuelDelays$Reader", "readDraw", "()Z"⟩, 7), (⟨"DuelDelays", "nextState", "()LDuelDelays$State;"⟩, 14), (⟨"DuelDelays$State", "addLine", "(IIII)V"⟩, 14)]
theorem lw_r2 : ∀ q ∈ lw_privs_2, lw_okq q := List.forall_mem_cons.mpr ⟨lw_p16, List.forall_mem_cons.mpr ⟨lw_p17, List.forall_mem_cons.mpr ⟨lw_p18, List.forall_mem_cons.mpr ⟨lw_p19, List.forall_mem_cons.mpr ⟨lw_p20, List.forall_mem_cons.mpr ⟨lw_p21, List.forall_mem_cons.mpr ⟨lw_p22, List.forall_mem_cons.mpr ⟨lw_p23, List.forall_mem_cons.mpr ⟨lw_p24, List.forall_mem_cons.mpr ⟨lw_p25, List.forall_mem_cons.mpr ⟨lw_p26, List.forall_mem_cons.mpr ⟨lw_p27, List.forall_mem_cons.mpr ⟨lw_p28, List.forall_mem_cons.mpr ⟨lw_p29, List.forall_mem_cons.mpr ⟨lw_p30, List.forall_mem_cons.mpr ⟨lw_p31, fun _ h => absurd h List.not_mem_nil⟩⟩⟩⟩⟩⟩⟩⟩⟩⟩⟩⟩⟩⟩⟩⟩
theorem lw_p32 : lw_okq (⟨"DuelDelays$State", "bury", "(LDuelDelays$Land;I)V"⟩, 14) := ⟨⟨by decide +kernel, by decide +kernel⟩, List.mem_of_getElem? (i := 443) (by decide +kernel), List.mem_of_getElem? (i := 1036) (by decide +kernel), List.mem_of_getElem? (i := 1037) (by decide +kernel)⟩
theorem lw_p33 : lw_okq (⟨"DuelDelays$State", "fight", "(LDuelDelays$Land;I)V"⟩, 14) := ⟨⟨by decide +kernel, by decide +kernel⟩, List.mem_of_getElem? (i := 443) (by decide +kernel), List.mem_of_getElem? (i := 1042) (by decide +kernel), List.mem_of_getElem? (i := 1043) (by decide +kernel)⟩
theorem lw_p34 : lw_okq (⟨"DuelDelays$Search", "reach", "(III)Z"⟩, 12) := ⟨⟨by decide +kernel, by decide +kernel⟩, List.mem_of_getElem? (i := 337) (by decide +kernel), List.mem_of_getElem? (i := 1079) (by decide +kernel), List.mem_of_getElem? (i := 1080) (by decide +kernel)⟩
theorem lw_p35 : lw_okq (⟨"DuelDelays$Search", "slotOf", "(I)I"⟩, 12) := ⟨⟨by decide +kernel, by decide +kernel⟩, List.mem_of_getElem? (i := 337) (by decide +kernel), List.mem_of_getElem? (i := 1083) (by decide +kernel), List.mem_of_getElem? (i := 1084) (by decide +kernel)⟩
theorem lw_p36 : lw_okq (⟨"DuelDelays$Search", "isTaken", "(I)Z"⟩, 12) := ⟨⟨by decide +kernel, by decide +kernel⟩, List.mem_of_getElem? (i := 337) (by decide +kernel), List.mem_of_getElem? (i := 1088) (by decide +kernel), List.mem_of_getElem? (i := 1089) (by decide +kernel)⟩
theorem lw_p37 : lw_okq (⟨"DuelDelays$Search", "morningOf", "(I)I"⟩, 12) := ⟨⟨by decide +kernel, by decide +kernel⟩, List.mem_of_getElem? (i := 337) (by decide +kernel), List.mem_of_getElem? (i := 1096) (by decide +kernel), List.mem_of_getElem? (i := 1097) (by decide +kernel)⟩
theorem lw_p38 : lw_okq (⟨"DuelDelays$Search", "keepPath", "(II)V"⟩, 12) := ⟨⟨by decide +kernel, by decide +kernel⟩, List.mem_of_getElem? (i := 337) (by decide +kernel), List.mem_of_getElem? (i := 1100) (by decide +kernel), List.mem_of_getElem? (i := 1101) (by decide +kernel)⟩
theorem lw_p39 : lw_okq (⟨"DuelDelays$Search", "expand", "(IIII)Z"⟩, 12) := ⟨⟨by decide +kernel, by decide +kernel⟩, List.mem_of_getElem? (i := 337) (by decide +kernel), List.mem_of_getElem? (i := 1104) (by decide +kernel), List.mem_of_getElem? (i := 1105) (by decide +kernel)⟩
theorem lw_p40 : lw_okq (⟨"DuelDelays$Search", "allows", "(II)Z"⟩, 12) := ⟨⟨by decide +kernel, by decide +kernel⟩, List.mem_of_getElem? (i := 337) (by decide +kernel), List.mem_of_getElem? (i := 1108) (by decide +kernel), List.mem_of_getElem? (i := 1109) (by decide +kernel)⟩
theorem lw_p41 : lw_okq (⟨"DuelDelays$Search", "usedOf", "(I)I"⟩, 12) := ⟨⟨by decide +kernel, by decide +kernel⟩, List.mem_of_getElem? (i := 337) (by decide +kernel), List.mem_of_getElem? (i := 1113) (by decide +kernel), List.mem_of_getElem? (i := 1114) (by decide +kernel)⟩
theorem lw_p42 : lw_okq (⟨"DuelDelays$Search", "keyBehind", "(II)I"⟩, 12) := ⟨⟨by decide +kernel, by decide +kernel⟩, List.mem_of_getElem? (i := 337) (by decide +kernel), List.mem_of_getElem? (i := 1117) (by decide +kernel), List.mem_of_getElem? (i := 1118) (by decide +kernel)⟩
theorem lw_p43 : lw_okq (⟨"DuelDelays$Search", "winningReason", "(II)I"⟩, 12) := ⟨⟨by decide +kernel, by decide +kernel⟩, List.mem_of_getElem? (i := 337) (by decide +kernel), List.mem_of_getElem? (i := 1148) (by decide +kernel), List.mem_of_getElem? (i := 1149) (by decide +kernel)⟩
theorem lw_p44 : lw_okq (⟨"DuelDelays$State", "earlierOn", "(I[II)I"⟩, 14) := ⟨⟨by decide +kernel, by decide +kernel⟩, List.mem_of_getElem? (i := 443) (by decide +kernel), List.mem_of_getElem? (i := 1179) (by decide +kernel), List.mem_of_getElem? (i := 1180) (by decide +kernel)⟩
theorem lw_p45 : lw_okq (⟨"DuelDelays$Parting", "fillMoves", "(LDuelDelays$Land;LDuelDelays$State;I)V"⟩, 4) := ⟨⟨by decide +kernel, by decide +kernel⟩, List.mem_of_getElem? (i := 408) (by decide +kernel), List.mem_of_getElem? (i := 1193) (by decide +kernel), List.mem_of_getElem? (i := 1194) (by decide +kernel)⟩
theorem lw_p46 : lw_okq (⟨"DuelDelays$Parting", "findOne", "(LDuelDelays$State;I)Z"⟩, 4) := ⟨⟨by decide +kernel, by decide +kernel⟩, List.mem_of_getElem? (i := 408) (by decide +kernel), List.mem_of_getElem? (i := 1212) (by decide +kernel), List.mem_of_getElem? (i := 1213) (by decide +kernel)⟩
theorem lw_p47 : lw_okq (⟨"DuelDelays$Parting", "isParted", "(LDuelDelays$State;II)Z"⟩, 4) := ⟨⟨by decide +kernel, by decide +kernel⟩, List.mem_of_getElem? (i := 408) (by decide +kernel), List.mem_of_getElem? (i := 1216) (by decide +kernel), List.mem_of_getElem? (i := 1217) (by decide +kernel)⟩
def lw_privs_3 : List (MethodName × Nat) := [(⟨"DuelDelays$State", "bury", "(LDuelDelays$Land;I)V"⟩, 14), (⟨"DuelDelays$State", "fight", "(LDuelDelays$Land;I)V"⟩, 14), (⟨"DuelDelays$Search", "reach", "(III)Z"⟩, 12), (⟨"DuelDelays$Search", "slotOf", "(I)I"⟩, 12), (⟨"DuelDelays$Search", "isTaken", "(I)Z"⟩, 12), (⟨"DuelDelays$Search", "morningOf", "(I)I"⟩, 12), (⟨"DuelDelays$Search", "keepPath", "(II)V"⟩, 12), (⟨"DuelDelays$Search", "expand", "(IIII)Z"⟩, 12), (⟨"DuelDelays$Search", "allows", "(II)Z"⟩, 12), (⟨"DuelDelays$Search", "usedOf", "(I)I"⟩, 12), (⟨"DuelDelays$Search", "keyBehind", "(II)I"⟩, 12), (⟨"DuelDelays$Search", "winningReason", "(II)I"⟩, 12), (⟨"DuelDelays$State", "earlierOn", "(I[II)I"⟩, 14), (⟨"DuelDelays$Parting", "fillMoves", "(LDuelDelays$Land;LDuelDelays$State;I)V"⟩, 4), (⟨"DuelDelays$Parting", "findOne", "(LDuelDelays$State;I)Z"⟩, 4), (⟨"DuelDelays$Parting", "isParted", "(LDuelDelays$State;II)Z"⟩, 4)]
theorem lw_r3 : ∀ q ∈ lw_privs_3, lw_okq q := List.forall_mem_cons.mpr ⟨lw_p32, List.forall_mem_cons.mpr ⟨lw_p33, List.forall_mem_cons.mpr ⟨lw_p34, List.forall_mem_cons.mpr ⟨lw_p35, List.forall_mem_cons.mpr ⟨lw_p36, List.forall_mem_cons.mpr ⟨lw_p37, List.forall_mem_cons.mpr ⟨lw_p38, List.forall_mem_cons.mpr ⟨lw_p39, List.forall_mem_cons.mpr ⟨lw_p40, List.forall_mem_cons.mpr ⟨lw_p41, List.forall_mem_cons.mpr ⟨lw_p42, List.forall_mem_cons.mpr ⟨lw_p43, List.forall_mem_cons.mpr ⟨lw_p44, List.forall_mem_cons.mpr ⟨lw_p45, List.forall_mem_cons.mpr ⟨lw_p46, List.forall_mem_cons.mpr ⟨lw_p47, fun _ h => absurd h List.not_mem_nil⟩⟩⟩⟩⟩⟩⟩⟩⟩⟩⟩⟩⟩⟩⟩⟩
theorem lw_p48 : lw_okq (⟨"DuelDelays$Parting", "findTwo", "(LDuelDelays$Land;LDuelDelays$State;I)Z"⟩, 4) := ⟨⟨by decide +kernel, by decide +kernel⟩, List.mem_of_getElem? (i := 408) (by decide +kernel), List.mem_of_getElem? (i := 1220) (by decide +kernel), List.mem_of_getElem? (i := 1221) (by decide +kernel)⟩
theorem lw_p49 : lw_okq (⟨"DuelDelays$Parting", "findSecond", "(LDuelDelays$Land;LDuelDelays$State;I)Z"⟩, 4) := ⟨⟨by decide +kernel, by decide +kernel⟩, List.mem_of_getElem? (i := 408) (by decide +kernel), List.mem_of_getElem? (i := 1224) (by decide +kernel), List.mem_of_getElem? (i := 1225) (by decide +kernel)⟩
theorem lw_p50 : lw_okq (⟨"DuelDelaysModel", "clearBank", "()V"⟩, 87) := ⟨⟨by decide +kernel, by decide +kernel⟩, List.mem_of_getElem? (i := 1288) (by decide +kernel), List.mem_of_getElem? (i := 1294) (by decide +kernel), List.mem_of_getElem? (i := 1295) (by decide +kernel)⟩
theorem lw_p51 : lw_okq (⟨"DuelDelaysModel", "startAnew", "()V"⟩, 87) := ⟨⟨by decide +kernel, by decide +kernel⟩, List.mem_of_getElem? (i := 1288) (by decide +kernel), List.mem_of_getElem? (i := 1298) (by decide +kernel), List.mem_of_getElem? (i := 1299) (by decide +kernel)⟩
theorem lw_p52 : lw_okq (⟨"DuelDelaysModel", "addDuel", "(III)V"⟩, 87) := ⟨⟨by decide +kernel, by decide +kernel⟩, List.mem_of_getElem? (i := 1288) (by decide +kernel), List.mem_of_getElem? (i := 1302) (by decide +kernel), List.mem_of_getElem? (i := 1303) (by decide +kernel)⟩
theorem lw_p53 : lw_okq (⟨"DuelDelaysModel", "goOn", "()V"⟩, 87) := ⟨⟨by decide +kernel, by decide +kernel⟩, List.mem_of_getElem? (i := 1288) (by decide +kernel), List.mem_of_getElem? (i := 1572) (by decide +kernel), List.mem_of_getElem? (i := 1573) (by decide +kernel)⟩
theorem lw_p54 : lw_okq (⟨"DuelDelaysModel", "sign", "(I)I"⟩, 87) := ⟨⟨by decide +kernel, by decide +kernel⟩, List.mem_of_getElem? (i := 1288) (by decide +kernel), List.mem_of_getElem? (i := 1576) (by decide +kernel), List.mem_of_getElem? (i := 1577) (by decide +kernel)⟩
theorem lw_p55 : lw_okq (⟨"DuelDelaysModel", "isGood", "()Z"⟩, 87) := ⟨⟨by decide +kernel, by decide +kernel⟩, List.mem_of_getElem? (i := 1288) (by decide +kernel), List.mem_of_getElem? (i := 1616) (by decide +kernel), List.mem_of_getElem? (i := 1617) (by decide +kernel)⟩
theorem lw_p56 : lw_okq (⟨"DuelDelaysModel", "readLine", "()V"⟩, 87) := ⟨⟨by decide +kernel, by decide +kernel⟩, List.mem_of_getElem? (i := 1288) (by decide +kernel), List.mem_of_getElem? (i := 1620) (by decide +kernel), List.mem_of_getElem? (i := 1621) (by decide +kernel)⟩
theorem lw_p57 : lw_okq (⟨"DuelDelaysModel", "isFull", "()Z"⟩, 87) := ⟨⟨by decide +kernel, by decide +kernel⟩, List.mem_of_getElem? (i := 1288) (by decide +kernel), List.mem_of_getElem? (i := 1624) (by decide +kernel), List.mem_of_getElem? (i := 1625) (by decide +kernel)⟩
theorem lw_p58 : lw_okq (⟨"DuelDelaysModel", "isWord", "(J)Z"⟩, 87) := ⟨⟨by decide +kernel, by decide +kernel⟩, List.mem_of_getElem? (i := 1288) (by decide +kernel), List.mem_of_getElem? (i := 1628) (by decide +kernel), List.mem_of_getElem? (i := 1629) (by decide +kernel)⟩
theorem lw_p59 : lw_okq (⟨"DuelDelaysModel", "misplaced", "()V"⟩, 87) := ⟨⟨by decide +kernel, by decide +kernel⟩, List.mem_of_getElem? (i := 1288) (by decide +kernel), List.mem_of_getElem? (i := 1632) (by decide +kernel), List.mem_of_getElem? (i := 1633) (by decide +kernel)⟩
theorem lw_p60 : lw_okq (⟨"DuelDelaysModel", "fails", "(II)V"⟩, 87) := ⟨⟨by decide +kernel, by decide +kernel⟩, List.mem_of_getElem? (i := 1288) (by decide +kernel), List.mem_of_getElem? (i := 1636) (by decide +kernel), List.mem_of_getElem? (i := 1637) (by decide +kernel)⟩
theorem lw_p61 : lw_okq (⟨"DuelDelaysModel", "readMan", "()V"⟩, 87) := ⟨⟨by decide +kernel, by decide +kernel⟩, List.mem_of_getElem? (i := 1288) (by decide +kernel), List.mem_of_getElem? (i := 1640) (by decide +kernel), List.mem_of_getElem? (i := 1641) (by decide +kernel)⟩
theorem lw_p62 : lw_okq (⟨"DuelDelaysModel", "manHere", "()I"⟩, 87) := ⟨⟨by decide +kernel, by decide +kernel⟩, List.mem_of_getElem? (i := 1288) (by decide +kernel), List.mem_of_getElem? (i := 1644) (by decide +kernel), List.mem_of_getElem? (i := 1645) (by decide +kernel)⟩
theorem lw_p63 : lw_okq (⟨"DuelDelaysModel", "here", "([JII)I"⟩, 87) := ⟨⟨by decide +kernel, by decide +kernel⟩, List.mem_of_getElem? (i := 1288) (by decide +kernel), List.mem_of_getElem? (i := 1648) (by decide +kernel), List.mem_of_getElem? (i := 1649) (by decide +kernel)⟩
def lw_privs_4 : List (MethodName × Nat) := [(⟨"DuelDelays$Parting", "findTwo", "(LDuelDelays$Land;LDuelDelays$State;I)Z"⟩, 4), (⟨"DuelDelays$Parting", "findSecond", "(LDuelDelays$Land;LDuelDelays$State;I)Z"⟩, 4), (⟨"DuelDelaysModel", "clearBank", "()V"⟩, 87), (⟨"DuelDelaysModel", "startAnew", "()V"⟩, 87), (⟨"DuelDelaysModel", "addDuel", "(III)V"⟩, 87), (⟨"DuelDelaysModel", "goOn", "()V"⟩, 87), (⟨"DuelDelaysModel", "sign", "(I)I"⟩, 87), (⟨"DuelDelaysModel", "isGood", "()Z"⟩, 87), (⟨"DuelDelaysModel", "readLine", "()V"⟩, 87), (⟨"DuelDelaysModel", "isFull", "()Z"⟩, 87), (⟨"DuelDelaysModel", "isWord", "(J)Z"⟩, 87), (⟨"DuelDelaysModel", "misplaced", "()V"⟩, 87), (⟨"DuelDelaysModel", "fails", "(II)V"⟩, 87), (⟨"DuelDelaysModel", "readMan", "()V"⟩, 87), (⟨"DuelDelaysModel", "manHere", "()I"⟩, 87), (⟨"DuelDelaysModel", "here", "([JII)I"⟩, 87)]
theorem lw_r4 : ∀ q ∈ lw_privs_4, lw_okq q := List.forall_mem_cons.mpr ⟨lw_p48, List.forall_mem_cons.mpr ⟨lw_p49, List.forall_mem_cons.mpr ⟨lw_p50, List.forall_mem_cons.mpr ⟨lw_p51, List.forall_mem_cons.mpr ⟨lw_p52, List.forall_mem_cons.mpr ⟨lw_p53, List.forall_mem_cons.mpr ⟨lw_p54, List.forall_mem_cons.mpr ⟨lw_p55, List.forall_mem_cons.mpr ⟨lw_p56, List.forall_mem_cons.mpr ⟨lw_p57, List.forall_mem_cons.mpr ⟨lw_p58, List.forall_mem_cons.mpr ⟨lw_p59, List.forall_mem_cons.mpr ⟨lw_p60, List.forall_mem_cons.mpr ⟨lw_p61, List.forall_mem_cons.mpr ⟨lw_p62, List.forall_mem_cons.mpr ⟨lw_p63, fun _ h => absurd h List.not_mem_nil⟩⟩⟩⟩⟩⟩⟩⟩⟩⟩⟩⟩⟩⟩⟩⟩
theorem lw_p64 : lw_okq (⟨"DuelDelaysModel", "fresh", "(I)J"⟩, 87) := ⟨⟨by decide +kernel, by decide +kernel⟩, List.mem_of_getElem? (i := 1288) (by decide +kernel), List.mem_of_getElem? (i := 1652) (by decide +kernel), List.mem_of_getElem? (i := 1653) (by decide +kernel)⟩
theorem lw_p65 : lw_okq (⟨"DuelDelaysModel", "after", "(JII)I"⟩, 87) := ⟨⟨by decide +kernel, by decide +kernel⟩, List.mem_of_getElem? (i := 1288) (by decide +kernel), List.mem_of_getElem? (i := 1656) (by decide +kernel), List.mem_of_getElem? (i := 1657) (by decide +kernel)⟩
theorem lw_p66 : lw_okq (⟨"DuelDelaysModel", "must", "(Z)V"⟩, 87) := ⟨⟨by decide +kernel, by decide +kernel⟩, List.mem_of_getElem? (i := 1288) (by decide +kernel), List.mem_of_getElem? (i := 1660) (by decide +kernel), List.mem_of_getElem? (i := 1661) (by decide +kernel)⟩
theorem lw_p67 : lw_okq (⟨"DuelDelaysModel", "numeral", "(II)I"⟩, 87) := ⟨⟨by decide +kernel, by decide +kernel⟩, List.mem_of_getElem? (i := 1288) (by decide +kernel), List.mem_of_getElem? (i := 1664) (by decide +kernel), List.mem_of_getElem? (i := 1665) (by decide +kernel)⟩
theorem lw_p68 : lw_okq (⟨"DuelDelaysModel", "perhaps", "(JIII)I"⟩, 87) := ⟨⟨by decide +kernel, by decide +kernel⟩, List.mem_of_getElem? (i := 1288) (by decide +kernel), List.mem_of_getElem? (i := 1668) (by decide +kernel), List.mem_of_getElem? (i := 1669) (by decide +kernel)⟩
theorem lw_p69 : lw_okq (⟨"DuelDelaysModel", "known", "(I)I"⟩, 87) := ⟨⟨by decide +kernel, by decide +kernel⟩, List.mem_of_getElem? (i := 1288) (by decide +kernel), List.mem_of_getElem? (i := 1672) (by decide +kernel), List.mem_of_getElem? (i := 1673) (by decide +kernel)⟩
theorem lw_p70 : lw_okq (⟨"DuelDelaysModel", "readKind", "()V"⟩, 87) := ⟨⟨by decide +kernel, by decide +kernel⟩, List.mem_of_getElem? (i := 1288) (by decide +kernel), List.mem_of_getElem? (i := 1676) (by decide +kernel), List.mem_of_getElem? (i := 1677) (by decide +kernel)⟩
theorem lw_p71 : lw_okq (⟨"DuelDelaysModel", "kindHere", "()I"⟩, 87) := ⟨⟨by decide +kernel, by decide +kernel⟩, List.mem_of_getElem? (i := 1288) (by decide +kernel), List.mem_of_getElem? (i := 1680) (by decide +kernel), List.mem_of_getElem? (i := 1681) (by decide +kernel)⟩
theorem lw_p72 : lw_okq (⟨"DuelDelaysModel", "readRule", "(I)V"⟩, 87) := ⟨⟨by decide +kernel, by decide +kernel⟩, List.mem_of_getElem? (i := 1288) (by decide +kernel), List.mem_of_getElem? (i := 1684) (by decide +kernel), List.mem_of_getElem? (i := 1685) (by decide +kernel)⟩
theorem lw_p73 : lw_okq (⟨"DuelDelaysModel", "e", "()V"⟩, 87) := ⟨⟨by decide +kernel, by decide +kernel⟩, List.mem_of_getElem? (i := 1288) (by decide +kernel), List.mem_of_getElem? (i := 1688) (by decide +kernel), List.mem_of_getElem? (i := 1689) (by decide +kernel)⟩
theorem lw_p74 : lw_okq (⟨"DuelDelaysModel", "pushE", "(II)V"⟩, 87) := ⟨⟨by decide +kernel, by decide +kernel⟩, List.mem_of_getElem? (i := 1288) (by decide +kernel), List.mem_of_getElem? (i := 1692) (by decide +kernel), List.mem_of_getElem? (i := 1693) (by decide +kernel)⟩
theorem lw_p75 : lw_okq (⟨"DuelDelaysModel", "unit", "()Z"⟩, 87) := ⟨⟨by decide +kernel, by decide +kernel⟩, List.mem_of_getElem? (i := 1288) (by decide +kernel), List.mem_of_getElem? (i := 1696) (by decide +kernel), List.mem_of_getElem? (i := 1697) (by decide +kernel)⟩
theorem lw_p76 : lw_okq (⟨"DuelDelaysModel", "isSignHere", "(I)Z"⟩, 87) := ⟨⟨by decide +kernel, by decide +kernel⟩, List.mem_of_getElem? (i := 1288) (by decide +kernel), List.mem_of_getElem? (i := 1700) (by decide +kernel), List.mem_of_getElem? (i := 1701) (by decide +kernel)⟩
theorem lw_p77 : lw_okq (⟨"DuelDelaysModel", "wordHere", "()I"⟩, 87) := ⟨⟨by decide +kernel, by decide +kernel⟩, List.mem_of_getElem? (i := 1288) (by decide +kernel), List.mem_of_getElem? (i := 1704) (by decide +kernel), List.mem_of_getElem? (i := 1705) (by decide +kernel)⟩
theorem lw_p78 : lw_okq (⟨"DuelDelaysModel", "emit", "(II)V"⟩, 87) := ⟨⟨by decide +kernel, by decide +kernel⟩, List.mem_of_getElem? (i := 1288) (by decide +kernel), List.mem_of_getElem? (i := 1708) (by decide +kernel), List.mem_of_getElem? (i := 1709) (by decide +kernel)⟩
theorem lw_p79 : lw_okq (⟨"DuelDelaysModel", "behindUnit", "()Z"⟩, 87) := ⟨⟨by decide +kernel, by decide +kernel⟩, List.mem_of_getElem? (i := 1288) (by decide +kernel), List.mem_of_getElem? (i := 1712) (by decide +kernel), List.mem_of_getElem? (i := 1713) (by decide +kernel)⟩
def lw_privs_5 : List (MethodName × Nat) := [(⟨"DuelDelaysModel", "fresh", "(I)J"⟩, 87), (⟨"DuelDelaysModel", "after", "(JII)I"⟩, 87), (⟨"DuelDelaysModel", "must", "(Z)V"⟩, 87), (⟨"DuelDelaysModel", "numeral", "(II)I"⟩, 87), (⟨"DuelDelaysModel", "perhaps", "(JIII)I"⟩, 87), (⟨"DuelDelaysModel", "known", "(I)I"⟩, 87), (⟨"DuelDelaysModel", "readKind", "()V"⟩, 87), (⟨"DuelDelaysModel", "kindHere", "()I"⟩, 87), (⟨"DuelDelaysModel", "readRule", "(I)V"⟩, 87), (⟨"DuelDelaysModel", "e", "()V"⟩, 87), (⟨"DuelDelaysModel", "pushE", "(II)V"⟩, 87), (⟨"DuelDelaysModel", "unit", "()Z"⟩, 87), (⟨"DuelDelaysModel", "isSignHere", "(I)Z"⟩, 87), (⟨"DuelDelaysModel", "wordHere", "()I"⟩, 87), (⟨"DuelDelaysModel", "emit", "(II)V"⟩, 87), (⟨"DuelDelaysModel", "behindUnit", "()Z"⟩, 87)]
theorem lw_r5 : ∀ q ∈ lw_privs_5, lw_okq q := List.forall_mem_cons.mpr ⟨lw_p64, List.forall_mem_cons.mpr ⟨lw_p65, List.forall_mem_cons.mpr ⟨lw_p66, List.forall_mem_cons.mpr ⟨lw_p67, List.forall_mem_cons.mpr ⟨lw_p68, List.forall_mem_cons.mpr ⟨lw_p69, List.forall_mem_cons.mpr ⟨lw_p70, List.forall_mem_cons.mpr ⟨lw_p71, List.forall_mem_cons.mpr ⟨lw_p72, List.forall_mem_cons.mpr ⟨lw_p73, List.forall_mem_cons.mpr ⟨lw_p74, List.forall_mem_cons.mpr ⟨lw_p75, List.forall_mem_cons.mpr ⟨lw_p76, List.forall_mem_cons.mpr ⟨lw_p77, List.forall_mem_cons.mpr ⟨lw_p78, List.forall_mem_cons.mpr ⟨lw_p79, fun _ h => absurd h List.not_mem_nil⟩⟩⟩⟩⟩⟩⟩⟩⟩⟩⟩⟩⟩⟩⟩⟩
theorem lw_p80 : lw_okq (⟨"DuelDelaysModel", "rankHere", "()I"⟩, 87) := ⟨⟨by decide +kernel, by decide +kernel⟩, List.mem_of_getElem? (i := 1288) (by decide +kernel), List.mem_of_getElem? (i := 1716) (by decide +kernel), List.mem_of_getElem? (i := 1717) (by decide +kernel)⟩
theorem lw_p81 : lw_okq (⟨"DuelDelaysModel", "isCompared", "()Z"⟩, 87) := ⟨⟨by decide +kernel, by decide +kernel⟩, List.mem_of_getElem? (i := 1288) (by decide +kernel), List.mem_of_getElem? (i := 1720) (by decide +kernel), List.mem_of_getElem? (i := 1721) (by decide +kernel)⟩
theorem lw_p82 : lw_okq (⟨"DuelDelaysModel", "readReason", "()V"⟩, 87) := ⟨⟨by decide +kernel, by decide +kernel⟩, List.mem_of_getElem? (i := 1288) (by decide +kernel), List.mem_of_getElem? (i := 1724) (by decide +kernel), List.mem_of_getElem? (i := 1725) (by decide +kernel)⟩
theorem lw_p83 : lw_okq (⟨"DuelDelaysModel", "readDuel", "()V"⟩, 87) := ⟨⟨by decide +kernel, by decide +kernel⟩, List.mem_of_getElem? (i := 1288) (by decide +kernel), List.mem_of_getElem? (i := 1728) (by decide +kernel), List.mem_of_getElem? (i := 1729) (by decide +kernel)⟩
theorem lw_p84 : lw_okq (⟨"DuelDelaysModel", "isTold", "(II)Z"⟩, 87) := ⟨⟨by decide +kernel, by decide +kernel⟩, List.mem_of_getElem? (i := 1288) (by decide +kernel), List.mem_of_getElem? (i := 1732) (by decide +kernel), List.mem_of_getElem? (i := 1733) (by decide +kernel)⟩
theorem lw_p85 : lw_okq (⟨"DuelDelaysModel", "isMan", "(I)Z"⟩, 87) := ⟨⟨by decide +kernel, by decide +kernel⟩, List.mem_of_getElem? (i := 1288) (by decide +kernel), List.mem_of_getElem? (i := 1744) (by decide +kernel), List.mem_of_getElem? (i := 1745) (by decide +kernel)⟩
theorem lw_p86 : lw_okq (⟨"DuelDelaysModel", "isAlive", "(I)Z"⟩, 87) := ⟨⟨by decide +kernel, by decide +kernel⟩, List.mem_of_getElem? (i := 1288) (by decide +kernel), List.mem_of_getElem? (i := 1751) (by decide +kernel), List.mem_of_getElem? (i := 1752) (by decide +kernel)⟩
theorem lw_p87 : lw_okq (⟨"DuelDelaysModel", "diesOn", "(I)I"⟩, 87) := ⟨⟨by decide +kernel, by decide +kernel⟩, List.mem_of_getElem? (i := 1288) (by decide +kernel), List.mem_of_getElem? (i := 1755) (by decide +kernel), List.mem_of_getElem? (i := 1756) (by decide +kernel)⟩
theorem lw_p88 : lw_okq (⟨"DuelDelaysModel", "isDuel", "(I)Z"⟩, 87) := ⟨⟨by decide +kernel, by decide +kernel⟩, List.mem_of_getElem? (i := 1288) (by decide +kernel), List.mem_of_getElem? (i := 1763) (by decide +kernel), List.mem_of_getElem? (i := 1764) (by decide +kernel)⟩
theorem lw_p89 : lw_okq (⟨"DuelDelaysModel", "of", "(II)I"⟩, 87) := ⟨⟨by decide +kernel, by decide +kernel⟩, List.mem_of_getElem? (i := 1288) (by decide +kernel), List.mem_of_getElem? (i := 1767) (by decide +kernel), List.mem_of_getElem? (i := 1768) (by decide +kernel)⟩
theorem lw_p90 : lw_okq (⟨"DuelDelaysModel", "isReason", "(I)Z"⟩, 87) := ⟨⟨by decide +kernel, by decide +kernel⟩, List.mem_of_getElem? (i := 1288) (by decide +kernel), List.mem_of_getElem? (i := 1778) (by decide +kernel), List.mem_of_getElem? (i := 1779) (by decide +kernel)⟩
theorem lw_p91 : lw_okq (⟨"DuelDelaysModel", "isStruck", "(I)Z"⟩, 87) := ⟨⟨by decide +kernel, by decide +kernel⟩, List.mem_of_getElem? (i := 1288) (by decide +kernel), List.mem_of_getElem? (i := 1782) (by decide +kernel), List.mem_of_getElem? (i := 1783) (by decide +kernel)⟩
theorem lw_p92 : lw_okq (⟨"DuelDelaysModel", "worthBy", "(IIII)I"⟩, 87) := ⟨⟨by decide +kernel, by decide +kernel⟩, List.mem_of_getElem? (i := 1288) (by decide +kernel), List.mem_of_getElem? (i := 1790) (by decide +kernel), List.mem_of_getElem? (i := 1791) (by decide +kernel)⟩
theorem lw_p93 : lw_okq (⟨"DuelDelaysModel", "comesTo", "(I)I"⟩, 87) := ⟨⟨by decide +kernel, by decide +kernel⟩, List.mem_of_getElem? (i := 1288) (by decide +kernel), List.mem_of_getElem? (i := 1794) (by decide +kernel), List.mem_of_getElem? (i := 1795) (by decide +kernel)⟩
theorem lw_p94 : lw_okq (⟨"DuelDelaysModel", "asked", "(II)I"⟩, 87) := ⟨⟨by decide +kernel, by decide +kernel⟩, List.mem_of_getElem? (i := 1288) (by decide +kernel), List.mem_of_getElem? (i := 1798) (by decide +kernel), List.mem_of_getElem? (i := 1799) (by decide +kernel)⟩
theorem lw_p95 : lw_okq (⟨"DuelDelaysModel", "mayToday", "(III)Z"⟩, 87) := ⟨⟨by decide +kernel, by decide +kernel⟩, List.mem_of_getElem? (i := 1288) (by decide +kernel), List.mem_of_getElem? (i := 1812) (by decide +kernel), List.mem_of_getElem? (i := 1813) (by decide +kernel)⟩
def lw_privs_6 : List (MethodName × Nat) := [(⟨"DuelDelaysModel", "rankHere", "()I"⟩, 87), (⟨"DuelDelaysModel", "isCompared", "()Z"⟩, 87), (⟨"DuelDelaysModel", "readReason", "()V"⟩, 87), (⟨"DuelDelaysModel", "readDuel", "()V"⟩, 87), (⟨"DuelDelaysModel", "isTold", "(II)Z"⟩, 87), (⟨"DuelDelaysModel", "isMan", "(I)Z"⟩, 87), (⟨"DuelDelaysModel", "isAlive", "(I)Z"⟩, 87), (⟨"DuelDelaysModel", "diesOn", "(I)I"⟩, 87), (⟨"DuelDelaysModel", "isDuel", "(I)Z"⟩, 87), (⟨"DuelDelaysModel", "of", "(II)I"⟩, 87), (⟨"DuelDelaysModel", "isReason", "(I)Z"⟩, 87), (⟨"DuelDelaysModel", "isStruck", "(I)Z"⟩, 87), (⟨"DuelDelaysModel", "worthBy", "(IIII)I"⟩, 87), (⟨"DuelDelaysModel", "comesTo", "(I)I"⟩, 87), (⟨"DuelDelaysModel", "asked", "(II)I"⟩, 87), (⟨"DuelDelaysModel", "mayToday", "(III)Z"⟩, 87)]
theorem lw_r6 : ∀ q ∈ lw_privs_6, lw_okq q := List.forall_mem_cons.mpr ⟨lw_p80, List.forall_mem_cons.mpr ⟨lw_p81, List.forall_mem_cons.mpr ⟨lw_p82, List.forall_mem_cons.mpr ⟨lw_p83, List.forall_mem_cons.mpr ⟨lw_p84, List.forall_mem_cons.mpr ⟨lw_p85, List.forall_mem_cons.mpr ⟨lw_p86, List.forall_mem_cons.mpr ⟨lw_p87, List.forall_mem_cons.mpr ⟨lw_p88, List.forall_mem_cons.mpr ⟨lw_p89, List.forall_mem_cons.mpr ⟨lw_p90, List.forall_mem_cons.mpr ⟨lw_p91, List.forall_mem_cons.mpr ⟨lw_p92, List.forall_mem_cons.mpr ⟨lw_p93, List.forall_mem_cons.mpr ⟨lw_p94, List.forall_mem_cons.mpr ⟨lw_p95, fun _ h => absurd h List.not_mem_nil⟩⟩⟩⟩⟩⟩⟩⟩⟩⟩⟩⟩⟩⟩⟩⟩
theorem lw_p96 : lw_okq (⟨"DuelDelaysModel", "isOpen", "(I)Z"⟩, 87) := ⟨⟨by decide +kernel, by decide +kernel⟩, List.mem_of_getElem? (i := 1288) (by decide +kernel), List.mem_of_getElem? (i := 1816) (by decide +kernel), List.mem_of_getElem? (i := 1817) (by decide +kernel)⟩
theorem lw_p97 : lw_okq (⟨"DuelDelaysModel", "isTime", "(II)Z"⟩, 87) := ⟨⟨by decide +kernel, by decide +kernel⟩, List.mem_of_getElem? (i := 1288) (by decide +kernel), List.mem_of_getElem? (i := 1820) (by decide +kernel), List.mem_of_getElem? (i := 1821) (by decide +kernel)⟩
theorem lw_p98 : lw_okq (⟨"DuelDelaysModel", "ownerOf", "(I)I"⟩, 87) := ⟨⟨by decide +kernel, by decide +kernel⟩, List.mem_of_getElem? (i := 1288) (by decide +kernel), List.mem_of_getElem? (i := 1824) (by decide +kernel), List.mem_of_getElem? (i := 1825) (by decide +kernel)⟩
theorem lw_p99 : lw_okq (⟨"DuelDelaysModel", "isHis", "(IIZI)Z"⟩, 87) := ⟨⟨by decide +kernel, by decide +kernel⟩, List.mem_of_getElem? (i := 1288) (by decide +kernel), List.mem_of_getElem? (i := 1828) (by decide +kernel), List.mem_of_getElem? (i := 1829) (by decide +kernel)⟩
theorem lw_p100 : lw_okq (⟨"DuelDelaysModel", "elsewhere", "(I)I"⟩, 87) := ⟨⟨by decide +kernel, by decide +kernel⟩, List.mem_of_getElem? (i := 1288) (by decide +kernel), List.mem_of_getElem? (i := 1832) (by decide +kernel), List.mem_of_getElem? (i := 1833) (by decide +kernel)⟩
theorem lw_p101 : lw_okq (⟨"DuelDelaysModel", "isNew", "(IIII)Z"⟩, 87) := ⟨⟨by decide +kernel, by decide +kernel⟩, List.mem_of_getElem? (i := 1288) (by decide +kernel), List.mem_of_getElem? (i := 1836) (by decide +kernel), List.mem_of_getElem? (i := 1837) (by decide +kernel)⟩
theorem lw_p102 : lw_okq (⟨"DuelDelaysModel", "keepAct", "()V"⟩, 87) := ⟨⟨by decide +kernel, by decide +kernel⟩, List.mem_of_getElem? (i := 1288) (by decide +kernel), List.mem_of_getElem? (i := 1844) (by decide +kernel), List.mem_of_getElem? (i := 1845) (by decide +kernel)⟩
theorem lw_p103 : lw_okq (⟨"DuelDelaysModel", "haveOpen", "(II)Z"⟩, 87) := ⟨⟨by decide +kernel, by decide +kernel⟩, List.mem_of_getElem? (i := 1288) (by decide +kernel), List.mem_of_getElem? (i := 1863) (by decide +kernel), List.mem_of_getElem? (i := 1864) (by decide +kernel)⟩
theorem lw_p104 : lw_okq (⟨"DuelDelaysModel", "doOppose", "(III)Z"⟩, 87) := ⟨⟨by decide +kernel, by decide +kernel⟩, List.mem_of_getElem? (i := 1288) (by decide +kernel), List.mem_of_getElem? (i := 1867) (by decide +kernel), List.mem_of_getElem? (i := 1868) (by decide +kernel)⟩
theorem lw_p105 : lw_okq (⟨"DuelDelaysModel", "goDay", "()V"⟩, 87) := ⟨⟨by decide +kernel, by decide +kernel⟩, List.mem_of_getElem? (i := 1288) (by decide +kernel), List.mem_of_getElem? (i := 1875) (by decide +kernel), List.mem_of_getElem? (i := 1876) (by decide +kernel)⟩
theorem lw_p106 : lw_okq (⟨"DuelDelaysModel", "dieNow", "(I)V"⟩, 87) := ⟨⟨by decide +kernel, by decide +kernel⟩, List.mem_of_getElem? (i := 1288) (by decide +kernel), List.mem_of_getElem? (i := 1879) (by decide +kernel), List.mem_of_getElem? (i := 1880) (by decide +kernel)⟩
theorem lw_p107 : lw_okq (⟨"DuelDelaysModel", "heirOf", "(I)I"⟩, 87) := ⟨⟨by decide +kernel, by decide +kernel⟩, List.mem_of_getElem? (i := 1288) (by decide +kernel), List.mem_of_getElem? (i := 1883) (by decide +kernel), List.mem_of_getElem? (i := 1884) (by decide +kernel)⟩
theorem lw_p108 : lw_okq (⟨"DuelDelaysModel", "fight", "(I)V"⟩, 87) := ⟨⟨by decide +kernel, by decide +kernel⟩, List.mem_of_getElem? (i := 1288) (by decide +kernel), List.mem_of_getElem? (i := 1887) (by decide +kernel), List.mem_of_getElem? (i := 1888) (by decide +kernel)⟩
theorem lw_p109 : lw_okq (⟨"DuelDelaysModel", "exchange", "()V"⟩, 87) := ⟨⟨by decide +kernel, by decide +kernel⟩, List.mem_of_getElem? (i := 1288) (by decide +kernel), List.mem_of_getElem? (i := 1895) (by decide +kernel), List.mem_of_getElem? (i := 1896) (by decide +kernel)⟩
theorem lw_p110 : lw_okq (⟨"DuelDelaysModel", "openDuel", "(I)V"⟩, 87) := ⟨⟨by decide +kernel, by decide +kernel⟩, List.mem_of_getElem? (i := 1288) (by decide +kernel), List.mem_of_getElem? (i := 1911) (by decide +kernel), List.mem_of_getElem? (i := 1912) (by decide +kernel)⟩
theorem lw_p111 : lw_okq (⟨"DuelDelaysModel", "open", "(IIIIII)V"⟩, 87) := ⟨⟨by decide +kernel, by decide +kernel⟩, List.mem_of_getElem? (i := 1288) (by decide +kernel), List.mem_of_getElem? (i := 1915) (by decide +kernel), List.mem_of_getElem? (i := 1916) (by decide +kernel)⟩
def lw_privs_7 : List (MethodName × Nat) := [(⟨"DuelDelaysModel", "isOpen", "(I)Z"⟩, 87), (⟨"DuelDelaysModel", "isTime", "(II)Z"⟩, 87), (⟨"DuelDelaysModel", "ownerOf", "(I)I"⟩, 87), (⟨"DuelDelaysModel", "isHis", "(IIZI)Z"⟩, 87), (⟨"DuelDelaysModel", "elsewhere", "(I)I"⟩, 87), (⟨"DuelDelaysModel", "isNew", "(IIII)Z"⟩, 87), (⟨"DuelDelaysModel", "keepAct", "()V"⟩, 87), (⟨"DuelDelaysModel", "haveOpen", "(II)Z"⟩, 87), (⟨"DuelDelaysModel", "doOppose", "(III)Z"⟩, 87), (⟨"DuelDelaysModel", "goDay", "()V"⟩, 87), (⟨"DuelDelaysModel", "dieNow", "(I)V"⟩, 87), (⟨"DuelDelaysModel", "heirOf", "(I)I"⟩, 87), (⟨"DuelDelaysModel", "fight", "(I)V"⟩, 87), (⟨"DuelDelaysModel", "exchange", "()V"⟩, 87), (⟨"DuelDelaysModel", "openDuel", "(I)V"⟩, 87), (⟨"DuelDelaysModel", "open", "(IIIIII)V"⟩, 87)]
theorem lw_r7 : ∀ q ∈ lw_privs_7, lw_okq q := List.forall_mem_cons.mpr ⟨lw_p96, List.forall_mem_cons.mpr ⟨lw_p97, List.forall_mem_cons.mpr ⟨lw_p98, List.forall_mem_cons.mpr ⟨lw_p99, List.forall_mem_cons.mpr ⟨lw_p100, List.forall_mem_cons.mpr ⟨lw_p101, List.forall_mem_cons.mpr ⟨lw_p102, List.forall_mem_cons.mpr ⟨lw_p103, List.forall_mem_cons.mpr ⟨lw_p104, List.forall_mem_cons.mpr ⟨lw_p105, List.forall_mem_cons.mpr ⟨lw_p106, List.forall_mem_cons.mpr ⟨lw_p107, List.forall_mem_cons.mpr ⟨lw_p108, List.forall_mem_cons.mpr ⟨lw_p109, List.forall_mem_cons.mpr ⟨lw_p110, List.forall_mem_cons.mpr ⟨lw_p111, fun _ h => absurd h List.not_mem_nil⟩⟩⟩⟩⟩⟩⟩⟩⟩⟩⟩⟩⟩⟩⟩⟩
theorem lw_p112 : lw_okq (⟨"DuelDelaysModel", "seekLife", "()I"⟩, 87) := ⟨⟨by decide +kernel, by decide +kernel⟩, List.mem_of_getElem? (i := 1288) (by decide +kernel), List.mem_of_getElem? (i := 1919) (by decide +kernel), List.mem_of_getElem? (i := 1920) (by decide +kernel)⟩
theorem lw_p113 : lw_okq (⟨"DuelDelaysModel", "overIn", "()I"⟩, 87) := ⟨⟨by decide +kernel, by decide +kernel⟩, List.mem_of_getElem? (i := 1288) (by decide +kernel), List.mem_of_getElem? (i := 1923) (by decide +kernel), List.mem_of_getElem? (i := 1924) (by decide +kernel)⟩
theorem lw_p114 : lw_okq (⟨"DuelDelaysModel", "isOver", "(I)Z"⟩, 87) := ⟨⟨by decide +kernel, by decide +kernel⟩, List.mem_of_getElem? (i := 1288) (by decide +kernel), List.mem_of_getElem? (i := 1927) (by decide +kernel), List.mem_of_getElem? (i := 1928) (by decide +kernel)⟩
theorem lw_p115 : lw_okq (⟨"DuelDelaysModel", "goLevel", "(II)Z"⟩, 87) := ⟨⟨by decide +kernel, by decide +kernel⟩, List.mem_of_getElem? (i := 1288) (by decide +kernel), List.mem_of_getElem? (i := 1931) (by decide +kernel), List.mem_of_getElem? (i := 1932) (by decide +kernel)⟩
theorem lw_p116 : lw_okq (⟨"DuelDelaysModel", "layWorths", "(I)V"⟩, 87) := ⟨⟨by decide +kernel, by decide +kernel⟩, List.mem_of_getElem? (i := 1288) (by decide +kernel), List.mem_of_getElem? (i := 1935) (by decide +kernel), List.mem_of_getElem? (i := 1936) (by decide +kernel)⟩
theorem lw_p117 : lw_okq (⟨"DuelDelaysModel", "mayIn", "(III)Z"⟩, 87) := ⟨⟨by decide +kernel, by decide +kernel⟩, List.mem_of_getElem? (i := 1288) (by decide +kernel), List.mem_of_getElem? (i := 1939) (by decide +kernel), List.mem_of_getElem? (i := 1940) (by decide +kernel)⟩
theorem lw_p118 : lw_okq (⟨"DuelDelaysModel", "stateOf", "(IIII)I"⟩, 87) := ⟨⟨by decide +kernel, by decide +kernel⟩, List.mem_of_getElem? (i := 1288) (by decide +kernel), List.mem_of_getElem? (i := 1943) (by decide +kernel), List.mem_of_getElem? (i := 1944) (by decide +kernel)⟩
theorem lw_p119 : lw_okq (⟨"DuelDelaysModel", "winsBy", "(III)I"⟩, 87) := ⟨⟨by decide +kernel, by decide +kernel⟩, List.mem_of_getElem? (i := 1288) (by decide +kernel), List.mem_of_getElem? (i := 1955) (by decide +kernel), List.mem_of_getElem? (i := 1956) (by decide +kernel)⟩
theorem lw_p120 : lw_okq (⟨"DuelDelaysModel", "canRent", "(I)I"⟩, 87) := ⟨⟨by decide +kernel, by decide +kernel⟩, List.mem_of_getElem? (i := 1288) (by decide +kernel), List.mem_of_getElem? (i := 1967) (by decide +kernel), List.mem_of_getElem? (i := 1968) (by decide +kernel)⟩
theorem lw_p121 : lw_okq (⟨"DuelDelaysModel", "rents", "(I)I"⟩, 87) := ⟨⟨by decide +kernel, by decide +kernel⟩, List.mem_of_getElem? (i := 1288) (by decide +kernel), List.mem_of_getElem? (i := 1971) (by decide +kernel), List.mem_of_getElem? (i := 1972) (by decide +kernel)⟩
theorem lw_p122 : lw_okq (⟨"DuelDelaysModel", "isIn2", "(II)Z"⟩, 87) := ⟨⟨by decide +kernel, by decide +kernel⟩, List.mem_of_getElem? (i := 1288) (by decide +kernel), List.mem_of_getElem? (i := 1979) (by decide +kernel), List.mem_of_getElem? (i := 1980) (by decide +kernel)⟩
theorem lw_p123 : lw_okq (⟨"DuelDelaysModel", "partsBy", "(IIII)Z"⟩, 87) := ⟨⟨by decide +kernel, by decide +kernel⟩, List.mem_of_getElem? (i := 1288) (by decide +kernel), List.mem_of_getElem? (i := 1988) (by decide +kernel), List.mem_of_getElem? (i := 1989) (by decide +kernel)⟩
theorem lw_p124 : lw_okq (⟨"DuelDelaysModel", "tries", "(III)I"⟩, 87) := ⟨⟨by decide +kernel, by decide +kernel⟩, List.mem_of_getElem? (i := 1288) (by decide +kernel), List.mem_of_getElem? (i := 1992) (by decide +kernel), List.mem_of_getElem? (i := 1993) (by decide +kernel)⟩
theorem lw_p125 : lw_okq (⟨"DuelDelaysModel", "partsBySecond", "(II)Z"⟩, 87) := ⟨⟨by decide +kernel, by decide +kernel⟩, List.mem_of_getElem? (i := 1288) (by decide +kernel), List.mem_of_getElem? (i := 1996) (by decide +kernel), List.mem_of_getElem? (i := 1997) (by decide +kernel)⟩
theorem lw_p126 : lw_okq (⟨"DuelDelaysModel", "takeBack", "(IIII)V"⟩, 87) := ⟨⟨by decide +kernel, by decide +kernel⟩, List.mem_of_getElem? (i := 1288) (by decide +kernel), List.mem_of_getElem? (i := 2000) (by decide +kernel), List.mem_of_getElem? (i := 2001) (by decide +kernel)⟩
theorem lw_p127 : lw_okq (⟨"DuelDelaysModel", "isFalse", "(II)Z"⟩, 87) := ⟨⟨by decide +kernel, by decide +kernel⟩, List.mem_of_getElem? (i := 1288) (by decide +kernel), List.mem_of_getElem? (i := 2046) (by decide +kernel), List.mem_of_getElem? (i := 2047) (by decide +kernel)⟩
def lw_privs_8 : List (MethodName × Nat) := [(⟨"DuelDelaysModel", "seekLife", "()I"⟩, 87), (⟨"DuelDelaysModel", "overIn", "()I"⟩, 87), (⟨"DuelDelaysModel", "isOver", "(I)Z"⟩, 87), (⟨"DuelDelaysModel", "goLevel", "(II)Z"⟩, 87), (⟨"DuelDelaysModel", "layWorths", "(I)V"⟩, 87), (⟨"DuelDelaysModel", "mayIn", "(III)Z"⟩, 87), (⟨"DuelDelaysModel", "stateOf", "(IIII)I"⟩, 87), (⟨"DuelDelaysModel", "winsBy", "(III)I"⟩, 87), (⟨"DuelDelaysModel", "canRent", "(I)I"⟩, 87), (⟨"DuelDelaysModel", "rents", "(I)I"⟩, 87), (⟨"DuelDelaysModel", "isIn2", "(II)Z"⟩, 87), (⟨"DuelDelaysModel", "partsBy", "(IIII)Z"⟩, 87), (⟨"DuelDelaysModel", "tries", "(III)I"⟩, 87), (⟨"DuelDelaysModel", "partsBySecond", "(II)Z"⟩, 87), (⟨"DuelDelaysModel", "takeBack", "(IIII)V"⟩, 87), (⟨"DuelDelaysModel", "isFalse", "(II)Z"⟩, 87)]
theorem lw_r8 : ∀ q ∈ lw_privs_8, lw_okq q := List.forall_mem_cons.mpr ⟨lw_p112, List.forall_mem_cons.mpr ⟨lw_p113, List.forall_mem_cons.mpr ⟨lw_p114, List.forall_mem_cons.mpr ⟨lw_p115, List.forall_mem_cons.mpr ⟨lw_p116, List.forall_mem_cons.mpr ⟨lw_p117, List.forall_mem_cons.mpr ⟨lw_p118, List.forall_mem_cons.mpr ⟨lw_p119, List.forall_mem_cons.mpr ⟨lw_p120, List.forall_mem_cons.mpr ⟨lw_p121, List.forall_mem_cons.mpr ⟨lw_p122, List.forall_mem_cons.mpr ⟨lw_p123, List.forall_mem_cons.mpr ⟨lw_p124, List.forall_mem_cons.mpr ⟨lw_p125, List.forall_mem_cons.mpr ⟨lw_p126, List.forall_mem_cons.mpr ⟨lw_p127, fun _ h => absurd h List.not_mem_nil⟩⟩⟩⟩⟩⟩⟩⟩⟩⟩⟩⟩⟩⟩⟩⟩
theorem lw_p128 : lw_okq (⟨"DuelDelaysModel", "openMany", "()I"⟩, 87) := ⟨⟨by decide +kernel, by decide +kernel⟩, List.mem_of_getElem? (i := 1288) (by decide +kernel), List.mem_of_getElem? (i := 2062) (by decide +kernel), List.mem_of_getElem? (i := 2063) (by decide +kernel)⟩
def lw_privs_9 : List (MethodName × Nat) := [(⟨"DuelDelaysModel", "openMany", "()I"⟩, 87)]
theorem lw_r9 : ∀ q ∈ lw_privs_9, lw_okq q := List.forall_mem_cons.mpr ⟨lw_p128, fun _ h => absurd h List.not_mem_nil⟩
def lw_privs : List (MethodName × Nat) := lw_privs_1 ++ (lw_privs_2 ++ (lw_privs_3 ++ (lw_privs_4 ++ (lw_privs_5 ++ (lw_privs_6 ++ (lw_privs_7 ++ (lw_privs_8 ++ (lw_privs_9))))))))
def lw_tbl : List Cond := k2_sels lw_privs ++ tables_1
theorem lw_privs_ok : ∀ q ∈ lw_privs, lw_okq q := by
  show ∀ q ∈ lw_privs_1 ++ (lw_privs_2 ++ (lw_privs_3 ++ (lw_privs_4 ++ (lw_privs_5 ++ (lw_privs_6 ++ (lw_privs_7 ++ (lw_privs_8 ++ (lw_privs_9)))))))), lw_okq q
  exact List.forall_mem_append.mpr ⟨lw_r1, List.forall_mem_append.mpr ⟨lw_r2, List.forall_mem_append.mpr ⟨lw_r3, List.forall_mem_append.mpr ⟨lw_r4, List.forall_mem_append.mpr ⟨lw_r5, List.forall_mem_append.mpr ⟨lw_r6, List.forall_mem_append.mpr ⟨lw_r7, List.forall_mem_append.mpr ⟨lw_r8, lw_r9⟩⟩⟩⟩⟩⟩⟩⟩

theorem goodIn_r {big : List Cond} (ws : List Cond) (ps : List Nat) (hp : ws = ps.filterMap (fun i => big[i]?)) (h : ws.all goodWord = true) : GoodIn big ws := by
  intro w hw
  have h1 := List.all_eq_true.mp h w hw
  rw [hp] at hw
  obtain ⟨i, -, hi⟩ := List.mem_filterMap.mp hw
  have hm : w ∈ big := by first | exact List.mem_of_getElem? hi | exact List.getElem?_mem hi
  exact ⟨hm, good_of_word h1⟩
theorem goodIn_app {big a b : List Cond} (ha : GoodIn big a) (hb : GoodIn big b) : GoodIn big (a ++ b) := fun w h => (List.mem_append.mp h).elim (ha w) (hb w)
theorem goodIn_ca {big a b : List Cond} {c : Cond} (ha : GoodIn big (c :: a)) (hb : GoodIn big b) : GoodIn big (c :: (a ++ b)) := fun w h => (List.mem_cons.mp h).elim (fun e => ha w (List.mem_cons.mpr (Or.inl e))) (fun h => (List.mem_append.mp h).elim (fun h => ha w (List.mem_cons.mpr (Or.inr h))) (hb w))
theorem goodIn_sub {big ws : List Cond} (hm : ∀ w ∈ ws, w ∈ big) (h : ws.all goodWord = true) : GoodIn big ws := fun w hw => ⟨hm w hw, good_of_word (List.all_eq_true.mp h w hw)⟩

def RX0 : String := "DuelDelays$Formulas"
def TX0 : u_T := fun k => match k with
  | 0 => ("DuelDelays$Formulas", "count", "I", false)
  | 1 => ("DuelDelays$Formulas", "units", "I", false)
  | 2 => ("DuelDelays$Formulas", "names", "[J", true)
  | 3 => ("DuelDelays$Formulas", "unitsOfThis", "I", false)
  | 4 => ("DuelDelays$Formulas", "length", "I", false)
  | 5 => ("DuelDelays$Formulas", "starts", "[I", true)
  | 6 => ("DuelDelays$Formulas", "steps", "[I", true)
  | _ => ("DuelDelays$Formulas", "stack", "[I", true)
def tyX0 : Nat → FieldType := fun k => match k with
  | 0 => .int
  | 1 => .int
  | 2 => .array .long
  | 3 => .int
  | 4 => .int
  | 5 => .array .int
  | 6 => .array .int
  | _ => .array .int
abbrev wsX00 : List Cond := u_ws RX0 TX0 8
theorem nmX0 : ∀ a, a < 8 → ∀ b, b < 8 → a ≠ b → (TX0 a).2.1 ≠ (TX0 b).2.1 := by decide +kernel
theorem tyX0_ok : ∀ k, k < 8 → parseFieldDescriptor (TX0 k).2.2.1 = some (tyX0 k) := by decide +kernel
abbrev cX0_init : ByteArray := prog_2_method_1_code
def yX0_init : MethodName := ⟨RX0, "<init>", "()V"⟩
abbrev cX0_clear : ByteArray := prog_2_method_2_code
def yX0_clear : MethodName := ⟨RX0, "clear", "()V"⟩
abbrev cX0_beginKind : ByteArray := prog_2_method_3_code
def yX0_beginKind : MethodName := ⟨RX0, "beginKind", "()V"⟩
abbrev cX0_closeKind : ByteArray := prog_2_method_4_code
def yX0_closeKind : MethodName := ⟨RX0, "closeKind", "()V"⟩
abbrev cX0_hasRoomForUnit : ByteArray := prog_2_method_5_code
def yX0_hasRoomForUnit : MethodName := ⟨RX0, "hasRoomForUnit", "()Z"⟩
abbrev cX0_countUnit : ByteArray := prog_2_method_6_code
def yX0_countUnit : MethodName := ⟨RX0, "countUnit", "()V"⟩
abbrev cX0_addStep : ByteArray := prog_2_method_7_code
def yX0_addStep : MethodName := ⟨RX0, "addStep", "(I)V"⟩
abbrev cX0_valueOf : ByteArray := prog_2_method_8_code
def yX0_valueOf : MethodName := ⟨RX0, "valueOf", "(IIII)I"⟩
abbrev cX0_leaf : ByteArray := prog_2_method_9_code
def yX0_leaf : MethodName := ⟨RX0, "leaf", "(IIII)I"⟩
abbrev cX0_joined : ByteArray := prog_2_method_10_code
def yX0_joined : MethodName := ⟨RX0, "joined", "(III)I"⟩
def RX1 : String := "DuelDelays$Heap"
def TX1 : u_T := fun k => match k with
  | 0 => ("DuelDelays$Heap", "count", "I", false)
  | _ => ("DuelDelays$Heap", "numbers", "[I", true)
def tyX1 : Nat → FieldType := fun k => match k with
  | 0 => .int
  | _ => .array .int
abbrev wsX10 : List Cond := u_ws RX1 TX1 2
theorem nmX1 : ∀ a, a < 2 → ∀ b, b < 2 → a ≠ b → (TX1 a).2.1 ≠ (TX1 b).2.1 := by decide +kernel
theorem tyX1_ok : ∀ k, k < 2 → parseFieldDescriptor (TX1 k).2.2.1 = some (tyX1 k) := by decide +kernel
abbrev cX1_init : ByteArray := prog_3_method_1_code
def yX1_init : MethodName := ⟨RX1, "<init>", "()V"⟩
abbrev cX1_clear : ByteArray := prog_3_method_2_code
def yX1_clear : MethodName := ⟨RX1, "clear", "()V"⟩
abbrev cX1_add : ByteArray := prog_3_method_3_code
def yX1_add : MethodName := ⟨RX1, "add", "(I)V"⟩
def RX2 : String := "DuelDelays$Land"
def TX2 : u_T := fun k => match k with
  | 0 => ("DuelDelays$Land", "men", "LDuelDelays$Men;", true)
  | 1 => ("DuelDelays$Land", "formulas", "LDuelDelays$Formulas;", true)
  | 2 => ("DuelDelays$Land", "reasons", "LDuelDelays$Reasons;", true)
  | 3 => ("DuelDelays$Land", "duels", "I", false)
  | 4 => ("DuelDelays$Land", "duelSides", "[I", true)
  | 5 => ("DuelDelays$Land", "duelMornings", "[I", true)
  | 6 => ("DuelDelays$Land", "honour", "I", false)
  | 7 => ("DuelDelays$Land", "draw", "I", false)
  | _ => ("DuelDelays$Land", "usesOfKind", "[I", true)
def tyX2 : Nat → FieldType := fun k => match k with
  | 0 => .object "DuelDelays$Men"
  | 1 => .object "DuelDelays$Formulas"
  | 2 => .object "DuelDelays$Reasons"
  | 3 => .int
  | 4 => .array .int
  | 5 => .array .int
  | 6 => .int
  | 7 => .int
  | _ => .array .int
abbrev wsX20 : List Cond := u_ws RX2 TX2 9
theorem nmX2 : ∀ a, a < 9 → ∀ b, b < 9 → a ≠ b → (TX2 a).2.1 ≠ (TX2 b).2.1 := by decide +kernel
theorem tyX2_ok : ∀ k, k < 9 → parseFieldDescriptor (TX2 k).2.2.1 = some (tyX2 k) := by decide +kernel
abbrev cX2_init : ByteArray := prog_4_method_1_code
def yX2_init : MethodName := ⟨RX2, "<init>", "()V"⟩
abbrev cX2_clear : ByteArray := prog_4_method_2_code
def yX2_clear : MethodName := ⟨RX2, "clear", "()V"⟩
abbrev cX2_isDuelTold : ByteArray := prog_4_method_3_code
def yX2_isDuelTold : MethodName := ⟨RX2, "isDuelTold", "(II)Z"⟩
abbrev cX2_worthOf : ByteArray := prog_4_method_4_code
def yX2_worthOf : MethodName := ⟨RX2, "worthOf", "(III)I"⟩
def RX3 : String := "DuelDelays$Men"
def TX3 : u_T := fun k => match k with
  | 0 => ("DuelDelays$Men", "count", "I", false)
  | 1 => ("DuelDelays$Men", "names", "[J", true)
  | 2 => ("DuelDelays$Men", "dies", "[I", true)
  | 3 => ("DuelDelays$Men", "coins", "[I", true)
  | _ => ("DuelDelays$Men", "fathers", "[I", true)
def tyX3 : Nat → FieldType := fun k => match k with
  | 0 => .int
  | 1 => .array .long
  | 2 => .array .int
  | 3 => .array .int
  | _ => .array .int
abbrev wsX30 : List Cond := u_ws RX3 TX3 5
theorem nmX3 : ∀ a, a < 5 → ∀ b, b < 5 → a ≠ b → (TX3 a).2.1 ≠ (TX3 b).2.1 := by decide +kernel
theorem tyX3_ok : ∀ k, k < 5 → parseFieldDescriptor (TX3 k).2.2.1 = some (tyX3 k) := by decide +kernel
abbrev cX3_init : ByteArray := prog_5_method_1_code
def yX3_init : MethodName := ⟨RX3, "<init>", "()V"⟩
abbrev cX3_has : ByteArray := prog_5_method_2_code
def yX3_has : MethodName := ⟨RX3, "has", "(I)Z"⟩
def RX4 : String := "DuelDelays$Parting"
def TX4 : u_T := fun k => match k with
  | 0 => ("DuelDelays$Parting", "first", "I", false)
  | 1 => ("DuelDelays$Parting", "second", "I", false)
  | 2 => ("DuelDelays$Parting", "behind", "[I", true)
  | _ => ("DuelDelays$Parting", "mornings", "[I", true)
def tyX4 : Nat → FieldType := fun k => match k with
  | 0 => .int
  | 1 => .int
  | 2 => .array .int
  | _ => .array .int
abbrev wsX40 : List Cond := u_ws RX4 TX4 4
theorem nmX4 : ∀ a, a < 4 → ∀ b, b < 4 → a ≠ b → (TX4 a).2.1 ≠ (TX4 b).2.1 := by decide +kernel
theorem tyX4_ok : ∀ k, k < 4 → parseFieldDescriptor (TX4 k).2.2.1 = some (tyX4 k) := by decide +kernel
abbrev cX4_init : ByteArray := prog_6_method_1_code
def yX4_init : MethodName := ⟨RX4, "<init>", "()V"⟩
abbrev cX4_told : ByteArray := prog_6_method_2_code
def yX4_told : MethodName := ⟨RX4, "told", "(I)I"⟩
abbrev cX4_find : ByteArray := prog_6_method_3_code
def yX4_find : MethodName := ⟨RX4, "find", "(LDuelDelays$Land;LDuelDelays$State;I)I"⟩
abbrev cX4_fillMoves : ByteArray := prog_6_method_4_code
def yX4_fillMoves : MethodName := ⟨RX4, "fillMoves", "(LDuelDelays$Land;LDuelDelays$State;I)V"⟩
abbrev cX4_findOne : ByteArray := prog_6_method_5_code
def yX4_findOne : MethodName := ⟨RX4, "findOne", "(LDuelDelays$State;I)Z"⟩
abbrev cX4_findTwo : ByteArray := prog_6_method_6_code
def yX4_findTwo : MethodName := ⟨RX4, "findTwo", "(LDuelDelays$Land;LDuelDelays$State;I)Z"⟩
abbrev cX4_findSecond : ByteArray := prog_6_method_7_code
def yX4_findSecond : MethodName := ⟨RX4, "findSecond", "(LDuelDelays$Land;LDuelDelays$State;I)Z"⟩
abbrev cX4_isParted : ByteArray := prog_6_method_8_code
def yX4_isParted : MethodName := ⟨RX4, "isParted", "(LDuelDelays$State;II)Z"⟩
abbrev cX4_duelOf : ByteArray := prog_6_method_9_code
def yX4_duelOf : MethodName := ⟨RX4, "duelOf", "(I)I"⟩
abbrev cX4_sideOf : ByteArray := prog_6_method_10_code
def yX4_sideOf : MethodName := ⟨RX4, "sideOf", "(I)I"⟩
abbrev cX4_reasonOf : ByteArray := prog_6_method_11_code
def yX4_reasonOf : MethodName := ⟨RX4, "reasonOf", "(I)I"⟩
def RX5 : String := "DuelDelays$Reader"
def TX5 : u_T := fun k => match k with
  | 0 => ("DuelDelays$Reader", "faultCode", "I", false)
  | 1 => ("DuelDelays$Reader", "faultPlace", "I", false)
  | 2 => ("DuelDelays$Reader", "tokens", "LDuelDelays$Tokens;", true)
  | 3 => ("DuelDelays$Reader", "land", "LDuelDelays$Land;", false)
  | 4 => ("DuelDelays$Reader", "honourTold", "Z", false)
  | 5 => ("DuelDelays$Reader", "drawTold", "Z", false)
  | _ => ("DuelDelays$Reader", "taken", "I", false)
def tyX5 : Nat → FieldType := fun k => match k with
  | 0 => .int
  | 1 => .int
  | 2 => .object "DuelDelays$Tokens"
  | 3 => .object "DuelDelays$Land"
  | 4 => .boolean
  | 5 => .boolean
  | _ => .int
abbrev wsX50 : List Cond := u_ws RX5 TX5 7
theorem nmX5 : ∀ a, a < 7 → ∀ b, b < 7 → a ≠ b → (TX5 a).2.1 ≠ (TX5 b).2.1 := by decide +kernel
theorem tyX5_ok : ∀ k, k < 7 → parseFieldDescriptor (TX5 k).2.2.1 = some (tyX5 k) := by decide +kernel
abbrev cX5_init : ByteArray := prog_7_method_1_code
def yX5_init : MethodName := ⟨RX5, "<init>", "()V"⟩
abbrev cX5_read : ByteArray := prog_7_method_2_code
def yX5_read : MethodName := ⟨RX5, "read", "([BILDuelDelays$Land;)Z"⟩
abbrev cX5_refuse : ByteArray := prog_7_method_3_code
def yX5_refuse : MethodName := ⟨RX5, "refuse", "(I)Z"⟩
abbrev cX5_readMan : ByteArray := prog_7_method_4_code
def yX5_readMan : MethodName := ⟨RX5, "readMan", "()Z"⟩
abbrev cX5_readKind : ByteArray := prog_7_method_5_code
def yX5_readKind : MethodName := ⟨RX5, "readKind", "()Z"⟩
abbrev cX5_readReason : ByteArray := prog_7_method_6_code
def yX5_readReason : MethodName := ⟨RX5, "readReason", "()Z"⟩
abbrev cX5_takeSort : ByteArray := prog_7_method_7_code
def yX5_takeSort : MethodName := ⟨RX5, "takeSort", "()I"⟩
abbrev cX5_readDuel : ByteArray := prog_7_method_8_code
def yX5_readDuel : MethodName := ⟨RX5, "readDuel", "()Z"⟩
abbrev cX5_readHonour : ByteArray := prog_7_method_9_code
def yX5_readHonour : MethodName := ⟨RX5, "readHonour", "()Z"⟩
abbrev cX5_readDraw : ByteArray := prog_7_method_10_code
def yX5_readDraw : MethodName := ⟨RX5, "readDraw", "()Z"⟩
abbrev cX5_takeWord : ByteArray := prog_7_method_11_code
def yX5_takeWord : MethodName := ⟨RX5, "takeWord", "(I)Z"⟩
abbrev cX5_takeSign : ByteArray := prog_7_method_12_code
def yX5_takeSign : MethodName := ⟨RX5, "takeSign", "(C)Z"⟩
abbrev cX5_takeNumber : ByteArray := prog_7_method_13_code
def yX5_takeNumber : MethodName := ⟨RX5, "takeNumber", "(II)Z"⟩
abbrev cX5_takeOption : ByteArray := prog_7_method_14_code
def yX5_takeOption : MethodName := ⟨RX5, "takeOption", "(IIII)Z"⟩
abbrev cX5_takeNewName : ByteArray := prog_7_method_15_code
def yX5_takeNewName : MethodName := ⟨RX5, "takeNewName", "([JI)Z"⟩
abbrev cX5_takeKnownName : ByteArray := prog_7_method_16_code
def yX5_takeKnownName : MethodName := ⟨RX5, "takeKnownName", "([JI)Z"⟩
abbrev cX5_takeNameOption : ByteArray := prog_7_method_17_code
def yX5_takeNameOption : MethodName := ⟨RX5, "takeNameOption", "(I[JI)Z"⟩
abbrev cX5_readChoice : ByteArray := prog_7_method_18_code
def yX5_readChoice : MethodName := ⟨RX5, "readChoice", "(I)Z"⟩
abbrev cX5_readBoth : ByteArray := prog_7_method_19_code
def yX5_readBoth : MethodName := ⟨RX5, "readBoth", "(I)Z"⟩
abbrev cX5_readOne : ByteArray := prog_7_method_20_code
def yX5_readOne : MethodName := ⟨RX5, "readOne", "(I)Z"⟩
abbrev cX5_readSum : ByteArray := prog_7_method_21_code
def yX5_readSum : MethodName := ⟨RX5, "readSum", "(I)Z"⟩
abbrev cX5_readTerm : ByteArray := prog_7_method_22_code
def yX5_readTerm : MethodName := ⟨RX5, "readTerm", "(I)Z"⟩
abbrev cX5_readUnit : ByteArray := prog_7_method_23_code
def yX5_readUnit : MethodName := ⟨RX5, "readUnit", "(I)Z"⟩
abbrev cX5_isPlainUnit : ByteArray := prog_7_method_24_code
def yX5_isPlainUnit : MethodName := ⟨RX5, "isPlainUnit", "()Z"⟩
abbrev cX5_plainStep : ByteArray := prog_7_method_25_code
def yX5_plainStep : MethodName := ⟨RX5, "plainStep", "()I"⟩
abbrev cX5_relation : ByteArray := prog_7_method_26_code
def yX5_relation : MethodName := ⟨RX5, "relation", "()I"⟩
abbrev cX5_addition : ByteArray := prog_7_method_27_code
def yX5_addition : MethodName := ⟨RX5, "addition", "()I"⟩
abbrev cX5_product : ByteArray := prog_7_method_28_code
def yX5_product : MethodName := ⟨RX5, "product", "()I"⟩
def RX6 : String := "DuelDelays$Reasons"
def TX6 : u_T := fun k => match k with
  | 0 => ("DuelDelays$Reasons", "count", "I", false)
  | 1 => ("DuelDelays$Reasons", "names", "[J", true)
  | 2 => ("DuelDelays$Reasons", "kinds", "[I", true)
  | 3 => ("DuelDelays$Reasons", "owners", "[I", true)
  | 4 => ("DuelDelays$Reasons", "froms", "[I", true)
  | 5 => ("DuelDelays$Reasons", "tos", "[I", true)
  | 6 => ("DuelDelays$Reasons", "rents", "[I", true)
  | _ => ("DuelDelays$Reasons", "sorts", "[I", true)
def tyX6 : Nat → FieldType := fun k => match k with
  | 0 => .int
  | 1 => .array .long
  | 2 => .array .int
  | 3 => .array .int
  | 4 => .array .int
  | 5 => .array .int
  | 6 => .array .int
  | _ => .array .int
abbrev wsX60 : List Cond := u_ws RX6 TX6 8
theorem nmX6 : ∀ a, a < 8 → ∀ b, b < 8 → a ≠ b → (TX6 a).2.1 ≠ (TX6 b).2.1 := by decide +kernel
theorem tyX6_ok : ∀ k, k < 8 → parseFieldDescriptor (TX6 k).2.2.1 = some (tyX6 k) := by decide +kernel
abbrev cX6_init : ByteArray := prog_8_method_1_code
def yX6_init : MethodName := ⟨RX6, "<init>", "()V"⟩
abbrev cX6_has : ByteArray := prog_8_method_2_code
def yX6_has : MethodName := ⟨RX6, "has", "(I)Z"⟩
abbrev cX6_isInTime : ByteArray := prog_8_method_3_code
def yX6_isInTime : MethodName := ⟨RX6, "isInTime", "(II)Z"⟩
abbrev cX6_priceOf : ByteArray := prog_8_method_4_code
def yX6_priceOf : MethodName := ⟨RX6, "priceOf", "(I)I"⟩
def RX7 : String := "DuelDelays$Search"
def TX7 : u_T := fun k => match k with
  | 0 => ("DuelDelays$Search", "land", "LDuelDelays$Land;", false)
  | 1 => ("DuelDelays$Search", "deathDay", "I", false)
  | 2 => ("DuelDelays$Search", "freeFrom", "[I", true)
  | 3 => ("DuelDelays$Search", "barring", "[I", true)
  | 4 => ("DuelDelays$Search", "keys", "[I", true)
  | 5 => ("DuelDelays$Search", "ways", "[I", true)
  | 6 => ("DuelDelays$Search", "count", "I", false)
  | 7 => ("DuelDelays$Search", "wins", "[Z", true)
  | 8 => ("DuelDelays$Search", "slots", "[I", true)
  | 9 => ("DuelDelays$Search", "round", "I", false)
  | 10 => ("DuelDelays$Search", "worths", "[I", true)
  | _ => ("DuelDelays$Search", "path", "[I", true)
def tyX7 : Nat → FieldType := fun k => match k with
  | 0 => .object "DuelDelays$Land"
  | 1 => .int
  | 2 => .array .int
  | 3 => .array .int
  | 4 => .array .int
  | 5 => .array .int
  | 6 => .int
  | 7 => .array .boolean
  | 8 => .array .int
  | 9 => .int
  | 10 => .array .int
  | _ => .array .int
abbrev wsX70 : List Cond := u_ws RX7 TX7 12
theorem nmX7 : ∀ a, a < 12 → ∀ b, b < 12 → a ≠ b → (TX7 a).2.1 ≠ (TX7 b).2.1 := by decide +kernel
theorem tyX7_ok : ∀ k, k < 12 → parseFieldDescriptor (TX7 k).2.2.1 = some (tyX7 k) := by decide +kernel
abbrev cX7_init : ByteArray := prog_9_method_1_code
def yX7_init : MethodName := ⟨RX7, "<init>", "()V"⟩
abbrev cX7_pathMove : ByteArray := prog_9_method_2_code
def yX7_pathMove : MethodName := ⟨RX7, "pathMove", "(I)I"⟩
abbrev cX7_prepareDuel : ByteArray := prog_9_method_3_code
def yX7_prepareDuel : MethodName := ⟨RX7, "prepareDuel", "(LDuelDelays$Land;LDuelDelays$State;III)V"⟩
abbrev cX7_prepare : ByteArray := prog_9_method_4_code
def yX7_prepare : MethodName := ⟨RX7, "prepare", "(LDuelDelays$Land;LDuelDelays$State;IIII)V"⟩
abbrev cX7_startAt : ByteArray := prog_9_method_5_code
def yX7_startAt : MethodName := ⟨RX7, "startAt", "(II)V"⟩
abbrev cX7_findLife : ByteArray := prog_9_method_6_code
def yX7_findLife : MethodName := ⟨RX7, "findLife", "()I"⟩
abbrev cX7_findLatest : ByteArray := prog_9_method_7_code
def yX7_findLatest : MethodName := ⟨RX7, "findLatest", "(I)I"⟩
abbrev cX7_findLastReason : ByteArray := prog_9_method_8_code
def yX7_findLastReason : MethodName := ⟨RX7, "findLastReason", "(I)I"⟩
abbrev cX7_winningReason : ByteArray := prog_9_method_9_code
def yX7_winningReason : MethodName := ⟨RX7, "winningReason", "(II)I"⟩
abbrev cX7_usedOf : ByteArray := prog_9_method_10_code
def yX7_usedOf : MethodName := ⟨RX7, "usedOf", "(I)I"⟩
abbrev cX7_morningOf : ByteArray := prog_9_method_11_code
def yX7_morningOf : MethodName := ⟨RX7, "morningOf", "(I)I"⟩
abbrev cX7_keepPath : ByteArray := prog_9_method_12_code
def yX7_keepPath : MethodName := ⟨RX7, "keepPath", "(II)V"⟩
abbrev cX7_expand : ByteArray := prog_9_method_13_code
def yX7_expand : MethodName := ⟨RX7, "expand", "(IIII)Z"⟩
abbrev cX7_allows : ByteArray := prog_9_method_14_code
def yX7_allows : MethodName := ⟨RX7, "allows", "(II)Z"⟩
abbrev cX7_keyBehind : ByteArray := prog_9_method_15_code
def yX7_keyBehind : MethodName := ⟨RX7, "keyBehind", "(II)I"⟩
abbrev cX7_reach : ByteArray := prog_9_method_16_code
def yX7_reach : MethodName := ⟨RX7, "reach", "(III)Z"⟩
abbrev cX7_slotOf : ByteArray := prog_9_method_17_code
def yX7_slotOf : MethodName := ⟨RX7, "slotOf", "(I)I"⟩
abbrev cX7_isTaken : ByteArray := prog_9_method_18_code
def yX7_isTaken : MethodName := ⟨RX7, "isTaken", "(I)Z"⟩
def RX8 : String := "DuelDelays$Sights"
def TX8 : u_T := fun k => match k with
  | 0 => ("DuelDelays$Sights", "time", "I", false)
  | 1 => ("DuelDelays$Sights", "count", "I", false)
  | 2 => ("DuelDelays$Sights", "reasons", "[I", true)
  | 3 => ("DuelDelays$Sights", "days", "[I", true)
  | 4 => ("DuelDelays$Sights", "toldAt", "[I", true)
  | _ => ("DuelDelays$Sights", "untoldAt", "[I", true)
def tyX8 : Nat → FieldType := fun k => match k with
  | 0 => .int
  | 1 => .int
  | 2 => .array .int
  | 3 => .array .int
  | 4 => .array .int
  | _ => .array .int
abbrev wsX80 : List Cond := u_ws RX8 TX8 6
theorem nmX8 : ∀ a, a < 6 → ∀ b, b < 6 → a ≠ b → (TX8 a).2.1 ≠ (TX8 b).2.1 := by decide +kernel
theorem tyX8_ok : ∀ k, k < 6 → parseFieldDescriptor (TX8 k).2.2.1 = some (tyX8 k) := by decide +kernel
abbrev cX8_init : ByteArray := prog_10_method_1_code
def yX8_init : MethodName := ⟨RX8, "<init>", "()V"⟩
abbrev cX8_clear : ByteArray := prog_10_method_2_code
def yX8_clear : MethodName := ⟨RX8, "clear", "()V"⟩
abbrev cX8_tell : ByteArray := prog_10_method_3_code
def yX8_tell : MethodName := ⟨RX8, "tell", "(II)I"⟩
abbrev cX8_takeBack : ByteArray := prog_10_method_4_code
def yX8_takeBack : MethodName := ⟨RX8, "takeBack", "(I)Z"⟩
abbrev cX8_sawLater : ByteArray := prog_10_method_5_code
def yX8_sawLater : MethodName := ⟨RX8, "sawLater", "(III)Z"⟩
def RX9 : String := "DuelDelays$State"
def TX9 : u_T := fun k => match k with
  | 0 => ("DuelDelays$State", "day", "I", false)
  | 1 => ("DuelDelays$State", "seed", "I", false)
  | 2 => ("DuelDelays$State", "alive", "I", false)
  | 3 => ("DuelDelays$State", "struck", "I", false)
  | 4 => ("DuelDelays$State", "open", "I", false)
  | 5 => ("DuelDelays$State", "duels", "I", false)
  | 6 => ("DuelDelays$State", "lines", "I", false)
  | 7 => ("DuelDelays$State", "coins", "[I", true)
  | 8 => ("DuelDelays$State", "rented", "[I", true)
  | 9 => ("DuelDelays$State", "mornings", "[I", true)
  | 10 => ("DuelDelays$State", "honours", "[I", true)
  | 11 => ("DuelDelays$State", "used", "[I", true)
  | 12 => ("DuelDelays$State", "sides", "[I", true)
  | _ => ("DuelDelays$State", "log", "[I", true)
def tyX9 : Nat → FieldType := fun k => match k with
  | 0 => .int
  | 1 => .int
  | 2 => .int
  | 3 => .int
  | 4 => .int
  | 5 => .int
  | 6 => .int
  | 7 => .array .int
  | 8 => .array .int
  | 9 => .array .int
  | 10 => .array .int
  | 11 => .array .int
  | 12 => .array .int
  | _ => .array .int
abbrev wsX90 : List Cond := u_ws RX9 TX9 14
theorem nmX9 : ∀ a, a < 14 → ∀ b, b < 14 → a ≠ b → (TX9 a).2.1 ≠ (TX9 b).2.1 := by decide +kernel
theorem tyX9_ok : ∀ k, k < 14 → parseFieldDescriptor (TX9 k).2.2.1 = some (tyX9 k) := by decide +kernel
abbrev cX9_init : ByteArray := prog_11_method_1_code
def yX9_init : MethodName := ⟨RX9, "<init>", "()V"⟩
abbrev cX9_begin : ByteArray := prog_11_method_2_code
def yX9_begin : MethodName := ⟨RX9, "begin", "(LDuelDelays$Land;)V"⟩
abbrev cX9_copy : ByteArray := prog_11_method_3_code
def yX9_copy : MethodName := ⟨RX9, "copy", "(LDuelDelays$State;)V"⟩
abbrev cX9_isAlive : ByteArray := prog_11_method_4_code
def yX9_isAlive : MethodName := ⟨RX9, "isAlive", "(I)Z"⟩
abbrev cX9_isStruck : ByteArray := prog_11_method_5_code
def yX9_isStruck : MethodName := ⟨RX9, "isStruck", "(I)Z"⟩
abbrev cX9_hasDuel : ByteArray := prog_11_method_6_code
def yX9_hasDuel : MethodName := ⟨RX9, "hasDuel", "(I)Z"⟩
abbrev cX9_isOpen : ByteArray := prog_11_method_7_code
def yX9_isOpen : MethodName := ⟨RX9, "isOpen", "(I)Z"⟩
abbrev cX9_manOf : ByteArray := prog_11_method_8_code
def yX9_manOf : MethodName := ⟨RX9, "manOf", "(II)I"⟩
abbrev cX9_sideOf : ByteArray := prog_11_method_9_code
def yX9_sideOf : MethodName := ⟨RX9, "sideOf", "(II)I"⟩
abbrev cX9_lineOf : ByteArray := prog_11_method_10_code
def yX9_lineOf : MethodName := ⟨RX9, "lineOf", "(II)I"⟩
abbrev cX9_addLine : ByteArray := prog_11_method_11_code
def yX9_addLine : MethodName := ⟨RX9, "addLine", "(IIII)V"⟩
abbrev cX9_haveOpenDuel : ByteArray := prog_11_method_12_code
def yX9_haveOpenDuel : MethodName := ⟨RX9, "haveOpenDuel", "(II)Z"⟩
abbrev cX9_firstOpen : ByteArray := prog_11_method_13_code
def yX9_firstOpen : MethodName := ⟨RX9, "firstOpen", "()I"⟩
abbrev cX9_heirOf : ByteArray := prog_11_method_14_code
def yX9_heirOf : MethodName := ⟨RX9, "heirOf", "(LDuelDelays$Land;I)I"⟩
abbrev cX9_timesUsed : ByteArray := prog_11_method_15_code
def yX9_timesUsed : MethodName := ⟨RX9, "timesUsed", "(I)I"⟩
abbrev cX9_ownerOf : ByteArray := prog_11_method_16_code
def yX9_ownerOf : MethodName := ⟨RX9, "ownerOf", "(LDuelDelays$Land;I)I"⟩
abbrev cX9_isRentable : ByteArray := prog_11_method_17_code
def yX9_isRentable : MethodName := ⟨RX9, "isRentable", "(LDuelDelays$Land;II)Z"⟩
abbrev cX9_freeFrom : ByteArray := prog_11_method_18_code
def yX9_freeFrom : MethodName := ⟨RX9, "freeFrom", "(LDuelDelays$Land;II)I"⟩
abbrev cX9_isGone : ByteArray := prog_11_method_19_code
def yX9_isGone : MethodName := ⟨RX9, "isGone", "(LDuelDelays$Land;I)Z"⟩
abbrev cX9_mayUse : ByteArray := prog_11_method_20_code
def yX9_mayUse : MethodName := ⟨RX9, "mayUse", "(LDuelDelays$Land;III)Z"⟩
abbrev cX9_usable : ByteArray := prog_11_method_21_code
def yX9_usable : MethodName := ⟨RX9, "usable", "(LDuelDelays$Land;II)I"⟩
abbrev cX9_worthRenting : ByteArray := prog_11_method_22_code
def yX9_worthRenting : MethodName := ⟨RX9, "worthRenting", "(LDuelDelays$Land;II)I"⟩
abbrev cX9_putOffBy : ByteArray := prog_11_method_23_code
def yX9_putOffBy : MethodName := ⟨RX9, "putOffBy", "(LDuelDelays$Land;II)I"⟩
abbrev cX9_use : ByteArray := prog_11_method_24_code
def yX9_use : MethodName := ⟨RX9, "use", "(LDuelDelays$Land;III)V"⟩
abbrev cX9_addDuel : ByteArray := prog_11_method_25_code
def yX9_addDuel : MethodName := ⟨RX9, "addDuel", "(III)V"⟩
abbrev cX9_passDay : ByteArray := prog_11_method_26_code
def yX9_passDay : MethodName := ⟨RX9, "passDay", "(LDuelDelays$Land;)V"⟩
abbrev cX9_fight : ByteArray := prog_11_method_27_code
def yX9_fight : MethodName := ⟨RX9, "fight", "(LDuelDelays$Land;I)V"⟩
abbrev cX9_bury : ByteArray := prog_11_method_28_code
def yX9_bury : MethodName := ⟨RX9, "bury", "(LDuelDelays$Land;I)V"⟩
abbrev cX9_clashes : ByteArray := prog_11_method_29_code
def yX9_clashes : MethodName := ⟨RX9, "clashes", "(I[I)I"⟩
abbrev cX9_earlierOn : ByteArray := prog_11_method_30_code
def yX9_earlierOn : MethodName := ⟨RX9, "earlierOn", "(I[II)I"⟩
def RX10 : String := "DuelDelays$Tokens"
def TX10 : u_T := fun k => match k with
  | 0 => ("DuelDelays$Tokens", "sort", "I", false)
  | 1 => ("DuelDelays$Tokens", "place", "I", false)
  | 2 => ("DuelDelays$Tokens", "value", "I", false)
  | 3 => ("DuelDelays$Tokens", "name", "J", false)
  | 4 => ("DuelDelays$Tokens", "text", "[B", false)
  | 5 => ("DuelDelays$Tokens", "length", "I", false)
  | 6 => ("DuelDelays$Tokens", "following", "I", false)
  | _ => ("DuelDelays$Tokens", "words", "[J", true)
def tyX10 : Nat → FieldType := fun k => match k with
  | 0 => .int
  | 1 => .int
  | 2 => .int
  | 3 => .long
  | 4 => .array .byte
  | 5 => .int
  | 6 => .int
  | _ => .array .long
abbrev wsX100 : List Cond := u_ws RX10 TX10 8
theorem nmX10 : ∀ a, a < 8 → ∀ b, b < 8 → a ≠ b → (TX10 a).2.1 ≠ (TX10 b).2.1 := by decide +kernel
theorem tyX10_ok : ∀ k, k < 8 → parseFieldDescriptor (TX10 k).2.2.1 = some (tyX10 k) := by decide +kernel
abbrev cX10_init : ByteArray := prog_12_method_1_code
def yX10_init : MethodName := ⟨RX10, "<init>", "()V"⟩
abbrev cX10_open : ByteArray := prog_12_method_2_code
def yX10_open : MethodName := ⟨RX10, "open", "([BI)V"⟩
abbrev cX10_advance : ByteArray := prog_12_method_3_code
def yX10_advance : MethodName := ⟨RX10, "advance", "()V"⟩
abbrev cX10_isWord : ByteArray := prog_12_method_4_code
def yX10_isWord : MethodName := ⟨RX10, "isWord", "(I)Z"⟩
abbrev cX10_isSign : ByteArray := prog_12_method_5_code
def yX10_isSign : MethodName := ⟨RX10, "isSign", "(C)Z"⟩
abbrev cX10_takeLetters : ByteArray := prog_12_method_6_code
def yX10_takeLetters : MethodName := ⟨RX10, "takeLetters", "()V"⟩
abbrev cX10_takeDigits : ByteArray := prog_12_method_7_code
def yX10_takeDigits : MethodName := ⟨RX10, "takeDigits", "()V"⟩
abbrev cX10_takeSign : ByteArray := prog_12_method_8_code
def yX10_takeSign : MethodName := ⟨RX10, "takeSign", "()V"⟩
abbrev cX10_withLetter : ByteArray := prog_12_method_9_code
def yX10_withLetter : MethodName := ⟨RX10, "withLetter", "(JI)J"⟩
abbrev cX10_isBlank : ByteArray := prog_12_method_10_code
def yX10_isBlank : MethodName := ⟨RX10, "isBlank", "(I)Z"⟩
abbrev cX10_isLetter : ByteArray := prog_12_method_11_code
def yX10_isLetter : MethodName := ⟨RX10, "isLetter", "(I)Z"⟩
abbrev cX10_isDigit : ByteArray := prog_12_method_12_code
def yX10_isDigit : MethodName := ⟨RX10, "isDigit", "(I)Z"⟩
def RX11 : String := "DuelDelays"
def TX11 : u_T := fun k => match k with
  | 0 => ("DuelDelays", "tape", "[B", true)
  | 1 => ("DuelDelays", "tapeLength", "I", false)
  | 2 => ("DuelDelays", "reader", "LDuelDelays$Reader;", true)
  | 3 => ("DuelDelays", "land", "LDuelDelays$Land;", false)
  | 4 => ("DuelDelays", "spareLand", "LDuelDelays$Land;", false)
  | 5 => ("DuelDelays", "states", "[LDuelDelays$State;", true)
  | 6 => ("DuelDelays", "current", "I", false)
  | 7 => ("DuelDelays", "newest", "I", false)
  | 8 => ("DuelDelays", "boxes", "[LDuelDelays$State;", true)
  | 9 => ("DuelDelays", "fullBoxes", "I", false)
  | 10 => ("DuelDelays", "search", "LDuelDelays$Search;", true)
  | 11 => ("DuelDelays", "sights", "LDuelDelays$Sights;", true)
  | 12 => ("DuelDelays", "parting", "LDuelDelays$Parting;", true)
  | _ => ("DuelDelays", "heap", "LDuelDelays$Heap;", true)
def tyX11 : Nat → FieldType := fun k => match k with
  | 0 => .array .byte
  | 1 => .int
  | 2 => .object "DuelDelays$Reader"
  | 3 => .object "DuelDelays$Land"
  | 4 => .object "DuelDelays$Land"
  | 5 => .array (.object "DuelDelays$State")
  | 6 => .int
  | 7 => .int
  | 8 => .array (.object "DuelDelays$State")
  | 9 => .int
  | 10 => .object "DuelDelays$Search"
  | 11 => .object "DuelDelays$Sights"
  | 12 => .object "DuelDelays$Parting"
  | _ => .object "DuelDelays$Heap"
abbrev wsX110 : List Cond := u_ws RX11 TX11 14
theorem nmX11 : ∀ a, a < 14 → ∀ b, b < 14 → a ≠ b → (TX11 a).2.1 ≠ (TX11 b).2.1 := by decide +kernel
theorem tyX11_ok : ∀ k, k < 14 → parseFieldDescriptor (TX11 k).2.2.1 = some (tyX11 k) := by decide +kernel
abbrev cX11_init : ByteArray := prog_1_method_1_code
def yX11_init : MethodName := ⟨RX11, "<init>", "()V"⟩
abbrev cX11_feed : ByteArray := prog_1_method_2_code
def yX11_feed : MethodName := ⟨RX11, "feed", "(IIIII)I"⟩
abbrev cX11_feedNumber : ByteArray := prog_1_method_3_code
def yX11_feedNumber : MethodName := ⟨RX11, "feedNumber", "(I)V"⟩
abbrev cX11_end : ByteArray := prog_1_method_4_code
def yX11_end : MethodName := ⟨RX11, "end", "(I)I"⟩
abbrev cX11_code : ByteArray := prog_1_method_5_code
def yX11_code : MethodName := ⟨RX11, "code", "()I"⟩
abbrev cX11_fault : ByteArray := prog_1_method_6_code
def yX11_fault : MethodName := ⟨RX11, "fault", "(I)I"⟩
abbrev cX11_man : ByteArray := prog_1_method_7_code
def yX11_man : MethodName := ⟨RX11, "man", "(II)I"⟩
abbrev cX11_duel : ByteArray := prog_1_method_8_code
def yX11_duel : MethodName := ⟨RX11, "duel", "(II)I"⟩
abbrev cX11_reason : ByteArray := prog_1_method_9_code
def yX11_reason : MethodName := ⟨RX11, "reason", "(II)I"⟩
abbrev cX11_worth : ByteArray := prog_1_method_10_code
def yX11_worth : MethodName := ⟨RX11, "worth", "(III)I"⟩
abbrev cX11_may : ByteArray := prog_1_method_11_code
def yX11_may : MethodName := ⟨RX11, "may", "(II)I"⟩
abbrev cX11_next : ByteArray := prog_1_method_12_code
def yX11_next : MethodName := ⟨RX11, "next", "(I)I"⟩
abbrev cX11_heir : ByteArray := prog_1_method_13_code
def yX11_heir : MethodName := ⟨RX11, "heir", "(I)I"⟩
abbrev cX11_his : ByteArray := prog_1_method_14_code
def yX11_his : MethodName := ⟨RX11, "his", "(I)I"⟩
abbrev cX11_comes : ByteArray := prog_1_method_15_code
def yX11_comes : MethodName := ⟨RX11, "comes", "(II)I"⟩
abbrev cX11_nextState : ByteArray := prog_1_method_16_code
def yX11_nextState : MethodName := ⟨RX11, "nextState", "()LDuelDelays$State;"⟩
abbrev cX11_put : ByteArray := prog_1_method_17_code
def yX11_put : MethodName := ⟨RX11, "put", "(III)I"⟩
abbrev cX11_rent : ByteArray := prog_1_method_18_code
def yX11_rent : MethodName := ⟨RX11, "rent", "(II)I"⟩
abbrev cX11_strike : ByteArray := prog_1_method_19_code
def yX11_strike : MethodName := ⟨RX11, "strike", "(I)Z"⟩
abbrev cX11_insult : ByteArray := prog_1_method_20_code
def yX11_insult : MethodName := ⟨RX11, "insult", "(II)I"⟩
abbrev cX11_days : ByteArray := prog_1_method_21_code
def yX11_days : MethodName := ⟨RX11, "days", "(I)I"⟩
abbrev cX11_undo : ByteArray := prog_1_method_22_code
def yX11_undo : MethodName := ⟨RX11, "undo", "()Z"⟩
abbrev cX11_redo : ByteArray := prog_1_method_23_code
def yX11_redo : MethodName := ⟨RX11, "redo", "()Z"⟩
abbrev cX11_life : ByteArray := prog_1_method_24_code
def yX11_life : MethodName := ⟨RX11, "life", "(I)I"⟩
abbrev cX11_late : ByteArray := prog_1_method_25_code
def yX11_late : MethodName := ⟨RX11, "late", "(II)I"⟩
abbrev cX11_last : ByteArray := prog_1_method_26_code
def yX11_last : MethodName := ⟨RX11, "last", "(II)I"⟩
abbrev cX11_shun : ByteArray := prog_1_method_27_code
def yX11_shun : MethodName := ⟨RX11, "shun", "(I)I"⟩
abbrev cX11_hire : ByteArray := prog_1_method_28_code
def yX11_hire : MethodName := ⟨RX11, "hire", "(II)I"⟩
abbrev cX11_clash : ByteArray := prog_1_method_29_code
def yX11_clash : MethodName := ⟨RX11, "clash", "(I)I"⟩
abbrev cX11_part : ByteArray := prog_1_method_30_code
def yX11_part : MethodName := ⟨RX11, "part", "(I)I"⟩
abbrev cX11_lies : ByteArray := prog_1_method_31_code
def yX11_lies : MethodName := ⟨RX11, "lies", "(I)I"⟩
abbrev cX11_log : ByteArray := prog_1_method_32_code
def yX11_log : MethodName := ⟨RX11, "log", "(II)I"⟩
abbrev cX11_began : ByteArray := prog_1_method_33_code
def yX11_began : MethodName := ⟨RX11, "began", "(I)I"⟩
abbrev cX11_sight : ByteArray := prog_1_method_34_code
def yX11_sight : MethodName := ⟨RX11, "sight", "(II)I"⟩
abbrev cX11_untell : ByteArray := prog_1_method_35_code
def yX11_untell : MethodName := ⟨RX11, "untell", "(I)Z"⟩
abbrev cX11_later : ByteArray := prog_1_method_36_code
def yX11_later : MethodName := ⟨RX11, "later", "(I)I"⟩
abbrev cX11_falses : ByteArray := prog_1_method_37_code
def yX11_falses : MethodName := ⟨RX11, "falses", "(I)I"⟩
abbrev cX11_image : ByteArray := prog_1_method_38_code
def yX11_image : MethodName := ⟨RX11, "image", "(I)I"⟩
abbrev cX11_back : ByteArray := prog_1_method_39_code
def yX11_back : MethodName := ⟨RX11, "back", "(I)I"⟩
abbrev cX11_about : ByteArray := prog_1_method_40_code
def yX11_about : MethodName := ⟨RX11, "about", "(I)I"⟩
abbrev cX11_isSide : ByteArray := prog_1_method_41_code
def yX11_isSide : MethodName := ⟨RX11, "isSide", "(I)Z"⟩
abbrev cX11_indexOf : ByteArray := prog_1_method_42_code
def yX11_indexOf : MethodName := ⟨RX11, "indexOf", "([JIJ)I"⟩
abbrev cX11_barringUses : ByteArray := prog_1_method_43_code
def yX11_barringUses : MethodName := ⟨RX11, "barringUses", "(III)I"⟩
def RX12 : String := "DuelDelaysModel"
def TX12 : u_T := fun k => match k with
  | 0 => ("DuelDelaysModel", "tape", "[B", true)
  | 1 => ("DuelDelaysModel", "text", "[B", true)
  | 2 => ("DuelDelaysModel", "taped", "I", false)
  | 3 => ("DuelDelaysModel", "size", "I", false)
  | 4 => ("DuelDelaysModel", "faultKind", "I", false)
  | 5 => ("DuelDelaysModel", "faultPlace", "I", false)
  | 6 => ("DuelDelaysModel", "at", "I", false)
  | 7 => ("DuelDelaysModel", "end", "I", false)
  | 8 => ("DuelDelaysModel", "token", "I", false)
  | 9 => ("DuelDelaysModel", "number", "I", false)
  | 10 => ("DuelDelaysModel", "name", "J", false)
  | 11 => ("DuelDelaysModel", "men", "[I", true)
  | 12 => ("DuelDelaysModel", "kinds", "[I", true)
  | 13 => ("DuelDelaysModel", "reasons", "[I", true)
  | 14 => ("DuelDelaysModel", "told", "[I", true)
  | 15 => ("DuelDelaysModel", "units", "[I", true)
  | 16 => ("DuelDelaysModel", "honour", "[I", true)
  | 17 => ("DuelDelaysModel", "draw", "[I", true)
  | 18 => ("DuelDelaysModel", "dies", "[I", true)
  | 19 => ("DuelDelaysModel", "coin", "[I", true)
  | 20 => ("DuelDelaysModel", "sonOf", "[I", true)
  | 21 => ("DuelDelaysModel", "kindOf", "[I", true)
  | 22 => ("DuelDelaysModel", "owner", "[I", true)
  | 23 => ("DuelDelaysModel", "first", "[I", true)
  | 24 => ("DuelDelaysModel", "last", "[I", true)
  | 25 => ("DuelDelaysModel", "rent", "[I", true)
  | 26 => ("DuelDelaysModel", "sort", "[I", true)
  | 27 => ("DuelDelaysModel", "duelOne", "[I", true)
  | 28 => ("DuelDelaysModel", "duelOther", "[I", true)
  | 29 => ("DuelDelaysModel", "duelOn", "[I", true)
  | 30 => ("DuelDelaysModel", "ruleFrom", "[I", true)
  | 31 => ("DuelDelaysModel", "ruleTo", "[I", true)
  | 32 => ("DuelDelaysModel", "hasHonour", "[Z", true)
  | 33 => ("DuelDelaysModel", "hasDraw", "[Z", true)
  | 34 => ("DuelDelaysModel", "mName", "[J", true)
  | 35 => ("DuelDelaysModel", "kName", "[J", true)
  | 36 => ("DuelDelaysModel", "rName", "[J", true)
  | 37 => ("DuelDelaysModel", "dName", "[J", true)
  | 38 => ("DuelDelaysModel", "code", "[I", true)
  | 39 => ("DuelDelaysModel", "codeNumber", "[I", true)
  | 40 => ("DuelDelaysModel", "eWhat", "[I", true)
  | 41 => ("DuelDelaysModel", "eSign", "[I", true)
  | 42 => ("DuelDelaysModel", "pile", "[I", true)
  | 43 => ("DuelDelaysModel", "bank", "I", false)
  | 44 => ("DuelDelaysModel", "rb", "I", false)
  | 45 => ("DuelDelaysModel", "codes", "I", false)
  | 46 => ("DuelDelaysModel", "within", "I", false)
  | 47 => ("DuelDelaysModel", "piled", "I", false)
  | 48 => ("DuelDelaysModel", "unitsInRule", "I", false)
  | 49 => ("DuelDelaysModel", "askDay", "I", false)
  | 50 => ("DuelDelaysModel", "askUses", "I", false)
  | 51 => ("DuelDelaysModel", "askSpent", "I", false)
  | 52 => ("DuelDelaysModel", "all", "[I", true)
  | 53 => ("DuelDelaysModel", "was", "[I", true)
  | 54 => ("DuelDelaysModel", "acts", "I", false)
  | 55 => ("DuelDelaysModel", "undone", "I", false)
  | 56 => ("DuelDelaysModel", "usedBy0", "[I", true)
  | 57 => ("DuelDelaysModel", "usedBy1", "[I", true)
  | 58 => ("DuelDelaysModel", "mornings", "[I", true)
  | 59 => ("DuelDelaysModel", "cameFrom", "[I", true)
  | 60 => ("DuelDelaysModel", "cameBy", "[I", true)
  | 61 => ("DuelDelaysModel", "levelAt", "[I", true)
  | 62 => ("DuelDelaysModel", "wins", "[Z", true)
  | 63 => ("DuelDelaysModel", "slots", "[I", true)
  | 64 => ("DuelDelaysModel", "levelOf", "[I", true)
  | 65 => ("DuelDelaysModel", "worthOf", "[I", true)
  | 66 => ("DuelDelaysModel", "states", "I", false)
  | 67 => ("DuelDelaysModel", "levels", "I", false)
  | 68 => ("DuelDelaysModel", "side0", "I", false)
  | 69 => ("DuelDelaysModel", "side1", "I", false)
  | 70 => ("DuelDelaysModel", "deathDay", "I", false)
  | 71 => ("DuelDelaysModel", "away", "I", false)
  | 72 => ("DuelDelaysModel", "hires", "I", false)
  | 73 => ("DuelDelaysModel", "hirer", "I", false)
  | 74 => ("DuelDelaysModel", "slotFound", "I", false)
  | 75 => ("DuelDelaysModel", "isSpent", "Z", false)
  | 76 => ("DuelDelaysModel", "found", "I", false)
  | 77 => ("DuelDelaysModel", "laid", "I", false)
  | 78 => ("DuelDelaysModel", "laidRow", "[I", true)
  | 79 => ("DuelDelaysModel", "gReason", "[I", true)
  | 80 => ("DuelDelaysModel", "gDay", "[I", true)
  | 81 => ("DuelDelaysModel", "gTold", "[I", true)
  | 82 => ("DuelDelaysModel", "gUntold", "[I", true)
  | 83 => ("DuelDelaysModel", "sights", "I", false)
  | 84 => ("DuelDelaysModel", "time", "I", false)
  | 85 => ("DuelDelaysModel", "boxAll", "[I", true)
  | _ => ("DuelDelaysModel", "isBoxed", "[Z", true)
def tyX12 : Nat → FieldType := fun k => match k with
  | 0 => .array .byte
  | 1 => .array .byte
  | 2 => .int
  | 3 => .int
  | 4 => .int
  | 5 => .int
  | 6 => .int
  | 7 => .int
  | 8 => .int
  | 9 => .int
  | 10 => .long
  | 11 => .array .int
  | 12 => .array .int
  | 13 => .array .int
  | 14 => .array .int
  | 15 => .array .int
  | 16 => .array .int
  | 17 => .array .int
  | 18 => .array .int
  | 19 => .array .int
  | 20 => .array .int
  | 21 => .array .int
  | 22 => .array .int
  | 23 => .array .int
  | 24 => .array .int
  | 25 => .array .int
  | 26 => .array .int
  | 27 => .array .int
  | 28 => .array .int
  | 29 => .array .int
  | 30 => .array .int
  | 31 => .array .int
  | 32 => .array .boolean
  | 33 => .array .boolean
  | 34 => .array .long
  | 35 => .array .long
  | 36 => .array .long
  | 37 => .array .long
  | 38 => .array .int
  | 39 => .array .int
  | 40 => .array .int
  | 41 => .array .int
  | 42 => .array .int
  | 43 => .int
  | 44 => .int
  | 45 => .int
  | 46 => .int
  | 47 => .int
  | 48 => .int
  | 49 => .int
  | 50 => .int
  | 51 => .int
  | 52 => .array .int
  | 53 => .array .int
  | 54 => .int
  | 55 => .int
  | 56 => .array .int
  | 57 => .array .int
  | 58 => .array .int
  | 59 => .array .int
  | 60 => .array .int
  | 61 => .array .int
  | 62 => .array .boolean
  | 63 => .array .int
  | 64 => .array .int
  | 65 => .array .int
  | 66 => .int
  | 67 => .int
  | 68 => .int
  | 69 => .int
  | 70 => .int
  | 71 => .int
  | 72 => .int
  | 73 => .int
  | 74 => .int
  | 75 => .boolean
  | 76 => .int
  | 77 => .int
  | 78 => .array .int
  | 79 => .array .int
  | 80 => .array .int
  | 81 => .array .int
  | 82 => .array .int
  | 83 => .int
  | 84 => .int
  | 85 => .array .int
  | _ => .array .boolean
abbrev wsX120 : List Cond := u_ws RX12 TX12 87
theorem nmX12 : ∀ a, a < 87 → ∀ b, b < 87 → a ≠ b → (TX12 a).2.1 ≠ (TX12 b).2.1 := by decide +kernel
theorem tyX12_ok : ∀ k, k < 87 → parseFieldDescriptor (TX12 k).2.2.1 = some (tyX12 k) := by decide +kernel
abbrev cX12_init : ByteArray := prog_14_method_1_code
def yX12_init : MethodName := ⟨RX12, "<init>", "()V"⟩
abbrev cX12_sign : ByteArray := prog_14_method_2_code
def yX12_sign : MethodName := ⟨RX12, "sign", "(I)I"⟩
abbrev cX12_isLetter : ByteArray := prog_14_method_3_code
def yX12_isLetter : MethodName := ⟨RX12, "isLetter", "(I)Z"⟩
abbrev cX12_isDigit : ByteArray := prog_14_method_4_code
def yX12_isDigit : MethodName := ⟨RX12, "isDigit", "(I)Z"⟩
abbrev cX12_fails : ByteArray := prog_14_method_5_code
def yX12_fails : MethodName := ⟨RX12, "fails", "(II)V"⟩
abbrev cX12_isGood : ByteArray := prog_14_method_6_code
def yX12_isGood : MethodName := ⟨RX12, "isGood", "()Z"⟩
abbrev cX12_isKept : ByteArray := prog_14_method_7_code
def yX12_isKept : MethodName := ⟨RX12, "isKept", "(J)Z"⟩
abbrev cX12_isSign : ByteArray := prog_14_method_8_code
def yX12_isSign : MethodName := ⟨RX12, "isSign", "(I)Z"⟩
abbrev cX12_goOn : ByteArray := prog_14_method_9_code
def yX12_goOn : MethodName := ⟨RX12, "goOn", "()V"⟩
abbrev cX12_isSignHere : ByteArray := prog_14_method_10_code
def yX12_isSignHere : MethodName := ⟨RX12, "isSignHere", "(I)Z"⟩
abbrev cX12_isWord : ByteArray := prog_14_method_11_code
def yX12_isWord : MethodName := ⟨RX12, "isWord", "(J)Z"⟩
abbrev cX12_misplaced : ByteArray := prog_14_method_12_code
def yX12_misplaced : MethodName := ⟨RX12, "misplaced", "()V"⟩
abbrev cX12_must : ByteArray := prog_14_method_13_code
def yX12_must : MethodName := ⟨RX12, "must", "(Z)V"⟩
abbrev cX12_numeral : ByteArray := prog_14_method_14_code
def yX12_numeral : MethodName := ⟨RX12, "numeral", "(II)I"⟩
abbrev cX12_after : ByteArray := prog_14_method_15_code
def yX12_after : MethodName := ⟨RX12, "after", "(JII)I"⟩
abbrev cX12_perhaps : ByteArray := prog_14_method_16_code
def yX12_perhaps : MethodName := ⟨RX12, "perhaps", "(JIII)I"⟩
abbrev cX12_clearBank : ByteArray := prog_14_method_17_code
def yX12_clearBank : MethodName := ⟨RX12, "clearBank", "()V"⟩
abbrev cX12_code : ByteArray := prog_14_method_18_code
def yX12_code : MethodName := ⟨RX12, "code", "()I"⟩
abbrev cX12_isFull : ByteArray := prog_14_method_19_code
def yX12_isFull : MethodName := ⟨RX12, "isFull", "()Z"⟩
abbrev cX12_readLine : ByteArray := prog_14_method_20_code
def yX12_readLine : MethodName := ⟨RX12, "readLine", "()V"⟩
abbrev cX12_here : ByteArray := prog_14_method_21_code
def yX12_here : MethodName := ⟨RX12, "here", "([JII)I"⟩
abbrev cX12_manHere : ByteArray := prog_14_method_22_code
def yX12_manHere : MethodName := ⟨RX12, "manHere", "()I"⟩
abbrev cX12_kindHere : ByteArray := prog_14_method_23_code
def yX12_kindHere : MethodName := ⟨RX12, "kindHere", "()I"⟩
abbrev cX12_fresh : ByteArray := prog_14_method_24_code
def yX12_fresh : MethodName := ⟨RX12, "fresh", "(I)J"⟩
abbrev cX12_known : ByteArray := prog_14_method_25_code
def yX12_known : MethodName := ⟨RX12, "known", "(I)I"⟩
abbrev cX12_readMan : ByteArray := prog_14_method_26_code
def yX12_readMan : MethodName := ⟨RX12, "readMan", "()V"⟩
abbrev cX12_readKind : ByteArray := prog_14_method_27_code
def yX12_readKind : MethodName := ⟨RX12, "readKind", "()V"⟩
abbrev cX12_readReason : ByteArray := prog_14_method_28_code
def yX12_readReason : MethodName := ⟨RX12, "readReason", "()V"⟩
abbrev cX12_isTold : ByteArray := prog_14_method_29_code
def yX12_isTold : MethodName := ⟨RX12, "isTold", "(II)Z"⟩
abbrev cX12_readDuel : ByteArray := prog_14_method_30_code
def yX12_readDuel : MethodName := ⟨RX12, "readDuel", "()V"⟩
abbrev cX12_readRule : ByteArray := prog_14_method_31_code
def yX12_readRule : MethodName := ⟨RX12, "readRule", "(I)V"⟩
abbrev cX12_emit : ByteArray := prog_14_method_32_code
def yX12_emit : MethodName := ⟨RX12, "emit", "(II)V"⟩
abbrev cX12_pushE : ByteArray := prog_14_method_33_code
def yX12_pushE : MethodName := ⟨RX12, "pushE", "(II)V"⟩
abbrev cX12_e : ByteArray := prog_14_method_34_code
def yX12_e : MethodName := ⟨RX12, "e", "()V"⟩
abbrev cX12_wordHere : ByteArray := prog_14_method_35_code
def yX12_wordHere : MethodName := ⟨RX12, "wordHere", "()I"⟩
abbrev cX12_unit : ByteArray := prog_14_method_36_code
def yX12_unit : MethodName := ⟨RX12, "unit", "()Z"⟩
abbrev cX12_rankHere : ByteArray := prog_14_method_37_code
def yX12_rankHere : MethodName := ⟨RX12, "rankHere", "()I"⟩
abbrev cX12_isCompared : ByteArray := prog_14_method_38_code
def yX12_isCompared : MethodName := ⟨RX12, "isCompared", "()Z"⟩
abbrev cX12_behindUnit : ByteArray := prog_14_method_39_code
def yX12_behindUnit : MethodName := ⟨RX12, "behindUnit", "()Z"⟩
abbrev cX12_two : ByteArray := prog_14_method_40_code
def yX12_two : MethodName := ⟨RX12, "two", "(III)I"⟩
abbrev cX12_asked : ByteArray := prog_14_method_41_code
def yX12_asked : MethodName := ⟨RX12, "asked", "(II)I"⟩
abbrev cX12_comesTo : ByteArray := prog_14_method_42_code
def yX12_comesTo : MethodName := ⟨RX12, "comesTo", "(I)I"⟩
abbrev cX12_fault : ByteArray := prog_14_method_43_code
def yX12_fault : MethodName := ⟨RX12, "fault", "(I)I"⟩
abbrev cX12_isIn : ByteArray := prog_14_method_44_code
def yX12_isIn : MethodName := ⟨RX12, "isIn", "(III)Z"⟩
abbrev cX12_bitsOf : ByteArray := prog_14_method_45_code
def yX12_bitsOf : MethodName := ⟨RX12, "bitsOf", "(I)I"⟩
abbrev cX12_isMan : ByteArray := prog_14_method_46_code
def yX12_isMan : MethodName := ⟨RX12, "isMan", "(I)Z"⟩
abbrev cX12_isReason : ByteArray := prog_14_method_47_code
def yX12_isReason : MethodName := ⟨RX12, "isReason", "(I)Z"⟩
abbrev cX12_isDuel : ByteArray := prog_14_method_48_code
def yX12_isDuel : MethodName := ⟨RX12, "isDuel", "(I)Z"⟩
abbrev cX12_isSide : ByteArray := prog_14_method_49_code
def yX12_isSide : MethodName := ⟨RX12, "isSide", "(I)Z"⟩
abbrev cX12_isAlive : ByteArray := prog_14_method_50_code
def yX12_isAlive : MethodName := ⟨RX12, "isAlive", "(I)Z"⟩
abbrev cX12_of : ByteArray := prog_14_method_51_code
def yX12_of : MethodName := ⟨RX12, "of", "(II)I"⟩
abbrev cX12_isOpen : ByteArray := prog_14_method_52_code
def yX12_isOpen : MethodName := ⟨RX12, "isOpen", "(I)Z"⟩
abbrev cX12_diesOn : ByteArray := prog_14_method_53_code
def yX12_diesOn : MethodName := ⟨RX12, "diesOn", "(I)I"⟩
abbrev cX12_ownerOf : ByteArray := prog_14_method_54_code
def yX12_ownerOf : MethodName := ⟨RX12, "ownerOf", "(I)I"⟩
abbrev cX12_startAnew : ByteArray := prog_14_method_55_code
def yX12_startAnew : MethodName := ⟨RX12, "startAnew", "()V"⟩
abbrev cX12_addDuel : ByteArray := prog_14_method_56_code
def yX12_addDuel : MethodName := ⟨RX12, "addDuel", "(III)V"⟩
abbrev cX12_man : ByteArray := prog_14_method_57_code
def yX12_man : MethodName := ⟨RX12, "man", "(II)I"⟩
abbrev cX12_duel : ByteArray := prog_14_method_58_code
def yX12_duel : MethodName := ⟨RX12, "duel", "(II)I"⟩
abbrev cX12_isStruck : ByteArray := prog_14_method_59_code
def yX12_isStruck : MethodName := ⟨RX12, "isStruck", "(I)Z"⟩
abbrev cX12_reason : ByteArray := prog_14_method_60_code
def yX12_reason : MethodName := ⟨RX12, "reason", "(II)I"⟩
abbrev cX12_worthBy : ByteArray := prog_14_method_61_code
def yX12_worthBy : MethodName := ⟨RX12, "worthBy", "(IIII)I"⟩
abbrev cX12_isNew : ByteArray := prog_14_method_62_code
def yX12_isNew : MethodName := ⟨RX12, "isNew", "(IIII)Z"⟩
abbrev cX12_isHis : ByteArray := prog_14_method_63_code
def yX12_isHis : MethodName := ⟨RX12, "isHis", "(IIZI)Z"⟩
abbrev cX12_isTime : ByteArray := prog_14_method_64_code
def yX12_isTime : MethodName := ⟨RX12, "isTime", "(II)Z"⟩
abbrev cX12_elsewhere : ByteArray := prog_14_method_65_code
def yX12_elsewhere : MethodName := ⟨RX12, "elsewhere", "(I)I"⟩
abbrev cX12_mayToday : ByteArray := prog_14_method_66_code
def yX12_mayToday : MethodName := ⟨RX12, "mayToday", "(III)Z"⟩
abbrev cX12_worth : ByteArray := prog_14_method_67_code
def yX12_worth : MethodName := ⟨RX12, "worth", "(III)I"⟩
abbrev cX12_may : ByteArray := prog_14_method_68_code
def yX12_may : MethodName := ⟨RX12, "may", "(II)I"⟩
abbrev cX12_keepAct : ByteArray := prog_14_method_69_code
def yX12_keepAct : MethodName := ⟨RX12, "keepAct", "()V"⟩
abbrev cX12_exchange : ByteArray := prog_14_method_70_code
def yX12_exchange : MethodName := ⟨RX12, "exchange", "()V"⟩
abbrev cX12_latestOf : ByteArray := prog_14_method_71_code
def yX12_latestOf : MethodName := ⟨RX12, "latestOf", "(I)I"⟩
abbrev cX12_put : ByteArray := prog_14_method_72_code
def yX12_put : MethodName := ⟨RX12, "put", "(III)I"⟩
abbrev cX12_rent : ByteArray := prog_14_method_73_code
def yX12_rent : MethodName := ⟨RX12, "rent", "(II)I"⟩
abbrev cX12_strike : ByteArray := prog_14_method_74_code
def yX12_strike : MethodName := ⟨RX12, "strike", "(I)Z"⟩
abbrev cX12_doOppose : ByteArray := prog_14_method_75_code
def yX12_doOppose : MethodName := ⟨RX12, "doOppose", "(III)Z"⟩
abbrev cX12_haveOpen : ByteArray := prog_14_method_76_code
def yX12_haveOpen : MethodName := ⟨RX12, "haveOpen", "(II)Z"⟩
abbrev cX12_insult : ByteArray := prog_14_method_77_code
def yX12_insult : MethodName := ⟨RX12, "insult", "(II)I"⟩
abbrev cX12_heirOf : ByteArray := prog_14_method_78_code
def yX12_heirOf : MethodName := ⟨RX12, "heirOf", "(I)I"⟩
abbrev cX12_dieNow : ByteArray := prog_14_method_79_code
def yX12_dieNow : MethodName := ⟨RX12, "dieNow", "(I)V"⟩
abbrev cX12_fight : ByteArray := prog_14_method_80_code
def yX12_fight : MethodName := ⟨RX12, "fight", "(I)V"⟩
abbrev cX12_goDay : ByteArray := prog_14_method_81_code
def yX12_goDay : MethodName := ⟨RX12, "goDay", "()V"⟩
abbrev cX12_days : ByteArray := prog_14_method_82_code
def yX12_days : MethodName := ⟨RX12, "days", "(I)I"⟩
abbrev cX12_undo : ByteArray := prog_14_method_83_code
def yX12_undo : MethodName := ⟨RX12, "undo", "()Z"⟩
abbrev cX12_redo : ByteArray := prog_14_method_84_code
def yX12_redo : MethodName := ⟨RX12, "redo", "()Z"⟩
abbrev cX12_open : ByteArray := prog_14_method_85_code
def yX12_open : MethodName := ⟨RX12, "open", "(IIIIII)V"⟩
abbrev cX12_layWorths : ByteArray := prog_14_method_86_code
def yX12_layWorths : MethodName := ⟨RX12, "layWorths", "(I)V"⟩
abbrev cX12_openDuel : ByteArray := prog_14_method_87_code
def yX12_openDuel : MethodName := ⟨RX12, "openDuel", "(I)V"⟩
abbrev cX12_mayIn : ByteArray := prog_14_method_88_code
def yX12_mayIn : MethodName := ⟨RX12, "mayIn", "(III)Z"⟩
abbrev cX12_stateOf : ByteArray := prog_14_method_89_code
def yX12_stateOf : MethodName := ⟨RX12, "stateOf", "(IIII)I"⟩
abbrev cX12_isOver : ByteArray := prog_14_method_90_code
def yX12_isOver : MethodName := ⟨RX12, "isOver", "(I)Z"⟩
abbrev cX12_goLevel : ByteArray := prog_14_method_91_code
def yX12_goLevel : MethodName := ⟨RX12, "goLevel", "(II)Z"⟩
abbrev cX12_overIn : ByteArray := prog_14_method_92_code
def yX12_overIn : MethodName := ⟨RX12, "overIn", "()I"⟩
abbrev cX12_seekLife : ByteArray := prog_14_method_93_code
def yX12_seekLife : MethodName := ⟨RX12, "seekLife", "()I"⟩
abbrev cX12_lies : ByteArray := prog_14_method_94_code
def yX12_lies : MethodName := ⟨RX12, "lies", "(I)I"⟩
abbrev cX12_life : ByteArray := prog_14_method_95_code
def yX12_life : MethodName := ⟨RX12, "life", "(I)I"⟩
abbrev cX12_late : ByteArray := prog_14_method_96_code
def yX12_late : MethodName := ⟨RX12, "late", "(II)I"⟩
abbrev cX12_winsBy : ByteArray := prog_14_method_97_code
def yX12_winsBy : MethodName := ⟨RX12, "winsBy", "(III)I"⟩
abbrev cX12_last : ByteArray := prog_14_method_98_code
def yX12_last : MethodName := ⟨RX12, "last", "(II)I"⟩
abbrev cX12_shun : ByteArray := prog_14_method_99_code
def yX12_shun : MethodName := ⟨RX12, "shun", "(I)I"⟩
abbrev cX12_rents : ByteArray := prog_14_method_100_code
def yX12_rents : MethodName := ⟨RX12, "rents", "(I)I"⟩
abbrev cX12_canRent : ByteArray := prog_14_method_101_code
def yX12_canRent : MethodName := ⟨RX12, "canRent", "(I)I"⟩
abbrev cX12_hire : ByteArray := prog_14_method_102_code
def yX12_hire : MethodName := ⟨RX12, "hire", "(II)I"⟩
abbrev cX12_isIn2 : ByteArray := prog_14_method_103_code
def yX12_isIn2 : MethodName := ⟨RX12, "isIn2", "(II)Z"⟩
abbrev cX12_clash : ByteArray := prog_14_method_104_code
def yX12_clash : MethodName := ⟨RX12, "clash", "(I)I"⟩
abbrev cX12_tries : ByteArray := prog_14_method_105_code
def yX12_tries : MethodName := ⟨RX12, "tries", "(III)I"⟩
abbrev cX12_takeBack : ByteArray := prog_14_method_106_code
def yX12_takeBack : MethodName := ⟨RX12, "takeBack", "(IIII)V"⟩
abbrev cX12_partsBy : ByteArray := prog_14_method_107_code
def yX12_partsBy : MethodName := ⟨RX12, "partsBy", "(IIII)Z"⟩
abbrev cX12_partsBySecond : ByteArray := prog_14_method_108_code
def yX12_partsBySecond : MethodName := ⟨RX12, "partsBySecond", "(II)Z"⟩
abbrev cX12_part : ByteArray := prog_14_method_109_code
def yX12_part : MethodName := ⟨RX12, "part", "(I)I"⟩
abbrev cX12_next : ByteArray := prog_14_method_110_code
def yX12_next : MethodName := ⟨RX12, "next", "(I)I"⟩
abbrev cX12_heir : ByteArray := prog_14_method_111_code
def yX12_heir : MethodName := ⟨RX12, "heir", "(I)I"⟩
abbrev cX12_his : ByteArray := prog_14_method_112_code
def yX12_his : MethodName := ⟨RX12, "his", "(I)I"⟩
abbrev cX12_comes : ByteArray := prog_14_method_113_code
def yX12_comes : MethodName := ⟨RX12, "comes", "(II)I"⟩
abbrev cX12_log : ByteArray := prog_14_method_114_code
def yX12_log : MethodName := ⟨RX12, "log", "(II)I"⟩
abbrev cX12_began : ByteArray := prog_14_method_115_code
def yX12_began : MethodName := ⟨RX12, "began", "(I)I"⟩
abbrev cX12_sight : ByteArray := prog_14_method_116_code
def yX12_sight : MethodName := ⟨RX12, "sight", "(II)I"⟩
abbrev cX12_untell : ByteArray := prog_14_method_117_code
def yX12_untell : MethodName := ⟨RX12, "untell", "(I)Z"⟩
abbrev cX12_later : ByteArray := prog_14_method_118_code
def yX12_later : MethodName := ⟨RX12, "later", "(I)I"⟩
abbrev cX12_isFalse : ByteArray := prog_14_method_119_code
def yX12_isFalse : MethodName := ⟨RX12, "isFalse", "(II)Z"⟩
abbrev cX12_falses : ByteArray := prog_14_method_120_code
def yX12_falses : MethodName := ⟨RX12, "falses", "(I)I"⟩
abbrev cX12_image : ByteArray := prog_14_method_121_code
def yX12_image : MethodName := ⟨RX12, "image", "(I)I"⟩
abbrev cX12_back : ByteArray := prog_14_method_122_code
def yX12_back : MethodName := ⟨RX12, "back", "(I)I"⟩
abbrev cX12_openMany : ByteArray := prog_14_method_123_code
def yX12_openMany : MethodName := ⟨RX12, "openMany", "()I"⟩
abbrev cX12_about : ByteArray := prog_14_method_124_code
def yX12_about : MethodName := ⟨RX12, "about", "(I)I"⟩
abbrev cX12_feed : ByteArray := prog_14_method_125_code
def yX12_feed : MethodName := ⟨RX12, "feed", "(IIIII)I"⟩
abbrev cX12_end : ByteArray := prog_14_method_126_code
def yX12_end : MethodName := ⟨RX12, "end", "(I)I"⟩
def RJx145de : String := "java/io/Serializable"
def RJx9f9b0 : String := "java/lang/CharSequence"
def RJ11 : String := "java/lang/Character"
abbrev cJ11_isValidCodePoint_9a6ad : ByteArray := prog_15_method_11_code
def yJ11_isValidCodePoint_9a6ad : MethodName := ⟨RJ11, "isValidCodePoint", "(I)Z"⟩
abbrev cJ11_highSurrogate_5068e : ByteArray := prog_15_method_28_code
def yJ11_highSurrogate_5068e : MethodName := ⟨RJ11, "highSurrogate", "(I)C"⟩
abbrev cJ11_lowSurrogate_5068e : ByteArray := prog_15_method_29_code
def yJ11_lowSurrogate_5068e : MethodName := ⟨RJ11, "lowSurrogate", "(I)C"⟩
def RJxb160c : String := "java/lang/Comparable"
def RJ6 : String := "java/lang/Integer"
abbrev cJ6_bitCount_0f7a4 : ByteArray := prog_16_method_49_code
def yJ6_bitCount_0f7a4 : MethodName := ⟨RJ6, "bitCount", "(I)I"⟩
def RJ9 : String := "java/lang/Math"
abbrev cJ9_max_7cf53 : ByteArray := prog_17_method_65_code
def yJ9_max_7cf53 : MethodName := ⟨RJ9, "max", "(II)I"⟩
abbrev cJ9_min_7cf53 : ByteArray := prog_17_method_69_code
def yJ9_min_7cf53 : MethodName := ⟨RJ9, "min", "(II)I"⟩
def RJ0 : String := "java/lang/String"
abbrev cJ0_length_8abf5 : ByteArray := prog_18_method_54_code
def yJ0_length_8abf5 : MethodName := ⟨RJ0, "length", "()I"⟩
abbrev cJ0_charAt_5068e : ByteArray := prog_18_method_56_code
def yJ0_charAt_5068e : MethodName := ⟨RJ0, "charAt", "(I)C"⟩
abbrev cJ0_indexOf_0f7a4 : ByteArray := prog_18_method_79_code
def yJ0_indexOf_0f7a4 : MethodName := ⟨RJ0, "indexOf", "(I)I"⟩
abbrev cJ0_indexOf_7cf53 : ByteArray := prog_18_method_80_code
def yJ0_indexOf_7cf53 : MethodName := ⟨RJ0, "indexOf", "(II)I"⟩
abbrev cJ0_coder_7d493 : ByteArray := prog_18_method_152_code
def yJ0_coder_7d493 : MethodName := ⟨RJ0, "coder", "()B"⟩
abbrev cJ0_isLatin1_aae02 : ByteArray := prog_18_method_154_code
def yJ0_isLatin1_aae02 : MethodName := ⟨RJ0, "isLatin1", "()Z"⟩
abbrev cJ0_checkIndex_df160 : ByteArray := prog_18_method_155_code
def yJ0_checkIndex_df160 : MethodName := ⟨RJ0, "checkIndex", "(II)V"⟩
abbrev cJ0_checkBoundsBeginEnd_23922 : ByteArray := prog_18_method_158_code
def yJ0_checkBoundsBeginEnd_23922 : MethodName := ⟨RJ0, "checkBoundsBeginEnd", "(III)V"⟩
def RJ1 : String := "java/lang/StringLatin1"
abbrev cJ1_charAt_3b067 : ByteArray := prog_19_method_2_code
def yJ1_charAt_3b067 : MethodName := ⟨RJ1, "charAt", "([BI)C"⟩
abbrev cJ1_canEncode_9a6ad : ByteArray := prog_19_method_4_code
def yJ1_canEncode_9a6ad : MethodName := ⟨RJ1, "canEncode", "(I)Z"⟩
abbrev cJ1_indexOf_4cfef : ByteArray := prog_19_method_22_code
def yJ1_indexOf_4cfef : MethodName := ⟨RJ1, "indexOf", "([BIII)I"⟩
abbrev cJ1_indexOfChar_4cfef : ByteArray := prog_19_method_23_code
def yJ1_indexOfChar_4cfef : MethodName := ⟨RJ1, "indexOfChar", "([BIII)I"⟩
def RJ2 : String := "java/lang/StringUTF16"
abbrev cJ2_getChar_3b067 : ByteArray := prog_20_method_5_code
def yJ2_getChar_3b067 : MethodName := ⟨RJ2, "getChar", "([BI)C"⟩
abbrev cJ2_length_9d52b : ByteArray := prog_20_method_6_code
def yJ2_length_9d52b : MethodName := ⟨RJ2, "length", "([B)I"⟩
abbrev cJ2_indexOf_4cfef : ByteArray := prog_20_method_40_code
def yJ2_indexOf_4cfef : MethodName := ⟨RJ2, "indexOf", "([BIII)I"⟩
abbrev cJ2_indexOfChar_4cfef : ByteArray := prog_20_method_47_code
def yJ2_indexOfChar_4cfef : MethodName := ⟨RJ2, "indexOfChar", "([BIII)I"⟩
abbrev cJ2_indexOfCharUnsafe_4cfef : ByteArray := prog_20_method_48_code
def yJ2_indexOfCharUnsafe_4cfef : MethodName := ⟨RJ2, "indexOfCharUnsafe", "([BIII)I"⟩
abbrev cJ2_indexOfSupplementary_4cfef : ByteArray := prog_20_method_49_code
def yJ2_indexOfSupplementary_4cfef : MethodName := ⟨RJ2, "indexOfSupplementary", "([BIII)I"⟩
abbrev cJ2_charAt_3b067 : ByteArray := prog_20_method_83_code
def yJ2_charAt_3b067 : MethodName := ⟨RJ2, "charAt", "([BI)C"⟩
abbrev cJ2_checkIndex_2214a : ByteArray := prog_20_method_91_code
def yJ2_checkIndex_2214a : MethodName := ⟨RJ2, "checkIndex", "(I[B)V"⟩
abbrev cJ2_checkBoundsBeginEnd_d044e : ByteArray := prog_20_method_93_code
def yJ2_checkBoundsBeginEnd_d044e : MethodName := ⟨RJ2, "checkBoundsBeginEnd", "(II[B)V"⟩
def RJ10 : String := "java/lang/System"
def RJxfd54e : String := "java/lang/constant/Constable"
def RJx3cf43 : String := "java/lang/constant/ConstantDesc"
def RJ7 : String := "java/util/Arrays"
abbrev cJ7_fill_53178 : ByteArray := prog_22_method_103_code
def yJ7_fill_53178 : MethodName := ⟨RJ7, "fill", "([II)V"⟩
def RJ3 : String := "jdk/internal/util/Preconditions"
abbrev cJ3_checkIndex_8e157 : ByteArray := prog_23_method_11_code
def yJ3_checkIndex_8e157 : MethodName := ⟨RJ3, "checkIndex", "(IILjava/util/function/BiFunction;)I"⟩
abbrev cJ3_checkFromToIndex_8c36e : ByteArray := prog_23_method_12_code
def yJ3_checkFromToIndex_8c36e : MethodName := ⟨RJ3, "checkFromToIndex", "(IIILjava/util/function/BiFunction;)I"⟩
def RL : String := "DuelDelaysLaw"
abbrev cL_law : ByteArray := code

abbrev vwCl : List vw_C := [(RX0, TX0, 8), (RX1, TX1, 2), (RX2, TX2, 9), (RX3, TX3, 5), (RX4, TX4, 4), (RX5, TX5, 7), (RX6, TX6, 8), (RX7, TX7, 12), (RX8, TX8, 6), (RX9, TX9, 14), (RX10, TX10, 8), (RX11, TX11, 14), (RX12, TX12, 87)]
def R_law : String := "DuelDelaysLaw"
def lw_P (b : Addr) (xs : List Int32) (args : Array Value) (s : State) : Prop := args = #[.ref b] ∧ s.IntsAt b xs ∧ xs.length ≤ 6 ∧ (Jvm.Cond.and given_1 narrow_1).before args s = true
def lw_Q (_ : Array Value) (s : State) (o : Outcome) (t : State) : Prop := o = .returned (some (.int 1)) ∧ Framed s o t [] 600000 7302249
def lw_Z (below : List Frame) (a : Array Value) (s : State) : State → Prop := fun t => ∃ o, t.status = .running ∧ Ended t below o ∧ lw_Q a s o t
/-- the law's own end, with 1 on the stack, nothing written that was there before, its room as the claim has it -/
theorem lw_ret {p : Program} {l : Launch} {e : Env} {s : State} {m : MethodId} {below : List Frame} {meth : Method} {c : Code} {b : Nat} (hx : p.tables.exec = Jvm.exec) (hb : c.code = code) (hr : meth.sig.returnType = ret) (hlocks : meth.locks = false) {pc : Nat} {H : Heap} {ls : Array Slot} (hdg : decode code pc = .ok (.ireturn, 1)) : W p l e room_1 s m #[Value.ref b] below meth c H [] 600000 7302249 (lw_Z below #[Value.ref b] s) (F0 m pc ls [.int 1]) := by
  intro T hT X
  obtain ⟨fs, hret, hrun, hended, hW, hframe⟩ := X.leave (v := some (.int 1)) (hlocks := hlocks) (fun h => by rw [hr] at h; cases h)
  have hmeth' : T.vm.method? m = some meth := X.method'
  refine ⟨T.setFrames fs, ?_, .returned (some (.int 1)), hrun, hended, rfl, ⟨_, rfl⟩, hW, hframe⟩
  jvm_step X.here [X.here.top, hx, hb, hdg, hmeth', hr, ret, narrow_b1]
  (try refine ⟨rfl, ?_⟩); (try refine ⟨rfl, ?_⟩)
  first | (intro acts; rw [hret _ acts rfl rfl rfl]) | rw [hret _ _ rfl rfl rfl]
  exact Steps.refl _
/-- what holds at the law's entry: the machine, the code, the tables' words (any of lw_tbl by 'hts w (by decide +kernel)'), the script of L ints xs at the cell b, what the Statement gives of the start (any of its parts by flat_of_before) -/
def lw_At (p : Program) (s : State) (m : MethodId) (meth : Method) (c : Code) (b L : Nat) (xs : Nat → Int32) : Prop :=
  p.tables.exec = Jvm.exec ∧ c.code = code ∧ meth.sig.returnType = ret ∧ c.maxLocals = 4 ∧ s.vm.findClass R_law = some m.cls ∧ (∀ w ∈ lw_tbl, w.before #[Value.ref b] s = true) ∧ va_X b L xs s s.heap ∧ b < s.heap.size ∧ meth.locks = false ∧ (Jvm.Cond.and given_1 narrow_1).before #[Value.ref b] s = true
end
section
-- helpers: the good words of the tables, the claim's own classes and array classes, rows that keep the array class fixed
def gT : List Cond := lw_tbl.filter goodWord
theorem gT_tb {w : Cond} (i : Nat) (h : tables_1[i]? = some w) (hg : goodWord w = true) : w ∈ gT := List.mem_filter.mpr ⟨List.mem_append_right _ (List.mem_of_getElem? h), hg⟩
theorem gT_sl {w : Cond} (i : Nat) (h : (k2_sels lw_privs)[i]? = some w) (hg : goodWord w = true) : w ∈ gT := List.mem_filter.mpr ⟨List.mem_append_left _ (List.mem_of_getElem? h), hg⟩
theorem gT_ok {w : Cond} (h : w ∈ gT) : (w.onTables && w.keeps) = true ∨ ∃ ty, w = .arrayClass ty := good_of_word (List.mem_filter.mp h).2
theorem gT_u {ws : List Cond} (ps : List Nat) (hp : ws = ps.filterMap (fun i => tables_1[i]?)) (h : ws.all goodWord = true) : ∀ w ∈ ws, w ∈ gT := fun w hw => by
  have h1 := goodIn_r (big := tables_1) ws ps hp h w hw
  exact List.mem_filter.mpr ⟨List.mem_append_right _ h1.1, List.all_eq_true.mp h w hw⟩
theorem gV {own C : String} {idx n : Nat} {y : MethodName} {cc : ByteArray} {r : Option FieldType} (h1 : Cond.methodLink own idx y ∈ gT) (h2 : Cond.instanceMethod y ∈ gT) (h3 : Cond.selects C y y ∈ gT) (h4 : Cond.initialized C ∈ gT) (h5 : Cond.code y cc n r ∈ gT) : GoodIn gT (wsV own idx C y (.code y cc n r :: gT)) := by
  intro w hw
  have hz : w ∈ gT := by
    rcases List.mem_append.mp hw with h | h
    · simp only [List.mem_cons, List.not_mem_nil, or_false] at h
      rcases h with rfl | rfl | rfl | rfl <;> assumption
    · rcases List.mem_cons.mp h with rfl | h <;> assumption
  exact ⟨hz, gT_ok hz⟩
theorem gS {own : String} {idx n : Nat} {y : MethodName} {cc : ByteArray} {r : Option FieldType} (h1 : Cond.methodLink own idx y ∈ gT) (h2 : Cond.static y ∈ gT) (h4 : Cond.initialized y.cls ∈ gT) (h5 : Cond.code y cc n r ∈ gT) : GoodIn gT (va_wsS own idx y (.code y cc n r :: gT)) := by
  intro w hw
  have hz : w ∈ gT := by
    rcases List.mem_append.mp hw with h | h
    · simp only [List.mem_cons, List.not_mem_nil, or_false] at h
      rcases h with rfl | rfl | rfl <;> assumption
    · rcases List.mem_cons.mp h with rfl | h <;> assumption
  exact ⟨hz, gT_ok hz⟩
theorem gI {n : Nat} {y : MethodName} {cc : ByteArray} {r : Option FieldType} (h5 : Cond.code y cc n r ∈ gT) : GoodIn gT (.code y cc n r :: gT) := by
  intro w hw
  have hz : w ∈ gT := by
    rcases List.mem_cons.mp hw with rfl | h <;> assumption
  exact ⟨hz, gT_ok hz⟩
abbrev GG : Type := va_G × (ClassId × ClassId × ClassId × ClassId × ClassId × Nat)
abbrev tyL (g : GG) : List (ClassId × FieldType) := [(g.2.1, .byte), (g.2.2.1, .int), (g.2.2.2.1, .long), (g.2.2.2.2.1, .boolean), (g.2.2.2.2.2.1, .object RX9)]
abbrev kK (g : GG) (U : State) : Prop := va_K g.1 vwCl (tyL g) U
abbrev aB (g : GG) (n : Nat) (f : Nat → Int32) : va_E := .inl (g.2.1, n, .inl f)
abbrev aI (g : GG) (n : Nat) (f : Nat → Int32) : va_E := .inl (g.2.2.1, n, .inl f)
abbrev aJ (g : GG) (n : Nat) (f : Nat → Int64) : va_E := .inl (g.2.2.2.1, n, .inr (.inl f))
abbrev aZ (g : GG) (n : Nat) (f : Nat → Int32) : va_E := .inl (g.2.2.2.2.1, n, .inl f)
abbrev aO (g : GG) (n : Nat) (f : Nat → Option Nat) : va_E := .inl (g.2.2.2.2.2.1, n, .inr (.inr (.inr (.inr f))))
abbrev z0 : Nat → Int32 := fun _ => 0
abbrev zL : Nat → Int64 := fun _ => 0
abbrev zR : Nat → Option Nat := fun _ => none
section HP
variable {p : Program} {l : Launch} {e : Env} {R : Room} {s : State} {m : MethodId} {args : Array Value} {below : List Frame} {meth : Method} {c : Code} {H : Heap} {locs : List Loc} {cells slots : Nat} {Q : State → Prop}
variable {cc : ByteArray} {pc : Nat} {ls : Array Slot} {rest : List Value} {D : va_G} {cl : List vw_C} {A : Nat → Prop} {a : Nat} {tys : List (ClassId × FieldType)} {ws : va_W} {H0 : Heap}
/-- the top of the stack by another name -/
theorem p_ti {x v : Int32} (h : x = v) (k : W p l e R s m args below meth c H locs cells slots Q (F0 m pc ls (.int v :: rest))) : W p l e R s m args below meth c H locs cells slots Q (F0 m pc ls (.int x :: rest)) := h ▸ k
theorem p_tr {v : Value} {x : Nat} (h : v = .ref x) (k : W p l e R s m args below meth c H locs cells slots Q (F0 m pc ls (.ref x :: rest))) : W p l e R s m args below meth c H locs cells slots Q (F0 m pc ls (v :: rest)) := h ▸ k
theorem p_nH {gf : JFrame} (k : ∀ H1 : Heap, H1 = H → W p l e R s m args below meth c H1 locs cells slots Q gf) : W p l e R s m args below meth c H locs cells slots Q gf := k H rfl
/-- newarray where the array's class is known already -/
theorem p_newa (hexec : p.tables.exec = Jvm.exec) (hb : c.code = cc) {atype : ArrayType} (harr : (Cond.arrayClass (newarray.typeOf atype)).before args s = true) {ty : FieldType} (hty : newarray.typeOf atype = ty) (hK : va_K D cl tys s) (hP : va_P D cl ws H) (hD : va_D A ws) (hS : va_S A H0 H locs) (hA : ∀ q, H0.size ≤ q → A q)
    (t0 : Nat) {cA : ClassId} (ht : tys[t0]? = some (cA, ty)) (hra : ∀ c : ClassId, va_RA s c ty → s.vm.findClass ("[" ++ ty.toString) = some c)
    {n : Int32} {N' : Nat} {a0 : vp_A} (ha : ∀ cA : ClassId, vp_cell cA a0 = arrV cA N' (fun _ => defaultValue ty)) (hn : ¬ n < 0) (hN : n.toNatClampNeg = N') (hbytes : N' * componentBytes ty ≤ 536870912) (hcells : cells + 1 ≤ R.cells) (hslots : slots + N' ≤ R.slots) (hdg : decode cc pc = .ok (.newarray atype, 2))
    (kk : ∀ (q : Nat) (H1 : Heap), va_P D cl (ws ++ [(q, .inl (cA, a0))]) H1 → va_D A (ws ++ [(q, .inl (cA, a0))]) → va_S A H0 H1 locs →
      W p l e R s m args below meth c H1 locs (cells + 1) (slots + N') Q (F0 m (pc + 2) ls (.ref q :: rest))) : W p l e R s m args below meth c H locs cells slots Q (F0 m pc ls (.int n :: rest)) := by
  refine va_newa hexec hb harr hty hK hP hD hS hA ha hn hN hbytes hcells hslots hdg (fun q cA' H1 hK1 hP1 hD1 hS1 => ?_)
  have h1 := hra _ (hK1.2 tys.length (cA', ty) (by simp)).2
  have h2 := hra _ (hK.2 t0 _ ht).2
  cases h1.symm.trans h2
  exact kk q H1 hP1 hD1 hS1
theorem p_newq (hexec : p.tables.exec = Jvm.exec) (hb : c.code = cc) {own C : String} {index : Nat} (hown : s.vm.findClass own = some m.cls) (hclink : (Cond.classLink own index C).before args s = true) (hover : va_AO C s) (hK : va_K D cl tys s) (hP : va_P D cl ws H) (hD : va_D A ws) (hS : va_S A H0 H locs) (hA : ∀ q, H0.size ≤ q → A q)
    (t0 : Nat) {cA : ClassId} (ht : tys[t0]? = some (cA, .object C))
    {n : Int32} {N' : Nat} (hn : ¬ n < 0) (hN : n.toNatClampNeg = N') (hbytes : N' * 4 ≤ 536870912) (hcells : cells + 1 ≤ R.cells) (hslots : slots + N' ≤ R.slots) (hdg : decode cc pc = .ok (.anewarray index, 3))
    (kk : ∀ (q : Nat) (H1 : Heap), va_P D cl (ws ++ [(q, .inl (cA, N', .inr (.inr (.inr (.inr (fun _ => none))))))]) H1 → va_D A (ws ++ [(q, .inl (cA, N', .inr (.inr (.inr (.inr (fun _ => none))))))]) → va_S A H0 H1 locs →
      W p l e R s m args below meth c H1 locs (cells + 1) (slots + N') Q (F0 m (pc + 3) ls (.ref q :: rest))) : W p l e R s m args below meth c H locs cells slots Q (F0 m pc ls (.int n :: rest)) := by
  refine va_newq hexec hb hown hclink hover hK hP hD hS hA hn hN hbytes hcells hslots hdg (fun q cA' H1 hK1 hP1 hD1 hS1 => ?_)
  obtain ⟨_, _, _, _, _, h1⟩ := (hK1.2 tys.length (cA', .object C) (by simp)).2
  obtain ⟨_, _, _, _, _, h2⟩ := (hK.2 t0 _ ht).2
  cases h1.symm.trans h2
  exact kk q H1 hP1 hD1 hS1
end HP
theorem z0_u (i : Nat) : upd z0 i 0 = z0 := by
  funext j
  unfold upd
  split <;> rfl
end
section
-- the environment of the claim (nest links, the text constant), contracts in one form, rows for calls
abbrev txt : String := "man dies coin son kind reason of by from to rent all each duel with on honour draw or and not day uses spent "
def eW (a : Nat) (U : State) : Prop := va_Nw (.methodLinkNest "DuelDelays" 15 yX5_init "DuelDelays") U ∧ va_Nw (.methodLinkNest "DuelDelays" 22 yX2_init "DuelDelays") U ∧ va_Nw (.methodLinkNest "DuelDelays" 41 yX7_init "DuelDelays") U ∧ va_Nw (.methodLinkNest "DuelDelays" 48 yX8_init "DuelDelays") U ∧ va_Nw (.methodLinkNest "DuelDelays" 55 yX4_init "DuelDelays") U ∧ va_Nw (.methodLinkNest "DuelDelays" 62 yX1_init "DuelDelays") U ∧ va_Nw (.methodLinkNest "DuelDelays" 67 yX9_init "DuelDelays") U ∧ va_Nw (.methodLinkNest "DuelDelays$Land" 11 yX3_init "DuelDelays") U ∧ va_Nw (.methodLinkNest "DuelDelays$Land" 20 yX0_init "DuelDelays") U ∧ va_Nw (.methodLinkNest "DuelDelays$Land" 27 yX6_init "DuelDelays") U ∧ va_AO RX9 U ∧ vk_R "DuelDelays$Tokens" 15 txt a U
theorem eW.moved {a : Nat} {s U : State} (hW : s.WarmedH U.vm) (h : eW a s) : eW a U := by
  obtain ⟨h0, h1, h2, h3, h4, h5, h6, h7, h8, h9, h10, h11⟩ := h
  exact ⟨va_Nw.warmM hW h0, va_Nw.warmM hW h1, va_Nw.warmM hW h2, va_Nw.warmM hW h3, va_Nw.warmM hW h4, va_Nw.warmM hW h5, va_Nw.warmM hW h6, va_Nw.warmM hW h7, va_Nw.warmM hW h8, va_Nw.warmM hW h9, va_AO.moved hW.alike h10, vk_R.warm hW h11⟩
theorem eW.calling {a : Nat} {U : State} (gf : JFrame) (mk : MethodId) (av : Array Value) (h : eW a U) : eW a (U.calling gf mk av) := by
  obtain ⟨h0, h1, h2, h3, h4, h5, h6, h7, h8, h9, h10, h11⟩ := h
  exact ⟨va_Nw.same rfl rfl h0, va_Nw.same rfl rfl h1, va_Nw.same rfl rfl h2, va_Nw.same rfl rfl h3, va_Nw.same rfl rfl h4, va_Nw.same rfl rfl h5, va_Nw.same rfl rfl h6, va_Nw.same rfl rfl h7, va_Nw.same rfl rfl h8, va_Nw.same rfl rfl h9, va_AO.moved (u := U) (Vm.Alike.refl U.vm) h10, vk_R.same (u := U) rfl h11⟩
theorem eW_D_15 {a : Nat} {U : State} (h : eW a U) : va_Nw (.methodLinkNest "DuelDelays" 15 yX5_init "DuelDelays") U := h.1
theorem eW_D_22 {a : Nat} {U : State} (h : eW a U) : va_Nw (.methodLinkNest "DuelDelays" 22 yX2_init "DuelDelays") U := h.2.1
theorem eW_D_41 {a : Nat} {U : State} (h : eW a U) : va_Nw (.methodLinkNest "DuelDelays" 41 yX7_init "DuelDelays") U := h.2.2.1
theorem eW_D_48 {a : Nat} {U : State} (h : eW a U) : va_Nw (.methodLinkNest "DuelDelays" 48 yX8_init "DuelDelays") U := h.2.2.2.1
theorem eW_D_55 {a : Nat} {U : State} (h : eW a U) : va_Nw (.methodLinkNest "DuelDelays" 55 yX4_init "DuelDelays") U := h.2.2.2.2.1
theorem eW_D_62 {a : Nat} {U : State} (h : eW a U) : va_Nw (.methodLinkNest "DuelDelays" 62 yX1_init "DuelDelays") U := h.2.2.2.2.2.1
theorem eW_D_67 {a : Nat} {U : State} (h : eW a U) : va_Nw (.methodLinkNest "DuelDelays" 67 yX9_init "DuelDelays") U := h.2.2.2.2.2.2.1
theorem eW_L_11 {a : Nat} {U : State} (h : eW a U) : va_Nw (.methodLinkNest "DuelDelays$Land" 11 yX3_init "DuelDelays") U := h.2.2.2.2.2.2.2.1
theorem eW_L_20 {a : Nat} {U : State} (h : eW a U) : va_Nw (.methodLinkNest "DuelDelays$Land" 20 yX0_init "DuelDelays") U := h.2.2.2.2.2.2.2.2.1
theorem eW_L_27 {a : Nat} {U : State} (h : eW a U) : va_Nw (.methodLinkNest "DuelDelays$Land" 27 yX6_init "DuelDelays") U := h.2.2.2.2.2.2.2.2.2.1
theorem eW_ao {a : Nat} {U : State} (h : eW a U) : va_AO RX9 U := h.2.2.2.2.2.2.2.2.2.2.1
theorem eW_tx {a : Nat} {U : State} (h : eW a U) : vk_R "DuelDelays$Tokens" 15 txt a U := h.2.2.2.2.2.2.2.2.2.2.2
def kE (g : GG) (U : State) : Prop := kK g U ∧ eW g.2.2.2.2.2.2 U
theorem kE.moved {g : GG} {s U : State} (hW : s.WarmedH U.vm) (h : kE g s) : kE g U := ⟨va_K.moved hW.alike h.1, eW.moved hW h.2⟩
theorem kE.calling {g : GG} {U : State} (gf : JFrame) (mk : MethodId) (av : Array Value) (h : kE g U) : kE g (U.calling gf mk av) := ⟨va_K.moved (u := U) (U := U.calling gf mk av) (Vm.Alike.refl U.vm) h.1, eW.calling gf mk av h.2⟩
def Pst (g : GG) (sz : Nat) (ws : va_W) (X : State → Prop) : State → Prop := fun U => U.heap.size = sz ∧ va_P g.1 vwCl ws U.heap ∧ kE g U ∧ va_D (fun _ => True) ws ∧ X U
def Qst {S : Type} (g : GG) (wa : va_W) (sz : Nat) (w1 : S → va_W) : S → State → Prop := fun u t => va_P g.1 vwCl (w1 u) t.heap ∧ va_D (va_A wa sz) (w1 u)
def Qsr {S : Type} (g : GG) (wa : va_W) (sz : Nat) (ad : S → Nat) (w1 : S → va_W) : S → Nat → State → Prop := fun u r t => r = ad u ∧ va_P g.1 vwCl (w1 u) t.heap ∧ va_D (va_A wa sz) (w1 u)
abbrev nX : State → Prop := fun _ => True
theorem fm_of {α β : Type} {f : α → Option β} : ∀ {l : List α} {r : List β}, l.map f = r.map some → l.filterMap f = r
  | [], [], _ => rfl
  | [], _ :: _, h => by cases h
  | _ :: _, [], h => by cases h
  | x :: l, y :: r, h => by
    injection h with h1 h2
    rw [List.filterMap_cons_some h1, fm_of h2]
section KC
variable {p : Program} {l : Launch} {e : Env} {R : Room} {s : State} {m : MethodId} {args : Array Value} {below : List Frame} {meth : Method} {c : Code} {H : Heap} {locs : List Loc} {cells slots : Nat} {Q : State → Prop}
variable {cc : ByteArray} {pc : Nat} {ls : Array Slot} {rest : List Value} {A : Nat → Prop} {ws wc wa wr : va_W} {H0 : Heap} {g : GG} {X : State → Prop}
theorem k_pre {av : List Value} (hK : kE g s) (hP : va_P g.1 vwCl wc H) (hD : va_D (fun _ => True) wc) (hX : ∀ U : State, U.heap = H → s.WarmedH U.vm → X U) : ∀ U : State, U.heap = H → s.WarmedH U.vm → va_Pc av (Pst g H.size wc X) av.toArray U := fun U hU hW => ⟨rfl, by rw [hU], by rw [hU]; exact hP, hK.moved hW, hD, hX U hU hW⟩
theorem k_bl {av : List Value} {sz : Nat} (hXc : ∀ (U : State) (gf : JFrame) (mk : MethodId) (a : Array Value), X U → X (U.calling gf mk a)) : ∀ (a : Array Value) (U : State) (gf : JFrame) (mk : MethodId), va_Pc av (Pst g sz wc X) a U → va_Pc av (Pst g sz wc X) a (U.calling gf mk a) := fun a U gf mk q => ⟨q.1, q.2.1, q.2.2.1, q.2.2.2.1.calling gf mk a, q.2.2.2.2.1, hXc U gf mk a q.2.2.2.2.2⟩
theorem k_V {own C : String} {nL mL n index mc ms ci q0 b : Nat} {y : MethodName} {cy : ByteArray} {rt : Option FieldType} {rm : Room} {As st0 fs : List Value} {T : u_T} {N : Nat} {Qc : Array Value → State → Outcome → State → Prop} {free : Addr → Prop}
    (Sf : CallFix p m c cc nL s args gT own) (hK : kE g s) (hP : va_P g.1 vwCl ws H) (hD : va_D A ws) (isC : List Nat) (hC : isC.map (fun i => ws[i]?) = wc.map some) (hnd : va_nd isC = true)
    (hM : Met l y (.code y cy mL rt :: gT) rm (va_Pc (.ref b :: As) (Pst g H.size wc X)) Qc mc ms free) (hG : GoodIn gT (wsV own index C y (.code y cy mL rt :: gT))) (hrc : rm.cells = mc) (hrs : rm.slots = ms)
    (hd : y.cls = C ∧ y.cls ≠ "java/lang/invoke/MethodHandle" ∧ y.cls ≠ "java/lang/invoke/VarHandle" ∧ (parseMethodDescriptor y.desc).map (fun d => d.parameters.length) = some n) (hR : rm.frames + 1 ≤ R.frames ∧ 8 + (mL + 11) + rm.locals ≤ R.locals)
    (hcq : vwCl[ci]? = some (C, T, N)) (he : wc[q0]? = some (b, .inr (ci, fs))) (hXc : ∀ (U : State) (gf : JFrame) (mk : MethodId) (a : Array Value), X U → X (U.calling gf mk a)) (hX : ∀ U : State, U.heap = H → s.WarmedH U.vm → X U)
    (hst : st0 = As.reverse ++ .ref b :: rest) (hn : As.length = n) (hsz : ls.size = nL) (hW : (rest.map fun v => v.category).sum ≤ 8) (hdg : decode cc pc = .ok (.invokevirtual index, 3)) (hf : cells + mc ≤ R.cells ∧ slots + ms ≤ R.slots) :
    va_Run p l e R s m args below meth c H locs cells slots mc ms (F0 m pc ls st0) rest (Qc (.ref b :: As).toArray) free := by
  have hPc := hP.sub (ws' := wc) isC (fm_of hC)
  have hDc : va_D (fun _ => True) wc := (hD.sub (ws' := wc) isC hnd hC).weaken (fun _ _ _ _ => trivial)
  exact va_runV Sf hM (cwV n Sf.2.2.2.2 hG rfl hrc hrs hd hR) ⟨k_bl hXc, va_recv hK.1 hPc hcq he, k_pre hK hPc hDc hX⟩ rfl hn hsz hst (lv_room hW) hdg hf
theorem k_S {own : String} {nL mL n index mc ms : Nat} {y : MethodName} {cy : ByteArray} {rt : Option FieldType} {rm : Room} {As st0 : List Value} {Qc : Array Value → State → Outcome → State → Prop} {free : Addr → Prop}
    (Sf : CallFix p m c cc nL s args gT own) (hK : kE g s) (hP : va_P g.1 vwCl ws H) (hD : va_D A ws) (isC : List Nat) (hC : isC.map (fun i => ws[i]?) = wc.map some) (hnd : va_nd isC = true)
    (hM : Met l y (.code y cy mL rt :: gT) rm (va_Pc As (Pst g H.size wc X)) Qc mc ms free) (hG : GoodIn gT (va_wsS own index y (.code y cy mL rt :: gT))) (hrc : rm.cells = mc) (hrs : rm.slots = ms)
    (hd : y.cls ≠ "java/lang/invoke/MethodHandle" ∧ y.cls ≠ "java/lang/invoke/VarHandle" ∧ (parseMethodDescriptor y.desc).map (fun d => d.parameters.length) = some n) (hR : rm.frames + 1 ≤ R.frames ∧ 8 + (mL + 11) + rm.locals ≤ R.locals)
    (hXc : ∀ (U : State) (gf : JFrame) (mk : MethodId) (a : Array Value), X U → X (U.calling gf mk a)) (hX : ∀ U : State, U.heap = H → s.WarmedH U.vm → X U)
    (hst : st0 = As.reverse ++ rest) (hn : As.length = n) (hsz : ls.size = nL) (hW : (rest.map fun v => v.category).sum ≤ 8) (hdg : decode cc pc = .ok (.invokestatic index, 3)) (hf : cells + mc ≤ R.cells ∧ slots + ms ≤ R.slots) :
    va_Run p l e R s m args below meth c H locs cells slots mc ms (F0 m pc ls st0) rest (Qc As.toArray) free := by
  have hPc := hP.sub (ws' := wc) isC (fm_of hC)
  have hDc : va_D (fun _ => True) wc := (hD.sub (ws' := wc) isC hnd hC).weaken (fun _ _ _ _ => trivial)
  exact va_runS Sf hM (va_cwS n Sf.2.2.2.2 hG rfl hrc hrs hd hR) ⟨k_bl hXc, k_pre hK hPc hDc hX⟩ rfl hn hsz hst (lv_room hW) hdg hf
theorem k_I {own : String} {nL mL n index mc ms b : Nat} {y : MethodName} {cy : ByteArray} {rm : Room} {As st0 : List Value} {Qc : Array Value → State → Outcome → State → Prop} {free : Addr → Prop}
    (Sf : CallFix p m c cc nL s args gT own) (hK : kE g s) (hP : va_P g.1 vwCl ws H) (hD : va_D A ws) (isC : List Nat) (hC : isC.map (fun i => ws[i]?) = wc.map some) (hnd : va_nd isC = true)
    (hM : Met l y (.code y cy mL none :: gT) rm (va_Pc (.ref b :: As) (Pst g H.size wc X)) Qc mc ms free) (hG : GoodIn gT (.code y cy mL none :: gT)) (hini : Cond.initialized y.cls ∈ gT) (hlk : Cond.methodLink own index y ∈ gT) (him : Cond.instanceMethod y ∈ gT) (hyn : y.name = "<init>") (hrc : rm.cells = mc) (hrs : rm.slots = ms)
    (hd : y.cls ≠ "java/lang/invoke/MethodHandle" ∧ y.cls ≠ "java/lang/invoke/VarHandle" ∧ (parseMethodDescriptor y.desc).map (fun d => d.parameters.length) = some n) (hR : rm.frames + 1 ≤ R.frames ∧ 8 + (mL + 11) + rm.locals ≤ R.locals)
    (hXc : ∀ (U : State) (gf : JFrame) (mk : MethodId) (a : Array Value), X U → X (U.calling gf mk a)) (hX : ∀ U : State, U.heap = H → s.WarmedH U.vm → X U)
    (hst : st0 = As.reverse ++ .ref b :: rest) (hn : As.length = n) (hsz : ls.size = nL) (hW : (rest.map fun v => v.category).sum ≤ 8) (hdg : decode cc pc = .ok (.invokespecial index, 3)) (hf : cells + mc ≤ R.cells ∧ slots + ms ≤ R.slots) :
    va_Run p l e R s m args below meth c H locs cells slots mc ms (F0 m pc ls st0) rest (Qc (.ref b :: As).toArray) free := by
  have hPc := hP.sub (ws' := wc) isC (fm_of hC)
  have hDc : va_D (fun _ => True) wc := (hD.sub (ws' := wc) isC hnd hC).weaken (fun _ _ _ _ => trivial)
  have hT := Sf.2.2.2.2
  exact va_runI Sf hM (cwI n hT hG rfl hrc hrs (hT _ hini) (hT _ hlk) (hT _ him) hyn hd hR) ⟨k_bl hXc, k_pre hK hPc hDc hX⟩ rfl hn hsz hst (lv_room hW) hdg hf
theorem k_N {own host : String} {nL mL n index mc ms b : Nat} {y : MethodName} {cy : ByteArray} {rm : Room} {As st0 : List Value} {Qc : Array Value → State → Outcome → State → Prop} {free : Addr → Prop}
    (Sf : CallFix p m c cc nL s args gT own) (hK : kE g s) (hP : va_P g.1 vwCl ws H) (hD : va_D A ws) (isC : List Nat) (hC : isC.map (fun i => ws[i]?) = wc.map some) (hnd : va_nd isC = true)
    (hM : Met l y (.code y cy mL none :: gT) rm (va_Pc (.ref b :: As) (Pst g H.size wc X)) Qc mc ms free) (hG : GoodIn gT (.code y cy mL none :: gT)) (hini : Cond.initialized y.cls ∈ gT) (hlk : va_Nw (.methodLinkNest own index y host) s) (him : Cond.instanceMethod y ∈ gT) (hyn : y.name = "<init>") (hrc : rm.cells = mc) (hrs : rm.slots = ms)
    (hd : y.cls ≠ "java/lang/invoke/MethodHandle" ∧ y.cls ≠ "java/lang/invoke/VarHandle" ∧ (parseMethodDescriptor y.desc).map (fun d => d.parameters.length) = some n) (hR : rm.frames + 1 ≤ R.frames ∧ 8 + (mL + 11) + rm.locals ≤ R.locals)
    (hXc : ∀ (U : State) (gf : JFrame) (mk : MethodId) (a : Array Value), X U → X (U.calling gf mk a)) (hX : ∀ U : State, U.heap = H → s.WarmedH U.vm → X U)
    (hst : st0 = As.reverse ++ .ref b :: rest) (hn : As.length = n) (hsz : ls.size = nL) (hW : (rest.map fun v => v.category).sum ≤ 8) (hdg : decode cc pc = .ok (.invokespecial index, 3)) (hf : cells + mc ≤ R.cells ∧ slots + ms ≤ R.slots) :
    va_Run p l e R s m args below meth c H locs cells slots mc ms (F0 m pc ls st0) rest (Qc (.ref b :: As).toArray) free := by
  have hPc := hP.sub (ws' := wc) isC (fm_of hC)
  have hDc : va_D (fun _ => True) wc := (hD.sub (ws' := wc) isC hnd hC).weaken (fun _ _ _ _ => trivial)
  have hT := Sf.2.2.2.2
  exact va_runIN Sf hM ⟨va_cnB n hT hG rfl hrc hrs hlk (hT _ hini) hd hR, hyn, hT _ him⟩ ⟨k_bl hXc, k_pre hK hPc hDc hX⟩ rfl hn hsz hst (lv_room hW) hdg hf
theorem k_i {S : Type} {post : Int32 → S → Prop} {w1 : S → va_W} {mc ms : Nat} {st0 : List Value} {a : Array Value} (hr : va_Run p l e R s m args below meth c H locs cells slots mc ms (F0 m pc ls st0) rest (va_Qi post (Qst g wa H.size w1) (va_A wa H.size) a) (va_A wa H.size))
    (hP : va_P g.1 vwCl ws H) (hD : va_D A ws) (hS : va_S A H0 H locs) (hA : ∀ q, H0.size ≤ q → A q) (isA isR : List Nat) (hC : isA.map (fun i => ws[i]?) = wa.map some) (hRr : isR.map (fun i => ws[i]?) = wr.map some) (hn : va_nd isR = true) (hdis : ∀ i ∈ isR, i ∉ isA)
    (kk : ∀ (r : Int32) (u : S) (H1 : Heap) (locs1 : List Loc), post r u → va_P g.1 vwCl (wr ++ w1 u) H1 → va_D A (wr ++ w1 u) → va_S A H0 H1 locs1 → W p l e R s m args below meth c H1 locs1 (cells + mc) (slots + ms) Q (F0 m (pc + 3) ls (.int r :: rest))) : W p l e R s m args below meth c H locs cells slots Q (F0 m pc ls st0) := by
  have hF := va_free (wc := wa) hD hS hA isA hC
  refine va_calli hr hS (fun q _ h => hF q h) hF (fun r u t H1 locs1 ht hvm hw hB hz1 hk1 hS1 => ?_)
  obtain ⟨hP1, hD1⟩ := hB
  rw [ht] at hP1
  obtain ⟨hP2, hD2⟩ := va_join (wr := wr) (w1 := w1 u) hP hD isA isR hC hRr hn hdis hk1 hF hP1 hD1
  exact kk r u H1 locs1 hw hP2 hD2 hS1
theorem k_l {S : Type} {post : Int64 → S → Prop} {w1 : S → va_W} {mc ms : Nat} {st0 : List Value} {a : Array Value} (hr : va_Run p l e R s m args below meth c H locs cells slots mc ms (F0 m pc ls st0) rest (va_Ql post (Qst g wa H.size w1) (va_A wa H.size) a) (va_A wa H.size))
    (hP : va_P g.1 vwCl ws H) (hD : va_D A ws) (hS : va_S A H0 H locs) (hA : ∀ q, H0.size ≤ q → A q) (isA isR : List Nat) (hC : isA.map (fun i => ws[i]?) = wa.map some) (hRr : isR.map (fun i => ws[i]?) = wr.map some) (hn : va_nd isR = true) (hdis : ∀ i ∈ isR, i ∉ isA)
    (kk : ∀ (r : Int64) (u : S) (H1 : Heap) (locs1 : List Loc), post r u → va_P g.1 vwCl (wr ++ w1 u) H1 → va_D A (wr ++ w1 u) → va_S A H0 H1 locs1 → W p l e R s m args below meth c H1 locs1 (cells + mc) (slots + ms) Q (F0 m (pc + 3) ls (.long r :: rest))) : W p l e R s m args below meth c H locs cells slots Q (F0 m pc ls st0) := by
  have hF := va_free (wc := wa) hD hS hA isA hC
  refine va_calll hr hS (fun q _ h => hF q h) hF (fun r u t H1 locs1 ht hvm hw hB hz1 hk1 hS1 => ?_)
  obtain ⟨hP1, hD1⟩ := hB
  rw [ht] at hP1
  obtain ⟨hP2, hD2⟩ := va_join (wr := wr) (w1 := w1 u) hP hD isA isR hC hRr hn hdis hk1 hF hP1 hD1
  exact kk r u H1 locs1 hw hP2 hD2 hS1
theorem k_v {S : Type} {post : S → Prop} {w1 : S → va_W} {mc ms : Nat} {st0 : List Value} {a : Array Value} (hr : va_Run p l e R s m args below meth c H locs cells slots mc ms (F0 m pc ls st0) rest (va_Qv post (Qst g wa H.size w1) (va_A wa H.size) a) (va_A wa H.size))
    (hP : va_P g.1 vwCl ws H) (hD : va_D A ws) (hS : va_S A H0 H locs) (hA : ∀ q, H0.size ≤ q → A q) (isA isR : List Nat) (hC : isA.map (fun i => ws[i]?) = wa.map some) (hRr : isR.map (fun i => ws[i]?) = wr.map some) (hn : va_nd isR = true) (hdis : ∀ i ∈ isR, i ∉ isA)
    (kk : ∀ (u : S) (H1 : Heap) (locs1 : List Loc), post u → va_P g.1 vwCl (wr ++ w1 u) H1 → va_D A (wr ++ w1 u) → va_S A H0 H1 locs1 → W p l e R s m args below meth c H1 locs1 (cells + mc) (slots + ms) Q (F0 m (pc + 3) ls rest)) : W p l e R s m args below meth c H locs cells slots Q (F0 m pc ls st0) := by
  have hF := va_free (wc := wa) hD hS hA isA hC
  refine va_callv hr hS (fun q _ h => hF q h) hF (fun u t H1 locs1 ht hvm hw hB hz1 hk1 hS1 => ?_)
  obtain ⟨hP1, hD1⟩ := hB
  rw [ht] at hP1
  obtain ⟨hP2, hD2⟩ := va_join (wr := wr) (w1 := w1 u) hP hD isA isR hC hRr hn hdis hk1 hF hP1 hD1
  exact kk u H1 locs1 hw hP2 hD2 hS1
theorem k_r {S : Type} {post : S → Prop} {ad : S → Nat} {w1 : S → va_W} {mc ms : Nat} {st0 : List Value} {a : Array Value} (hr : va_Run p l e R s m args below meth c H locs cells slots mc ms (F0 m pc ls st0) rest (va_Qr post (Qsr g wa H.size ad w1) (va_A wa H.size) a) (va_A wa H.size))
    (hP : va_P g.1 vwCl ws H) (hD : va_D A ws) (hS : va_S A H0 H locs) (hA : ∀ q, H0.size ≤ q → A q) (isA isR : List Nat) (hC : isA.map (fun i => ws[i]?) = wa.map some) (hRr : isR.map (fun i => ws[i]?) = wr.map some) (hn : va_nd isR = true) (hdis : ∀ i ∈ isR, i ∉ isA)
    (kk : ∀ (u : S) (H1 : Heap) (locs1 : List Loc), post u → va_P g.1 vwCl (wr ++ w1 u) H1 → va_D A (wr ++ w1 u) → va_S A H0 H1 locs1 → W p l e R s m args below meth c H1 locs1 (cells + mc) (slots + ms) Q (F0 m (pc + 3) ls (.ref (ad u) :: rest))) : W p l e R s m args below meth c H locs cells slots Q (F0 m pc ls st0) := by
  have hF := va_free (wc := wa) hD hS hA isA hC
  refine va_callr hr hS (fun q _ h => hF q h) hF (fun u ra t H1 locs1 ht hvm hw hB hz1 hk1 hS1 => ?_)
  obtain ⟨rfl, hP1, hD1⟩ := hB
  rw [ht] at hP1
  obtain ⟨hP2, hD2⟩ := va_join (wr := wr) (w1 := w1 u) hP hD isA isR hC hRr hn hdis hk1 hF hP1 hD1
  exact kk u H1 locs1 hw hP2 hD2 hS1
/-- a loop counted up: at its head, after i rounds, Inv i -/
theorem k_loop (n head : Nat) (Inv : Nat → Heap → List Loc → Array Slot → Prop) (cf sf : Nat → Nat)
    (hstep : ∀ i, i < n → ∀ (H : Heap) (locs : List Loc) (ls : Array Slot), Inv i H locs ls → (∀ (H : Heap) (locs : List Loc) (ls : Array Slot), Inv (i + 1) H locs ls → W p l e R s m args below meth c H locs (cf (i + 1)) (sf (i + 1)) Q (F0 m head ls [])) → W p l e R s m args below meth c H locs (cf i) (sf i) Q (F0 m head ls []))
    (hend : ∀ (H : Heap) (locs : List Loc) (ls : Array Slot), Inv n H locs ls → W p l e R s m args below meth c H locs (cf n) (sf n) Q (F0 m head ls [])) (i0 : Nat) (hi0 : i0 ≤ n) (h0 : Inv i0 H locs ls) : W p l e R s m args below meth c H locs (cf i0) (sf i0) Q (F0 m head ls []) := by
  suffices hh : ∀ (k i : Nat), i + k = n → ∀ (H : Heap) (locs : List Loc) (ls : Array Slot), Inv i H locs ls → W p l e R s m args below meth c H locs (cf i) (sf i) Q (F0 m head ls []) from hh (n - i0) i0 (by omega) H locs ls h0
  intro k
  induction k with
  | zero => intro i hi H locs ls h; obtain rfl : i = n := by omega
            exact hend H locs ls h
  | succ k ih => intro i hi H locs ls h; exact hstep i (by omega) H locs ls h (fun H locs ls h => ih (i + 1) (by omega) H locs ls h)
theorem k_iR {S : Type} {post : Int32 → S → Prop} {mc ms : Nat} {st0 : List Value} {a : Array Value} (hr : va_Run p l e R s m args below meth c H locs cells slots mc ms (F0 m pc ls st0) rest (va_Qi post (Qst g [] H.size (fun _ => [])) (va_A [] H.size) a) (va_A [] H.size))
    (hP : va_P g.1 vwCl ws H) (hS : va_S A H0 H locs) (hA : ∀ q, H0.size ≤ q → A q)
    (kk : ∀ (r : Int32) (u : S) (H1 : Heap) (locs1 : List Loc), post r u → va_P g.1 vwCl ws H1 → va_S A H0 H1 locs1 → W p l e R s m args below meth c H1 locs1 (cells + mc) (slots + ms) Q (F0 m (pc + 3) ls (.int r :: rest))) : W p l e R s m args below meth c H locs cells slots Q (F0 m pc ls st0) := by
  have hF : ∀ q, va_A [] H.size q → A q := fun q h => h.elim (fun ⟨k, e, h⟩ => by simp at h) (fun h => hA q (Nat.le_trans hS.1 h))
  refine va_calli hr hS (fun q _ h => hF q h) hF (fun r u t H1 locs1 ht hvm hw hB hz1 hk1 hS1 => ?_)
  refine kk r u H1 locs1 hw (hP.kept (fun k x hx => hk1 x.1 ((hP k x hx).lt) (fun h => h.elim (fun ⟨k, e, h⟩ => by simp at h) (fun h => absurd ((hP k x hx).lt) (Nat.not_lt.mpr h))))) hS1
theorem k_lR {S : Type} {post : Int64 → S → Prop} {mc ms : Nat} {st0 : List Value} {a : Array Value} (hr : va_Run p l e R s m args below meth c H locs cells slots mc ms (F0 m pc ls st0) rest (va_Ql post (Qst g [] H.size (fun _ => [])) (va_A [] H.size) a) (va_A [] H.size))
    (hP : va_P g.1 vwCl ws H) (hS : va_S A H0 H locs) (hA : ∀ q, H0.size ≤ q → A q)
    (kk : ∀ (r : Int64) (u : S) (H1 : Heap) (locs1 : List Loc), post r u → va_P g.1 vwCl ws H1 → va_S A H0 H1 locs1 → W p l e R s m args below meth c H1 locs1 (cells + mc) (slots + ms) Q (F0 m (pc + 3) ls (.long r :: rest))) : W p l e R s m args below meth c H locs cells slots Q (F0 m pc ls st0) := by
  have hF : ∀ q, va_A [] H.size q → A q := fun q h => h.elim (fun ⟨k, e, h⟩ => by simp at h) (fun h => hA q (Nat.le_trans hS.1 h))
  refine va_calll hr hS (fun q _ h => hF q h) hF (fun r u t H1 locs1 ht hvm hw hB hz1 hk1 hS1 => ?_)
  refine kk r u H1 locs1 hw (hP.kept (fun k x hx => hk1 x.1 ((hP k x hx).lt) (fun h => h.elim (fun ⟨k, e, h⟩ => by simp at h) (fun h => absurd ((hP k x hx).lt) (Nat.not_lt.mpr h))))) hS1
theorem k_vR {S : Type} {post : S → Prop} {mc ms : Nat} {st0 : List Value} {a : Array Value} (hr : va_Run p l e R s m args below meth c H locs cells slots mc ms (F0 m pc ls st0) rest (va_Qv post (Qst g [] H.size (fun _ => [])) (va_A [] H.size) a) (va_A [] H.size))
    (hP : va_P g.1 vwCl ws H) (hS : va_S A H0 H locs) (hA : ∀ q, H0.size ≤ q → A q)
    (kk : ∀ (u : S) (H1 : Heap) (locs1 : List Loc), post u → va_P g.1 vwCl ws H1 → va_S A H0 H1 locs1 → W p l e R s m args below meth c H1 locs1 (cells + mc) (slots + ms) Q (F0 m (pc + 3) ls rest)) : W p l e R s m args below meth c H locs cells slots Q (F0 m pc ls st0) := by
  have hF : ∀ q, va_A [] H.size q → A q := fun q h => h.elim (fun ⟨k, e, h⟩ => by simp at h) (fun h => hA q (Nat.le_trans hS.1 h))
  refine va_callv hr hS (fun q _ h => hF q h) hF (fun u t H1 locs1 ht hvm hw hB hz1 hk1 hS1 => ?_)
  refine kk u H1 locs1 hw (hP.kept (fun k x hx => hk1 x.1 ((hP k x hx).lt) (fun h => h.elim (fun ⟨k, e, h⟩ => by simp at h) (fun h => absurd ((hP k x hx).lt) (Nat.not_lt.mpr h))))) hS1
end KC
theorem zshr (y : Int32) : (0 : Int32) >>> (y &&& 31) = 0 := by
  apply Int32.toBitVec_inj.1
  simp
theorem tsplit (x : Int32) (n : Nat) (hn : n < 2 ^ 31) : (x.toInt < 0 ∨ (n : Int) ≤ x.toInt) ∨ ∃ j : Nat, j < n ∧ x = nI j := by
  rcases pk_ix x hn with h | h | h
  · exact Or.inl (Or.inl (by simpa using Int32.lt_iff_toInt_lt.mp h))
  · refine Or.inl (Or.inr ?_)
    have h1 := Int32.le_iff_toInt_le.mp h
    rwa [nI_toInt hn] at h1
  · exact Or.inr h
theorem z0_c (sp dp n : Nat) : va_cpy z0 z0 sp dp n = z0 := by
  funext j
  unfold va_cpy
  split <;> rfl
theorem nz_0 : vp_nar .boolean 0 = 0 := by rfl
def Fr (b n : Int32) : Int32 := if 0 ≤ n ∧ n ≤ b then n else -1
def Fz (b n : Int32) : Int32 := if 0 ≤ n ∧ n ≤ b then 0 else -1
theorem cpy_n (f g : Nat → Int32) (sp dp : Nat) : va_cpy f g sp dp 0 = g := by
  funext j
  unfold va_cpy
  rw [if_neg (by omega)]
end
section
set_option maxRecDepth 20000 in
theorem inF_X0 : ∀ w ∈ u_ws RX0 TX0 8, w ∈ gT := gT_u [212, 214, 216, 218, 220, 222, 224, 226] (by decide +kernel) (by decide +kernel)
set_option maxRecDepth 20000 in
theorem inF_X1 : ∀ w ∈ u_ws RX1 TX1 2, w ∈ gT := gT_u [438, 440] (by decide +kernel) (by decide +kernel)
set_option maxRecDepth 20000 in
theorem inF_X2 : ∀ w ∈ u_ws RX2 TX2 9, w ∈ gT := gT_u [315, 317, 319, 321, 323, 325, 327, 329, 331] (by decide +kernel) (by decide +kernel)
set_option maxRecDepth 20000 in
theorem inF_X3 : ∀ w ∈ u_ws RX3 TX3 5, w ∈ gT := gT_u [182, 184, 186, 188, 190] (by decide +kernel) (by decide +kernel)
set_option maxRecDepth 20000 in
theorem inF_X5 : ∀ w ∈ u_ws RX5 TX5 7, w ∈ gT := gT_u [136, 138, 140, 142, 144, 146, 148] (by decide +kernel) (by decide +kernel)
set_option maxRecDepth 20000 in
theorem inF_X6 : ∀ w ∈ u_ws RX6 TX6 8, w ∈ gT := gT_u [267, 269, 271, 273, 275, 277, 279, 281] (by decide +kernel) (by decide +kernel)
set_option maxRecDepth 20000 in
theorem inF_X8 : ∀ w ∈ u_ws RX8 TX8 6, w ∈ gT := gT_u [394, 396, 398, 400, 402, 404] (by decide +kernel) (by decide +kernel)
set_option maxRecDepth 20000 in
theorem inF_X9 : ∀ w ∈ u_ws RX9 TX9 14, w ∈ gT := gT_u [478, 480, 482, 484, 486, 488, 490, 492, 494, 496, 498, 500, 502, 504] (by decide +kernel) (by decide +kernel)
set_option maxRecDepth 20000 in
theorem inF_X10 : ∀ w ∈ u_ws RX10 TX10 8, w ∈ gT := gT_u [108, 110, 112, 114, 116, 118, 120, 122] (by decide +kernel) (by decide +kernel)
set_option maxRecDepth 20000 in
theorem inF_X11 : ∀ w ∈ u_ws RX11 TX11 14, w ∈ gT := gT_u [535, 537, 539, 541, 543, 545, 547, 549, 551, 553, 555, 557, 559, 561] (by decide +kernel) (by decide +kernel)
theorem bw_0 : Cond.fieldLink RX3 25 "DuelDelays$Men" "count" "I" ∈ gT := gT_tb 164 (by decide +kernel) (by decide +kernel)
theorem bw_1 : Cond.code yX3_has cX3_has 2 (some .boolean) ∈ gT := gT_tb 846 (by decide +kernel) (by decide +kernel)
theorem bw_2 : Cond.fieldLink RX6 34 "DuelDelays$Reasons" "count" "I" ∈ gT := gT_tb 235 (by decide +kernel) (by decide +kernel)
theorem bw_3 : Cond.code yX6_has cX6_has 2 (some .boolean) ∈ gT := gT_tb 880 (by decide +kernel) (by decide +kernel)
theorem bw_4 : Cond.fieldLink RX9 63 "DuelDelays$State" "duels" "I" ∈ gT := gT_tb 458 (by decide +kernel) (by decide +kernel)
theorem bw_5 : Cond.code yX9_hasDuel cX9_hasDuel 2 (some .boolean) ∈ gT := gT_tb 858 (by decide +kernel) (by decide +kernel)
theorem bw_6 : Cond.code yX9_firstOpen cX9_firstOpen 3 (some .int) ∈ gT := gT_tb 960 (by decide +kernel) (by decide +kernel)
theorem bw_7 : Cond.fieldLink RX8 24 "DuelDelays$Sights" "count" "I" ∈ gT := gT_tb 388 (by decide +kernel) (by decide +kernel)
theorem bw_8 : Cond.code yX8_takeBack cX8_takeBack 2 (some .boolean) ∈ gT := gT_tb 1261 (by decide +kernel) (by decide +kernel)
theorem bw_9 : Cond.fieldLink RX1 15 "DuelDelays$Heap" "count" "I" ∈ gT := gT_tb 434 (by decide +kernel) (by decide +kernel)
theorem bw_10 : Cond.code yX1_clear cX1_clear 1 none ∈ gT := gT_tb 834 (by decide +kernel) (by decide +kernel)
theorem bw_11 : Cond.code yX8_clear cX8_clear 1 none ∈ gT := gT_tb 830 (by decide +kernel) (by decide +kernel)
theorem bw_12 : Cond.code yX11_isSide cX11_isSide 1 (some .boolean) ∈ gT := gT_tb 923 (by decide +kernel) (by decide +kernel)
theorem bw_13 : Cond.fieldLink RX11 23 "DuelDelays" "land" "LDuelDelays$Land;" ∈ gT := gT_tb 524 (by decide +kernel) (by decide +kernel)
theorem bw_14 : Cond.fieldLink RX11 97 "DuelDelays$Land" "men" "LDuelDelays$Men;" ∈ gT := gT_tb 288 (by decide +kernel) (by decide +kernel)
theorem bw_15 : Cond.methodLink RX11 112 yX3_has ∈ gT := gT_tb 843 (by decide +kernel) (by decide +kernel)
theorem bw_16 : Cond.instanceMethod yX3_has ∈ gT := gT_tb 844 (by decide +kernel) (by decide +kernel)
theorem bw_17 : Cond.selects RX3 yX3_has yX3_has ∈ gT := gT_tb 845 (by decide +kernel) (by decide +kernel)
theorem bw_18 : Cond.initialized RX3 ∈ gT := gT_tb 9 (by decide +kernel) (by decide +kernel)
theorem bw_19 : Cond.code yX11_man cX11_man 4 (some .int) ∈ gT := gT_tb 842 (by decide +kernel) (by decide +kernel)
theorem bw_20 : Cond.fieldLink RX11 32 "DuelDelays" "states" "[LDuelDelays$State;" ∈ gT := gT_tb 526 (by decide +kernel) (by decide +kernel)
theorem bw_21 : Cond.fieldLink RX11 84 "DuelDelays" "current" "I" ∈ gT := gT_tb 527 (by decide +kernel) (by decide +kernel)
theorem bw_22 : Cond.methodLink RX11 132 yX9_hasDuel ∈ gT := gT_tb 855 (by decide +kernel) (by decide +kernel)
theorem bw_23 : Cond.instanceMethod yX9_hasDuel ∈ gT := gT_tb 856 (by decide +kernel) (by decide +kernel)
theorem bw_24 : Cond.selects RX9 yX9_hasDuel yX9_hasDuel ∈ gT := gT_tb 857 (by decide +kernel) (by decide +kernel)
theorem bw_25 : Cond.initialized RX9 ∈ gT := gT_tb 16 (by decide +kernel) (by decide +kernel)
theorem bw_26 : Cond.code yX11_duel cX11_duel 4 (some .int) ∈ gT := gT_tb 854 (by decide +kernel) (by decide +kernel)
theorem bw_27 : Cond.fieldLink RX11 157 "DuelDelays$Land" "reasons" "LDuelDelays$Reasons;" ∈ gT := gT_tb 296 (by decide +kernel) (by decide +kernel)
theorem bw_28 : Cond.methodLink RX11 161 yX6_has ∈ gT := gT_tb 877 (by decide +kernel) (by decide +kernel)
theorem bw_29 : Cond.instanceMethod yX6_has ∈ gT := gT_tb 878 (by decide +kernel) (by decide +kernel)
theorem bw_30 : Cond.selects RX6 yX6_has yX6_has ∈ gT := gT_tb 879 (by decide +kernel) (by decide +kernel)
theorem bw_31 : Cond.initialized RX6 ∈ gT := gT_tb 11 (by decide +kernel) (by decide +kernel)
theorem bw_32 : Cond.code yX11_reason cX11_reason 5 (some .int) ∈ gT := gT_tb 876 (by decide +kernel) (by decide +kernel)
theorem bw_33 : Cond.code yX11_worth cX11_worth 5 (some .int) ∈ gT := gT_tb 899 (by decide +kernel) (by decide +kernel)
theorem bw_34 : Cond.code yX11_may cX11_may 4 (some .int) ∈ gT := gT_tb 920 (by decide +kernel) (by decide +kernel)
theorem bw_35 : Cond.methodLink RX11 200 yX9_firstOpen ∈ gT := gT_tb 957 (by decide +kernel) (by decide +kernel)
theorem bw_36 : Cond.instanceMethod yX9_firstOpen ∈ gT := gT_tb 958 (by decide +kernel) (by decide +kernel)
theorem bw_37 : Cond.selects RX9 yX9_firstOpen yX9_firstOpen ∈ gT := gT_tb 959 (by decide +kernel) (by decide +kernel)
theorem bw_38 : Cond.code yX11_next cX11_next 4 (some .int) ∈ gT := gT_tb 956 (by decide +kernel) (by decide +kernel)
theorem bw_39 : Cond.code yX11_heir cX11_heir 2 (some .int) ∈ gT := gT_tb 964 (by decide +kernel) (by decide +kernel)
theorem bw_40 : Cond.code yX11_his cX11_his 6 (some .int) ∈ gT := gT_tb 972 (by decide +kernel) (by decide +kernel)
theorem bw_41 : Cond.code yX11_comes cX11_comes 6 (some .int) ∈ gT := gT_tb 980 (by decide +kernel) (by decide +kernel)
theorem bw_42 : Cond.code yX11_put cX11_put 6 (some .int) ∈ gT := gT_tb 984 (by decide +kernel) (by decide +kernel)
theorem bw_43 : Cond.code yX11_rent cX11_rent 6 (some .int) ∈ gT := gT_tb 1011 (by decide +kernel) (by decide +kernel)
theorem bw_44 : Cond.code yX11_strike cX11_strike 2 (some .boolean) ∈ gT := gT_tb 1016 (by decide +kernel) (by decide +kernel)
theorem bw_45 : Cond.code yX11_insult cX11_insult 5 (some .int) ∈ gT := gT_tb 1020 (by decide +kernel) (by decide +kernel)
theorem bw_46 : Cond.code yX11_undo cX11_undo 1 (some .boolean) ∈ gT := gT_tb 1048 (by decide +kernel) (by decide +kernel)
theorem bw_47 : Cond.fieldLink RX11 87 "DuelDelays" "newest" "I" ∈ gT := gT_tb 528 (by decide +kernel) (by decide +kernel)
theorem bw_48 : Cond.code yX11_redo cX11_redo 1 (some .boolean) ∈ gT := gT_tb 1052 (by decide +kernel) (by decide +kernel)
theorem bw_49 : Cond.code yX11_late cX11_late 4 (some .int) ∈ gT := gT_tb 1132 (by decide +kernel) (by decide +kernel)
theorem bw_50 : Cond.methodLink RX11 193 yX11_isSide ∈ gT := gT_tb 921 (by decide +kernel) (by decide +kernel)
theorem bw_51 : Cond.static yX11_isSide ∈ gT := gT_tb 922 (by decide +kernel) (by decide +kernel)
theorem bw_52 : Cond.initialized yX11_isSide.cls ∈ gT := gT_tb 1 (by decide +kernel) (by decide +kernel)
theorem bw_53 : Cond.code yX11_last cX11_last 4 (some .int) ∈ gT := gT_tb 1141 (by decide +kernel) (by decide +kernel)
theorem bw_54 : Cond.code yX11_shun cX11_shun 6 (some .int) ∈ gT := gT_tb 1154 (by decide +kernel) (by decide +kernel)
theorem bw_55 : Cond.code yX11_clash cX11_clash 3 (some .int) ∈ gT := gT_tb 1173 (by decide +kernel) (by decide +kernel)
theorem bw_56 : Cond.fieldLink RX11 63 "DuelDelays" "heap" "LDuelDelays$Heap;" ∈ gT := gT_tb 534 (by decide +kernel) (by decide +kernel)
theorem bw_57 : Cond.fieldLink RX11 307 "DuelDelays$Heap" "count" "I" ∈ gT := gT_tb 435 (by decide +kernel) (by decide +kernel)
theorem bw_58 : Cond.code yX11_lies cX11_lies 2 (some .int) ∈ gT := gT_tb 1233 (by decide +kernel) (by decide +kernel)
theorem bw_59 : Cond.fieldLink RX11 311 "DuelDelays$State" "lines" "I" ∈ gT := gT_tb 462 (by decide +kernel) (by decide +kernel)
theorem bw_60 : Cond.code yX11_log cX11_log 4 (some .int) ∈ gT := gT_tb 1237 (by decide +kernel) (by decide +kernel)
theorem bw_61 : Cond.code yX11_began cX11_began 4 (some .int) ∈ gT := gT_tb 1245 (by decide +kernel) (by decide +kernel)
theorem bw_62 : Cond.code yX11_sight cX11_sight 3 (some .int) ∈ gT := gT_tb 1249 (by decide +kernel) (by decide +kernel)
theorem bw_63 : Cond.fieldLink RX11 49 "DuelDelays" "sights" "LDuelDelays$Sights;" ∈ gT := gT_tb 532 (by decide +kernel) (by decide +kernel)
theorem bw_64 : Cond.methodLink RX11 320 yX8_takeBack ∈ gT := gT_tb 1258 (by decide +kernel) (by decide +kernel)
theorem bw_65 : Cond.instanceMethod yX8_takeBack ∈ gT := gT_tb 1259 (by decide +kernel) (by decide +kernel)
theorem bw_66 : Cond.selects RX8 yX8_takeBack yX8_takeBack ∈ gT := gT_tb 1260 (by decide +kernel) (by decide +kernel)
theorem bw_67 : Cond.initialized RX8 ∈ gT := gT_tb 13 (by decide +kernel) (by decide +kernel)
theorem bw_68 : Cond.code yX11_untell cX11_untell 2 (some .boolean) ∈ gT := gT_tb 1257 (by decide +kernel) (by decide +kernel)
theorem bw_69 : Cond.fieldLink RX11 94 "DuelDelays" "fullBoxes" "I" ∈ gT := gT_tb 530 (by decide +kernel) (by decide +kernel)
theorem bw_70 : Cond.code yX11_back cX11_back 2 (some .int) ∈ gT := gT_tb 1282 (by decide +kernel) (by decide +kernel)
theorem bw_71 : Cond.methodLink RX11 93 yX1_clear ∈ gT := gT_tb 831 (by decide +kernel) (by decide +kernel)
theorem bw_72 : Cond.instanceMethod yX1_clear ∈ gT := gT_tb 832 (by decide +kernel) (by decide +kernel)
theorem bw_73 : Cond.selects RX1 yX1_clear yX1_clear ∈ gT := gT_tb 833 (by decide +kernel) (by decide +kernel)
theorem bw_74 : Cond.initialized RX1 ∈ gT := gT_tb 15 (by decide +kernel) (by decide +kernel)
theorem bw_75 : Cond.code yX11_life cX11_life 7 (some .int) ∈ gT := gT_tb 1056 (by decide +kernel) (by decide +kernel)
theorem bw_76 : Cond.code yX11_hire cX11_hire 9 (some .int) ∈ gT := gT_tb 1160 (by decide +kernel) (by decide +kernel)
theorem bw_77 : Cond.code yX11_part cX11_part 3 (some .int) ∈ gT := gT_tb 1185 (by decide +kernel) (by decide +kernel)
theorem bw_78 : Cond.code yX11_falses cX11_falses 5 (some .int) ∈ gT := gT_tb 1270 (by decide +kernel) (by decide +kernel)
theorem bw_79 : Cond.code yJ7_fill_53178 cJ7_fill_53178 4 none ∈ gT := gT_tb 516 (by decide +kernel) (by decide +kernel)
theorem bw_80 : Cond.fieldLink RX0 25 "DuelDelays$Formulas" "count" "I" ∈ gT := gT_tb 200 (by decide +kernel) (by decide +kernel)
theorem bw_81 : Cond.fieldLink RX0 29 "DuelDelays$Formulas" "units" "I" ∈ gT := gT_tb 203 (by decide +kernel) (by decide +kernel)
theorem bw_82 : Cond.fieldLink RX0 32 "DuelDelays$Formulas" "length" "I" ∈ gT := gT_tb 208 (by decide +kernel) (by decide +kernel)
theorem bw_83 : Cond.code yX0_clear cX0_clear 1 none ∈ gT := gT_tb 591 (by decide +kernel) (by decide +kernel)
theorem bw_84 : Cond.fieldLink RX2 12 "DuelDelays$Land" "men" "LDuelDelays$Men;" ∈ gT := gT_tb 284 (by decide +kernel) (by decide +kernel)
theorem bw_85 : Cond.fieldLink RX2 46 "DuelDelays$Men" "count" "I" ∈ gT := gT_tb 163 (by decide +kernel) (by decide +kernel)
theorem bw_86 : Cond.fieldLink RX2 21 "DuelDelays$Land" "formulas" "LDuelDelays$Formulas;" ∈ gT := gT_tb 289 (by decide +kernel) (by decide +kernel)
theorem bw_87 : Cond.methodLink RX2 49 yX0_clear ∈ gT := gT_tb 588 (by decide +kernel) (by decide +kernel)
theorem bw_88 : Cond.instanceMethod yX0_clear ∈ gT := gT_tb 589 (by decide +kernel) (by decide +kernel)
theorem bw_89 : Cond.selects RX0 yX0_clear yX0_clear ∈ gT := gT_tb 590 (by decide +kernel) (by decide +kernel)
theorem bw_90 : Cond.initialized RX0 ∈ gT := gT_tb 10 (by decide +kernel) (by decide +kernel)
theorem bw_91 : Cond.fieldLink RX2 28 "DuelDelays$Land" "reasons" "LDuelDelays$Reasons;" ∈ gT := gT_tb 292 (by decide +kernel) (by decide +kernel)
theorem bw_92 : Cond.fieldLink RX2 52 "DuelDelays$Reasons" "count" "I" ∈ gT := gT_tb 236 (by decide +kernel) (by decide +kernel)
theorem bw_93 : Cond.fieldLink RX2 53 "DuelDelays$Land" "duels" "I" ∈ gT := gT_tb 298 (by decide +kernel) (by decide +kernel)
theorem bw_94 : Cond.fieldLink RX2 39 "DuelDelays$Land" "honour" "I" ∈ gT := gT_tb 307 (by decide +kernel) (by decide +kernel)
theorem bw_95 : Cond.fieldLink RX2 56 "DuelDelays$Land" "draw" "I" ∈ gT := gT_tb 311 (by decide +kernel) (by decide +kernel)
theorem bw_96 : Cond.fieldLink RX2 43 "DuelDelays$Land" "usesOfKind" "[I" ∈ gT := gT_tb 313 (by decide +kernel) (by decide +kernel)
theorem bw_97 : Cond.methodLink RX2 59 yJ7_fill_53178 ∈ gT := gT_tb 592 (by decide +kernel) (by decide +kernel)
theorem bw_98 : Cond.static yJ7_fill_53178 ∈ gT := gT_tb 515 (by decide +kernel) (by decide +kernel)
theorem bw_99 : Cond.initialized yJ7_fill_53178.cls ∈ gT := gT_tb 18 (by decide +kernel) (by decide +kernel)
theorem bw_100 : Cond.code yX2_clear cX2_clear 1 none ∈ gT := gT_tb 587 (by decide +kernel) (by decide +kernel)
theorem bw_101 : Cond.fieldLink RX9 33 "DuelDelays$State" "day" "I" ∈ gT := gT_tb 448 (by decide +kernel) (by decide +kernel)
theorem bw_102 : Cond.fieldLink RX9 37 "DuelDelays$Land" "draw" "I" ∈ gT := gT_tb 310 (by decide +kernel) (by decide +kernel)
theorem bw_103 : Cond.fieldLink RX9 42 "DuelDelays$State" "seed" "I" ∈ gT := gT_tb 450 (by decide +kernel) (by decide +kernel)
theorem bw_104 : Cond.fieldLink RX9 45 "DuelDelays$Land" "men" "LDuelDelays$Men;" ∈ gT := gT_tb 285 (by decide +kernel) (by decide +kernel)
theorem bw_105 : Cond.fieldLink RX9 49 "DuelDelays$Men" "count" "I" ∈ gT := gT_tb 165 (by decide +kernel) (by decide +kernel)
theorem bw_106 : Cond.fieldLink RX9 54 "DuelDelays$State" "alive" "I" ∈ gT := gT_tb 452 (by decide +kernel) (by decide +kernel)
theorem bw_107 : Cond.fieldLink RX9 57 "DuelDelays$State" "struck" "I" ∈ gT := gT_tb 454 (by decide +kernel) (by decide +kernel)
theorem bw_108 : Cond.fieldLink RX9 60 "DuelDelays$State" "open" "I" ∈ gT := gT_tb 456 (by decide +kernel) (by decide +kernel)
theorem bw_109 : Cond.fieldLink RX9 66 "DuelDelays$State" "lines" "I" ∈ gT := gT_tb 461 (by decide +kernel) (by decide +kernel)
theorem bw_110 : Cond.fieldLink RX9 69 "DuelDelays$Men" "coins" "[I" ∈ gT := gT_tb 176 (by decide +kernel) (by decide +kernel)
theorem bw_111 : Cond.fieldLink RX9 9 "DuelDelays$State" "coins" "[I" ∈ gT := gT_tb 463 (by decide +kernel) (by decide +kernel)
theorem bw_112 : Cond.native arraycopyName ∈ gT := gT_tb 513 (by decide +kernel) (by decide +kernel)
theorem bw_113 : Cond.static arraycopyName ∈ gT := gT_tb 512 (by decide +kernel) (by decide +kernel)
theorem bw_114 : Cond.initialized "java/lang/System" ∈ gT := gT_tb 17 (by decide +kernel) (by decide +kernel)
theorem bw_115 : Cond.methodLink RX9 70 arraycopyName ∈ gT := gT_tb 511 (by decide +kernel) (by decide +kernel)
theorem bw_116 : Cond.fieldLink RX9 15 "DuelDelays$State" "rented" "[I" ∈ gT := gT_tb 465 (by decide +kernel) (by decide +kernel)
theorem bw_117 : Cond.methodLink RX9 76 yJ7_fill_53178 ∈ gT := gT_tb 514 (by decide +kernel) (by decide +kernel)
theorem bw_118 : Cond.fieldLink RX9 82 "DuelDelays$Land" "duels" "I" ∈ gT := gT_tb 299 (by decide +kernel) (by decide +kernel)
theorem bw_119 : Cond.code yX9_begin cX9_begin 3 none ∈ gT := gT_tb 510 (by decide +kernel) (by decide +kernel)
theorem bw_120 : Cond.fieldLink RX9 18 "DuelDelays$State" "mornings" "[I" ∈ gT := gT_tb 467 (by decide +kernel) (by decide +kernel)
theorem bw_121 : Cond.fieldLink RX9 21 "DuelDelays$State" "honours" "[I" ∈ gT := gT_tb 471 (by decide +kernel) (by decide +kernel)
theorem bw_122 : Cond.fieldLink RX9 24 "DuelDelays$State" "used" "[I" ∈ gT := gT_tb 473 (by decide +kernel) (by decide +kernel)
theorem bw_123 : Cond.fieldLink RX9 27 "DuelDelays$State" "sides" "[I" ∈ gT := gT_tb 476 (by decide +kernel) (by decide +kernel)
theorem bw_124 : Cond.fieldLink RX9 30 "DuelDelays$State" "log" "[I" ∈ gT := gT_tb 477 (by decide +kernel) (by decide +kernel)
theorem bw_125 : Cond.code yX9_copy cX9_copy 2 none ∈ gT := gT_tb 993 (by decide +kernel) (by decide +kernel)
theorem bw_126 : Cond.code yX9_passDay cX9_passDay 3 none ∈ gT := gT_tb 1034 (by decide +kernel) (by decide +kernel)
theorem bw_127 : Cond.fieldLink RX10 44 "DuelDelays$Tokens" "following" "I" ∈ gT := gT_tb 106 (by decide +kernel) (by decide +kernel)
theorem bw_128 : Cond.fieldLink RX10 41 "DuelDelays$Tokens" "length" "I" ∈ gT := gT_tb 105 (by decide +kernel) (by decide +kernel)
theorem bw_129 : Cond.fieldLink RX10 54 "DuelDelays$Tokens" "place" "I" ∈ gT := gT_tb 99 (by decide +kernel) (by decide +kernel)
theorem bw_130 : Cond.fieldLink RX10 57 "DuelDelays$Tokens" "value" "I" ∈ gT := gT_tb 101 (by decide +kernel) (by decide +kernel)
theorem bw_131 : Cond.fieldLink RX10 60 "DuelDelays$Tokens" "name" "J" ∈ gT := gT_tb 102 (by decide +kernel) (by decide +kernel)
theorem bw_132 : Cond.fieldLink RX10 64 "DuelDelays$Tokens" "sort" "I" ∈ gT := gT_tb 97 (by decide +kernel) (by decide +kernel)
theorem bw_133 : Cond.code yX10_advance cX10_advance 1 none ∈ gT := gT_tb 603 (by decide +kernel) (by decide +kernel)
theorem bw_134 : Cond.fieldLink RX10 31 "DuelDelays$Tokens" "text" "[B" ∈ gT := gT_tb 104 (by decide +kernel) (by decide +kernel)
theorem bw_135 : Cond.methodLink RX10 35 Lib.Math.min.name ∈ gT := gT_tb 597 (by decide +kernel) (by decide +kernel)
theorem bw_136 : Cond.code Lib.Math.min.name Lib.Math.min.code 2 (some .int) ∈ gT := gT_tb 599 (by decide +kernel) (by decide +kernel)
theorem bw_137 : Cond.static Lib.Math.min.name ∈ gT := gT_tb 598 (by decide +kernel) (by decide +kernel)
theorem bw_138 : Cond.initialized "java/lang/Math" ∈ gT := gT_tb 20 (by decide +kernel) (by decide +kernel)
theorem bw_139 : Cond.methodLink RX10 47 yX10_advance ∈ gT := gT_tb 600 (by decide +kernel) (by decide +kernel)
theorem bw_140 : Cond.instanceMethod yX10_advance ∈ gT := gT_tb 601 (by decide +kernel) (by decide +kernel)
theorem bw_141 : Cond.selects RX10 yX10_advance yX10_advance ∈ gT := gT_tb 602 (by decide +kernel) (by decide +kernel)
theorem bw_142 : Cond.initialized RX10 ∈ gT := gT_tb 3 (by decide +kernel) (by decide +kernel)
theorem bw_143 : Cond.code yX10_open cX10_open 3 none ∈ gT := gT_tb 596 (by decide +kernel) (by decide +kernel)
theorem bw_144 : Cond.fieldLink RX5 22 "DuelDelays$Reader" "faultCode" "I" ∈ gT := gT_tb 127 (by decide +kernel) (by decide +kernel)
theorem bw_145 : Cond.fieldLink RX5 9 "DuelDelays$Reader" "faultPlace" "I" ∈ gT := gT_tb 129 (by decide +kernel) (by decide +kernel)
theorem bw_146 : Cond.fieldLink RX5 25 "DuelDelays$Reader" "land" "LDuelDelays$Land;" ∈ gT := gT_tb 132 (by decide +kernel) (by decide +kernel)
theorem bw_147 : Cond.methodLink RX5 29 yX2_clear ∈ gT := gT_tb 584 (by decide +kernel) (by decide +kernel)
theorem bw_148 : Cond.instanceMethod yX2_clear ∈ gT := gT_tb 585 (by decide +kernel) (by decide +kernel)
theorem bw_149 : Cond.selects RX2 yX2_clear yX2_clear ∈ gT := gT_tb 586 (by decide +kernel) (by decide +kernel)
theorem bw_150 : Cond.initialized RX2 ∈ gT := gT_tb 8 (by decide +kernel) (by decide +kernel)
theorem bw_151 : Cond.fieldLink RX5 34 "DuelDelays$Reader" "honourTold" "Z" ∈ gT := gT_tb 133 (by decide +kernel) (by decide +kernel)
theorem bw_152 : Cond.fieldLink RX5 38 "DuelDelays$Reader" "drawTold" "Z" ∈ gT := gT_tb 134 (by decide +kernel) (by decide +kernel)
theorem bw_153 : Cond.fieldLink RX5 18 "DuelDelays$Reader" "tokens" "LDuelDelays$Tokens;" ∈ gT := gT_tb 131 (by decide +kernel) (by decide +kernel)
theorem bw_154 : Cond.methodLink RX5 41 yX10_open ∈ gT := gT_tb 593 (by decide +kernel) (by decide +kernel)
theorem bw_155 : Cond.instanceMethod yX10_open ∈ gT := gT_tb 594 (by decide +kernel) (by decide +kernel)
theorem bw_156 : Cond.selects RX10 yX10_open yX10_open ∈ gT := gT_tb 595 (by decide +kernel) (by decide +kernel)
theorem bw_157 : Cond.fieldLink RX5 45 "DuelDelays$Tokens" "sort" "I" ∈ gT := gT_tb 96 (by decide +kernel) (by decide +kernel)
theorem bw_158 : Cond.code yX5_read cX5_read 6 (some .boolean) ∈ gT := gT_tb 583 (by decide +kernel) (by decide +kernel)
theorem bw_159 : Cond.fieldLink RX11 16 "DuelDelays" "reader" "LDuelDelays$Reader;" ∈ gT := gT_tb 523 (by decide +kernel) (by decide +kernel)
theorem bw_160 : Cond.fieldLink RX11 9 "DuelDelays" "tape" "[B" ∈ gT := gT_tb 521 (by decide +kernel) (by decide +kernel)
theorem bw_161 : Cond.fieldLink RX11 72 "DuelDelays" "tapeLength" "I" ∈ gT := gT_tb 522 (by decide +kernel) (by decide +kernel)
theorem bw_162 : Cond.fieldLink RX11 27 "DuelDelays" "spareLand" "LDuelDelays$Land;" ∈ gT := gT_tb 525 (by decide +kernel) (by decide +kernel)
theorem bw_163 : Cond.methodLink RX11 80 yX5_read ∈ gT := gT_tb 580 (by decide +kernel) (by decide +kernel)
theorem bw_164 : Cond.instanceMethod yX5_read ∈ gT := gT_tb 581 (by decide +kernel) (by decide +kernel)
theorem bw_165 : Cond.selects RX5 yX5_read yX5_read ∈ gT := gT_tb 582 (by decide +kernel) (by decide +kernel)
theorem bw_166 : Cond.initialized RX5 ∈ gT := gT_tb 2 (by decide +kernel) (by decide +kernel)
theorem bw_167 : Cond.methodLink RX11 68 yX9_begin ∈ gT := gT_tb 507 (by decide +kernel) (by decide +kernel)
theorem bw_168 : Cond.instanceMethod yX9_begin ∈ gT := gT_tb 508 (by decide +kernel) (by decide +kernel)
theorem bw_169 : Cond.selects RX9 yX9_begin yX9_begin ∈ gT := gT_tb 509 (by decide +kernel) (by decide +kernel)
theorem bw_170 : Cond.methodLink RX11 90 yX8_clear ∈ gT := gT_tb 827 (by decide +kernel) (by decide +kernel)
theorem bw_171 : Cond.instanceMethod yX8_clear ∈ gT := gT_tb 828 (by decide +kernel) (by decide +kernel)
theorem bw_172 : Cond.selects RX8 yX8_clear yX8_clear ∈ gT := gT_tb 829 (by decide +kernel) (by decide +kernel)
theorem bw_173 : Cond.fieldLink RX11 101 "DuelDelays$Men" "count" "I" ∈ gT := gT_tb 167 (by decide +kernel) (by decide +kernel)
theorem bw_174 : Cond.code yX11_code cX11_code 2 (some .int) ∈ gT := gT_tb 579 (by decide +kernel) (by decide +kernel)
theorem bw_175 : Cond.code yX11_end cX11_end 2 (some .int) ∈ gT := gT_tb 575 (by decide +kernel) (by decide +kernel)
theorem bw_176 : Cond.fieldLink RX11 106 "DuelDelays$Reader" "faultCode" "I" ∈ gT := gT_tb 128 (by decide +kernel) (by decide +kernel)
theorem bw_177 : Cond.fieldLink RX11 109 "DuelDelays$Reader" "faultPlace" "I" ∈ gT := gT_tb 130 (by decide +kernel) (by decide +kernel)
theorem bw_178 : Cond.code yX11_fault cX11_fault 2 (some .int) ∈ gT := gT_tb 838 (by decide +kernel) (by decide +kernel)
theorem bw_179 : Cond.fieldLink RX11 323 "DuelDelays$Sights" "time" "I" ∈ gT := gT_tb 387 (by decide +kernel) (by decide +kernel)
theorem bw_180 : Cond.constant RX11 326 (100000) ∈ gT := gT_tb 1266 (by decide +kernel) (by decide +kernel)
theorem bw_181 : Cond.code yX11_later cX11_later 2 (some .int) ∈ gT := gT_tb 1265 (by decide +kernel) (by decide +kernel)
theorem bw_182 : Cond.constant RJ6 265 (1431655765) ∈ gT := gT_tb 870 (by decide +kernel) (by decide +kernel)
theorem bw_183 : Cond.constant RJ6 266 (858993459) ∈ gT := gT_tb 871 (by decide +kernel) (by decide +kernel)
theorem bw_184 : Cond.constant RJ6 267 (252645135) ∈ gT := gT_tb 872 (by decide +kernel) (by decide +kernel)
theorem bw_185 : Cond.code yJ6_bitCount_0f7a4 cJ6_bitCount_0f7a4 1 (some .int) ∈ gT := gT_tb 869 (by decide +kernel) (by decide +kernel)
theorem bw_186 : Cond.fieldLink RX11 331 "DuelDelays$Land" "formulas" "LDuelDelays$Formulas;" ∈ gT := gT_tb 291 (by decide +kernel) (by decide +kernel)
theorem bw_187 : Cond.fieldLink RX11 335 "DuelDelays$Formulas" "count" "I" ∈ gT := gT_tb 202 (by decide +kernel) (by decide +kernel)
theorem bw_188 : Cond.fieldLink RX11 338 "DuelDelays$Reasons" "count" "I" ∈ gT := gT_tb 240 (by decide +kernel) (by decide +kernel)
theorem bw_189 : Cond.fieldLink RX11 207 "DuelDelays$State" "duels" "I" ∈ gT := gT_tb 460 (by decide +kernel) (by decide +kernel)
theorem bw_190 : Cond.fieldLink RX11 243 "DuelDelays$State" "day" "I" ∈ gT := gT_tb 449 (by decide +kernel) (by decide +kernel)
theorem bw_191 : Cond.fieldLink RX11 339 "DuelDelays$State" "seed" "I" ∈ gT := gT_tb 451 (by decide +kernel) (by decide +kernel)
theorem bw_192 : Cond.fieldLink RX11 342 "DuelDelays$State" "alive" "I" ∈ gT := gT_tb 453 (by decide +kernel) (by decide +kernel)
theorem bw_193 : Cond.fieldLink RX11 345 "DuelDelays$State" "open" "I" ∈ gT := gT_tb 457 (by decide +kernel) (by decide +kernel)
theorem bw_194 : Cond.methodLink RX11 151 yJ6_bitCount_0f7a4 ∈ gT := gT_tb 867 (by decide +kernel) (by decide +kernel)
theorem bw_195 : Cond.static yJ6_bitCount_0f7a4 ∈ gT := gT_tb 868 (by decide +kernel) (by decide +kernel)
theorem bw_196 : Cond.initialized yJ6_bitCount_0f7a4.cls ∈ gT := gT_tb 22 (by decide +kernel) (by decide +kernel)
theorem bw_197 : Cond.fieldLink RX11 348 "DuelDelays$Sights" "count" "I" ∈ gT := gT_tb 389 (by decide +kernel) (by decide +kernel)
theorem bw_198 : Cond.fieldLink RX11 349 "DuelDelays$Formulas" "units" "I" ∈ gT := gT_tb 204 (by decide +kernel) (by decide +kernel)
theorem bw_199 : Cond.code yX11_about cX11_about 3 (some .int) ∈ gT := gT_tb 1286 (by decide +kernel) (by decide +kernel)
theorem bw_200 : Cond.methodLink RX11 213 yX9_copy ∈ gT := gT_tb 990 (by decide +kernel) (by decide +kernel)
theorem bw_201 : Cond.instanceMethod yX9_copy ∈ gT := gT_tb 991 (by decide +kernel) (by decide +kernel)
theorem bw_202 : Cond.selects RX9 yX9_copy yX9_copy ∈ gT := gT_tb 992 (by decide +kernel) (by decide +kernel)
theorem bw_203 : Cond.code yX11_nextState cX11_nextState 3 (some (.object "DuelDelays$State")) ∈ gT := gT_tb 989 (by decide +kernel) (by decide +kernel)
theorem bw_204 : Cond.methodLink RX11 221 yX11_nextState ∈ gT := gT_tb 986 (by decide +kernel) (by decide +kernel)
theorem bw_205 : Cond.instanceMethod yX11_nextState ∈ gT := gT_tb 988 (by decide +kernel) (by decide +kernel)
theorem bw_206 : Cond.selects RX11 yX11_nextState yX11_nextState ∈ gT := gT_sl 30 (by decide +kernel) (by decide +kernel)
theorem bw_207 : Cond.initialized RX11 ∈ gT := gT_tb 1 (by decide +kernel) (by decide +kernel)
theorem bw_208 : Cond.methodLink RX11 253 yX9_passDay ∈ gT := gT_tb 1031 (by decide +kernel) (by decide +kernel)
theorem bw_209 : Cond.instanceMethod yX9_passDay ∈ gT := gT_tb 1032 (by decide +kernel) (by decide +kernel)
theorem bw_210 : Cond.selects RX9 yX9_passDay yX9_passDay ∈ gT := gT_tb 1033 (by decide +kernel) (by decide +kernel)
theorem bw_211 : Cond.code yX11_days cX11_days 4 (some .int) ∈ gT := gT_tb 1030 (by decide +kernel) (by decide +kernel)
theorem bw_212 : Cond.fieldLink RX11 36 "DuelDelays" "boxes" "[LDuelDelays$State;" ∈ gT := gT_tb 529 (by decide +kernel) (by decide +kernel)
theorem bw_213 : Cond.code yX11_image cX11_image 2 (some .int) ∈ gT := gT_tb 1278 (by decide +kernel) (by decide +kernel)
theorem bw_214 : Cond.code yX11_feedNumber cX11_feedNumber 3 none ∈ gT := gT_tb 571 (by decide +kernel) (by decide +kernel)
theorem bw_215 : Cond.methodLink RX11 76 yX11_feedNumber ∈ gT := gT_tb 568 (by decide +kernel) (by decide +kernel)
theorem bw_216 : Cond.instanceMethod yX11_feedNumber ∈ gT := gT_tb 570 (by decide +kernel) (by decide +kernel)
theorem bw_217 : Cond.selects RX11 yX11_feedNumber yX11_feedNumber ∈ gT := gT_sl 0 (by decide +kernel) (by decide +kernel)
theorem bw_218 : Cond.code yX11_feed cX11_feed 6 (some .int) ∈ gT := gT_tb 567 (by decide +kernel) (by decide +kernel)
end
section
theorem dX3_has_0 : decode cX3_has 0 = .ok (.iload_n 1, 1) := by decide +kernel
theorem dX3_has_1 : decode cX3_has 1 = .ok (.ifCond .lt 15, 3) := by decide +kernel
theorem dX3_has_4 : decode cX3_has 4 = .ok (.iload_n 1, 1) := by decide +kernel
theorem dX3_has_5 : decode cX3_has 5 = .ok (.aload_n 0, 1) := by decide +kernel
theorem dX3_has_6 : decode cX3_has 6 = .ok (.getfield 25, 3) := by decide +kernel
theorem dX3_has_9 : decode cX3_has 9 = .ok (.if_icmp .ge 7, 3) := by decide +kernel
theorem dX3_has_16 : decode cX3_has 16 = .ok (.iconst 0, 1) := by decide +kernel
theorem dX3_has_17 : decode cX3_has 17 = .ok (.ireturn, 1) := by decide +kernel
theorem dX6_has_0 : decode cX6_has 0 = .ok (.iload_n 1, 1) := by decide +kernel
theorem dX6_has_1 : decode cX6_has 1 = .ok (.ifCond .lt 15, 3) := by decide +kernel
theorem dX6_has_4 : decode cX6_has 4 = .ok (.iload_n 1, 1) := by decide +kernel
theorem dX6_has_5 : decode cX6_has 5 = .ok (.aload_n 0, 1) := by decide +kernel
theorem dX6_has_6 : decode cX6_has 6 = .ok (.getfield 34, 3) := by decide +kernel
theorem dX6_has_9 : decode cX6_has 9 = .ok (.if_icmp .ge 7, 3) := by decide +kernel
theorem dX6_has_16 : decode cX6_has 16 = .ok (.iconst 0, 1) := by decide +kernel
theorem dX6_has_17 : decode cX6_has 17 = .ok (.ireturn, 1) := by decide +kernel
theorem dX9_hasDuel_0 : decode cX9_hasDuel 0 = .ok (.iload_n 1, 1) := by decide +kernel
theorem dX9_hasDuel_1 : decode cX9_hasDuel 1 = .ok (.ifCond .lt 15, 3) := by decide +kernel
theorem dX9_hasDuel_4 : decode cX9_hasDuel 4 = .ok (.iload_n 1, 1) := by decide +kernel
theorem dX9_hasDuel_5 : decode cX9_hasDuel 5 = .ok (.aload_n 0, 1) := by decide +kernel
theorem dX9_hasDuel_6 : decode cX9_hasDuel 6 = .ok (.getfield 63, 3) := by decide +kernel
theorem dX9_hasDuel_9 : decode cX9_hasDuel 9 = .ok (.if_icmp .ge 7, 3) := by decide +kernel
theorem dX9_hasDuel_16 : decode cX9_hasDuel 16 = .ok (.iconst 0, 1) := by decide +kernel
theorem dX9_hasDuel_17 : decode cX9_hasDuel 17 = .ok (.ireturn, 1) := by decide +kernel
theorem dX9_firstOpen_0 : decode cX9_firstOpen 0 = .ok (.iconst (-1), 1) := by decide +kernel
theorem dX9_firstOpen_1 : decode cX9_firstOpen 1 = .ok (.istore_n 1, 1) := by decide +kernel
theorem dX9_firstOpen_2 : decode cX9_firstOpen 2 = .ok (.iconst 0, 1) := by decide +kernel
theorem dX9_firstOpen_3 : decode cX9_firstOpen 3 = .ok (.istore_n 2, 1) := by decide +kernel
theorem dX9_firstOpen_4 : decode cX9_firstOpen 4 = .ok (.iload_n 2, 1) := by decide +kernel
theorem dX9_firstOpen_5 : decode cX9_firstOpen 5 = .ok (.aload_n 0, 1) := by decide +kernel
theorem dX9_firstOpen_6 : decode cX9_firstOpen 6 = .ok (.getfield 63, 3) := by decide +kernel
theorem dX9_firstOpen_9 : decode cX9_firstOpen 9 = .ok (.if_icmp .ge 39, 3) := by decide +kernel
theorem dX9_firstOpen_48 : decode cX9_firstOpen 48 = .ok (.iload_n 1, 1) := by decide +kernel
theorem dX9_firstOpen_49 : decode cX9_firstOpen 49 = .ok (.ireturn, 1) := by decide +kernel
theorem dX8_takeBack_0 : decode cX8_takeBack 0 = .ok (.iload_n 1, 1) := by decide +kernel
theorem dX8_takeBack_1 : decode cX8_takeBack 1 = .ok (.ifCond .lt 21, 3) := by decide +kernel
theorem dX8_takeBack_4 : decode cX8_takeBack 4 = .ok (.iload_n 1, 1) := by decide +kernel
theorem dX8_takeBack_5 : decode cX8_takeBack 5 = .ok (.aload_n 0, 1) := by decide +kernel
theorem dX8_takeBack_6 : decode cX8_takeBack 6 = .ok (.getfield 24, 3) := by decide +kernel
theorem dX8_takeBack_9 : decode cX8_takeBack 9 = .ok (.if_icmp .ge 13, 3) := by decide +kernel
theorem dX8_takeBack_22 : decode cX8_takeBack 22 = .ok (.iconst 0, 1) := by decide +kernel
theorem dX8_takeBack_23 : decode cX8_takeBack 23 = .ok (.ireturn, 1) := by decide +kernel
theorem dX1_clear_0 : decode cX1_clear 0 = .ok (.aload_n 0, 1) := by decide +kernel
theorem dX1_clear_1 : decode cX1_clear 1 = .ok (.iconst 0, 1) := by decide +kernel
theorem dX1_clear_2 : decode cX1_clear 2 = .ok (.putfield 15, 3) := by decide +kernel
theorem dX1_clear_5 : decode cX1_clear 5 = .ok (.return_, 1) := by decide +kernel
theorem dX8_clear_0 : decode cX8_clear 0 = .ok (.aload_n 0, 1) := by decide +kernel
theorem dX8_clear_1 : decode cX8_clear 1 = .ok (.iconst 0, 1) := by decide +kernel
theorem dX8_clear_2 : decode cX8_clear 2 = .ok (.putfield 24, 3) := by decide +kernel
theorem dX8_clear_5 : decode cX8_clear 5 = .ok (.return_, 1) := by decide +kernel
theorem dX11_isSide_0 : decode cX11_isSide 0 = .ok (.iload_n 0, 1) := by decide +kernel
theorem dX11_isSide_1 : decode cX11_isSide 1 = .ok (.ifCond .eq 8, 3) := by decide +kernel
theorem dX11_isSide_4 : decode cX11_isSide 4 = .ok (.iload_n 0, 1) := by decide +kernel
theorem dX11_isSide_5 : decode cX11_isSide 5 = .ok (.iconst 1, 1) := by decide +kernel
theorem dX11_isSide_6 : decode cX11_isSide 6 = .ok (.if_icmp .ne 7, 3) := by decide +kernel
theorem dX11_isSide_9 : decode cX11_isSide 9 = .ok (.iconst 1, 1) := by decide +kernel
theorem dX11_isSide_10 : decode cX11_isSide 10 = .ok (.goto 4, 3) := by decide +kernel
theorem dX11_isSide_13 : decode cX11_isSide 13 = .ok (.iconst 0, 1) := by decide +kernel
theorem dX11_isSide_14 : decode cX11_isSide 14 = .ok (.ireturn, 1) := by decide +kernel
theorem dX11_man_0 : decode cX11_man 0 = .ok (.aload_n 0, 1) := by decide +kernel
theorem dX11_man_1 : decode cX11_man 1 = .ok (.getfield 23, 3) := by decide +kernel
theorem dX11_man_4 : decode cX11_man 4 = .ok (.getfield 97, 3) := by decide +kernel
theorem dX11_man_7 : decode cX11_man 7 = .ok (.iload_n 1, 1) := by decide +kernel
theorem dX11_man_8 : decode cX11_man 8 = .ok (.invokevirtual 112, 3) := by decide +kernel
theorem dX11_man_11 : decode cX11_man 11 = .ok (.ifCond .ne 6, 3) := by decide +kernel
theorem dX11_man_14 : decode cX11_man 14 = .ok (.bipush (-2), 2) := by decide +kernel
theorem dX11_man_16 : decode cX11_man 16 = .ok (.ireturn, 1) := by decide +kernel
theorem dX11_duel_0 : decode cX11_duel 0 = .ok (.aload_n 0, 1) := by decide +kernel
theorem dX11_duel_1 : decode cX11_duel 1 = .ok (.getfield 32, 3) := by decide +kernel
theorem dX11_duel_4 : decode cX11_duel 4 = .ok (.aload_n 0, 1) := by decide +kernel
theorem dX11_duel_5 : decode cX11_duel 5 = .ok (.getfield 84, 3) := by decide +kernel
theorem dX11_duel_8 : decode cX11_duel 8 = .ok (.aaload, 1) := by decide +kernel
theorem dX11_duel_9 : decode cX11_duel 9 = .ok (.astore_n 3, 1) := by decide +kernel
theorem dX11_duel_10 : decode cX11_duel 10 = .ok (.aload_n 3, 1) := by decide +kernel
theorem dX11_duel_11 : decode cX11_duel 11 = .ok (.iload_n 1, 1) := by decide +kernel
theorem dX11_duel_12 : decode cX11_duel 12 = .ok (.invokevirtual 132, 3) := by decide +kernel
theorem dX11_duel_15 : decode cX11_duel 15 = .ok (.ifCond .ne 6, 3) := by decide +kernel
theorem dX11_duel_18 : decode cX11_duel 18 = .ok (.bipush (-2), 2) := by decide +kernel
theorem dX11_duel_20 : decode cX11_duel 20 = .ok (.ireturn, 1) := by decide +kernel
theorem dX11_reason_0 : decode cX11_reason 0 = .ok (.aload_n 0, 1) := by decide +kernel
theorem dX11_reason_1 : decode cX11_reason 1 = .ok (.getfield 23, 3) := by decide +kernel
theorem dX11_reason_4 : decode cX11_reason 4 = .ok (.getfield 157, 3) := by decide +kernel
theorem dX11_reason_7 : decode cX11_reason 7 = .ok (.astore_n 3, 1) := by decide +kernel
theorem dX11_reason_8 : decode cX11_reason 8 = .ok (.aload_n 3, 1) := by decide +kernel
theorem dX11_reason_9 : decode cX11_reason 9 = .ok (.iload_n 1, 1) := by decide +kernel
theorem dX11_reason_10 : decode cX11_reason 10 = .ok (.invokevirtual 161, 3) := by decide +kernel
theorem dX11_reason_13 : decode cX11_reason 13 = .ok (.ifCond .ne 6, 3) := by decide +kernel
theorem dX11_reason_16 : decode cX11_reason 16 = .ok (.bipush (-2), 2) := by decide +kernel
theorem dX11_reason_18 : decode cX11_reason 18 = .ok (.ireturn, 1) := by decide +kernel
theorem dX11_worth_0 : decode cX11_worth 0 = .ok (.aload_n 0, 1) := by decide +kernel
theorem dX11_worth_1 : decode cX11_worth 1 = .ok (.getfield 32, 3) := by decide +kernel
theorem dX11_worth_4 : decode cX11_worth 4 = .ok (.aload_n 0, 1) := by decide +kernel
theorem dX11_worth_5 : decode cX11_worth 5 = .ok (.getfield 84, 3) := by decide +kernel
theorem dX11_worth_8 : decode cX11_worth 8 = .ok (.aaload, 1) := by decide +kernel
theorem dX11_worth_9 : decode cX11_worth 9 = .ok (.astore 4, 2) := by decide +kernel
theorem dX11_worth_11 : decode cX11_worth 11 = .ok (.aload 4, 2) := by decide +kernel
theorem dX11_worth_13 : decode cX11_worth 13 = .ok (.iload_n 1, 1) := by decide +kernel
theorem dX11_worth_14 : decode cX11_worth 14 = .ok (.invokevirtual 132, 3) := by decide +kernel
theorem dX11_worth_17 : decode cX11_worth 17 = .ok (.ifCond .eq 28, 3) := by decide +kernel
theorem dX11_worth_45 : decode cX11_worth 45 = .ok (.iconst (-1), 1) := by decide +kernel
theorem dX11_worth_46 : decode cX11_worth 46 = .ok (.ireturn, 1) := by decide +kernel
theorem dX11_may_0 : decode cX11_may 0 = .ok (.aload_n 0, 1) := by decide +kernel
theorem dX11_may_1 : decode cX11_may 1 = .ok (.getfield 32, 3) := by decide +kernel
theorem dX11_may_4 : decode cX11_may 4 = .ok (.aload_n 0, 1) := by decide +kernel
theorem dX11_may_5 : decode cX11_may 5 = .ok (.getfield 84, 3) := by decide +kernel
theorem dX11_may_8 : decode cX11_may 8 = .ok (.aaload, 1) := by decide +kernel
theorem dX11_may_9 : decode cX11_may 9 = .ok (.astore_n 3, 1) := by decide +kernel
theorem dX11_may_10 : decode cX11_may 10 = .ok (.aload_n 3, 1) := by decide +kernel
theorem dX11_may_11 : decode cX11_may 11 = .ok (.iload_n 1, 1) := by decide +kernel
theorem dX11_may_12 : decode cX11_may 12 = .ok (.invokevirtual 132, 3) := by decide +kernel
theorem dX11_may_15 : decode cX11_may 15 = .ok (.ifCond .eq 10, 3) := by decide +kernel
theorem dX11_may_25 : decode cX11_may 25 = .ok (.iconst (-1), 1) := by decide +kernel
theorem dX11_may_26 : decode cX11_may 26 = .ok (.ireturn, 1) := by decide +kernel
theorem dX11_next_0 : decode cX11_next 0 = .ok (.aload_n 0, 1) := by decide +kernel
theorem dX11_next_1 : decode cX11_next 1 = .ok (.getfield 32, 3) := by decide +kernel
theorem dX11_next_4 : decode cX11_next 4 = .ok (.aload_n 0, 1) := by decide +kernel
theorem dX11_next_5 : decode cX11_next 5 = .ok (.getfield 84, 3) := by decide +kernel
theorem dX11_next_8 : decode cX11_next 8 = .ok (.aaload, 1) := by decide +kernel
theorem dX11_next_9 : decode cX11_next 9 = .ok (.astore_n 2, 1) := by decide +kernel
theorem dX11_next_10 : decode cX11_next 10 = .ok (.aload_n 2, 1) := by decide +kernel
theorem dX11_next_11 : decode cX11_next 11 = .ok (.invokevirtual 200, 3) := by decide +kernel
theorem dX11_next_14 : decode cX11_next 14 = .ok (.istore_n 3, 1) := by decide +kernel
theorem dX11_next_15 : decode cX11_next 15 = .ok (.iload_n 3, 1) := by decide +kernel
theorem dX11_next_16 : decode cX11_next 16 = .ok (.iconst (-1), 1) := by decide +kernel
theorem dX11_next_17 : decode cX11_next 17 = .ok (.if_icmp .ne 5, 3) := by decide +kernel
theorem dX11_next_20 : decode cX11_next 20 = .ok (.iconst (-1), 1) := by decide +kernel
theorem dX11_next_21 : decode cX11_next 21 = .ok (.ireturn, 1) := by decide +kernel
theorem dX11_heir_0 : decode cX11_heir 0 = .ok (.aload_n 0, 1) := by decide +kernel
theorem dX11_heir_1 : decode cX11_heir 1 = .ok (.getfield 23, 3) := by decide +kernel
theorem dX11_heir_4 : decode cX11_heir 4 = .ok (.getfield 97, 3) := by decide +kernel
theorem dX11_heir_7 : decode cX11_heir 7 = .ok (.iload_n 1, 1) := by decide +kernel
theorem dX11_heir_8 : decode cX11_heir 8 = .ok (.invokevirtual 112, 3) := by decide +kernel
theorem dX11_heir_11 : decode cX11_heir 11 = .ok (.ifCond .eq 23, 3) := by decide +kernel
theorem dX11_heir_34 : decode cX11_heir 34 = .ok (.iconst (-1), 1) := by decide +kernel
theorem dX11_heir_35 : decode cX11_heir 35 = .ok (.ireturn, 1) := by decide +kernel
theorem dX11_his_0 : decode cX11_his 0 = .ok (.aload_n 0, 1) := by decide +kernel
theorem dX11_his_1 : decode cX11_his 1 = .ok (.getfield 23, 3) := by decide +kernel
theorem dX11_his_4 : decode cX11_his 4 = .ok (.getfield 97, 3) := by decide +kernel
theorem dX11_his_7 : decode cX11_his 7 = .ok (.iload_n 1, 1) := by decide +kernel
theorem dX11_his_8 : decode cX11_his 8 = .ok (.invokevirtual 112, 3) := by decide +kernel
theorem dX11_his_11 : decode cX11_his 11 = .ok (.ifCond .ne 5, 3) := by decide +kernel
theorem dX11_his_14 : decode cX11_his 14 = .ok (.iconst (-1), 1) := by decide +kernel
theorem dX11_his_15 : decode cX11_his 15 = .ok (.ireturn, 1) := by decide +kernel
theorem dX11_comes_0 : decode cX11_comes 0 = .ok (.aload_n 0, 1) := by decide +kernel
theorem dX11_comes_1 : decode cX11_comes 1 = .ok (.getfield 23, 3) := by decide +kernel
theorem dX11_comes_4 : decode cX11_comes 4 = .ok (.getfield 97, 3) := by decide +kernel
theorem dX11_comes_7 : decode cX11_comes 7 = .ok (.astore_n 3, 1) := by decide +kernel
theorem dX11_comes_8 : decode cX11_comes 8 = .ok (.aload_n 3, 1) := by decide +kernel
theorem dX11_comes_9 : decode cX11_comes 9 = .ok (.iload_n 1, 1) := by decide +kernel
theorem dX11_comes_10 : decode cX11_comes 10 = .ok (.invokevirtual 112, 3) := by decide +kernel
theorem dX11_comes_13 : decode cX11_comes 13 = .ok (.ifCond .eq 11, 3) := by decide +kernel
theorem dX11_comes_24 : decode cX11_comes 24 = .ok (.iconst (-1), 1) := by decide +kernel
theorem dX11_comes_25 : decode cX11_comes 25 = .ok (.ireturn, 1) := by decide +kernel
theorem dX11_put_0 : decode cX11_put 0 = .ok (.aload_n 0, 1) := by decide +kernel
theorem dX11_put_1 : decode cX11_put 1 = .ok (.getfield 32, 3) := by decide +kernel
theorem dX11_put_4 : decode cX11_put 4 = .ok (.aload_n 0, 1) := by decide +kernel
theorem dX11_put_5 : decode cX11_put 5 = .ok (.getfield 84, 3) := by decide +kernel
theorem dX11_put_8 : decode cX11_put 8 = .ok (.aaload, 1) := by decide +kernel
theorem dX11_put_9 : decode cX11_put 9 = .ok (.astore 4, 2) := by decide +kernel
theorem dX11_put_11 : decode cX11_put 11 = .ok (.aload 4, 2) := by decide +kernel
theorem dX11_put_13 : decode cX11_put 13 = .ok (.iload_n 1, 1) := by decide +kernel
theorem dX11_put_14 : decode cX11_put 14 = .ok (.invokevirtual 132, 3) := by decide +kernel
theorem dX11_put_17 : decode cX11_put 17 = .ok (.ifCond .eq 24, 3) := by decide +kernel
theorem dX11_put_41 : decode cX11_put 41 = .ok (.iconst (-1), 1) := by decide +kernel
theorem dX11_put_42 : decode cX11_put 42 = .ok (.ireturn, 1) := by decide +kernel
theorem dX11_rent_0 : decode cX11_rent 0 = .ok (.aload_n 0, 1) := by decide +kernel
theorem dX11_rent_1 : decode cX11_rent 1 = .ok (.getfield 32, 3) := by decide +kernel
theorem dX11_rent_4 : decode cX11_rent 4 = .ok (.aload_n 0, 1) := by decide +kernel
theorem dX11_rent_5 : decode cX11_rent 5 = .ok (.getfield 84, 3) := by decide +kernel
theorem dX11_rent_8 : decode cX11_rent 8 = .ok (.aaload, 1) := by decide +kernel
theorem dX11_rent_9 : decode cX11_rent 9 = .ok (.astore_n 3, 1) := by decide +kernel
theorem dX11_rent_10 : decode cX11_rent 10 = .ok (.aload_n 0, 1) := by decide +kernel
theorem dX11_rent_11 : decode cX11_rent 11 = .ok (.getfield 23, 3) := by decide +kernel
theorem dX11_rent_14 : decode cX11_rent 14 = .ok (.getfield 97, 3) := by decide +kernel
theorem dX11_rent_17 : decode cX11_rent 17 = .ok (.iload_n 1, 1) := by decide +kernel
theorem dX11_rent_18 : decode cX11_rent 18 = .ok (.invokevirtual 112, 3) := by decide +kernel
theorem dX11_rent_21 : decode cX11_rent 21 = .ok (.ifCond .eq 25, 3) := by decide +kernel
theorem dX11_rent_46 : decode cX11_rent 46 = .ok (.iconst (-1), 1) := by decide +kernel
theorem dX11_rent_47 : decode cX11_rent 47 = .ok (.ireturn, 1) := by decide +kernel
theorem dX11_strike_0 : decode cX11_strike 0 = .ok (.aload_n 0, 1) := by decide +kernel
theorem dX11_strike_1 : decode cX11_strike 1 = .ok (.getfield 23, 3) := by decide +kernel
theorem dX11_strike_4 : decode cX11_strike 4 = .ok (.getfield 157, 3) := by decide +kernel
theorem dX11_strike_7 : decode cX11_strike 7 = .ok (.iload_n 1, 1) := by decide +kernel
theorem dX11_strike_8 : decode cX11_strike 8 = .ok (.invokevirtual 161, 3) := by decide +kernel
theorem dX11_strike_11 : decode cX11_strike 11 = .ok (.ifCond .eq 19, 3) := by decide +kernel
theorem dX11_strike_30 : decode cX11_strike 30 = .ok (.iconst 0, 1) := by decide +kernel
theorem dX11_strike_31 : decode cX11_strike 31 = .ok (.ireturn, 1) := by decide +kernel
theorem dX11_insult_0 : decode cX11_insult 0 = .ok (.aload_n 0, 1) := by decide +kernel
theorem dX11_insult_1 : decode cX11_insult 1 = .ok (.getfield 32, 3) := by decide +kernel
theorem dX11_insult_4 : decode cX11_insult 4 = .ok (.aload_n 0, 1) := by decide +kernel
theorem dX11_insult_5 : decode cX11_insult 5 = .ok (.getfield 84, 3) := by decide +kernel
theorem dX11_insult_8 : decode cX11_insult 8 = .ok (.aaload, 1) := by decide +kernel
theorem dX11_insult_9 : decode cX11_insult 9 = .ok (.astore_n 3, 1) := by decide +kernel
theorem dX11_insult_10 : decode cX11_insult 10 = .ok (.aload_n 0, 1) := by decide +kernel
theorem dX11_insult_11 : decode cX11_insult 11 = .ok (.getfield 23, 3) := by decide +kernel
theorem dX11_insult_14 : decode cX11_insult 14 = .ok (.getfield 97, 3) := by decide +kernel
theorem dX11_insult_17 : decode cX11_insult 17 = .ok (.iload_n 1, 1) := by decide +kernel
theorem dX11_insult_18 : decode cX11_insult 18 = .ok (.invokevirtual 112, 3) := by decide +kernel
theorem dX11_insult_21 : decode cX11_insult 21 = .ok (.ifCond .eq 31, 3) := by decide +kernel
theorem dX11_insult_52 : decode cX11_insult 52 = .ok (.iconst (-1), 1) := by decide +kernel
theorem dX11_insult_53 : decode cX11_insult 53 = .ok (.ireturn, 1) := by decide +kernel
theorem dX11_undo_0 : decode cX11_undo 0 = .ok (.aload_n 0, 1) := by decide +kernel
theorem dX11_undo_1 : decode cX11_undo 1 = .ok (.getfield 84, 3) := by decide +kernel
theorem dX11_undo_4 : decode cX11_undo 4 = .ok (.ifCond .ne 5, 3) := by decide +kernel
theorem dX11_undo_7 : decode cX11_undo 7 = .ok (.iconst 0, 1) := by decide +kernel
theorem dX11_undo_8 : decode cX11_undo 8 = .ok (.ireturn, 1) := by decide +kernel
theorem dX11_redo_0 : decode cX11_redo 0 = .ok (.aload_n 0, 1) := by decide +kernel
theorem dX11_redo_1 : decode cX11_redo 1 = .ok (.getfield 84, 3) := by decide +kernel
theorem dX11_redo_4 : decode cX11_redo 4 = .ok (.aload_n 0, 1) := by decide +kernel
theorem dX11_redo_5 : decode cX11_redo 5 = .ok (.getfield 87, 3) := by decide +kernel
theorem dX11_redo_8 : decode cX11_redo 8 = .ok (.if_icmp .lt 5, 3) := by decide +kernel
theorem dX11_redo_11 : decode cX11_redo 11 = .ok (.iconst 0, 1) := by decide +kernel
theorem dX11_redo_12 : decode cX11_redo 12 = .ok (.ireturn, 1) := by decide +kernel
theorem dX11_late_0 : decode cX11_late 0 = .ok (.aload_n 0, 1) := by decide +kernel
theorem dX11_late_1 : decode cX11_late 1 = .ok (.getfield 32, 3) := by decide +kernel
theorem dX11_late_4 : decode cX11_late 4 = .ok (.aload_n 0, 1) := by decide +kernel
theorem dX11_late_5 : decode cX11_late 5 = .ok (.getfield 84, 3) := by decide +kernel
theorem dX11_late_8 : decode cX11_late 8 = .ok (.aaload, 1) := by decide +kernel
theorem dX11_late_9 : decode cX11_late 9 = .ok (.astore_n 3, 1) := by decide +kernel
theorem dX11_late_10 : decode cX11_late 10 = .ok (.iload_n 2, 1) := by decide +kernel
theorem dX11_late_11 : decode cX11_late 11 = .ok (.ifCond .lt 25, 3) := by decide +kernel
theorem dX11_late_14 : decode cX11_late 14 = .ok (.iload_n 2, 1) := by decide +kernel
theorem dX11_late_15 : decode cX11_late 15 = .ok (.bipush 16, 2) := by decide +kernel
theorem dX11_late_17 : decode cX11_late 17 = .ok (.if_icmp .gt 19, 3) := by decide +kernel
theorem dX11_late_20 : decode cX11_late 20 = .ok (.aload_n 3, 1) := by decide +kernel
theorem dX11_late_21 : decode cX11_late 21 = .ok (.iload_n 1, 1) := by decide +kernel
theorem dX11_late_22 : decode cX11_late 22 = .ok (.invokevirtual 132, 3) := by decide +kernel
theorem dX11_late_25 : decode cX11_late 25 = .ok (.ifCond .eq 11, 3) := by decide +kernel
theorem dX11_late_36 : decode cX11_late 36 = .ok (.iconst (-1), 1) := by decide +kernel
theorem dX11_late_37 : decode cX11_late 37 = .ok (.ireturn, 1) := by decide +kernel
theorem dX11_last_0 : decode cX11_last 0 = .ok (.aload_n 0, 1) := by decide +kernel
theorem dX11_last_1 : decode cX11_last 1 = .ok (.getfield 32, 3) := by decide +kernel
theorem dX11_last_4 : decode cX11_last 4 = .ok (.aload_n 0, 1) := by decide +kernel
theorem dX11_last_5 : decode cX11_last 5 = .ok (.getfield 84, 3) := by decide +kernel
theorem dX11_last_8 : decode cX11_last 8 = .ok (.aaload, 1) := by decide +kernel
theorem dX11_last_9 : decode cX11_last 9 = .ok (.astore_n 3, 1) := by decide +kernel
theorem dX11_last_10 : decode cX11_last 10 = .ok (.iload_n 2, 1) := by decide +kernel
theorem dX11_last_11 : decode cX11_last 11 = .ok (.invokestatic 193, 3) := by decide +kernel
theorem dX11_last_14 : decode cX11_last 14 = .ok (.ifCond .eq 19, 3) := by decide +kernel
theorem dX11_last_17 : decode cX11_last 17 = .ok (.aload_n 3, 1) := by decide +kernel
theorem dX11_last_18 : decode cX11_last 18 = .ok (.iload_n 1, 1) := by decide +kernel
theorem dX11_last_19 : decode cX11_last 19 = .ok (.invokevirtual 132, 3) := by decide +kernel
theorem dX11_last_22 : decode cX11_last 22 = .ok (.ifCond .eq 11, 3) := by decide +kernel
theorem dX11_last_33 : decode cX11_last 33 = .ok (.iconst (-1), 1) := by decide +kernel
theorem dX11_last_34 : decode cX11_last 34 = .ok (.ireturn, 1) := by decide +kernel
theorem dX11_shun_0 : decode cX11_shun 0 = .ok (.aload_n 0, 1) := by decide +kernel
theorem dX11_shun_1 : decode cX11_shun 1 = .ok (.getfield 32, 3) := by decide +kernel
theorem dX11_shun_4 : decode cX11_shun 4 = .ok (.aload_n 0, 1) := by decide +kernel
theorem dX11_shun_5 : decode cX11_shun 5 = .ok (.getfield 84, 3) := by decide +kernel
theorem dX11_shun_8 : decode cX11_shun 8 = .ok (.aaload, 1) := by decide +kernel
theorem dX11_shun_9 : decode cX11_shun 9 = .ok (.astore_n 2, 1) := by decide +kernel
theorem dX11_shun_10 : decode cX11_shun 10 = .ok (.aload_n 0, 1) := by decide +kernel
theorem dX11_shun_11 : decode cX11_shun 11 = .ok (.getfield 23, 3) := by decide +kernel
theorem dX11_shun_14 : decode cX11_shun 14 = .ok (.getfield 97, 3) := by decide +kernel
theorem dX11_shun_17 : decode cX11_shun 17 = .ok (.iload_n 1, 1) := by decide +kernel
theorem dX11_shun_18 : decode cX11_shun 18 = .ok (.invokevirtual 112, 3) := by decide +kernel
theorem dX11_shun_21 : decode cX11_shun 21 = .ok (.ifCond .eq 20, 3) := by decide +kernel
theorem dX11_shun_41 : decode cX11_shun 41 = .ok (.iconst (-1), 1) := by decide +kernel
theorem dX11_shun_42 : decode cX11_shun 42 = .ok (.ireturn, 1) := by decide +kernel
theorem dX11_clash_0 : decode cX11_clash 0 = .ok (.aload_n 0, 1) := by decide +kernel
theorem dX11_clash_1 : decode cX11_clash 1 = .ok (.getfield 23, 3) := by decide +kernel
theorem dX11_clash_4 : decode cX11_clash 4 = .ok (.getfield 97, 3) := by decide +kernel
theorem dX11_clash_7 : decode cX11_clash 7 = .ok (.iload_n 1, 1) := by decide +kernel
theorem dX11_clash_8 : decode cX11_clash 8 = .ok (.invokevirtual 112, 3) := by decide +kernel
theorem dX11_clash_11 : decode cX11_clash 11 = .ok (.ifCond .ne 5, 3) := by decide +kernel
theorem dX11_clash_14 : decode cX11_clash 14 = .ok (.iconst (-1), 1) := by decide +kernel
theorem dX11_clash_15 : decode cX11_clash 15 = .ok (.ireturn, 1) := by decide +kernel
theorem dX11_lies_0 : decode cX11_lies 0 = .ok (.iload_n 1, 1) := by decide +kernel
theorem dX11_lies_1 : decode cX11_lies 1 = .ok (.ifCond .lt 26, 3) := by decide +kernel
theorem dX11_lies_4 : decode cX11_lies 4 = .ok (.iload_n 1, 1) := by decide +kernel
theorem dX11_lies_5 : decode cX11_lies 5 = .ok (.aload_n 0, 1) := by decide +kernel
theorem dX11_lies_6 : decode cX11_lies 6 = .ok (.getfield 63, 3) := by decide +kernel
theorem dX11_lies_9 : decode cX11_lies 9 = .ok (.getfield 307, 3) := by decide +kernel
theorem dX11_lies_12 : decode cX11_lies 12 = .ok (.if_icmp .ge 15, 3) := by decide +kernel
theorem dX11_lies_27 : decode cX11_lies 27 = .ok (.iconst (-1), 1) := by decide +kernel
theorem dX11_lies_28 : decode cX11_lies 28 = .ok (.ireturn, 1) := by decide +kernel
theorem dX11_log_0 : decode cX11_log 0 = .ok (.aload_n 0, 1) := by decide +kernel
theorem dX11_log_1 : decode cX11_log 1 = .ok (.getfield 32, 3) := by decide +kernel
theorem dX11_log_4 : decode cX11_log 4 = .ok (.aload_n 0, 1) := by decide +kernel
theorem dX11_log_5 : decode cX11_log 5 = .ok (.getfield 84, 3) := by decide +kernel
theorem dX11_log_8 : decode cX11_log 8 = .ok (.aaload, 1) := by decide +kernel
theorem dX11_log_9 : decode cX11_log 9 = .ok (.astore_n 3, 1) := by decide +kernel
theorem dX11_log_10 : decode cX11_log 10 = .ok (.iload_n 1, 1) := by decide +kernel
theorem dX11_log_11 : decode cX11_log 11 = .ok (.ifCond .lt 20, 3) := by decide +kernel
theorem dX11_log_14 : decode cX11_log 14 = .ok (.iload_n 1, 1) := by decide +kernel
theorem dX11_log_15 : decode cX11_log 15 = .ok (.aload_n 3, 1) := by decide +kernel
theorem dX11_log_16 : decode cX11_log 16 = .ok (.getfield 311, 3) := by decide +kernel
theorem dX11_log_19 : decode cX11_log 19 = .ok (.if_icmp .ge 12, 3) := by decide +kernel
theorem dX11_log_31 : decode cX11_log 31 = .ok (.iconst (-1), 1) := by decide +kernel
theorem dX11_log_32 : decode cX11_log 32 = .ok (.ireturn, 1) := by decide +kernel
theorem dX11_began_0 : decode cX11_began 0 = .ok (.aload_n 0, 1) := by decide +kernel
theorem dX11_began_1 : decode cX11_began 1 = .ok (.getfield 32, 3) := by decide +kernel
theorem dX11_began_4 : decode cX11_began 4 = .ok (.aload_n 0, 1) := by decide +kernel
theorem dX11_began_5 : decode cX11_began 5 = .ok (.getfield 84, 3) := by decide +kernel
theorem dX11_began_8 : decode cX11_began 8 = .ok (.aaload, 1) := by decide +kernel
theorem dX11_began_9 : decode cX11_began 9 = .ok (.astore_n 2, 1) := by decide +kernel
theorem dX11_began_10 : decode cX11_began 10 = .ok (.aload_n 2, 1) := by decide +kernel
theorem dX11_began_11 : decode cX11_began 11 = .ok (.iload_n 1, 1) := by decide +kernel
theorem dX11_began_12 : decode cX11_began 12 = .ok (.invokevirtual 132, 3) := by decide +kernel
theorem dX11_began_15 : decode cX11_began 15 = .ok (.ifCond .ne 6, 3) := by decide +kernel
theorem dX11_began_18 : decode cX11_began 18 = .ok (.bipush (-2), 2) := by decide +kernel
theorem dX11_began_20 : decode cX11_began 20 = .ok (.ireturn, 1) := by decide +kernel
theorem dX11_sight_0 : decode cX11_sight 0 = .ok (.aload_n 0, 1) := by decide +kernel
theorem dX11_sight_1 : decode cX11_sight 1 = .ok (.getfield 23, 3) := by decide +kernel
theorem dX11_sight_4 : decode cX11_sight 4 = .ok (.getfield 157, 3) := by decide +kernel
theorem dX11_sight_7 : decode cX11_sight 7 = .ok (.iload_n 1, 1) := by decide +kernel
theorem dX11_sight_8 : decode cX11_sight 8 = .ok (.invokevirtual 161, 3) := by decide +kernel
theorem dX11_sight_11 : decode cX11_sight 11 = .ok (.ifCond .eq 14, 3) := by decide +kernel
theorem dX11_sight_25 : decode cX11_sight 25 = .ok (.iconst (-1), 1) := by decide +kernel
theorem dX11_sight_26 : decode cX11_sight 26 = .ok (.ireturn, 1) := by decide +kernel
theorem dX11_untell_0 : decode cX11_untell 0 = .ok (.aload_n 0, 1) := by decide +kernel
theorem dX11_untell_1 : decode cX11_untell 1 = .ok (.getfield 49, 3) := by decide +kernel
theorem dX11_untell_4 : decode cX11_untell 4 = .ok (.iload_n 1, 1) := by decide +kernel
theorem dX11_untell_5 : decode cX11_untell 5 = .ok (.invokevirtual 320, 3) := by decide +kernel
theorem dX11_untell_8 : decode cX11_untell 8 = .ok (.ireturn, 1) := by decide +kernel
theorem dX11_back_0 : decode cX11_back 0 = .ok (.iload_n 1, 1) := by decide +kernel
theorem dX11_back_1 : decode cX11_back 1 = .ok (.ifCond .lt 19, 3) := by decide +kernel
theorem dX11_back_4 : decode cX11_back 4 = .ok (.iload_n 1, 1) := by decide +kernel
theorem dX11_back_5 : decode cX11_back 5 = .ok (.iconst 3, 1) := by decide +kernel
theorem dX11_back_6 : decode cX11_back 6 = .ok (.if_icmp .ge 14, 3) := by decide +kernel
theorem dX11_back_9 : decode cX11_back 9 = .ok (.aload_n 0, 1) := by decide +kernel
theorem dX11_back_10 : decode cX11_back 10 = .ok (.getfield 94, 3) := by decide +kernel
theorem dX11_back_13 : decode cX11_back 13 = .ok (.iload_n 1, 1) := by decide +kernel
theorem dX11_back_14 : decode cX11_back 14 = .ok (.ishr, 1) := by decide +kernel
theorem dX11_back_15 : decode cX11_back 15 = .ok (.iconst 1, 1) := by decide +kernel
theorem dX11_back_16 : decode cX11_back 16 = .ok (.iand, 1) := by decide +kernel
theorem dX11_back_17 : decode cX11_back 17 = .ok (.ifCond .ne 5, 3) := by decide +kernel
theorem dX11_back_20 : decode cX11_back 20 = .ok (.iconst (-1), 1) := by decide +kernel
theorem dX11_back_21 : decode cX11_back 21 = .ok (.ireturn, 1) := by decide +kernel
theorem dX11_life_0 : decode cX11_life 0 = .ok (.aload_n 0, 1) := by decide +kernel
theorem dX11_life_1 : decode cX11_life 1 = .ok (.getfield 63, 3) := by decide +kernel
theorem dX11_life_4 : decode cX11_life 4 = .ok (.invokevirtual 93, 3) := by decide +kernel
theorem dX11_life_7 : decode cX11_life 7 = .ok (.aload_n 0, 1) := by decide +kernel
theorem dX11_life_8 : decode cX11_life 8 = .ok (.getfield 32, 3) := by decide +kernel
theorem dX11_life_11 : decode cX11_life 11 = .ok (.aload_n 0, 1) := by decide +kernel
theorem dX11_life_12 : decode cX11_life 12 = .ok (.getfield 84, 3) := by decide +kernel
theorem dX11_life_15 : decode cX11_life 15 = .ok (.aaload, 1) := by decide +kernel
theorem dX11_life_16 : decode cX11_life 16 = .ok (.astore_n 2, 1) := by decide +kernel
theorem dX11_life_17 : decode cX11_life 17 = .ok (.aload_n 2, 1) := by decide +kernel
theorem dX11_life_18 : decode cX11_life 18 = .ok (.iload_n 1, 1) := by decide +kernel
theorem dX11_life_19 : decode cX11_life 19 = .ok (.invokevirtual 132, 3) := by decide +kernel
theorem dX11_life_22 : decode cX11_life 22 = .ok (.ifCond .eq 11, 3) := by decide +kernel
theorem dX11_life_33 : decode cX11_life 33 = .ok (.iconst (-1), 1) := by decide +kernel
theorem dX11_life_34 : decode cX11_life 34 = .ok (.ireturn, 1) := by decide +kernel
theorem dX11_hire_0 : decode cX11_hire 0 = .ok (.aload_n 0, 1) := by decide +kernel
theorem dX11_hire_1 : decode cX11_hire 1 = .ok (.getfield 63, 3) := by decide +kernel
theorem dX11_hire_4 : decode cX11_hire 4 = .ok (.invokevirtual 93, 3) := by decide +kernel
theorem dX11_hire_7 : decode cX11_hire 7 = .ok (.aload_n 0, 1) := by decide +kernel
theorem dX11_hire_8 : decode cX11_hire 8 = .ok (.getfield 32, 3) := by decide +kernel
theorem dX11_hire_11 : decode cX11_hire 11 = .ok (.aload_n 0, 1) := by decide +kernel
theorem dX11_hire_12 : decode cX11_hire 12 = .ok (.getfield 84, 3) := by decide +kernel
theorem dX11_hire_15 : decode cX11_hire 15 = .ok (.aaload, 1) := by decide +kernel
theorem dX11_hire_16 : decode cX11_hire 16 = .ok (.astore_n 3, 1) := by decide +kernel
theorem dX11_hire_17 : decode cX11_hire 17 = .ok (.iload_n 2, 1) := by decide +kernel
theorem dX11_hire_18 : decode cX11_hire 18 = .ok (.invokestatic 193, 3) := by decide +kernel
theorem dX11_hire_21 : decode cX11_hire 21 = .ok (.ifCond .eq 19, 3) := by decide +kernel
theorem dX11_hire_24 : decode cX11_hire 24 = .ok (.aload_n 3, 1) := by decide +kernel
theorem dX11_hire_25 : decode cX11_hire 25 = .ok (.iload_n 1, 1) := by decide +kernel
theorem dX11_hire_26 : decode cX11_hire 26 = .ok (.invokevirtual 132, 3) := by decide +kernel
theorem dX11_hire_29 : decode cX11_hire 29 = .ok (.ifCond .eq 11, 3) := by decide +kernel
theorem dX11_hire_40 : decode cX11_hire 40 = .ok (.iconst (-1), 1) := by decide +kernel
theorem dX11_hire_41 : decode cX11_hire 41 = .ok (.ireturn, 1) := by decide +kernel
theorem dX11_part_0 : decode cX11_part 0 = .ok (.aload_n 0, 1) := by decide +kernel
theorem dX11_part_1 : decode cX11_part 1 = .ok (.getfield 63, 3) := by decide +kernel
theorem dX11_part_4 : decode cX11_part 4 = .ok (.invokevirtual 93, 3) := by decide +kernel
theorem dX11_part_7 : decode cX11_part 7 = .ok (.aload_n 0, 1) := by decide +kernel
theorem dX11_part_8 : decode cX11_part 8 = .ok (.getfield 23, 3) := by decide +kernel
theorem dX11_part_11 : decode cX11_part 11 = .ok (.getfield 97, 3) := by decide +kernel
theorem dX11_part_14 : decode cX11_part 14 = .ok (.iload_n 1, 1) := by decide +kernel
theorem dX11_part_15 : decode cX11_part 15 = .ok (.invokevirtual 112, 3) := by decide +kernel
theorem dX11_part_18 : decode cX11_part 18 = .ok (.ifCond .ne 5, 3) := by decide +kernel
theorem dX11_part_21 : decode cX11_part 21 = .ok (.iconst (-1), 1) := by decide +kernel
theorem dX11_part_22 : decode cX11_part 22 = .ok (.ireturn, 1) := by decide +kernel
theorem dX11_falses_0 : decode cX11_falses 0 = .ok (.aload_n 0, 1) := by decide +kernel
theorem dX11_falses_1 : decode cX11_falses 1 = .ok (.getfield 63, 3) := by decide +kernel
theorem dX11_falses_4 : decode cX11_falses 4 = .ok (.invokevirtual 93, 3) := by decide +kernel
theorem dX11_falses_7 : decode cX11_falses 7 = .ok (.aload_n 0, 1) := by decide +kernel
theorem dX11_falses_8 : decode cX11_falses 8 = .ok (.getfield 32, 3) := by decide +kernel
theorem dX11_falses_11 : decode cX11_falses 11 = .ok (.aload_n 0, 1) := by decide +kernel
theorem dX11_falses_12 : decode cX11_falses 12 = .ok (.getfield 84, 3) := by decide +kernel
theorem dX11_falses_15 : decode cX11_falses 15 = .ok (.aaload, 1) := by decide +kernel
theorem dX11_falses_16 : decode cX11_falses 16 = .ok (.astore_n 2, 1) := by decide +kernel
theorem dX11_falses_17 : decode cX11_falses 17 = .ok (.iconst 0, 1) := by decide +kernel
theorem dX11_falses_18 : decode cX11_falses 18 = .ok (.istore_n 3, 1) := by decide +kernel
theorem dX11_falses_19 : decode cX11_falses 19 = .ok (.iconst 0, 1) := by decide +kernel
theorem dX11_falses_20 : decode cX11_falses 20 = .ok (.istore 4, 2) := by decide +kernel
theorem dX11_falses_22 : decode cX11_falses 22 = .ok (.iload 4, 2) := by decide +kernel
theorem dX11_falses_24 : decode cX11_falses 24 = .ok (.aload_n 2, 1) := by decide +kernel
theorem dX11_falses_25 : decode cX11_falses 25 = .ok (.getfield 311, 3) := by decide +kernel
theorem dX11_falses_28 : decode cX11_falses 28 = .ok (.if_icmp .ge 52, 3) := by decide +kernel
theorem dX11_falses_80 : decode cX11_falses 80 = .ok (.iload_n 3, 1) := by decide +kernel
theorem dX11_falses_81 : decode cX11_falses 81 = .ok (.ireturn, 1) := by decide +kernel
theorem dJ7_fill_53178_0 : decode cJ7_fill_53178 0 = .ok (.iconst 0, 1) := by decide +kernel
theorem dJ7_fill_53178_1 : decode cJ7_fill_53178 1 = .ok (.istore_n 2, 1) := by decide +kernel
theorem dJ7_fill_53178_2 : decode cJ7_fill_53178 2 = .ok (.aload_n 0, 1) := by decide +kernel
theorem dJ7_fill_53178_3 : decode cJ7_fill_53178 3 = .ok (.arraylength, 1) := by decide +kernel
theorem dJ7_fill_53178_4 : decode cJ7_fill_53178 4 = .ok (.istore_n 3, 1) := by decide +kernel
theorem dJ7_fill_53178_5 : decode cJ7_fill_53178 5 = .ok (.iload_n 2, 1) := by decide +kernel
theorem dJ7_fill_53178_6 : decode cJ7_fill_53178 6 = .ok (.iload_n 3, 1) := by decide +kernel
theorem dJ7_fill_53178_7 : decode cJ7_fill_53178 7 = .ok (.if_icmp .ge 13, 3) := by decide +kernel
theorem dJ7_fill_53178_10 : decode cJ7_fill_53178 10 = .ok (.aload_n 0, 1) := by decide +kernel
theorem dJ7_fill_53178_11 : decode cJ7_fill_53178 11 = .ok (.iload_n 2, 1) := by decide +kernel
theorem dJ7_fill_53178_12 : decode cJ7_fill_53178 12 = .ok (.iload_n 1, 1) := by decide +kernel
theorem dJ7_fill_53178_13 : decode cJ7_fill_53178 13 = .ok (.iastore, 1) := by decide +kernel
theorem dJ7_fill_53178_14 : decode cJ7_fill_53178 14 = .ok (.iinc 2 1, 3) := by decide +kernel
theorem dJ7_fill_53178_17 : decode cJ7_fill_53178 17 = .ok (.goto (-12), 3) := by decide +kernel
theorem dJ7_fill_53178_20 : decode cJ7_fill_53178 20 = .ok (.return_, 1) := by decide +kernel
theorem dX0_clear_0 : decode cX0_clear 0 = .ok (.aload_n 0, 1) := by decide +kernel
theorem dX0_clear_1 : decode cX0_clear 1 = .ok (.iconst 0, 1) := by decide +kernel
theorem dX0_clear_2 : decode cX0_clear 2 = .ok (.putfield 25, 3) := by decide +kernel
theorem dX0_clear_5 : decode cX0_clear 5 = .ok (.aload_n 0, 1) := by decide +kernel
theorem dX0_clear_6 : decode cX0_clear 6 = .ok (.iconst 0, 1) := by decide +kernel
theorem dX0_clear_7 : decode cX0_clear 7 = .ok (.putfield 29, 3) := by decide +kernel
theorem dX0_clear_10 : decode cX0_clear 10 = .ok (.aload_n 0, 1) := by decide +kernel
theorem dX0_clear_11 : decode cX0_clear 11 = .ok (.iconst 0, 1) := by decide +kernel
theorem dX0_clear_12 : decode cX0_clear 12 = .ok (.putfield 32, 3) := by decide +kernel
theorem dX0_clear_15 : decode cX0_clear 15 = .ok (.return_, 1) := by decide +kernel
theorem dX2_clear_0 : decode cX2_clear 0 = .ok (.aload_n 0, 1) := by decide +kernel
theorem dX2_clear_1 : decode cX2_clear 1 = .ok (.getfield 12, 3) := by decide +kernel
theorem dX2_clear_4 : decode cX2_clear 4 = .ok (.iconst 0, 1) := by decide +kernel
theorem dX2_clear_5 : decode cX2_clear 5 = .ok (.putfield 46, 3) := by decide +kernel
theorem dX2_clear_8 : decode cX2_clear 8 = .ok (.aload_n 0, 1) := by decide +kernel
theorem dX2_clear_9 : decode cX2_clear 9 = .ok (.getfield 21, 3) := by decide +kernel
theorem dX2_clear_12 : decode cX2_clear 12 = .ok (.invokevirtual 49, 3) := by decide +kernel
theorem dX2_clear_15 : decode cX2_clear 15 = .ok (.aload_n 0, 1) := by decide +kernel
theorem dX2_clear_16 : decode cX2_clear 16 = .ok (.getfield 28, 3) := by decide +kernel
theorem dX2_clear_19 : decode cX2_clear 19 = .ok (.iconst 0, 1) := by decide +kernel
theorem dX2_clear_20 : decode cX2_clear 20 = .ok (.putfield 52, 3) := by decide +kernel
theorem dX2_clear_23 : decode cX2_clear 23 = .ok (.aload_n 0, 1) := by decide +kernel
theorem dX2_clear_24 : decode cX2_clear 24 = .ok (.iconst 0, 1) := by decide +kernel
theorem dX2_clear_25 : decode cX2_clear 25 = .ok (.putfield 53, 3) := by decide +kernel
theorem dX2_clear_28 : decode cX2_clear 28 = .ok (.aload_n 0, 1) := by decide +kernel
theorem dX2_clear_29 : decode cX2_clear 29 = .ok (.bipush 9, 2) := by decide +kernel
theorem dX2_clear_31 : decode cX2_clear 31 = .ok (.putfield 39, 3) := by decide +kernel
theorem dX2_clear_34 : decode cX2_clear 34 = .ok (.aload_n 0, 1) := by decide +kernel
theorem dX2_clear_35 : decode cX2_clear 35 = .ok (.iconst 0, 1) := by decide +kernel
theorem dX2_clear_36 : decode cX2_clear 36 = .ok (.putfield 56, 3) := by decide +kernel
theorem dX2_clear_39 : decode cX2_clear 39 = .ok (.aload_n 0, 1) := by decide +kernel
theorem dX2_clear_40 : decode cX2_clear 40 = .ok (.getfield 43, 3) := by decide +kernel
theorem dX2_clear_43 : decode cX2_clear 43 = .ok (.iconst 0, 1) := by decide +kernel
theorem dX2_clear_44 : decode cX2_clear 44 = .ok (.invokestatic 59, 3) := by decide +kernel
theorem dX2_clear_47 : decode cX2_clear 47 = .ok (.return_, 1) := by decide +kernel
theorem dX9_begin_0 : decode cX9_begin 0 = .ok (.aload_n 0, 1) := by decide +kernel
theorem dX9_begin_1 : decode cX9_begin 1 = .ok (.iconst 0, 1) := by decide +kernel
theorem dX9_begin_2 : decode cX9_begin 2 = .ok (.putfield 33, 3) := by decide +kernel
theorem dX9_begin_5 : decode cX9_begin 5 = .ok (.aload_n 0, 1) := by decide +kernel
theorem dX9_begin_6 : decode cX9_begin 6 = .ok (.aload_n 1, 1) := by decide +kernel
theorem dX9_begin_7 : decode cX9_begin 7 = .ok (.getfield 37, 3) := by decide +kernel
theorem dX9_begin_10 : decode cX9_begin 10 = .ok (.putfield 42, 3) := by decide +kernel
theorem dX9_begin_13 : decode cX9_begin 13 = .ok (.aload_n 0, 1) := by decide +kernel
theorem dX9_begin_14 : decode cX9_begin 14 = .ok (.iconst 1, 1) := by decide +kernel
theorem dX9_begin_15 : decode cX9_begin 15 = .ok (.aload_n 1, 1) := by decide +kernel
theorem dX9_begin_16 : decode cX9_begin 16 = .ok (.getfield 45, 3) := by decide +kernel
theorem dX9_begin_19 : decode cX9_begin 19 = .ok (.getfield 49, 3) := by decide +kernel
theorem dX9_begin_22 : decode cX9_begin 22 = .ok (.ishl, 1) := by decide +kernel
theorem dX9_begin_23 : decode cX9_begin 23 = .ok (.iconst 1, 1) := by decide +kernel
theorem dX9_begin_24 : decode cX9_begin 24 = .ok (.isub, 1) := by decide +kernel
theorem dX9_begin_25 : decode cX9_begin 25 = .ok (.putfield 54, 3) := by decide +kernel
theorem dX9_begin_28 : decode cX9_begin 28 = .ok (.aload_n 0, 1) := by decide +kernel
theorem dX9_begin_29 : decode cX9_begin 29 = .ok (.iconst 0, 1) := by decide +kernel
theorem dX9_begin_30 : decode cX9_begin 30 = .ok (.putfield 57, 3) := by decide +kernel
theorem dX9_begin_33 : decode cX9_begin 33 = .ok (.aload_n 0, 1) := by decide +kernel
theorem dX9_begin_34 : decode cX9_begin 34 = .ok (.iconst 0, 1) := by decide +kernel
theorem dX9_begin_35 : decode cX9_begin 35 = .ok (.putfield 60, 3) := by decide +kernel
theorem dX9_begin_38 : decode cX9_begin 38 = .ok (.aload_n 0, 1) := by decide +kernel
theorem dX9_begin_39 : decode cX9_begin 39 = .ok (.iconst 0, 1) := by decide +kernel
theorem dX9_begin_40 : decode cX9_begin 40 = .ok (.putfield 63, 3) := by decide +kernel
theorem dX9_begin_43 : decode cX9_begin 43 = .ok (.aload_n 0, 1) := by decide +kernel
theorem dX9_begin_44 : decode cX9_begin 44 = .ok (.iconst 0, 1) := by decide +kernel
theorem dX9_begin_45 : decode cX9_begin 45 = .ok (.putfield 66, 3) := by decide +kernel
theorem dX9_begin_48 : decode cX9_begin 48 = .ok (.aload_n 1, 1) := by decide +kernel
theorem dX9_begin_49 : decode cX9_begin 49 = .ok (.getfield 45, 3) := by decide +kernel
theorem dX9_begin_52 : decode cX9_begin 52 = .ok (.getfield 69, 3) := by decide +kernel
theorem dX9_begin_55 : decode cX9_begin 55 = .ok (.iconst 0, 1) := by decide +kernel
theorem dX9_begin_56 : decode cX9_begin 56 = .ok (.aload_n 0, 1) := by decide +kernel
theorem dX9_begin_57 : decode cX9_begin 57 = .ok (.getfield 9, 3) := by decide +kernel
theorem dX9_begin_60 : decode cX9_begin 60 = .ok (.iconst 0, 1) := by decide +kernel
theorem dX9_begin_61 : decode cX9_begin 61 = .ok (.bipush 6, 2) := by decide +kernel
theorem dX9_begin_63 : decode cX9_begin 63 = .ok (.invokestatic 70, 3) := by decide +kernel
theorem dX9_begin_66 : decode cX9_begin 66 = .ok (.aload_n 0, 1) := by decide +kernel
theorem dX9_begin_67 : decode cX9_begin 67 = .ok (.getfield 15, 3) := by decide +kernel
theorem dX9_begin_70 : decode cX9_begin 70 = .ok (.iconst 0, 1) := by decide +kernel
theorem dX9_begin_71 : decode cX9_begin 71 = .ok (.invokestatic 76, 3) := by decide +kernel
theorem dX9_begin_74 : decode cX9_begin 74 = .ok (.iconst 0, 1) := by decide +kernel
theorem dX9_begin_75 : decode cX9_begin 75 = .ok (.istore_n 2, 1) := by decide +kernel
theorem dX9_begin_76 : decode cX9_begin 76 = .ok (.iload_n 2, 1) := by decide +kernel
theorem dX9_begin_77 : decode cX9_begin 77 = .ok (.aload_n 1, 1) := by decide +kernel
theorem dX9_begin_78 : decode cX9_begin 78 = .ok (.getfield 82, 3) := by decide +kernel
theorem dX9_begin_81 : decode cX9_begin 81 = .ok (.if_icmp .ge 37, 3) := by decide +kernel
theorem dX9_begin_118 : decode cX9_begin 118 = .ok (.return_, 1) := by decide +kernel
theorem dX9_copy_0 : decode cX9_copy 0 = .ok (.aload_n 0, 1) := by decide +kernel
theorem dX9_copy_1 : decode cX9_copy 1 = .ok (.aload_n 1, 1) := by decide +kernel
theorem dX9_copy_2 : decode cX9_copy 2 = .ok (.getfield 33, 3) := by decide +kernel
theorem dX9_copy_5 : decode cX9_copy 5 = .ok (.putfield 33, 3) := by decide +kernel
theorem dX9_copy_8 : decode cX9_copy 8 = .ok (.aload_n 0, 1) := by decide +kernel
theorem dX9_copy_9 : decode cX9_copy 9 = .ok (.aload_n 1, 1) := by decide +kernel
theorem dX9_copy_10 : decode cX9_copy 10 = .ok (.getfield 42, 3) := by decide +kernel
theorem dX9_copy_13 : decode cX9_copy 13 = .ok (.putfield 42, 3) := by decide +kernel
theorem dX9_copy_16 : decode cX9_copy 16 = .ok (.aload_n 0, 1) := by decide +kernel
theorem dX9_copy_17 : decode cX9_copy 17 = .ok (.aload_n 1, 1) := by decide +kernel
theorem dX9_copy_18 : decode cX9_copy 18 = .ok (.getfield 54, 3) := by decide +kernel
theorem dX9_copy_21 : decode cX9_copy 21 = .ok (.putfield 54, 3) := by decide +kernel
theorem dX9_copy_24 : decode cX9_copy 24 = .ok (.aload_n 0, 1) := by decide +kernel
theorem dX9_copy_25 : decode cX9_copy 25 = .ok (.aload_n 1, 1) := by decide +kernel
theorem dX9_copy_26 : decode cX9_copy 26 = .ok (.getfield 57, 3) := by decide +kernel
theorem dX9_copy_29 : decode cX9_copy 29 = .ok (.putfield 57, 3) := by decide +kernel
theorem dX9_copy_32 : decode cX9_copy 32 = .ok (.aload_n 0, 1) := by decide +kernel
theorem dX9_copy_33 : decode cX9_copy 33 = .ok (.aload_n 1, 1) := by decide +kernel
theorem dX9_copy_34 : decode cX9_copy 34 = .ok (.getfield 60, 3) := by decide +kernel
theorem dX9_copy_37 : decode cX9_copy 37 = .ok (.putfield 60, 3) := by decide +kernel
theorem dX9_copy_40 : decode cX9_copy 40 = .ok (.aload_n 0, 1) := by decide +kernel
theorem dX9_copy_41 : decode cX9_copy 41 = .ok (.aload_n 1, 1) := by decide +kernel
theorem dX9_copy_42 : decode cX9_copy 42 = .ok (.getfield 63, 3) := by decide +kernel
theorem dX9_copy_45 : decode cX9_copy 45 = .ok (.putfield 63, 3) := by decide +kernel
theorem dX9_copy_48 : decode cX9_copy 48 = .ok (.aload_n 0, 1) := by decide +kernel
theorem dX9_copy_49 : decode cX9_copy 49 = .ok (.aload_n 1, 1) := by decide +kernel
theorem dX9_copy_50 : decode cX9_copy 50 = .ok (.getfield 66, 3) := by decide +kernel
theorem dX9_copy_53 : decode cX9_copy 53 = .ok (.putfield 66, 3) := by decide +kernel
theorem dX9_copy_56 : decode cX9_copy 56 = .ok (.aload_n 1, 1) := by decide +kernel
theorem dX9_copy_57 : decode cX9_copy 57 = .ok (.getfield 9, 3) := by decide +kernel
theorem dX9_copy_60 : decode cX9_copy 60 = .ok (.iconst 0, 1) := by decide +kernel
theorem dX9_copy_61 : decode cX9_copy 61 = .ok (.aload_n 0, 1) := by decide +kernel
theorem dX9_copy_62 : decode cX9_copy 62 = .ok (.getfield 9, 3) := by decide +kernel
theorem dX9_copy_65 : decode cX9_copy 65 = .ok (.iconst 0, 1) := by decide +kernel
theorem dX9_copy_66 : decode cX9_copy 66 = .ok (.bipush 6, 2) := by decide +kernel
theorem dX9_copy_68 : decode cX9_copy 68 = .ok (.invokestatic 70, 3) := by decide +kernel
theorem dX9_copy_71 : decode cX9_copy 71 = .ok (.aload_n 1, 1) := by decide +kernel
theorem dX9_copy_72 : decode cX9_copy 72 = .ok (.getfield 15, 3) := by decide +kernel
theorem dX9_copy_75 : decode cX9_copy 75 = .ok (.iconst 0, 1) := by decide +kernel
theorem dX9_copy_76 : decode cX9_copy 76 = .ok (.aload_n 0, 1) := by decide +kernel
theorem dX9_copy_77 : decode cX9_copy 77 = .ok (.getfield 15, 3) := by decide +kernel
theorem dX9_copy_80 : decode cX9_copy 80 = .ok (.iconst 0, 1) := by decide +kernel
theorem dX9_copy_81 : decode cX9_copy 81 = .ok (.bipush 6, 2) := by decide +kernel
theorem dX9_copy_83 : decode cX9_copy 83 = .ok (.invokestatic 70, 3) := by decide +kernel
theorem dX9_copy_86 : decode cX9_copy 86 = .ok (.aload_n 1, 1) := by decide +kernel
theorem dX9_copy_87 : decode cX9_copy 87 = .ok (.getfield 18, 3) := by decide +kernel
theorem dX9_copy_90 : decode cX9_copy 90 = .ok (.iconst 0, 1) := by decide +kernel
theorem dX9_copy_91 : decode cX9_copy 91 = .ok (.aload_n 0, 1) := by decide +kernel
theorem dX9_copy_92 : decode cX9_copy 92 = .ok (.getfield 18, 3) := by decide +kernel
theorem dX9_copy_95 : decode cX9_copy 95 = .ok (.iconst 0, 1) := by decide +kernel
theorem dX9_copy_96 : decode cX9_copy 96 = .ok (.bipush 8, 2) := by decide +kernel
theorem dX9_copy_98 : decode cX9_copy 98 = .ok (.invokestatic 70, 3) := by decide +kernel
theorem dX9_copy_101 : decode cX9_copy 101 = .ok (.aload_n 1, 1) := by decide +kernel
theorem dX9_copy_102 : decode cX9_copy 102 = .ok (.getfield 21, 3) := by decide +kernel
theorem dX9_copy_105 : decode cX9_copy 105 = .ok (.iconst 0, 1) := by decide +kernel
theorem dX9_copy_106 : decode cX9_copy 106 = .ok (.aload_n 0, 1) := by decide +kernel
theorem dX9_copy_107 : decode cX9_copy 107 = .ok (.getfield 21, 3) := by decide +kernel
theorem dX9_copy_110 : decode cX9_copy 110 = .ok (.iconst 0, 1) := by decide +kernel
theorem dX9_copy_111 : decode cX9_copy 111 = .ok (.bipush 8, 2) := by decide +kernel
theorem dX9_copy_113 : decode cX9_copy 113 = .ok (.invokestatic 70, 3) := by decide +kernel
theorem dX9_copy_116 : decode cX9_copy 116 = .ok (.aload_n 1, 1) := by decide +kernel
theorem dX9_copy_117 : decode cX9_copy 117 = .ok (.getfield 24, 3) := by decide +kernel
theorem dX9_copy_120 : decode cX9_copy 120 = .ok (.iconst 0, 1) := by decide +kernel
theorem dX9_copy_121 : decode cX9_copy 121 = .ok (.aload_n 0, 1) := by decide +kernel
theorem dX9_copy_122 : decode cX9_copy 122 = .ok (.getfield 24, 3) := by decide +kernel
theorem dX9_copy_125 : decode cX9_copy 125 = .ok (.iconst 0, 1) := by decide +kernel
theorem dX9_copy_126 : decode cX9_copy 126 = .ok (.bipush 8, 2) := by decide +kernel
theorem dX9_copy_128 : decode cX9_copy 128 = .ok (.invokestatic 70, 3) := by decide +kernel
theorem dX9_copy_131 : decode cX9_copy 131 = .ok (.aload_n 1, 1) := by decide +kernel
theorem dX9_copy_132 : decode cX9_copy 132 = .ok (.getfield 27, 3) := by decide +kernel
theorem dX9_copy_135 : decode cX9_copy 135 = .ok (.iconst 0, 1) := by decide +kernel
theorem dX9_copy_136 : decode cX9_copy 136 = .ok (.aload_n 0, 1) := by decide +kernel
theorem dX9_copy_137 : decode cX9_copy 137 = .ok (.getfield 27, 3) := by decide +kernel
theorem dX9_copy_140 : decode cX9_copy 140 = .ok (.iconst 0, 1) := by decide +kernel
theorem dX9_copy_141 : decode cX9_copy 141 = .ok (.bipush 16, 2) := by decide +kernel
theorem dX9_copy_143 : decode cX9_copy 143 = .ok (.invokestatic 70, 3) := by decide +kernel
theorem dX9_copy_146 : decode cX9_copy 146 = .ok (.aload_n 1, 1) := by decide +kernel
theorem dX9_copy_147 : decode cX9_copy 147 = .ok (.getfield 30, 3) := by decide +kernel
theorem dX9_copy_150 : decode cX9_copy 150 = .ok (.iconst 0, 1) := by decide +kernel
theorem dX9_copy_151 : decode cX9_copy 151 = .ok (.aload_n 0, 1) := by decide +kernel
theorem dX9_copy_152 : decode cX9_copy 152 = .ok (.getfield 30, 3) := by decide +kernel
theorem dX9_copy_155 : decode cX9_copy 155 = .ok (.iconst 0, 1) := by decide +kernel
theorem dX9_copy_156 : decode cX9_copy 156 = .ok (.aload_n 1, 1) := by decide +kernel
theorem dX9_copy_157 : decode cX9_copy 157 = .ok (.getfield 66, 3) := by decide +kernel
theorem dX9_copy_160 : decode cX9_copy 160 = .ok (.invokestatic 70, 3) := by decide +kernel
theorem dX9_copy_163 : decode cX9_copy 163 = .ok (.return_, 1) := by decide +kernel
theorem dX9_passDay_0 : decode cX9_passDay 0 = .ok (.aload_n 0, 1) := by decide +kernel
theorem dX9_passDay_1 : decode cX9_passDay 1 = .ok (.dup, 1) := by decide +kernel
theorem dX9_passDay_2 : decode cX9_passDay 2 = .ok (.getfield 33, 3) := by decide +kernel
theorem dX9_passDay_5 : decode cX9_passDay 5 = .ok (.iconst 1, 1) := by decide +kernel
theorem dX9_passDay_6 : decode cX9_passDay 6 = .ok (.iadd, 1) := by decide +kernel
theorem dX9_passDay_7 : decode cX9_passDay 7 = .ok (.putfield 33, 3) := by decide +kernel
theorem dX9_passDay_10 : decode cX9_passDay 10 = .ok (.iconst 0, 1) := by decide +kernel
theorem dX9_passDay_11 : decode cX9_passDay 11 = .ok (.istore_n 2, 1) := by decide +kernel
theorem dX9_passDay_12 : decode cX9_passDay 12 = .ok (.iload_n 2, 1) := by decide +kernel
theorem dX9_passDay_13 : decode cX9_passDay 13 = .ok (.aload_n 1, 1) := by decide +kernel
theorem dX9_passDay_14 : decode cX9_passDay 14 = .ok (.getfield 45, 3) := by decide +kernel
theorem dX9_passDay_17 : decode cX9_passDay 17 = .ok (.getfield 49, 3) := by decide +kernel
theorem dX9_passDay_20 : decode cX9_passDay 20 = .ok (.if_icmp .ge 39, 3) := by decide +kernel
theorem dX9_passDay_59 : decode cX9_passDay 59 = .ok (.iconst 0, 1) := by decide +kernel
theorem dX9_passDay_60 : decode cX9_passDay 60 = .ok (.istore_n 2, 1) := by decide +kernel
theorem dX9_passDay_61 : decode cX9_passDay 61 = .ok (.iload_n 2, 1) := by decide +kernel
theorem dX9_passDay_62 : decode cX9_passDay 62 = .ok (.aload_n 0, 1) := by decide +kernel
theorem dX9_passDay_63 : decode cX9_passDay 63 = .ok (.getfield 63, 3) := by decide +kernel
theorem dX9_passDay_66 : decode cX9_passDay 66 = .ok (.if_icmp .ge 36, 3) := by decide +kernel
theorem dX9_passDay_102 : decode cX9_passDay 102 = .ok (.return_, 1) := by decide +kernel
theorem dX10_advance_0 : decode cX10_advance 0 = .ok (.aload_n 0, 1) := by decide +kernel
theorem dX10_advance_1 : decode cX10_advance 1 = .ok (.getfield 44, 3) := by decide +kernel
theorem dX10_advance_4 : decode cX10_advance 4 = .ok (.aload_n 0, 1) := by decide +kernel
theorem dX10_advance_5 : decode cX10_advance 5 = .ok (.getfield 41, 3) := by decide +kernel
theorem dX10_advance_8 : decode cX10_advance 8 = .ok (.if_icmp .ge 31, 3) := by decide +kernel
theorem dX10_advance_39 : decode cX10_advance 39 = .ok (.aload_n 0, 1) := by decide +kernel
theorem dX10_advance_40 : decode cX10_advance 40 = .ok (.aload_n 0, 1) := by decide +kernel
theorem dX10_advance_41 : decode cX10_advance 41 = .ok (.getfield 44, 3) := by decide +kernel
theorem dX10_advance_44 : decode cX10_advance 44 = .ok (.putfield 54, 3) := by decide +kernel
theorem dX10_advance_47 : decode cX10_advance 47 = .ok (.aload_n 0, 1) := by decide +kernel
theorem dX10_advance_48 : decode cX10_advance 48 = .ok (.iconst 0, 1) := by decide +kernel
theorem dX10_advance_49 : decode cX10_advance 49 = .ok (.putfield 57, 3) := by decide +kernel
theorem dX10_advance_52 : decode cX10_advance 52 = .ok (.aload_n 0, 1) := by decide +kernel
theorem dX10_advance_53 : decode cX10_advance 53 = .ok (.lconst 0, 1) := by decide +kernel
theorem dX10_advance_54 : decode cX10_advance 54 = .ok (.putfield 60, 3) := by decide +kernel
theorem dX10_advance_57 : decode cX10_advance 57 = .ok (.aload_n 0, 1) := by decide +kernel
theorem dX10_advance_58 : decode cX10_advance 58 = .ok (.getfield 44, 3) := by decide +kernel
theorem dX10_advance_61 : decode cX10_advance 61 = .ok (.aload_n 0, 1) := by decide +kernel
theorem dX10_advance_62 : decode cX10_advance 62 = .ok (.getfield 41, 3) := by decide +kernel
theorem dX10_advance_65 : decode cX10_advance 65 = .ok (.if_icmp .lt 11, 3) := by decide +kernel
theorem dX10_advance_68 : decode cX10_advance 68 = .ok (.aload_n 0, 1) := by decide +kernel
theorem dX10_advance_69 : decode cX10_advance 69 = .ok (.iconst 0, 1) := by decide +kernel
theorem dX10_advance_70 : decode cX10_advance 70 = .ok (.putfield 64, 3) := by decide +kernel
theorem dX10_advance_73 : decode cX10_advance 73 = .ok (.goto 51, 3) := by decide +kernel
theorem dX10_advance_124 : decode cX10_advance 124 = .ok (.return_, 1) := by decide +kernel
theorem dX10_open_0 : decode cX10_open 0 = .ok (.aload_n 0, 1) := by decide +kernel
theorem dX10_open_1 : decode cX10_open 1 = .ok (.aload_n 1, 1) := by decide +kernel
theorem dX10_open_2 : decode cX10_open 2 = .ok (.putfield 31, 3) := by decide +kernel
theorem dX10_open_5 : decode cX10_open 5 = .ok (.aload_n 0, 1) := by decide +kernel
theorem dX10_open_6 : decode cX10_open 6 = .ok (.aload_n 1, 1) := by decide +kernel
theorem dX10_open_7 : decode cX10_open 7 = .ok (.ifnonnull 7, 3) := by decide +kernel
theorem dX10_open_14 : decode cX10_open 14 = .ok (.iload_n 2, 1) := by decide +kernel
theorem dX10_open_15 : decode cX10_open 15 = .ok (.aload_n 1, 1) := by decide +kernel
theorem dX10_open_16 : decode cX10_open 16 = .ok (.arraylength, 1) := by decide +kernel
theorem dX10_open_17 : decode cX10_open 17 = .ok (.invokestatic 35, 3) := by decide +kernel
theorem dX10_open_20 : decode cX10_open 20 = .ok (.putfield 41, 3) := by decide +kernel
theorem dX10_open_23 : decode cX10_open 23 = .ok (.aload_n 0, 1) := by decide +kernel
theorem dX10_open_24 : decode cX10_open 24 = .ok (.iconst 0, 1) := by decide +kernel
theorem dX10_open_25 : decode cX10_open 25 = .ok (.putfield 44, 3) := by decide +kernel
theorem dX10_open_28 : decode cX10_open 28 = .ok (.aload_n 0, 1) := by decide +kernel
theorem dX10_open_29 : decode cX10_open 29 = .ok (.invokevirtual 47, 3) := by decide +kernel
theorem dX10_open_32 : decode cX10_open 32 = .ok (.return_, 1) := by decide +kernel
theorem dX5_read_0 : decode cX5_read 0 = .ok (.aload_n 0, 1) := by decide +kernel
theorem dX5_read_1 : decode cX5_read 1 = .ok (.iconst 0, 1) := by decide +kernel
theorem dX5_read_2 : decode cX5_read 2 = .ok (.putfield 22, 3) := by decide +kernel
theorem dX5_read_5 : decode cX5_read 5 = .ok (.aload_n 0, 1) := by decide +kernel
theorem dX5_read_6 : decode cX5_read 6 = .ok (.iconst (-1), 1) := by decide +kernel
theorem dX5_read_7 : decode cX5_read 7 = .ok (.putfield 9, 3) := by decide +kernel
theorem dX5_read_10 : decode cX5_read 10 = .ok (.aload_n 0, 1) := by decide +kernel
theorem dX5_read_11 : decode cX5_read 11 = .ok (.aload_n 3, 1) := by decide +kernel
theorem dX5_read_12 : decode cX5_read 12 = .ok (.putfield 25, 3) := by decide +kernel
theorem dX5_read_15 : decode cX5_read 15 = .ok (.aload_n 0, 1) := by decide +kernel
theorem dX5_read_16 : decode cX5_read 16 = .ok (.getfield 25, 3) := by decide +kernel
theorem dX5_read_19 : decode cX5_read 19 = .ok (.invokevirtual 29, 3) := by decide +kernel
theorem dX5_read_22 : decode cX5_read 22 = .ok (.aload_n 0, 1) := by decide +kernel
theorem dX5_read_23 : decode cX5_read 23 = .ok (.iconst 0, 1) := by decide +kernel
theorem dX5_read_24 : decode cX5_read 24 = .ok (.putfield 34, 3) := by decide +kernel
theorem dX5_read_27 : decode cX5_read 27 = .ok (.aload_n 0, 1) := by decide +kernel
theorem dX5_read_28 : decode cX5_read 28 = .ok (.iconst 0, 1) := by decide +kernel
theorem dX5_read_29 : decode cX5_read 29 = .ok (.putfield 38, 3) := by decide +kernel
theorem dX5_read_32 : decode cX5_read 32 = .ok (.aload_n 0, 1) := by decide +kernel
theorem dX5_read_33 : decode cX5_read 33 = .ok (.getfield 18, 3) := by decide +kernel
theorem dX5_read_36 : decode cX5_read 36 = .ok (.aload_n 1, 1) := by decide +kernel
theorem dX5_read_37 : decode cX5_read 37 = .ok (.iload_n 2, 1) := by decide +kernel
theorem dX5_read_38 : decode cX5_read 38 = .ok (.invokevirtual 41, 3) := by decide +kernel
theorem dX5_read_41 : decode cX5_read 41 = .ok (.iconst 0, 1) := by decide +kernel
theorem dX5_read_42 : decode cX5_read 42 = .ok (.istore 4, 2) := by decide +kernel
theorem dX5_read_44 : decode cX5_read 44 = .ok (.iload 4, 2) := by decide +kernel
theorem dX5_read_46 : decode cX5_read 46 = .ok (.sipush 1600, 3) := by decide +kernel
theorem dX5_read_49 : decode cX5_read 49 = .ok (.if_icmp .gt 197, 3) := by decide +kernel
theorem dX5_read_52 : decode cX5_read 52 = .ok (.aload_n 0, 1) := by decide +kernel
theorem dX5_read_53 : decode cX5_read 53 = .ok (.getfield 18, 3) := by decide +kernel
theorem dX5_read_56 : decode cX5_read 56 = .ok (.getfield 45, 3) := by decide +kernel
theorem dX5_read_59 : decode cX5_read 59 = .ok (.ifCond .eq 187, 3) := by decide +kernel
theorem dX5_read_246 : decode cX5_read 246 = .ok (.iconst 1, 1) := by decide +kernel
theorem dX5_read_247 : decode cX5_read 247 = .ok (.ireturn, 1) := by decide +kernel
theorem dX11_code_0 : decode cX11_code 0 = .ok (.aload_n 0, 1) := by decide +kernel
theorem dX11_code_1 : decode cX11_code 1 = .ok (.getfield 16, 3) := by decide +kernel
theorem dX11_code_4 : decode cX11_code 4 = .ok (.aload_n 0, 1) := by decide +kernel
theorem dX11_code_5 : decode cX11_code 5 = .ok (.getfield 9, 3) := by decide +kernel
theorem dX11_code_8 : decode cX11_code 8 = .ok (.aload_n 0, 1) := by decide +kernel
theorem dX11_code_9 : decode cX11_code 9 = .ok (.getfield 72, 3) := by decide +kernel
theorem dX11_code_12 : decode cX11_code 12 = .ok (.aload_n 0, 1) := by decide +kernel
theorem dX11_code_13 : decode cX11_code 13 = .ok (.getfield 27, 3) := by decide +kernel
theorem dX11_code_16 : decode cX11_code 16 = .ok (.invokevirtual 80, 3) := by decide +kernel
theorem dX11_code_19 : decode cX11_code 19 = .ok (.ifCond .ne 5, 3) := by decide +kernel
theorem dX11_code_24 : decode cX11_code 24 = .ok (.aload_n 0, 1) := by decide +kernel
theorem dX11_code_25 : decode cX11_code 25 = .ok (.getfield 27, 3) := by decide +kernel
theorem dX11_code_28 : decode cX11_code 28 = .ok (.astore_n 1, 1) := by decide +kernel
theorem dX11_code_29 : decode cX11_code 29 = .ok (.aload_n 0, 1) := by decide +kernel
theorem dX11_code_30 : decode cX11_code 30 = .ok (.aload_n 0, 1) := by decide +kernel
theorem dX11_code_31 : decode cX11_code 31 = .ok (.getfield 23, 3) := by decide +kernel
theorem dX11_code_34 : decode cX11_code 34 = .ok (.putfield 27, 3) := by decide +kernel
theorem dX11_code_37 : decode cX11_code 37 = .ok (.aload_n 0, 1) := by decide +kernel
theorem dX11_code_38 : decode cX11_code 38 = .ok (.aload_n 1, 1) := by decide +kernel
theorem dX11_code_39 : decode cX11_code 39 = .ok (.putfield 23, 3) := by decide +kernel
theorem dX11_code_42 : decode cX11_code 42 = .ok (.aload_n 0, 1) := by decide +kernel
theorem dX11_code_43 : decode cX11_code 43 = .ok (.iconst 0, 1) := by decide +kernel
theorem dX11_code_44 : decode cX11_code 44 = .ok (.putfield 72, 3) := by decide +kernel
theorem dX11_code_47 : decode cX11_code 47 = .ok (.aload_n 0, 1) := by decide +kernel
theorem dX11_code_48 : decode cX11_code 48 = .ok (.iconst 0, 1) := by decide +kernel
theorem dX11_code_49 : decode cX11_code 49 = .ok (.putfield 84, 3) := by decide +kernel
theorem dX11_code_52 : decode cX11_code 52 = .ok (.aload_n 0, 1) := by decide +kernel
theorem dX11_code_53 : decode cX11_code 53 = .ok (.iconst 0, 1) := by decide +kernel
theorem dX11_code_54 : decode cX11_code 54 = .ok (.putfield 87, 3) := by decide +kernel
theorem dX11_code_57 : decode cX11_code 57 = .ok (.aload_n 0, 1) := by decide +kernel
theorem dX11_code_58 : decode cX11_code 58 = .ok (.getfield 32, 3) := by decide +kernel
theorem dX11_code_61 : decode cX11_code 61 = .ok (.iconst 0, 1) := by decide +kernel
theorem dX11_code_62 : decode cX11_code 62 = .ok (.aaload, 1) := by decide +kernel
theorem dX11_code_63 : decode cX11_code 63 = .ok (.aload_n 0, 1) := by decide +kernel
theorem dX11_code_64 : decode cX11_code 64 = .ok (.getfield 23, 3) := by decide +kernel
theorem dX11_code_67 : decode cX11_code 67 = .ok (.invokevirtual 68, 3) := by decide +kernel
theorem dX11_code_70 : decode cX11_code 70 = .ok (.aload_n 0, 1) := by decide +kernel
theorem dX11_code_71 : decode cX11_code 71 = .ok (.getfield 49, 3) := by decide +kernel
theorem dX11_code_74 : decode cX11_code 74 = .ok (.invokevirtual 90, 3) := by decide +kernel
theorem dX11_code_77 : decode cX11_code 77 = .ok (.aload_n 0, 1) := by decide +kernel
theorem dX11_code_78 : decode cX11_code 78 = .ok (.getfield 63, 3) := by decide +kernel
theorem dX11_code_81 : decode cX11_code 81 = .ok (.invokevirtual 93, 3) := by decide +kernel
theorem dX11_code_84 : decode cX11_code 84 = .ok (.aload_n 0, 1) := by decide +kernel
theorem dX11_code_85 : decode cX11_code 85 = .ok (.iconst 0, 1) := by decide +kernel
theorem dX11_code_86 : decode cX11_code 86 = .ok (.putfield 94, 3) := by decide +kernel
theorem dX11_code_89 : decode cX11_code 89 = .ok (.aload_n 0, 1) := by decide +kernel
theorem dX11_code_90 : decode cX11_code 90 = .ok (.getfield 23, 3) := by decide +kernel
theorem dX11_code_93 : decode cX11_code 93 = .ok (.getfield 97, 3) := by decide +kernel
theorem dX11_code_96 : decode cX11_code 96 = .ok (.getfield 101, 3) := by decide +kernel
theorem dX11_code_99 : decode cX11_code 99 = .ok (.ireturn, 1) := by decide +kernel
theorem dX11_end_0 : decode cX11_end 0 = .ok (.iload_n 1, 1) := by decide +kernel
theorem dX11_end_1 : decode cX11_end 1 = .ok (.ifCond .lt 11, 3) := by decide +kernel
theorem dX11_end_4 : decode cX11_end 4 = .ok (.iload_n 1, 1) := by decide +kernel
theorem dX11_end_5 : decode cX11_end 5 = .ok (.aload_n 0, 1) := by decide +kernel
theorem dX11_end_6 : decode cX11_end 6 = .ok (.getfield 72, 3) := by decide +kernel
theorem dX11_end_9 : decode cX11_end 9 = .ok (.if_icmp .le 5, 3) := by decide +kernel
theorem dX11_end_12 : decode cX11_end 12 = .ok (.iconst (-1), 1) := by decide +kernel
theorem dX11_end_13 : decode cX11_end 13 = .ok (.ireturn, 1) := by decide +kernel
theorem dX11_end_14 : decode cX11_end 14 = .ok (.aload_n 0, 1) := by decide +kernel
theorem dX11_end_15 : decode cX11_end 15 = .ok (.iload_n 1, 1) := by decide +kernel
theorem dX11_end_16 : decode cX11_end 16 = .ok (.putfield 72, 3) := by decide +kernel
theorem dX11_end_19 : decode cX11_end 19 = .ok (.iload_n 1, 1) := by decide +kernel
theorem dX11_end_20 : decode cX11_end 20 = .ok (.ireturn, 1) := by decide +kernel
theorem dX11_fault_0 : decode cX11_fault 0 = .ok (.iload_n 1, 1) := by decide +kernel
theorem dX11_fault_1 : decode cX11_fault 1 = .ok (.lookupswitch 43 #[(0, 27), (1, 35)], 27) := by decide +kernel
theorem dX11_fault_28 : decode cX11_fault 28 = .ok (.aload_n 0, 1) := by decide +kernel
theorem dX11_fault_29 : decode cX11_fault 29 = .ok (.getfield 16, 3) := by decide +kernel
theorem dX11_fault_32 : decode cX11_fault 32 = .ok (.getfield 106, 3) := by decide +kernel
theorem dX11_fault_35 : decode cX11_fault 35 = .ok (.ireturn, 1) := by decide +kernel
theorem dX11_fault_36 : decode cX11_fault 36 = .ok (.aload_n 0, 1) := by decide +kernel
theorem dX11_fault_37 : decode cX11_fault 37 = .ok (.getfield 16, 3) := by decide +kernel
theorem dX11_fault_40 : decode cX11_fault 40 = .ok (.getfield 109, 3) := by decide +kernel
theorem dX11_fault_43 : decode cX11_fault 43 = .ok (.ireturn, 1) := by decide +kernel
theorem dX11_fault_44 : decode cX11_fault 44 = .ok (.iconst (-1), 1) := by decide +kernel
theorem dX11_fault_45 : decode cX11_fault 45 = .ok (.ireturn, 1) := by decide +kernel
theorem dX11_later_0 : decode cX11_later 0 = .ok (.iload_n 1, 1) := by decide +kernel
theorem dX11_later_1 : decode cX11_later 1 = .ok (.ifCond .lt 25, 3) := by decide +kernel
theorem dX11_later_4 : decode cX11_later 4 = .ok (.iload_n 1, 1) := by decide +kernel
theorem dX11_later_5 : decode cX11_later 5 = .ok (.sipush 1000, 3) := by decide +kernel
theorem dX11_later_8 : decode cX11_later 8 = .ok (.if_icmp .gt 18, 3) := by decide +kernel
theorem dX11_later_11 : decode cX11_later 11 = .ok (.aload_n 0, 1) := by decide +kernel
theorem dX11_later_12 : decode cX11_later 12 = .ok (.getfield 49, 3) := by decide +kernel
theorem dX11_later_15 : decode cX11_later 15 = .ok (.getfield 323, 3) := by decide +kernel
theorem dX11_later_18 : decode cX11_later 18 = .ok (.iload_n 1, 1) := by decide +kernel
theorem dX11_later_19 : decode cX11_later 19 = .ok (.iadd, 1) := by decide +kernel
theorem dX11_later_20 : decode cX11_later 20 = .ok (.ldc_w 326, 3) := by decide +kernel
theorem dX11_later_23 : decode cX11_later 23 = .ok (.if_icmp .le 5, 3) := by decide +kernel
theorem dX11_later_26 : decode cX11_later 26 = .ok (.iconst (-1), 1) := by decide +kernel
theorem dX11_later_27 : decode cX11_later 27 = .ok (.ireturn, 1) := by decide +kernel
theorem dX11_later_28 : decode cX11_later 28 = .ok (.aload_n 0, 1) := by decide +kernel
theorem dX11_later_29 : decode cX11_later 29 = .ok (.getfield 49, 3) := by decide +kernel
theorem dX11_later_32 : decode cX11_later 32 = .ok (.dup, 1) := by decide +kernel
theorem dX11_later_33 : decode cX11_later 33 = .ok (.getfield 323, 3) := by decide +kernel
theorem dX11_later_36 : decode cX11_later 36 = .ok (.iload_n 1, 1) := by decide +kernel
theorem dX11_later_37 : decode cX11_later 37 = .ok (.iadd, 1) := by decide +kernel
theorem dX11_later_38 : decode cX11_later 38 = .ok (.putfield 323, 3) := by decide +kernel
theorem dX11_later_41 : decode cX11_later 41 = .ok (.aload_n 0, 1) := by decide +kernel
theorem dX11_later_42 : decode cX11_later 42 = .ok (.getfield 49, 3) := by decide +kernel
theorem dX11_later_45 : decode cX11_later 45 = .ok (.getfield 323, 3) := by decide +kernel
theorem dX11_later_48 : decode cX11_later 48 = .ok (.ireturn, 1) := by decide +kernel
theorem dJ6_bitCount_0f7a4_0 : decode cJ6_bitCount_0f7a4 0 = .ok (.iload_n 0, 1) := by decide +kernel
theorem dJ6_bitCount_0f7a4_1 : decode cJ6_bitCount_0f7a4 1 = .ok (.iload_n 0, 1) := by decide +kernel
theorem dJ6_bitCount_0f7a4_2 : decode cJ6_bitCount_0f7a4 2 = .ok (.iconst 1, 1) := by decide +kernel
theorem dJ6_bitCount_0f7a4_3 : decode cJ6_bitCount_0f7a4 3 = .ok (.iushr, 1) := by decide +kernel
theorem dJ6_bitCount_0f7a4_4 : decode cJ6_bitCount_0f7a4 4 = .ok (.ldc_w 265, 3) := by decide +kernel
theorem dJ6_bitCount_0f7a4_7 : decode cJ6_bitCount_0f7a4 7 = .ok (.iand, 1) := by decide +kernel
theorem dJ6_bitCount_0f7a4_8 : decode cJ6_bitCount_0f7a4 8 = .ok (.isub, 1) := by decide +kernel
theorem dJ6_bitCount_0f7a4_9 : decode cJ6_bitCount_0f7a4 9 = .ok (.istore_n 0, 1) := by decide +kernel
theorem dJ6_bitCount_0f7a4_10 : decode cJ6_bitCount_0f7a4 10 = .ok (.iload_n 0, 1) := by decide +kernel
theorem dJ6_bitCount_0f7a4_11 : decode cJ6_bitCount_0f7a4 11 = .ok (.ldc_w 266, 3) := by decide +kernel
theorem dJ6_bitCount_0f7a4_14 : decode cJ6_bitCount_0f7a4 14 = .ok (.iand, 1) := by decide +kernel
theorem dJ6_bitCount_0f7a4_15 : decode cJ6_bitCount_0f7a4 15 = .ok (.iload_n 0, 1) := by decide +kernel
theorem dJ6_bitCount_0f7a4_16 : decode cJ6_bitCount_0f7a4 16 = .ok (.iconst 2, 1) := by decide +kernel
theorem dJ6_bitCount_0f7a4_17 : decode cJ6_bitCount_0f7a4 17 = .ok (.iushr, 1) := by decide +kernel
theorem dJ6_bitCount_0f7a4_18 : decode cJ6_bitCount_0f7a4 18 = .ok (.ldc_w 266, 3) := by decide +kernel
theorem dJ6_bitCount_0f7a4_21 : decode cJ6_bitCount_0f7a4 21 = .ok (.iand, 1) := by decide +kernel
theorem dJ6_bitCount_0f7a4_22 : decode cJ6_bitCount_0f7a4 22 = .ok (.iadd, 1) := by decide +kernel
theorem dJ6_bitCount_0f7a4_23 : decode cJ6_bitCount_0f7a4 23 = .ok (.istore_n 0, 1) := by decide +kernel
theorem dJ6_bitCount_0f7a4_24 : decode cJ6_bitCount_0f7a4 24 = .ok (.iload_n 0, 1) := by decide +kernel
theorem dJ6_bitCount_0f7a4_25 : decode cJ6_bitCount_0f7a4 25 = .ok (.iload_n 0, 1) := by decide +kernel
theorem dJ6_bitCount_0f7a4_26 : decode cJ6_bitCount_0f7a4 26 = .ok (.iconst 4, 1) := by decide +kernel
theorem dJ6_bitCount_0f7a4_27 : decode cJ6_bitCount_0f7a4 27 = .ok (.iushr, 1) := by decide +kernel
theorem dJ6_bitCount_0f7a4_28 : decode cJ6_bitCount_0f7a4 28 = .ok (.iadd, 1) := by decide +kernel
theorem dJ6_bitCount_0f7a4_29 : decode cJ6_bitCount_0f7a4 29 = .ok (.ldc_w 267, 3) := by decide +kernel
theorem dJ6_bitCount_0f7a4_32 : decode cJ6_bitCount_0f7a4 32 = .ok (.iand, 1) := by decide +kernel
theorem dJ6_bitCount_0f7a4_33 : decode cJ6_bitCount_0f7a4 33 = .ok (.istore_n 0, 1) := by decide +kernel
theorem dJ6_bitCount_0f7a4_34 : decode cJ6_bitCount_0f7a4 34 = .ok (.iload_n 0, 1) := by decide +kernel
theorem dJ6_bitCount_0f7a4_35 : decode cJ6_bitCount_0f7a4 35 = .ok (.iload_n 0, 1) := by decide +kernel
theorem dJ6_bitCount_0f7a4_36 : decode cJ6_bitCount_0f7a4 36 = .ok (.bipush 8, 2) := by decide +kernel
theorem dJ6_bitCount_0f7a4_38 : decode cJ6_bitCount_0f7a4 38 = .ok (.iushr, 1) := by decide +kernel
theorem dJ6_bitCount_0f7a4_39 : decode cJ6_bitCount_0f7a4 39 = .ok (.iadd, 1) := by decide +kernel
theorem dJ6_bitCount_0f7a4_40 : decode cJ6_bitCount_0f7a4 40 = .ok (.istore_n 0, 1) := by decide +kernel
theorem dJ6_bitCount_0f7a4_41 : decode cJ6_bitCount_0f7a4 41 = .ok (.iload_n 0, 1) := by decide +kernel
theorem dJ6_bitCount_0f7a4_42 : decode cJ6_bitCount_0f7a4 42 = .ok (.iload_n 0, 1) := by decide +kernel
theorem dJ6_bitCount_0f7a4_43 : decode cJ6_bitCount_0f7a4 43 = .ok (.bipush 16, 2) := by decide +kernel
theorem dJ6_bitCount_0f7a4_45 : decode cJ6_bitCount_0f7a4 45 = .ok (.iushr, 1) := by decide +kernel
theorem dJ6_bitCount_0f7a4_46 : decode cJ6_bitCount_0f7a4 46 = .ok (.iadd, 1) := by decide +kernel
theorem dJ6_bitCount_0f7a4_47 : decode cJ6_bitCount_0f7a4 47 = .ok (.istore_n 0, 1) := by decide +kernel
theorem dJ6_bitCount_0f7a4_48 : decode cJ6_bitCount_0f7a4 48 = .ok (.iload_n 0, 1) := by decide +kernel
theorem dJ6_bitCount_0f7a4_49 : decode cJ6_bitCount_0f7a4 49 = .ok (.bipush 63, 2) := by decide +kernel
theorem dJ6_bitCount_0f7a4_51 : decode cJ6_bitCount_0f7a4 51 = .ok (.iand, 1) := by decide +kernel
theorem dJ6_bitCount_0f7a4_52 : decode cJ6_bitCount_0f7a4 52 = .ok (.ireturn, 1) := by decide +kernel
theorem dX11_about_0 : decode cX11_about 0 = .ok (.aload_n 0, 1) := by decide +kernel
theorem dX11_about_1 : decode cX11_about 1 = .ok (.getfield 32, 3) := by decide +kernel
theorem dX11_about_4 : decode cX11_about 4 = .ok (.aload_n 0, 1) := by decide +kernel
theorem dX11_about_5 : decode cX11_about 5 = .ok (.getfield 84, 3) := by decide +kernel
theorem dX11_about_8 : decode cX11_about 8 = .ok (.aaload, 1) := by decide +kernel
theorem dX11_about_9 : decode cX11_about 9 = .ok (.astore_n 2, 1) := by decide +kernel
theorem dX11_about_10 : decode cX11_about 10 = .ok (.iload_n 1, 1) := by decide +kernel
theorem dX11_about_11 : decode cX11_about 11 = .ok (.tableswitch 198 0 15 #[77, 88, 99, 110, 115, 120, 125, 130, 138, 143, 148, 158, 166, 174, 179, 190], 77) := by decide +kernel
theorem dX11_about_88 : decode cX11_about 88 = .ok (.aload_n 0, 1) := by decide +kernel
theorem dX11_about_89 : decode cX11_about 89 = .ok (.getfield 23, 3) := by decide +kernel
theorem dX11_about_92 : decode cX11_about 92 = .ok (.getfield 97, 3) := by decide +kernel
theorem dX11_about_95 : decode cX11_about 95 = .ok (.getfield 101, 3) := by decide +kernel
theorem dX11_about_98 : decode cX11_about 98 = .ok (.ireturn, 1) := by decide +kernel
theorem dX11_about_99 : decode cX11_about 99 = .ok (.aload_n 0, 1) := by decide +kernel
theorem dX11_about_100 : decode cX11_about 100 = .ok (.getfield 23, 3) := by decide +kernel
theorem dX11_about_103 : decode cX11_about 103 = .ok (.getfield 331, 3) := by decide +kernel
theorem dX11_about_106 : decode cX11_about 106 = .ok (.getfield 335, 3) := by decide +kernel
theorem dX11_about_109 : decode cX11_about 109 = .ok (.ireturn, 1) := by decide +kernel
theorem dX11_about_110 : decode cX11_about 110 = .ok (.aload_n 0, 1) := by decide +kernel
theorem dX11_about_111 : decode cX11_about 111 = .ok (.getfield 23, 3) := by decide +kernel
theorem dX11_about_114 : decode cX11_about 114 = .ok (.getfield 157, 3) := by decide +kernel
theorem dX11_about_117 : decode cX11_about 117 = .ok (.getfield 338, 3) := by decide +kernel
theorem dX11_about_120 : decode cX11_about 120 = .ok (.ireturn, 1) := by decide +kernel
theorem dX11_about_121 : decode cX11_about 121 = .ok (.aload_n 2, 1) := by decide +kernel
theorem dX11_about_122 : decode cX11_about 122 = .ok (.getfield 207, 3) := by decide +kernel
theorem dX11_about_125 : decode cX11_about 125 = .ok (.ireturn, 1) := by decide +kernel
theorem dX11_about_126 : decode cX11_about 126 = .ok (.aload_n 2, 1) := by decide +kernel
theorem dX11_about_127 : decode cX11_about 127 = .ok (.getfield 243, 3) := by decide +kernel
theorem dX11_about_130 : decode cX11_about 130 = .ok (.ireturn, 1) := by decide +kernel
theorem dX11_about_131 : decode cX11_about 131 = .ok (.aload_n 2, 1) := by decide +kernel
theorem dX11_about_132 : decode cX11_about 132 = .ok (.getfield 339, 3) := by decide +kernel
theorem dX11_about_135 : decode cX11_about 135 = .ok (.ireturn, 1) := by decide +kernel
theorem dX11_about_136 : decode cX11_about 136 = .ok (.aload_n 2, 1) := by decide +kernel
theorem dX11_about_137 : decode cX11_about 137 = .ok (.getfield 342, 3) := by decide +kernel
theorem dX11_about_140 : decode cX11_about 140 = .ok (.ireturn, 1) := by decide +kernel
theorem dX11_about_141 : decode cX11_about 141 = .ok (.aload_n 2, 1) := by decide +kernel
theorem dX11_about_142 : decode cX11_about 142 = .ok (.getfield 345, 3) := by decide +kernel
theorem dX11_about_145 : decode cX11_about 145 = .ok (.invokestatic 151, 3) := by decide +kernel
theorem dX11_about_148 : decode cX11_about 148 = .ok (.ireturn, 1) := by decide +kernel
theorem dX11_about_149 : decode cX11_about 149 = .ok (.aload_n 2, 1) := by decide +kernel
theorem dX11_about_150 : decode cX11_about 150 = .ok (.getfield 311, 3) := by decide +kernel
theorem dX11_about_153 : decode cX11_about 153 = .ok (.ireturn, 1) := by decide +kernel
theorem dX11_about_154 : decode cX11_about 154 = .ok (.aload_n 0, 1) := by decide +kernel
theorem dX11_about_155 : decode cX11_about 155 = .ok (.getfield 84, 3) := by decide +kernel
theorem dX11_about_158 : decode cX11_about 158 = .ok (.ireturn, 1) := by decide +kernel
theorem dX11_about_159 : decode cX11_about 159 = .ok (.aload_n 0, 1) := by decide +kernel
theorem dX11_about_160 : decode cX11_about 160 = .ok (.getfield 87, 3) := by decide +kernel
theorem dX11_about_163 : decode cX11_about 163 = .ok (.aload_n 0, 1) := by decide +kernel
theorem dX11_about_164 : decode cX11_about 164 = .ok (.getfield 84, 3) := by decide +kernel
theorem dX11_about_167 : decode cX11_about 167 = .ok (.isub, 1) := by decide +kernel
theorem dX11_about_168 : decode cX11_about 168 = .ok (.ireturn, 1) := by decide +kernel
theorem dX11_about_169 : decode cX11_about 169 = .ok (.aload_n 0, 1) := by decide +kernel
theorem dX11_about_170 : decode cX11_about 170 = .ok (.getfield 49, 3) := by decide +kernel
theorem dX11_about_173 : decode cX11_about 173 = .ok (.getfield 348, 3) := by decide +kernel
theorem dX11_about_176 : decode cX11_about 176 = .ok (.ireturn, 1) := by decide +kernel
theorem dX11_about_177 : decode cX11_about 177 = .ok (.aload_n 0, 1) := by decide +kernel
theorem dX11_about_178 : decode cX11_about 178 = .ok (.getfield 49, 3) := by decide +kernel
theorem dX11_about_181 : decode cX11_about 181 = .ok (.getfield 323, 3) := by decide +kernel
theorem dX11_about_184 : decode cX11_about 184 = .ok (.ireturn, 1) := by decide +kernel
theorem dX11_about_185 : decode cX11_about 185 = .ok (.aload_n 0, 1) := by decide +kernel
theorem dX11_about_186 : decode cX11_about 186 = .ok (.getfield 72, 3) := by decide +kernel
theorem dX11_about_189 : decode cX11_about 189 = .ok (.ireturn, 1) := by decide +kernel
theorem dX11_about_190 : decode cX11_about 190 = .ok (.aload_n 0, 1) := by decide +kernel
theorem dX11_about_191 : decode cX11_about 191 = .ok (.getfield 23, 3) := by decide +kernel
theorem dX11_about_194 : decode cX11_about 194 = .ok (.getfield 331, 3) := by decide +kernel
theorem dX11_about_197 : decode cX11_about 197 = .ok (.getfield 349, 3) := by decide +kernel
theorem dX11_about_200 : decode cX11_about 200 = .ok (.ireturn, 1) := by decide +kernel
theorem dX11_about_201 : decode cX11_about 201 = .ok (.aload_n 0, 1) := by decide +kernel
theorem dX11_about_202 : decode cX11_about 202 = .ok (.getfield 63, 3) := by decide +kernel
theorem dX11_about_205 : decode cX11_about 205 = .ok (.getfield 307, 3) := by decide +kernel
theorem dX11_about_208 : decode cX11_about 208 = .ok (.ireturn, 1) := by decide +kernel
theorem dX11_about_209 : decode cX11_about 209 = .ok (.iconst (-1), 1) := by decide +kernel
theorem dX11_about_210 : decode cX11_about 210 = .ok (.ireturn, 1) := by decide +kernel
theorem dX11_nextState_0 : decode cX11_nextState 0 = .ok (.aload_n 0, 1) := by decide +kernel
theorem dX11_nextState_1 : decode cX11_nextState 1 = .ok (.getfield 84, 3) := by decide +kernel
theorem dX11_nextState_4 : decode cX11_nextState 4 = .ok (.bipush 40, 2) := by decide +kernel
theorem dX11_nextState_6 : decode cX11_nextState 6 = .ok (.if_icmp .ne 56, 3) := by decide +kernel
theorem dX11_nextState_62 : decode cX11_nextState 62 = .ok (.aload_n 0, 1) := by decide +kernel
theorem dX11_nextState_63 : decode cX11_nextState 63 = .ok (.getfield 32, 3) := by decide +kernel
theorem dX11_nextState_66 : decode cX11_nextState 66 = .ok (.aload_n 0, 1) := by decide +kernel
theorem dX11_nextState_67 : decode cX11_nextState 67 = .ok (.getfield 84, 3) := by decide +kernel
theorem dX11_nextState_70 : decode cX11_nextState 70 = .ok (.iconst 1, 1) := by decide +kernel
theorem dX11_nextState_71 : decode cX11_nextState 71 = .ok (.iadd, 1) := by decide +kernel
theorem dX11_nextState_72 : decode cX11_nextState 72 = .ok (.aaload, 1) := by decide +kernel
theorem dX11_nextState_73 : decode cX11_nextState 73 = .ok (.aload_n 0, 1) := by decide +kernel
theorem dX11_nextState_74 : decode cX11_nextState 74 = .ok (.getfield 32, 3) := by decide +kernel
theorem dX11_nextState_77 : decode cX11_nextState 77 = .ok (.aload_n 0, 1) := by decide +kernel
theorem dX11_nextState_78 : decode cX11_nextState 78 = .ok (.getfield 84, 3) := by decide +kernel
theorem dX11_nextState_81 : decode cX11_nextState 81 = .ok (.aaload, 1) := by decide +kernel
theorem dX11_nextState_82 : decode cX11_nextState 82 = .ok (.invokevirtual 213, 3) := by decide +kernel
theorem dX11_nextState_85 : decode cX11_nextState 85 = .ok (.aload_n 0, 1) := by decide +kernel
theorem dX11_nextState_86 : decode cX11_nextState 86 = .ok (.dup, 1) := by decide +kernel
theorem dX11_nextState_87 : decode cX11_nextState 87 = .ok (.getfield 84, 3) := by decide +kernel
theorem dX11_nextState_90 : decode cX11_nextState 90 = .ok (.iconst 1, 1) := by decide +kernel
theorem dX11_nextState_91 : decode cX11_nextState 91 = .ok (.iadd, 1) := by decide +kernel
theorem dX11_nextState_92 : decode cX11_nextState 92 = .ok (.putfield 84, 3) := by decide +kernel
theorem dX11_nextState_95 : decode cX11_nextState 95 = .ok (.aload_n 0, 1) := by decide +kernel
theorem dX11_nextState_96 : decode cX11_nextState 96 = .ok (.aload_n 0, 1) := by decide +kernel
theorem dX11_nextState_97 : decode cX11_nextState 97 = .ok (.getfield 84, 3) := by decide +kernel
theorem dX11_nextState_100 : decode cX11_nextState 100 = .ok (.putfield 87, 3) := by decide +kernel
theorem dX11_nextState_103 : decode cX11_nextState 103 = .ok (.aload_n 0, 1) := by decide +kernel
theorem dX11_nextState_104 : decode cX11_nextState 104 = .ok (.getfield 32, 3) := by decide +kernel
theorem dX11_nextState_107 : decode cX11_nextState 107 = .ok (.aload_n 0, 1) := by decide +kernel
theorem dX11_nextState_108 : decode cX11_nextState 108 = .ok (.getfield 84, 3) := by decide +kernel
theorem dX11_nextState_111 : decode cX11_nextState 111 = .ok (.aaload, 1) := by decide +kernel
theorem dX11_nextState_112 : decode cX11_nextState 112 = .ok (.areturn, 1) := by decide +kernel
theorem dX11_days_0 : decode cX11_days 0 = .ok (.iload_n 1, 1) := by decide +kernel
theorem dX11_days_1 : decode cX11_days 1 = .ok (.ifCond .lt 30, 3) := by decide +kernel
theorem dX11_days_4 : decode cX11_days 4 = .ok (.iload_n 1, 1) := by decide +kernel
theorem dX11_days_5 : decode cX11_days 5 = .ok (.sipush 400, 3) := by decide +kernel
theorem dX11_days_8 : decode cX11_days 8 = .ok (.if_icmp .gt 23, 3) := by decide +kernel
theorem dX11_days_11 : decode cX11_days 11 = .ok (.aload_n 0, 1) := by decide +kernel
theorem dX11_days_12 : decode cX11_days 12 = .ok (.getfield 32, 3) := by decide +kernel
theorem dX11_days_15 : decode cX11_days 15 = .ok (.aload_n 0, 1) := by decide +kernel
theorem dX11_days_16 : decode cX11_days 16 = .ok (.getfield 84, 3) := by decide +kernel
theorem dX11_days_19 : decode cX11_days 19 = .ok (.aaload, 1) := by decide +kernel
theorem dX11_days_20 : decode cX11_days 20 = .ok (.getfield 243, 3) := by decide +kernel
theorem dX11_days_23 : decode cX11_days 23 = .ok (.iload_n 1, 1) := by decide +kernel
theorem dX11_days_24 : decode cX11_days 24 = .ok (.iadd, 1) := by decide +kernel
theorem dX11_days_25 : decode cX11_days 25 = .ok (.sipush 9000, 3) := by decide +kernel
theorem dX11_days_28 : decode cX11_days 28 = .ok (.if_icmp .le 5, 3) := by decide +kernel
theorem dX11_days_31 : decode cX11_days 31 = .ok (.iconst (-1), 1) := by decide +kernel
theorem dX11_days_32 : decode cX11_days 32 = .ok (.ireturn, 1) := by decide +kernel
theorem dX11_days_33 : decode cX11_days 33 = .ok (.aload_n 0, 1) := by decide +kernel
theorem dX11_days_34 : decode cX11_days 34 = .ok (.invokevirtual 221, 3) := by decide +kernel
theorem dX11_days_37 : decode cX11_days 37 = .ok (.astore_n 2, 1) := by decide +kernel
theorem dX11_days_38 : decode cX11_days 38 = .ok (.iconst 0, 1) := by decide +kernel
theorem dX11_days_39 : decode cX11_days 39 = .ok (.istore_n 3, 1) := by decide +kernel
theorem dX11_days_40 : decode cX11_days 40 = .ok (.iload_n 3, 1) := by decide +kernel
theorem dX11_days_41 : decode cX11_days 41 = .ok (.iload_n 1, 1) := by decide +kernel
theorem dX11_days_42 : decode cX11_days 42 = .ok (.if_icmp .ge 17, 3) := by decide +kernel
theorem dX11_days_45 : decode cX11_days 45 = .ok (.aload_n 2, 1) := by decide +kernel
theorem dX11_days_46 : decode cX11_days 46 = .ok (.aload_n 0, 1) := by decide +kernel
theorem dX11_days_47 : decode cX11_days 47 = .ok (.getfield 23, 3) := by decide +kernel
theorem dX11_days_50 : decode cX11_days 50 = .ok (.invokevirtual 253, 3) := by decide +kernel
theorem dX11_days_53 : decode cX11_days 53 = .ok (.iinc 3 1, 3) := by decide +kernel
theorem dX11_days_56 : decode cX11_days 56 = .ok (.goto (-16), 3) := by decide +kernel
theorem dX11_days_59 : decode cX11_days 59 = .ok (.aload_n 2, 1) := by decide +kernel
theorem dX11_days_60 : decode cX11_days 60 = .ok (.getfield 243, 3) := by decide +kernel
theorem dX11_days_63 : decode cX11_days 63 = .ok (.ireturn, 1) := by decide +kernel
theorem dX11_image_0 : decode cX11_image 0 = .ok (.iload_n 1, 1) := by decide +kernel
theorem dX11_image_1 : decode cX11_image 1 = .ok (.ifCond .lt 8, 3) := by decide +kernel
theorem dX11_image_4 : decode cX11_image 4 = .ok (.iload_n 1, 1) := by decide +kernel
theorem dX11_image_5 : decode cX11_image 5 = .ok (.iconst 3, 1) := by decide +kernel
theorem dX11_image_6 : decode cX11_image 6 = .ok (.if_icmp .lt 5, 3) := by decide +kernel
theorem dX11_image_9 : decode cX11_image 9 = .ok (.iconst (-1), 1) := by decide +kernel
theorem dX11_image_10 : decode cX11_image 10 = .ok (.ireturn, 1) := by decide +kernel
theorem dX11_image_11 : decode cX11_image 11 = .ok (.aload_n 0, 1) := by decide +kernel
theorem dX11_image_12 : decode cX11_image 12 = .ok (.getfield 36, 3) := by decide +kernel
theorem dX11_image_15 : decode cX11_image 15 = .ok (.iload_n 1, 1) := by decide +kernel
theorem dX11_image_16 : decode cX11_image 16 = .ok (.aaload, 1) := by decide +kernel
theorem dX11_image_17 : decode cX11_image 17 = .ok (.aload_n 0, 1) := by decide +kernel
theorem dX11_image_18 : decode cX11_image 18 = .ok (.getfield 32, 3) := by decide +kernel
theorem dX11_image_21 : decode cX11_image 21 = .ok (.aload_n 0, 1) := by decide +kernel
theorem dX11_image_22 : decode cX11_image 22 = .ok (.getfield 84, 3) := by decide +kernel
theorem dX11_image_25 : decode cX11_image 25 = .ok (.aaload, 1) := by decide +kernel
theorem dX11_image_26 : decode cX11_image 26 = .ok (.invokevirtual 213, 3) := by decide +kernel
theorem dX11_image_29 : decode cX11_image 29 = .ok (.aload_n 0, 1) := by decide +kernel
theorem dX11_image_30 : decode cX11_image 30 = .ok (.dup, 1) := by decide +kernel
theorem dX11_image_31 : decode cX11_image 31 = .ok (.getfield 94, 3) := by decide +kernel
theorem dX11_image_34 : decode cX11_image 34 = .ok (.iconst 1, 1) := by decide +kernel
theorem dX11_image_35 : decode cX11_image 35 = .ok (.iload_n 1, 1) := by decide +kernel
theorem dX11_image_36 : decode cX11_image 36 = .ok (.ishl, 1) := by decide +kernel
theorem dX11_image_37 : decode cX11_image 37 = .ok (.ior, 1) := by decide +kernel
theorem dX11_image_38 : decode cX11_image 38 = .ok (.putfield 94, 3) := by decide +kernel
theorem dX11_image_41 : decode cX11_image 41 = .ok (.aload_n 0, 1) := by decide +kernel
theorem dX11_image_42 : decode cX11_image 42 = .ok (.getfield 32, 3) := by decide +kernel
theorem dX11_image_45 : decode cX11_image 45 = .ok (.aload_n 0, 1) := by decide +kernel
theorem dX11_image_46 : decode cX11_image 46 = .ok (.getfield 84, 3) := by decide +kernel
theorem dX11_image_49 : decode cX11_image 49 = .ok (.aaload, 1) := by decide +kernel
theorem dX11_image_50 : decode cX11_image 50 = .ok (.getfield 243, 3) := by decide +kernel
theorem dX11_image_53 : decode cX11_image 53 = .ok (.ireturn, 1) := by decide +kernel
theorem dX11_feedNumber_0 : decode cX11_feedNumber 0 = .ok (.bipush 24, 2) := by decide +kernel
theorem dX11_feedNumber_2 : decode cX11_feedNumber 2 = .ok (.istore_n 2, 1) := by decide +kernel
theorem dX11_feedNumber_3 : decode cX11_feedNumber 3 = .ok (.iload_n 2, 1) := by decide +kernel
theorem dX11_feedNumber_4 : decode cX11_feedNumber 4 = .ok (.ifCond .lt 32, 3) := by decide +kernel
theorem dX11_feedNumber_7 : decode cX11_feedNumber 7 = .ok (.aload_n 0, 1) := by decide +kernel
theorem dX11_feedNumber_8 : decode cX11_feedNumber 8 = .ok (.getfield 9, 3) := by decide +kernel
theorem dX11_feedNumber_11 : decode cX11_feedNumber 11 = .ok (.aload_n 0, 1) := by decide +kernel
theorem dX11_feedNumber_12 : decode cX11_feedNumber 12 = .ok (.getfield 72, 3) := by decide +kernel
theorem dX11_feedNumber_15 : decode cX11_feedNumber 15 = .ok (.iload_n 1, 1) := by decide +kernel
theorem dX11_feedNumber_16 : decode cX11_feedNumber 16 = .ok (.iload_n 2, 1) := by decide +kernel
theorem dX11_feedNumber_17 : decode cX11_feedNumber 17 = .ok (.ishr, 1) := by decide +kernel
theorem dX11_feedNumber_18 : decode cX11_feedNumber 18 = .ok (.i2b, 1) := by decide +kernel
theorem dX11_feedNumber_19 : decode cX11_feedNumber 19 = .ok (.bastore, 1) := by decide +kernel
theorem dX11_feedNumber_20 : decode cX11_feedNumber 20 = .ok (.aload_n 0, 1) := by decide +kernel
theorem dX11_feedNumber_21 : decode cX11_feedNumber 21 = .ok (.dup, 1) := by decide +kernel
theorem dX11_feedNumber_22 : decode cX11_feedNumber 22 = .ok (.getfield 72, 3) := by decide +kernel
theorem dX11_feedNumber_25 : decode cX11_feedNumber 25 = .ok (.iconst 1, 1) := by decide +kernel
theorem dX11_feedNumber_26 : decode cX11_feedNumber 26 = .ok (.iadd, 1) := by decide +kernel
theorem dX11_feedNumber_27 : decode cX11_feedNumber 27 = .ok (.putfield 72, 3) := by decide +kernel
theorem dX11_feedNumber_30 : decode cX11_feedNumber 30 = .ok (.iinc 2 (-8), 3) := by decide +kernel
theorem dX11_feedNumber_33 : decode cX11_feedNumber 33 = .ok (.goto (-30), 3) := by decide +kernel
theorem dX11_feedNumber_36 : decode cX11_feedNumber 36 = .ok (.return_, 1) := by decide +kernel
theorem dX11_feed_0 : decode cX11_feed 0 = .ok (.aload_n 0, 1) := by decide +kernel
theorem dX11_feed_1 : decode cX11_feed 1 = .ok (.getfield 72, 3) := by decide +kernel
theorem dX11_feed_4 : decode cX11_feed 4 = .ok (.bipush 20, 2) := by decide +kernel
theorem dX11_feed_6 : decode cX11_feed 6 = .ok (.iadd, 1) := by decide +kernel
theorem dX11_feed_7 : decode cX11_feed 7 = .ok (.sipush 1600, 3) := by decide +kernel
theorem dX11_feed_10 : decode cX11_feed 10 = .ok (.if_icmp .le 5, 3) := by decide +kernel
theorem dX11_feed_15 : decode cX11_feed 15 = .ok (.aload_n 0, 1) := by decide +kernel
theorem dX11_feed_16 : decode cX11_feed 16 = .ok (.iload_n 1, 1) := by decide +kernel
theorem dX11_feed_17 : decode cX11_feed 17 = .ok (.invokevirtual 76, 3) := by decide +kernel
theorem dX11_feed_20 : decode cX11_feed 20 = .ok (.aload_n 0, 1) := by decide +kernel
theorem dX11_feed_21 : decode cX11_feed 21 = .ok (.iload_n 2, 1) := by decide +kernel
theorem dX11_feed_22 : decode cX11_feed 22 = .ok (.invokevirtual 76, 3) := by decide +kernel
theorem dX11_feed_25 : decode cX11_feed 25 = .ok (.aload_n 0, 1) := by decide +kernel
theorem dX11_feed_26 : decode cX11_feed 26 = .ok (.iload_n 3, 1) := by decide +kernel
theorem dX11_feed_27 : decode cX11_feed 27 = .ok (.invokevirtual 76, 3) := by decide +kernel
theorem dX11_feed_30 : decode cX11_feed 30 = .ok (.aload_n 0, 1) := by decide +kernel
theorem dX11_feed_31 : decode cX11_feed 31 = .ok (.iload 4, 2) := by decide +kernel
theorem dX11_feed_33 : decode cX11_feed 33 = .ok (.invokevirtual 76, 3) := by decide +kernel
theorem dX11_feed_36 : decode cX11_feed 36 = .ok (.aload_n 0, 1) := by decide +kernel
theorem dX11_feed_37 : decode cX11_feed 37 = .ok (.iload 5, 2) := by decide +kernel
theorem dX11_feed_39 : decode cX11_feed 39 = .ok (.invokevirtual 76, 3) := by decide +kernel
theorem dX11_feed_42 : decode cX11_feed 42 = .ok (.aload_n 0, 1) := by decide +kernel
theorem dX11_feed_43 : decode cX11_feed 43 = .ok (.getfield 72, 3) := by decide +kernel
theorem dX11_feed_46 : decode cX11_feed 46 = .ok (.ireturn, 1) := by decide +kernel
end
section
set_option maxHeartbeats 4000000 in
set_option maxRecDepth 100000 in
theorem c_X3_has (l : Launch) (g : GG) (sz : Nat) (h : Nat) (m1 : Nat) (m2 : Nat) (m3 : Nat) (m4 : Nat) (p0 : Int32) : Met l yX3_has (.code yX3_has cX3_has 2 (some .boolean) :: gT) ({ frames := 0, cells := 0, slots := 0, locals := 0 }) (va_Pc [.ref h, .int p0] (Pst g sz [(h, .inr (3, [.int 0, .ref m1, .ref m2, .ref m3, .ref m4]))] nX)) (va_Qi (fun (r : Int32) (_ : Unit) => r = 0) (Qst g [] sz (fun _ => [])) (va_A [] sz)) 0 0 (va_A [] sz) := by
  refine Met.ofW (cc := cX3_has) (maxL := 2) (ret := (some .boolean)) (by decide) rfl ?_
  intro p e s m args below meth c s₁ B hml hv
  obtain ⟨rfl, hsz, hP, hK, hD0, hX⟩ := hv
  have hx := B.exec
  have hb := B.bytes
  have hr := B.returns
  have hT : ∀ w ∈ gT, w.before _ s = true := fun w h => atoms_spec (ws := .code yX3_has cX3_has 2 (some .boolean) :: gT) B.pre w (List.mem_cons_of_mem _ h)
  have hown : s.vm.findClass RX3 = some m.cls := findClass_of_methodNamed B.named
  have hlocks := B.notSynchronized
  subst hsz
  have hD := hD0
  generalize hAe : va_A [] s.heap.size = A at ⊢
  have hA : ∀ q : Nat, s.heap.size ≤ q → A q := fun q h => by rw [← hAe]; exact Or.inr h
  have hS : va_S A s.heap s.heap [] := va_S.rf
  have hl := lv_entry ([.ref h, .int p0]) (n := 2) (Nat.le_of_ble_eq_true rfl)
  rw [lg_entry_eq]
  generalize (lg_sl ([.ref h, .int p0]) ++ List.replicate (2 - (lg_sl ([.ref h, .int p0])).length) Slot.unset).toArray = ls at hl ⊢
  have hl : lv_has ls 2 [(0, .ref h), (1, .int p0)] := hl
  refine p_nH (fun H hH => ?_)
  have hP : va_P g.1 vwCl [(h, .inr (3, [.int 0, .ref m1, .ref m2, .ref m3, .ref m4]))] H := by rw [hH]; exact hP
  have hS : va_S A s.heap H [] := by rw [hH]; exact hS
  refine lv_iload_n hx hb dX3_has_0 rfl (lv_at hl 1 rfl) ?_
  refine lv_if_lt (tgt := 16) hx hb dX3_has_1 (by decide) (fun c_1 => ?_) (fun c_1 => ?_)
  · refine lv_iconst (v := 0) hx hb dX3_has_16 (by decide) ?_
    have hP9 : va_P g.1 vwCl [] H := hP.sub [] rfl
    have hD9 : va_D A [] := ⟨fun i j p q h => by simp at h, fun k q h => by simp at h⟩
    exact W.zret (v := 0) (ty := .boolean) hx hb hr rfl (fun t ht hW => ⟨⟨0, (), rfl, rfl, by rw [ht]; exact hP9, by rw [hAe]; exact hD9⟩, hS.F ht⟩) hS.2.2 dX3_has_17
  · refine lv_iload_n hx hb dX3_has_4 rfl (lv_at hl 1 rfl) ?_
    refine lv_aload_n hx hb dX3_has_5 rfl (lv_at hl 0 rfl) ?_
    refine va_get (D := g.1) (ci := 3) (v := .int 0) (C := RX3) (T := TX3) (N := 5) hx hb hT inF_X3 hown hK.1 hP 0 rfl rfl 0 (by decide) (hT _ bw_0) (fun _ h9 => h9) rfl dX3_has_6 ?_
    refine lv_icmp_ge (tgt := 16) hx hb dX3_has_9 (by decide) (fun _ => ?_) (fun c9 => absurd (by have e0 : (0 : Int32).toInt = 0 := (by decide); simp only [Int32.lt_iff_toInt_lt, Int32.le_iff_toInt_le, ← Int32.toInt_inj, e0] at c_1 ⊢; omega) c9)
    refine lv_iconst (v := 0) hx hb dX3_has_16 (by decide) ?_
    have hP9 : va_P g.1 vwCl [] H := hP.sub [] rfl
    have hD9 : va_D A [] := ⟨fun i j p q h => by simp at h, fun k q h => by simp at h⟩
    exact W.zret (v := 0) (ty := .boolean) hx hb hr rfl (fun t ht hW => ⟨⟨0, (), rfl, rfl, by rw [ht]; exact hP9, by rw [hAe]; exact hD9⟩, hS.F ht⟩) hS.2.2 dX3_has_17

set_option maxHeartbeats 4000000 in
set_option maxRecDepth 100000 in
theorem c_X6_has (l : Launch) (g : GG) (sz : Nat) (h : Nat) (r1 : Nat) (r2 : Nat) (r3 : Nat) (r4 : Nat) (r5 : Nat) (r6 : Nat) (r7 : Nat) (p0 : Int32) : Met l yX6_has (.code yX6_has cX6_has 2 (some .boolean) :: gT) ({ frames := 0, cells := 0, slots := 0, locals := 0 }) (va_Pc [.ref h, .int p0] (Pst g sz [(h, .inr (6, [.int 0, .ref r1, .ref r2, .ref r3, .ref r4, .ref r5, .ref r6, .ref r7]))] nX)) (va_Qi (fun (r : Int32) (_ : Unit) => r = 0) (Qst g [] sz (fun _ => [])) (va_A [] sz)) 0 0 (va_A [] sz) := by
  refine Met.ofW (cc := cX6_has) (maxL := 2) (ret := (some .boolean)) (by decide) rfl ?_
  intro p e s m args below meth c s₁ B hml hv
  obtain ⟨rfl, hsz, hP, hK, hD0, hX⟩ := hv
  have hx := B.exec
  have hb := B.bytes
  have hr := B.returns
  have hT : ∀ w ∈ gT, w.before _ s = true := fun w h => atoms_spec (ws := .code yX6_has cX6_has 2 (some .boolean) :: gT) B.pre w (List.mem_cons_of_mem _ h)
  have hown : s.vm.findClass RX6 = some m.cls := findClass_of_methodNamed B.named
  have hlocks := B.notSynchronized
  subst hsz
  have hD := hD0
  generalize hAe : va_A [] s.heap.size = A at ⊢
  have hA : ∀ q : Nat, s.heap.size ≤ q → A q := fun q h => by rw [← hAe]; exact Or.inr h
  have hS : va_S A s.heap s.heap [] := va_S.rf
  have hl := lv_entry ([.ref h, .int p0]) (n := 2) (Nat.le_of_ble_eq_true rfl)
  rw [lg_entry_eq]
  generalize (lg_sl ([.ref h, .int p0]) ++ List.replicate (2 - (lg_sl ([.ref h, .int p0])).length) Slot.unset).toArray = ls at hl ⊢
  have hl : lv_has ls 2 [(0, .ref h), (1, .int p0)] := hl
  refine p_nH (fun H hH => ?_)
  have hP : va_P g.1 vwCl [(h, .inr (6, [.int 0, .ref r1, .ref r2, .ref r3, .ref r4, .ref r5, .ref r6, .ref r7]))] H := by rw [hH]; exact hP
  have hS : va_S A s.heap H [] := by rw [hH]; exact hS
  refine lv_iload_n hx hb dX6_has_0 rfl (lv_at hl 1 rfl) ?_
  refine lv_if_lt (tgt := 16) hx hb dX6_has_1 (by decide) (fun c_1 => ?_) (fun c_1 => ?_)
  · refine lv_iconst (v := 0) hx hb dX6_has_16 (by decide) ?_
    have hP9 : va_P g.1 vwCl [] H := hP.sub [] rfl
    have hD9 : va_D A [] := ⟨fun i j p q h => by simp at h, fun k q h => by simp at h⟩
    exact W.zret (v := 0) (ty := .boolean) hx hb hr rfl (fun t ht hW => ⟨⟨0, (), rfl, rfl, by rw [ht]; exact hP9, by rw [hAe]; exact hD9⟩, hS.F ht⟩) hS.2.2 dX6_has_17
  · refine lv_iload_n hx hb dX6_has_4 rfl (lv_at hl 1 rfl) ?_
    refine lv_aload_n hx hb dX6_has_5 rfl (lv_at hl 0 rfl) ?_
    refine va_get (D := g.1) (ci := 6) (v := .int 0) (C := RX6) (T := TX6) (N := 8) hx hb hT inF_X6 hown hK.1 hP 0 rfl rfl 0 (by decide) (hT _ bw_2) (fun _ h9 => h9) rfl dX6_has_6 ?_
    refine lv_icmp_ge (tgt := 16) hx hb dX6_has_9 (by decide) (fun _ => ?_) (fun c9 => absurd (by have e0 : (0 : Int32).toInt = 0 := (by decide); simp only [Int32.lt_iff_toInt_lt, Int32.le_iff_toInt_le, ← Int32.toInt_inj, e0] at c_1 ⊢; omega) c9)
    refine lv_iconst (v := 0) hx hb dX6_has_16 (by decide) ?_
    have hP9 : va_P g.1 vwCl [] H := hP.sub [] rfl
    have hD9 : va_D A [] := ⟨fun i j p q h => by simp at h, fun k q h => by simp at h⟩
    exact W.zret (v := 0) (ty := .boolean) hx hb hr rfl (fun t ht hW => ⟨⟨0, (), rfl, rfl, by rw [ht]; exact hP9, by rw [hAe]; exact hD9⟩, hS.F ht⟩) hS.2.2 dX6_has_17

set_option maxHeartbeats 4000000 in
set_option maxRecDepth 100000 in
theorem c_X9_hasDuel (l : Launch) (g : GG) (sz : Nat) (h : Nat) (t1 : Nat) (t2 : Nat) (t3 : Nat) (t4 : Nat) (t5 : Nat) (t6 : Nat) (t7 : Nat) (p0 : Int32) : Met l yX9_hasDuel (.code yX9_hasDuel cX9_hasDuel 2 (some .boolean) :: gT) ({ frames := 0, cells := 0, slots := 0, locals := 0 }) (va_Pc [.ref h, .int p0] (Pst g sz [(h, .inr (9, [.int 0, .int 0, .int 0, .int 0, .int 0, .int 0, .int 0, .ref t1, .ref t2, .ref t3, .ref t4, .ref t5, .ref t6, .ref t7]))] nX)) (va_Qi (fun (r : Int32) (_ : Unit) => r = 0) (Qst g [] sz (fun _ => [])) (va_A [] sz)) 0 0 (va_A [] sz) := by
  refine Met.ofW (cc := cX9_hasDuel) (maxL := 2) (ret := (some .boolean)) (by decide) rfl ?_
  intro p e s m args below meth c s₁ B hml hv
  obtain ⟨rfl, hsz, hP, hK, hD0, hX⟩ := hv
  have hx := B.exec
  have hb := B.bytes
  have hr := B.returns
  have hT : ∀ w ∈ gT, w.before _ s = true := fun w h => atoms_spec (ws := .code yX9_hasDuel cX9_hasDuel 2 (some .boolean) :: gT) B.pre w (List.mem_cons_of_mem _ h)
  have hown : s.vm.findClass RX9 = some m.cls := findClass_of_methodNamed B.named
  have hlocks := B.notSynchronized
  subst hsz
  have hD := hD0
  generalize hAe : va_A [] s.heap.size = A at ⊢
  have hA : ∀ q : Nat, s.heap.size ≤ q → A q := fun q h => by rw [← hAe]; exact Or.inr h
  have hS : va_S A s.heap s.heap [] := va_S.rf
  have hl := lv_entry ([.ref h, .int p0]) (n := 2) (Nat.le_of_ble_eq_true rfl)
  rw [lg_entry_eq]
  generalize (lg_sl ([.ref h, .int p0]) ++ List.replicate (2 - (lg_sl ([.ref h, .int p0])).length) Slot.unset).toArray = ls at hl ⊢
  have hl : lv_has ls 2 [(0, .ref h), (1, .int p0)] := hl
  refine p_nH (fun H hH => ?_)
  have hP : va_P g.1 vwCl [(h, .inr (9, [.int 0, .int 0, .int 0, .int 0, .int 0, .int 0, .int 0, .ref t1, .ref t2, .ref t3, .ref t4, .ref t5, .ref t6, .ref t7]))] H := by rw [hH]; exact hP
  have hS : va_S A s.heap H [] := by rw [hH]; exact hS
  refine lv_iload_n hx hb dX9_hasDuel_0 rfl (lv_at hl 1 rfl) ?_
  refine lv_if_lt (tgt := 16) hx hb dX9_hasDuel_1 (by decide) (fun c_1 => ?_) (fun c_1 => ?_)
  · refine lv_iconst (v := 0) hx hb dX9_hasDuel_16 (by decide) ?_
    have hP9 : va_P g.1 vwCl [] H := hP.sub [] rfl
    have hD9 : va_D A [] := ⟨fun i j p q h => by simp at h, fun k q h => by simp at h⟩
    exact W.zret (v := 0) (ty := .boolean) hx hb hr rfl (fun t ht hW => ⟨⟨0, (), rfl, rfl, by rw [ht]; exact hP9, by rw [hAe]; exact hD9⟩, hS.F ht⟩) hS.2.2 dX9_hasDuel_17
  · refine lv_iload_n hx hb dX9_hasDuel_4 rfl (lv_at hl 1 rfl) ?_
    refine lv_aload_n hx hb dX9_hasDuel_5 rfl (lv_at hl 0 rfl) ?_
    refine va_get (D := g.1) (ci := 9) (v := .int 0) (C := RX9) (T := TX9) (N := 14) hx hb hT inF_X9 hown hK.1 hP 0 rfl rfl 5 (by decide) (hT _ bw_4) (fun _ h9 => h9) rfl dX9_hasDuel_6 ?_
    refine lv_icmp_ge (tgt := 16) hx hb dX9_hasDuel_9 (by decide) (fun _ => ?_) (fun c9 => absurd (by have e0 : (0 : Int32).toInt = 0 := (by decide); simp only [Int32.lt_iff_toInt_lt, Int32.le_iff_toInt_le, ← Int32.toInt_inj, e0] at c_1 ⊢; omega) c9)
    refine lv_iconst (v := 0) hx hb dX9_hasDuel_16 (by decide) ?_
    have hP9 : va_P g.1 vwCl [] H := hP.sub [] rfl
    have hD9 : va_D A [] := ⟨fun i j p q h => by simp at h, fun k q h => by simp at h⟩
    exact W.zret (v := 0) (ty := .boolean) hx hb hr rfl (fun t ht hW => ⟨⟨0, (), rfl, rfl, by rw [ht]; exact hP9, by rw [hAe]; exact hD9⟩, hS.F ht⟩) hS.2.2 dX9_hasDuel_17

set_option maxHeartbeats 4000000 in
set_option maxRecDepth 100000 in
theorem c_X9_firstOpen (l : Launch) (g : GG) (sz : Nat) (h : Nat) (t1 : Nat) (t2 : Nat) (t3 : Nat) (t4 : Nat) (t5 : Nat) (t6 : Nat) (t7 : Nat) : Met l yX9_firstOpen (.code yX9_firstOpen cX9_firstOpen 3 (some .int) :: gT) ({ frames := 0, cells := 0, slots := 0, locals := 0 }) (va_Pc [.ref h] (Pst g sz [(h, .inr (9, [.int 0, .int 0, .int 0, .int 0, .int 0, .int 0, .int 0, .ref t1, .ref t2, .ref t3, .ref t4, .ref t5, .ref t6, .ref t7]))] nX)) (va_Qi (fun (r : Int32) (_ : Unit) => r = (-1)) (Qst g [] sz (fun _ => [])) (va_A [] sz)) 0 0 (va_A [] sz) := by
  refine Met.ofW (cc := cX9_firstOpen) (maxL := 3) (ret := (some .int)) (by decide) rfl ?_
  intro p e s m args below meth c s₁ B hml hv
  obtain ⟨rfl, hsz, hP, hK, hD0, hX⟩ := hv
  have hx := B.exec
  have hb := B.bytes
  have hr := B.returns
  have hT : ∀ w ∈ gT, w.before _ s = true := fun w h => atoms_spec (ws := .code yX9_firstOpen cX9_firstOpen 3 (some .int) :: gT) B.pre w (List.mem_cons_of_mem _ h)
  have hown : s.vm.findClass RX9 = some m.cls := findClass_of_methodNamed B.named
  have hlocks := B.notSynchronized
  subst hsz
  have hD := hD0
  generalize hAe : va_A [] s.heap.size = A at ⊢
  have hA : ∀ q : Nat, s.heap.size ≤ q → A q := fun q h => by rw [← hAe]; exact Or.inr h
  have hS : va_S A s.heap s.heap [] := va_S.rf
  have hl := lv_entry ([.ref h]) (n := 3) (Nat.le_of_ble_eq_true rfl)
  rw [lg_entry_eq]
  generalize (lg_sl ([.ref h]) ++ List.replicate (3 - (lg_sl ([.ref h])).length) Slot.unset).toArray = ls at hl ⊢
  have hl : lv_has ls 3 [(0, .ref h)] := hl
  refine p_nH (fun H hH => ?_)
  have hP : va_P g.1 vwCl [(h, .inr (9, [.int 0, .int 0, .int 0, .int 0, .int 0, .int 0, .int 0, .ref t1, .ref t2, .ref t3, .ref t4, .ref t5, .ref t6, .ref t7]))] H := by rw [hH]; exact hP
  have hS : va_S A s.heap H [] := by rw [hH]; exact hS
  refine lv_iconst (v := (-1)) hx hb dX9_firstOpen_0 (by decide) ?_
  refine lv_istore_n (lv' := [(1, .int (-1)), (0, .ref h)]) hx hb dX9_firstOpen_1 rfl hl (by decide) rfl (fun ls hl => ?_)
  refine lv_iconst (v := 0) hx hb dX9_firstOpen_2 (by decide) ?_
  refine lv_istore_n (lv' := [(2, .int 0), (1, .int (-1)), (0, .ref h)]) hx hb dX9_firstOpen_3 rfl hl (by decide) rfl (fun ls hl => ?_)
  refine lv_iload_n hx hb dX9_firstOpen_4 rfl (lv_at hl 0 rfl) ?_
  refine lv_aload_n hx hb dX9_firstOpen_5 rfl (lv_at hl 2 rfl) ?_
  refine va_get (D := g.1) (ci := 9) (v := .int 0) (C := RX9) (T := TX9) (N := 14) hx hb hT inF_X9 hown hK.1 hP 0 rfl rfl 5 (by decide) (hT _ bw_4) (fun _ h9 => h9) rfl dX9_firstOpen_6 ?_
  refine lv_icmp_ge (tgt := 48) hx hb dX9_firstOpen_9 (by decide) (fun _ => ?_) (fun c9 => absurd (by decide) c9)
  refine lv_iload_n hx hb dX9_firstOpen_48 rfl (lv_at hl 1 rfl) ?_
  have hP9 : va_P g.1 vwCl [] H := hP.sub [] rfl
  have hD9 : va_D A [] := ⟨fun i j p q h => by simp at h, fun k q h => by simp at h⟩
  exact W.iret (v := (-1)) hx hb hr (fun t ht hW => ⟨⟨(-1), (), rfl, rfl, by rw [ht]; exact hP9, by rw [hAe]; exact hD9⟩, hS.F ht⟩) hS.2.2 dX9_firstOpen_49

set_option maxHeartbeats 4000000 in
set_option maxRecDepth 100000 in
theorem c_X8_takeBack (l : Launch) (g : GG) (sz : Nat) (h : Nat) (i1 : Nat) (i2 : Nat) (i3 : Nat) (i4 : Nat) (p0 : Int32) : Met l yX8_takeBack (.code yX8_takeBack cX8_takeBack 2 (some .boolean) :: gT) ({ frames := 0, cells := 0, slots := 0, locals := 0 }) (va_Pc [.ref h, .int p0] (Pst g sz [(h, .inr (8, [.int 0, .int 0, .ref i1, .ref i2, .ref i3, .ref i4]))] nX)) (va_Qi (fun (r : Int32) (_ : Unit) => r = 0) (Qst g [] sz (fun _ => [])) (va_A [] sz)) 0 0 (va_A [] sz) := by
  refine Met.ofW (cc := cX8_takeBack) (maxL := 2) (ret := (some .boolean)) (by decide) rfl ?_
  intro p e s m args below meth c s₁ B hml hv
  obtain ⟨rfl, hsz, hP, hK, hD0, hX⟩ := hv
  have hx := B.exec
  have hb := B.bytes
  have hr := B.returns
  have hT : ∀ w ∈ gT, w.before _ s = true := fun w h => atoms_spec (ws := .code yX8_takeBack cX8_takeBack 2 (some .boolean) :: gT) B.pre w (List.mem_cons_of_mem _ h)
  have hown : s.vm.findClass RX8 = some m.cls := findClass_of_methodNamed B.named
  have hlocks := B.notSynchronized
  subst hsz
  have hD := hD0
  generalize hAe : va_A [] s.heap.size = A at ⊢
  have hA : ∀ q : Nat, s.heap.size ≤ q → A q := fun q h => by rw [← hAe]; exact Or.inr h
  have hS : va_S A s.heap s.heap [] := va_S.rf
  have hl := lv_entry ([.ref h, .int p0]) (n := 2) (Nat.le_of_ble_eq_true rfl)
  rw [lg_entry_eq]
  generalize (lg_sl ([.ref h, .int p0]) ++ List.replicate (2 - (lg_sl ([.ref h, .int p0])).length) Slot.unset).toArray = ls at hl ⊢
  have hl : lv_has ls 2 [(0, .ref h), (1, .int p0)] := hl
  refine p_nH (fun H hH => ?_)
  have hP : va_P g.1 vwCl [(h, .inr (8, [.int 0, .int 0, .ref i1, .ref i2, .ref i3, .ref i4]))] H := by rw [hH]; exact hP
  have hS : va_S A s.heap H [] := by rw [hH]; exact hS
  refine lv_iload_n hx hb dX8_takeBack_0 rfl (lv_at hl 1 rfl) ?_
  refine lv_if_lt (tgt := 22) hx hb dX8_takeBack_1 (by decide) (fun c_1 => ?_) (fun c_1 => ?_)
  · refine lv_iconst (v := 0) hx hb dX8_takeBack_22 (by decide) ?_
    have hP9 : va_P g.1 vwCl [] H := hP.sub [] rfl
    have hD9 : va_D A [] := ⟨fun i j p q h => by simp at h, fun k q h => by simp at h⟩
    exact W.zret (v := 0) (ty := .boolean) hx hb hr rfl (fun t ht hW => ⟨⟨0, (), rfl, rfl, by rw [ht]; exact hP9, by rw [hAe]; exact hD9⟩, hS.F ht⟩) hS.2.2 dX8_takeBack_23
  · refine lv_iload_n hx hb dX8_takeBack_4 rfl (lv_at hl 1 rfl) ?_
    refine lv_aload_n hx hb dX8_takeBack_5 rfl (lv_at hl 0 rfl) ?_
    refine va_get (D := g.1) (ci := 8) (v := .int 0) (C := RX8) (T := TX8) (N := 6) hx hb hT inF_X8 hown hK.1 hP 0 rfl rfl 1 (by decide) (hT _ bw_7) (fun _ h9 => h9) rfl dX8_takeBack_6 ?_
    refine lv_icmp_ge (tgt := 22) hx hb dX8_takeBack_9 (by decide) (fun _ => ?_) (fun c9 => absurd (by have e0 : (0 : Int32).toInt = 0 := (by decide); simp only [Int32.lt_iff_toInt_lt, Int32.le_iff_toInt_le, ← Int32.toInt_inj, e0] at c_1 ⊢; omega) c9)
    refine lv_iconst (v := 0) hx hb dX8_takeBack_22 (by decide) ?_
    have hP9 : va_P g.1 vwCl [] H := hP.sub [] rfl
    have hD9 : va_D A [] := ⟨fun i j p q h => by simp at h, fun k q h => by simp at h⟩
    exact W.zret (v := 0) (ty := .boolean) hx hb hr rfl (fun t ht hW => ⟨⟨0, (), rfl, rfl, by rw [ht]; exact hP9, by rw [hAe]; exact hD9⟩, hS.F ht⟩) hS.2.2 dX8_takeBack_23

set_option maxHeartbeats 4000000 in
set_option maxRecDepth 100000 in
theorem c_X1_clear (l : Launch) (g : GG) (sz : Nat) (h : Nat) (k3 : Nat) : Met l yX1_clear (.code yX1_clear cX1_clear 1 none :: gT) ({ frames := 0, cells := 0, slots := 0, locals := 0 }) (va_Pc [.ref h] (Pst g sz [(h, .inr (1, [.int 0, .ref k3]))] nX)) (va_Qv (fun (_ : Unit) => True) (Qst g [(h, .inr (1, [.int 0, .ref k3]))] sz (fun _ => [(h, .inr (1, [.int 0, .ref k3]))])) (va_A [(h, .inr (1, [.int 0, .ref k3]))] sz)) 0 0 (va_A [(h, .inr (1, [.int 0, .ref k3]))] sz) := by
  refine Met.ofW (cc := cX1_clear) (maxL := 1) (ret := none) (by decide) rfl ?_
  intro p e s m args below meth c s₁ B hml hv
  obtain ⟨rfl, hsz, hP, hK, hD0, hX⟩ := hv
  have hx := B.exec
  have hb := B.bytes
  have hr := B.returns
  have hT : ∀ w ∈ gT, w.before _ s = true := fun w h => atoms_spec (ws := .code yX1_clear cX1_clear 1 none :: gT) B.pre w (List.mem_cons_of_mem _ h)
  have hown : s.vm.findClass RX1 = some m.cls := findClass_of_methodNamed B.named
  have hlocks := B.notSynchronized
  subst hsz
  have hD := hD0.self (sz := s.heap.size)
  generalize hAe : va_A [(h, .inr (1, [.int 0, .ref k3]))] s.heap.size = A at hD ⊢
  have hA : ∀ q : Nat, s.heap.size ≤ q → A q := fun q h => by rw [← hAe]; exact Or.inr h
  have hS : va_S A s.heap s.heap [] := va_S.rf
  have hl := lv_entry ([.ref h]) (n := 1) (Nat.le_of_ble_eq_true rfl)
  rw [lg_entry_eq]
  generalize (lg_sl ([.ref h]) ++ List.replicate (1 - (lg_sl ([.ref h])).length) Slot.unset).toArray = ls at hl ⊢
  have hl : lv_has ls 1 [(0, .ref h)] := hl
  refine p_nH (fun H hH => ?_)
  have hP : va_P g.1 vwCl [(h, .inr (1, [.int 0, .ref k3]))] H := by rw [hH]; exact hP
  have hS : va_S A s.heap H [] := by rw [hH]; exact hS
  refine lv_aload_n hx hb dX1_clear_0 rfl (lv_at hl 0 rfl) ?_
  refine lv_iconst (v := 0) hx hb dX1_clear_1 (by decide) ?_
  refine va_put (D := g.1) (ci := 1) (v := .int 0) (ty := .int) (C := RX1) (T := TX1) (N := 2) hx hb hT inF_X1 tyX1 tyX1_ok nmX1 hown hK.1 hP hD hS 0 rfl rfl 0 (by decide) (hT _ bw_9) (fun _ h9 => h9) rfl (by decide +kernel) rfl rfl (Nat.le_of_ble_eq_true rfl) dX1_clear_2 (fun H locs hP hD hS => ?_)
  have hP : va_P g.1 vwCl [(h, .inr (1, [.int 0, .ref k3]))] H := hP
  have hD : va_D A [(h, .inr (1, [.int 0, .ref k3]))] := hD
  have hP9 : va_P g.1 vwCl [(h, .inr (1, [.int 0, .ref k3]))] H := hP.sub [0] rfl
  have hD9 : va_D A [(h, .inr (1, [.int 0, .ref k3]))] := hD.sub [0] (by decide) rfl
  exact W.vret hx hb hr (fun t ht hW => ⟨⟨(), rfl, trivial, by rw [ht]; exact hP9, by rw [hAe]; exact hD9⟩, hS.F ht⟩) hS.2.2 dX1_clear_5

set_option maxHeartbeats 4000000 in
set_option maxRecDepth 100000 in
theorem c_X8_clear (l : Launch) (g : GG) (sz : Nat) (h : Nat) (i1 : Nat) (i2 : Nat) (i3 : Nat) (i4 : Nat) : Met l yX8_clear (.code yX8_clear cX8_clear 1 none :: gT) ({ frames := 0, cells := 0, slots := 0, locals := 0 }) (va_Pc [.ref h] (Pst g sz [(h, .inr (8, [.int 0, .int 0, .ref i1, .ref i2, .ref i3, .ref i4]))] nX)) (va_Qv (fun (_ : Unit) => True) (Qst g [(h, .inr (8, [.int 0, .int 0, .ref i1, .ref i2, .ref i3, .ref i4]))] sz (fun _ => [(h, .inr (8, [.int 0, .int 0, .ref i1, .ref i2, .ref i3, .ref i4]))])) (va_A [(h, .inr (8, [.int 0, .int 0, .ref i1, .ref i2, .ref i3, .ref i4]))] sz)) 0 0 (va_A [(h, .inr (8, [.int 0, .int 0, .ref i1, .ref i2, .ref i3, .ref i4]))] sz) := by
  refine Met.ofW (cc := cX8_clear) (maxL := 1) (ret := none) (by decide) rfl ?_
  intro p e s m args below meth c s₁ B hml hv
  obtain ⟨rfl, hsz, hP, hK, hD0, hX⟩ := hv
  have hx := B.exec
  have hb := B.bytes
  have hr := B.returns
  have hT : ∀ w ∈ gT, w.before _ s = true := fun w h => atoms_spec (ws := .code yX8_clear cX8_clear 1 none :: gT) B.pre w (List.mem_cons_of_mem _ h)
  have hown : s.vm.findClass RX8 = some m.cls := findClass_of_methodNamed B.named
  have hlocks := B.notSynchronized
  subst hsz
  have hD := hD0.self (sz := s.heap.size)
  generalize hAe : va_A [(h, .inr (8, [.int 0, .int 0, .ref i1, .ref i2, .ref i3, .ref i4]))] s.heap.size = A at hD ⊢
  have hA : ∀ q : Nat, s.heap.size ≤ q → A q := fun q h => by rw [← hAe]; exact Or.inr h
  have hS : va_S A s.heap s.heap [] := va_S.rf
  have hl := lv_entry ([.ref h]) (n := 1) (Nat.le_of_ble_eq_true rfl)
  rw [lg_entry_eq]
  generalize (lg_sl ([.ref h]) ++ List.replicate (1 - (lg_sl ([.ref h])).length) Slot.unset).toArray = ls at hl ⊢
  have hl : lv_has ls 1 [(0, .ref h)] := hl
  refine p_nH (fun H hH => ?_)
  have hP : va_P g.1 vwCl [(h, .inr (8, [.int 0, .int 0, .ref i1, .ref i2, .ref i3, .ref i4]))] H := by rw [hH]; exact hP
  have hS : va_S A s.heap H [] := by rw [hH]; exact hS
  refine lv_aload_n hx hb dX8_clear_0 rfl (lv_at hl 0 rfl) ?_
  refine lv_iconst (v := 0) hx hb dX8_clear_1 (by decide) ?_
  refine va_put (D := g.1) (ci := 8) (v := .int 0) (ty := .int) (C := RX8) (T := TX8) (N := 6) hx hb hT inF_X8 tyX8 tyX8_ok nmX8 hown hK.1 hP hD hS 0 rfl rfl 1 (by decide) (hT _ bw_7) (fun _ h9 => h9) rfl (by decide +kernel) rfl rfl (Nat.le_of_ble_eq_true rfl) dX8_clear_2 (fun H locs hP hD hS => ?_)
  have hP : va_P g.1 vwCl [(h, .inr (8, [.int 0, .int 0, .ref i1, .ref i2, .ref i3, .ref i4]))] H := hP
  have hD : va_D A [(h, .inr (8, [.int 0, .int 0, .ref i1, .ref i2, .ref i3, .ref i4]))] := hD
  have hP9 : va_P g.1 vwCl [(h, .inr (8, [.int 0, .int 0, .ref i1, .ref i2, .ref i3, .ref i4]))] H := hP.sub [0] rfl
  have hD9 : va_D A [(h, .inr (8, [.int 0, .int 0, .ref i1, .ref i2, .ref i3, .ref i4]))] := hD.sub [0] (by decide) rfl
  exact W.vret hx hb hr (fun t ht hW => ⟨⟨(), rfl, trivial, by rw [ht]; exact hP9, by rw [hAe]; exact hD9⟩, hS.F ht⟩) hS.2.2 dX8_clear_5

set_option maxHeartbeats 4000000 in
set_option maxRecDepth 100000 in
theorem c_X11_isSide (l : Launch) (g : GG) (sz : Nat) (p0 : Int32) : Met l yX11_isSide (.code yX11_isSide cX11_isSide 1 (some .boolean) :: gT) ({ frames := 0, cells := 0, slots := 0, locals := 0 }) (va_Pc [.int p0] (Pst g sz [] nX)) (va_Qi (fun (r : Int32) (_ : Unit) => True) (Qst g [] sz (fun _ => [])) (va_A [] sz)) 0 0 (va_A [] sz) := by
  refine Met.ofW (cc := cX11_isSide) (maxL := 1) (ret := (some .boolean)) (by decide) rfl ?_
  intro p e s m args below meth c s₁ B hml hv
  obtain ⟨rfl, hsz, hP, hK, hD0, hX⟩ := hv
  have hx := B.exec
  have hb := B.bytes
  have hr := B.returns
  have hT : ∀ w ∈ gT, w.before _ s = true := fun w h => atoms_spec (ws := .code yX11_isSide cX11_isSide 1 (some .boolean) :: gT) B.pre w (List.mem_cons_of_mem _ h)
  have hown : s.vm.findClass RX11 = some m.cls := findClass_of_methodNamed B.named
  have hlocks := B.notSynchronized
  subst hsz
  have hD := hD0
  generalize hAe : va_A [] s.heap.size = A at ⊢
  have hA : ∀ q : Nat, s.heap.size ≤ q → A q := fun q h => by rw [← hAe]; exact Or.inr h
  have hS : va_S A s.heap s.heap [] := va_S.rf
  have hl := lv_entry ([.int p0]) (n := 1) (Nat.le_of_ble_eq_true rfl)
  rw [lg_entry_eq]
  generalize (lg_sl ([.int p0]) ++ List.replicate (1 - (lg_sl ([.int p0])).length) Slot.unset).toArray = ls at hl ⊢
  have hl : lv_has ls 1 [(0, .int p0)] := hl
  refine p_nH (fun H hH => ?_)
  have hP : va_P g.1 vwCl [] H := by rw [hH]; exact hP
  have hS : va_S A s.heap H [] := by rw [hH]; exact hS
  refine lv_iload_n hx hb dX11_isSide_0 rfl (lv_at hl 0 rfl) ?_
  refine lv_if_eq (tgt := 9) hx hb dX11_isSide_1 (by decide) (fun c_1 => ?_) (fun c_1 => ?_)
  · refine lv_iconst (v := 1) hx hb dX11_isSide_9 (by decide) ?_
    refine lv_goto (tgt := 14) hx hb dX11_isSide_10 (by decide) ?_
    have hP9 : va_P g.1 vwCl [] H := hP.sub [] rfl
    have hD9 : va_D A [] := ⟨fun i j p q h => by simp at h, fun k q h => by simp at h⟩
    exact W.zret (v := 1) (ty := .boolean) hx hb hr rfl (fun t ht hW => ⟨⟨1, (), rfl, trivial, by rw [ht]; exact hP9, by rw [hAe]; exact hD9⟩, hS.F ht⟩) hS.2.2 dX11_isSide_14
  · refine lv_iload_n hx hb dX11_isSide_4 rfl (lv_at hl 0 rfl) ?_
    refine lv_iconst (v := 1) hx hb dX11_isSide_5 (by decide) ?_
    refine lv_icmp_ne (tgt := 13) hx hb dX11_isSide_6 (by decide) (fun c_2 => ?_) (fun c_2 => ?_)
    · refine lv_iconst (v := 0) hx hb dX11_isSide_13 (by decide) ?_
      have hP9 : va_P g.1 vwCl [] H := hP.sub [] rfl
      have hD9 : va_D A [] := ⟨fun i j p q h => by simp at h, fun k q h => by simp at h⟩
      exact W.zret (v := 0) (ty := .boolean) hx hb hr rfl (fun t ht hW => ⟨⟨0, (), rfl, trivial, by rw [ht]; exact hP9, by rw [hAe]; exact hD9⟩, hS.F ht⟩) hS.2.2 dX11_isSide_14
    · refine lv_iconst (v := 1) hx hb dX11_isSide_9 (by decide) ?_
      refine lv_goto (tgt := 14) hx hb dX11_isSide_10 (by decide) ?_
      have hP9 : va_P g.1 vwCl [] H := hP.sub [] rfl
      have hD9 : va_D A [] := ⟨fun i j p q h => by simp at h, fun k q h => by simp at h⟩
      exact W.zret (v := 1) (ty := .boolean) hx hb hr rfl (fun t ht hW => ⟨⟨1, (), rfl, trivial, by rw [ht]; exact hP9, by rw [hAe]; exact hD9⟩, hS.F ht⟩) hS.2.2 dX11_isSide_14
end
section
set_option maxHeartbeats 4000000 in
set_option maxRecDepth 100000 in
theorem c_X11_man (l : Launch) (g : GG) (sz : Nat) (x : Nat) (xt : Nat) (xr : Nat) (la : Nat) (lb : Nat) (sa : Nat) (ba : Nat) (se : Nat) (si : Nat) (pa : Nat) (he : Nat) (mea : Nat) (foa : Nat) (rea : Nat) (d1a : Nat) (d2a : Nat) (d3a : Nat) (m1a : Nat) (m2a : Nat) (m3a : Nat) (m4a : Nat) (p0 : Int32) (p1 : Int32) : Met l yX11_man (.code yX11_man cX11_man 4 (some .int) :: gT) ({ frames := 1, cells := 0, slots := 0, locals := 21 }) (va_Pc [.ref x, .int p0, .int p1] (Pst g sz [(x, .inr (11, [.ref xt, .int 0, .ref xr, .ref la, .ref lb, .ref sa, .int 0, .int 0, .ref ba, .int 0, .ref se, .ref si, .ref pa, .ref he])), (la, .inr (2, [.ref mea, .ref foa, .ref rea, .int 0, .ref d1a, .ref d2a, .int 9, .int 0, .ref d3a])), (mea, .inr (3, [.int 0, .ref m1a, .ref m2a, .ref m3a, .ref m4a]))] nX)) (va_Qi (fun (r : Int32) (_ : Unit) => r = (-2)) (Qst g [] sz (fun _ => [])) (va_A [] sz)) 0 0 (va_A [] sz) := by
  refine Met.ofW (cc := cX11_man) (maxL := 4) (ret := (some .int)) (by decide) rfl ?_
  intro p e s m args below meth c s₁ B hml hv
  obtain ⟨rfl, hsz, hP, hK, hD0, hX⟩ := hv
  have hx := B.exec
  have hb := B.bytes
  have hr := B.returns
  have hT : ∀ w ∈ gT, w.before _ s = true := fun w h => atoms_spec (ws := .code yX11_man cX11_man 4 (some .int) :: gT) B.pre w (List.mem_cons_of_mem _ h)
  have hown : s.vm.findClass RX11 = some m.cls := findClass_of_methodNamed B.named
  have hlocks := B.notSynchronized
  subst hsz
  have hD := hD0
  generalize hAe : va_A [] s.heap.size = A at ⊢
  have hA : ∀ q : Nat, s.heap.size ≤ q → A q := fun q h => by rw [← hAe]; exact Or.inr h
  have hS : va_S A s.heap s.heap [] := va_S.rf
  have hl := lv_entry ([.ref x, .int p0, .int p1]) (n := 4) (Nat.le_of_ble_eq_true rfl)
  rw [lg_entry_eq]
  generalize (lg_sl ([.ref x, .int p0, .int p1]) ++ List.replicate (4 - (lg_sl ([.ref x, .int p0, .int p1])).length) Slot.unset).toArray = ls at hl ⊢
  have hl : lv_has ls 4 [(0, .ref x), (1, .int p0), (2, .int p1)] := hl
  refine p_nH (fun H hH => ?_)
  have hP : va_P g.1 vwCl [(x, .inr (11, [.ref xt, .int 0, .ref xr, .ref la, .ref lb, .ref sa, .int 0, .int 0, .ref ba, .int 0, .ref se, .ref si, .ref pa, .ref he])), (la, .inr (2, [.ref mea, .ref foa, .ref rea, .int 0, .ref d1a, .ref d2a, .int 9, .int 0, .ref d3a])), (mea, .inr (3, [.int 0, .ref m1a, .ref m2a, .ref m3a, .ref m4a]))] H := by rw [hH]; exact hP
  have hS : va_S A s.heap H [] := by rw [hH]; exact hS
  refine lv_aload_n hx hb dX11_man_0 rfl (lv_at hl 0 rfl) ?_
  refine va_get (D := g.1) (ci := 11) (v := .ref la) (C := RX11) (T := TX11) (N := 14) hx hb hT inF_X11 hown hK.1 hP 0 rfl rfl 3 (by decide) (hT _ bw_13) (fun _ h9 => h9) rfl dX11_man_1 ?_
  refine va_get (D := g.1) (ci := 2) (v := .ref mea) (C := RX2) (T := TX2) (N := 9) hx hb hT inF_X2 hown hK.1 hP 1 rfl rfl 0 (by decide) (hT _ bw_14) (fun _ h9 => h9) rfl dX11_man_4 ?_
  refine lv_iload_n hx hb dX11_man_7 rfl (lv_at hl 1 rfl) ?_
  refine k_iR (k_V (n := 1) ⟨hx, hb, hml, hown, hT⟩ hK hP hD [2] rfl (by decide) (c_X3_has l g H.size mea m1a m2a m3a m4a p0) (gV bw_15 bw_16 bw_17 bw_18 bw_1) rfl rfl (by decide +kernel) ⟨by decide, by decide⟩ (ci := 3) (q0 := 0) rfl rfl (fun _ _ _ _ _ => trivial) (fun _ _ _ => trivial) rfl rfl hl.1 (Nat.le_of_ble_eq_true rfl) dX11_man_8 ⟨by decide, by decide⟩) hP hS hA (fun r_1 _ H locs hw hP hS => ?_)
  have hw : r_1 = 0 := hw
  subst hw
  refine lv_if_ne (tgt := 17) hx hb dX11_man_11 (by decide) (fun c9 => absurd (by decide) c9) (fun _ => ?_)
  refine lv_bipush (v := (-2)) hx hb dX11_man_14 (by decide) ?_
  have hP9 : va_P g.1 vwCl [] H := hP.sub [] rfl
  have hD9 : va_D A [] := ⟨fun i j p q h => by simp at h, fun k q h => by simp at h⟩
  exact W.iret (v := (-2)) hx hb hr (fun t ht hW => ⟨⟨(-2), (), rfl, rfl, by rw [ht]; exact hP9, by rw [hAe]; exact hD9⟩, hS.F ht⟩) hS.2.2 dX11_man_16

set_option maxHeartbeats 4000000 in
set_option maxRecDepth 100000 in
theorem c_X11_duel (l : Launch) (g : GG) (sz : Nat) (x : Nat) (xt : Nat) (xr : Nat) (la : Nat) (lb : Nat) (sa : Nat) (ba : Nat) (se : Nat) (si : Nat) (pa : Nat) (he : Nat) (s1 : Nat) (s0 : Nat) (t1u : Nat) (t2u : Nat) (t3u : Nat) (t4u : Nat) (t5u : Nat) (t6u : Nat) (t7u : Nat) (fs : Nat → Option Nat) (p0 : Int32) (p1 : Int32) : Met l yX11_duel (.code yX11_duel cX11_duel 4 (some .int) :: gT) ({ frames := 1, cells := 0, slots := 0, locals := 21 }) (va_Pc [.ref x, .int p0, .int p1] (Pst g sz [(x, .inr (11, [.ref xt, .int 0, .ref xr, .ref la, .ref lb, .ref sa, .int 0, .int 0, .ref ba, .int 0, .ref se, .ref si, .ref pa, .ref he])), (sa, aO g 41 (va_up (va_up fs 0 (some s0)) 1 (some s1))), (s0, .inr (9, [.int 0, .int 0, .int 0, .int 0, .int 0, .int 0, .int 0, .ref t1u, .ref t2u, .ref t3u, .ref t4u, .ref t5u, .ref t6u, .ref t7u]))] nX)) (va_Qi (fun (r : Int32) (_ : Unit) => r = (-2)) (Qst g [] sz (fun _ => [])) (va_A [] sz)) 0 0 (va_A [] sz) := by
  refine Met.ofW (cc := cX11_duel) (maxL := 4) (ret := (some .int)) (by decide) rfl ?_
  intro p e s m args below meth c s₁ B hml hv
  obtain ⟨rfl, hsz, hP, hK, hD0, hX⟩ := hv
  have hx := B.exec
  have hb := B.bytes
  have hr := B.returns
  have hT : ∀ w ∈ gT, w.before _ s = true := fun w h => atoms_spec (ws := .code yX11_duel cX11_duel 4 (some .int) :: gT) B.pre w (List.mem_cons_of_mem _ h)
  have hown : s.vm.findClass RX11 = some m.cls := findClass_of_methodNamed B.named
  have hlocks := B.notSynchronized
  subst hsz
  have hD := hD0
  generalize hAe : va_A [] s.heap.size = A at ⊢
  have hA : ∀ q : Nat, s.heap.size ≤ q → A q := fun q h => by rw [← hAe]; exact Or.inr h
  have hS : va_S A s.heap s.heap [] := va_S.rf
  have hl := lv_entry ([.ref x, .int p0, .int p1]) (n := 4) (Nat.le_of_ble_eq_true rfl)
  rw [lg_entry_eq]
  generalize (lg_sl ([.ref x, .int p0, .int p1]) ++ List.replicate (4 - (lg_sl ([.ref x, .int p0, .int p1])).length) Slot.unset).toArray = ls at hl ⊢
  have hl : lv_has ls 4 [(0, .ref x), (1, .int p0), (2, .int p1)] := hl
  refine p_nH (fun H hH => ?_)
  have hP : va_P g.1 vwCl [(x, .inr (11, [.ref xt, .int 0, .ref xr, .ref la, .ref lb, .ref sa, .int 0, .int 0, .ref ba, .int 0, .ref se, .ref si, .ref pa, .ref he])), (sa, aO g 41 (va_up (va_up fs 0 (some s0)) 1 (some s1))), (s0, .inr (9, [.int 0, .int 0, .int 0, .int 0, .int 0, .int 0, .int 0, .ref t1u, .ref t2u, .ref t3u, .ref t4u, .ref t5u, .ref t6u, .ref t7u]))] H := by rw [hH]; exact hP
  have hS : va_S A s.heap H [] := by rw [hH]; exact hS
  refine lv_aload_n hx hb dX11_duel_0 rfl (lv_at hl 0 rfl) ?_
  refine va_get (D := g.1) (ci := 11) (v := .ref sa) (C := RX11) (T := TX11) (N := 14) hx hb hT inF_X11 hown hK.1 hP 0 rfl rfl 5 (by decide) (hT _ bw_20) (fun _ h9 => h9) rfl dX11_duel_1 ?_
  refine lv_aload_n hx hb dX11_duel_4 rfl (lv_at hl 0 rfl) ?_
  refine va_get (D := g.1) (ci := 11) (v := .int 0) (C := RX11) (T := TX11) (N := 14) hx hb hT inF_X11 hown hK.1 hP 0 rfl rfl 6 (by decide) (hT _ bw_21) (fun _ h9 => h9) rfl dX11_duel_5 ?_
  refine va_aldq hx hb hK.1 hP 1 4 rfl rfl (i := 0) (by unfold vp_in; decide) dX11_duel_8 ?_
  refine p_tr (x := s0) (rfl) ?_
  refine lv_astore_n (lv' := [(3, .ref s0), (0, .ref x), (1, .int p0), (2, .int p1)]) hx hb dX11_duel_9 rfl hl (by decide) rfl (fun ls hl => ?_)
  refine lv_aload_n hx hb dX11_duel_10 rfl (lv_at hl 0 rfl) ?_
  refine lv_iload_n hx hb dX11_duel_11 rfl (lv_at hl 2 rfl) ?_
  refine k_iR (k_V (n := 1) ⟨hx, hb, hml, hown, hT⟩ hK hP hD [2] rfl (by decide) (c_X9_hasDuel l g H.size s0 t1u t2u t3u t4u t5u t6u t7u p0) (gV bw_22 bw_23 bw_24 bw_25 bw_5) rfl rfl (by decide +kernel) ⟨by decide, by decide⟩ (ci := 9) (q0 := 0) rfl rfl (fun _ _ _ _ _ => trivial) (fun _ _ _ => trivial) rfl rfl hl.1 (Nat.le_of_ble_eq_true rfl) dX11_duel_12 ⟨by decide, by decide⟩) hP hS hA (fun r_1 _ H locs hw hP hS => ?_)
  have hw : r_1 = 0 := hw
  subst hw
  refine lv_if_ne (tgt := 21) hx hb dX11_duel_15 (by decide) (fun c9 => absurd (by decide) c9) (fun _ => ?_)
  refine lv_bipush (v := (-2)) hx hb dX11_duel_18 (by decide) ?_
  have hP9 : va_P g.1 vwCl [] H := hP.sub [] rfl
  have hD9 : va_D A [] := ⟨fun i j p q h => by simp at h, fun k q h => by simp at h⟩
  exact W.iret (v := (-2)) hx hb hr (fun t ht hW => ⟨⟨(-2), (), rfl, rfl, by rw [ht]; exact hP9, by rw [hAe]; exact hD9⟩, hS.F ht⟩) hS.2.2 dX11_duel_20

set_option maxHeartbeats 4000000 in
set_option maxRecDepth 100000 in
theorem c_X11_reason (l : Launch) (g : GG) (sz : Nat) (x : Nat) (xt : Nat) (xr : Nat) (la : Nat) (lb : Nat) (sa : Nat) (ba : Nat) (se : Nat) (si : Nat) (pa : Nat) (he : Nat) (mea : Nat) (foa : Nat) (rea : Nat) (d1a : Nat) (d2a : Nat) (d3a : Nat) (r1a : Nat) (r2a : Nat) (r3a : Nat) (r4a : Nat) (r5a : Nat) (r6a : Nat) (r7a : Nat) (p0 : Int32) (p1 : Int32) : Met l yX11_reason (.code yX11_reason cX11_reason 5 (some .int) :: gT) ({ frames := 1, cells := 0, slots := 0, locals := 21 }) (va_Pc [.ref x, .int p0, .int p1] (Pst g sz [(x, .inr (11, [.ref xt, .int 0, .ref xr, .ref la, .ref lb, .ref sa, .int 0, .int 0, .ref ba, .int 0, .ref se, .ref si, .ref pa, .ref he])), (la, .inr (2, [.ref mea, .ref foa, .ref rea, .int 0, .ref d1a, .ref d2a, .int 9, .int 0, .ref d3a])), (rea, .inr (6, [.int 0, .ref r1a, .ref r2a, .ref r3a, .ref r4a, .ref r5a, .ref r6a, .ref r7a]))] nX)) (va_Qi (fun (r : Int32) (_ : Unit) => r = (-2)) (Qst g [] sz (fun _ => [])) (va_A [] sz)) 0 0 (va_A [] sz) := by
  refine Met.ofW (cc := cX11_reason) (maxL := 5) (ret := (some .int)) (by decide) rfl ?_
  intro p e s m args below meth c s₁ B hml hv
  obtain ⟨rfl, hsz, hP, hK, hD0, hX⟩ := hv
  have hx := B.exec
  have hb := B.bytes
  have hr := B.returns
  have hT : ∀ w ∈ gT, w.before _ s = true := fun w h => atoms_spec (ws := .code yX11_reason cX11_reason 5 (some .int) :: gT) B.pre w (List.mem_cons_of_mem _ h)
  have hown : s.vm.findClass RX11 = some m.cls := findClass_of_methodNamed B.named
  have hlocks := B.notSynchronized
  subst hsz
  have hD := hD0
  generalize hAe : va_A [] s.heap.size = A at ⊢
  have hA : ∀ q : Nat, s.heap.size ≤ q → A q := fun q h => by rw [← hAe]; exact Or.inr h
  have hS : va_S A s.heap s.heap [] := va_S.rf
  have hl := lv_entry ([.ref x, .int p0, .int p1]) (n := 5) (Nat.le_of_ble_eq_true rfl)
  rw [lg_entry_eq]
  generalize (lg_sl ([.ref x, .int p0, .int p1]) ++ List.replicate (5 - (lg_sl ([.ref x, .int p0, .int p1])).length) Slot.unset).toArray = ls at hl ⊢
  have hl : lv_has ls 5 [(0, .ref x), (1, .int p0), (2, .int p1)] := hl
  refine p_nH (fun H hH => ?_)
  have hP : va_P g.1 vwCl [(x, .inr (11, [.ref xt, .int 0, .ref xr, .ref la, .ref lb, .ref sa, .int 0, .int 0, .ref ba, .int 0, .ref se, .ref si, .ref pa, .ref he])), (la, .inr (2, [.ref mea, .ref foa, .ref rea, .int 0, .ref d1a, .ref d2a, .int 9, .int 0, .ref d3a])), (rea, .inr (6, [.int 0, .ref r1a, .ref r2a, .ref r3a, .ref r4a, .ref r5a, .ref r6a, .ref r7a]))] H := by rw [hH]; exact hP
  have hS : va_S A s.heap H [] := by rw [hH]; exact hS
  refine lv_aload_n hx hb dX11_reason_0 rfl (lv_at hl 0 rfl) ?_
  refine va_get (D := g.1) (ci := 11) (v := .ref la) (C := RX11) (T := TX11) (N := 14) hx hb hT inF_X11 hown hK.1 hP 0 rfl rfl 3 (by decide) (hT _ bw_13) (fun _ h9 => h9) rfl dX11_reason_1 ?_
  refine va_get (D := g.1) (ci := 2) (v := .ref rea) (C := RX2) (T := TX2) (N := 9) hx hb hT inF_X2 hown hK.1 hP 1 rfl rfl 2 (by decide) (hT _ bw_27) (fun _ h9 => h9) rfl dX11_reason_4 ?_
  refine lv_astore_n (lv' := [(3, .ref rea), (0, .ref x), (1, .int p0), (2, .int p1)]) hx hb dX11_reason_7 rfl hl (by decide) rfl (fun ls hl => ?_)
  refine lv_aload_n hx hb dX11_reason_8 rfl (lv_at hl 0 rfl) ?_
  refine lv_iload_n hx hb dX11_reason_9 rfl (lv_at hl 2 rfl) ?_
  refine k_iR (k_V (n := 1) ⟨hx, hb, hml, hown, hT⟩ hK hP hD [2] rfl (by decide) (c_X6_has l g H.size rea r1a r2a r3a r4a r5a r6a r7a p0) (gV bw_28 bw_29 bw_30 bw_31 bw_3) rfl rfl (by decide +kernel) ⟨by decide, by decide⟩ (ci := 6) (q0 := 0) rfl rfl (fun _ _ _ _ _ => trivial) (fun _ _ _ => trivial) rfl rfl hl.1 (Nat.le_of_ble_eq_true rfl) dX11_reason_10 ⟨by decide, by decide⟩) hP hS hA (fun r_1 _ H locs hw hP hS => ?_)
  have hw : r_1 = 0 := hw
  subst hw
  refine lv_if_ne (tgt := 19) hx hb dX11_reason_13 (by decide) (fun c9 => absurd (by decide) c9) (fun _ => ?_)
  refine lv_bipush (v := (-2)) hx hb dX11_reason_16 (by decide) ?_
  have hP9 : va_P g.1 vwCl [] H := hP.sub [] rfl
  have hD9 : va_D A [] := ⟨fun i j p q h => by simp at h, fun k q h => by simp at h⟩
  exact W.iret (v := (-2)) hx hb hr (fun t ht hW => ⟨⟨(-2), (), rfl, rfl, by rw [ht]; exact hP9, by rw [hAe]; exact hD9⟩, hS.F ht⟩) hS.2.2 dX11_reason_18

set_option maxHeartbeats 4000000 in
set_option maxRecDepth 100000 in
theorem c_X11_worth (l : Launch) (g : GG) (sz : Nat) (x : Nat) (xt : Nat) (xr : Nat) (la : Nat) (lb : Nat) (sa : Nat) (ba : Nat) (se : Nat) (si : Nat) (pa : Nat) (he : Nat) (s1 : Nat) (s0 : Nat) (t1u : Nat) (t2u : Nat) (t3u : Nat) (t4u : Nat) (t5u : Nat) (t6u : Nat) (t7u : Nat) (fs : Nat → Option Nat) (p0 : Int32) (p1 : Int32) (p2 : Int32) : Met l yX11_worth (.code yX11_worth cX11_worth 5 (some .int) :: gT) ({ frames := 1, cells := 0, slots := 0, locals := 21 }) (va_Pc [.ref x, .int p0, .int p1, .int p2] (Pst g sz [(x, .inr (11, [.ref xt, .int 0, .ref xr, .ref la, .ref lb, .ref sa, .int 0, .int 0, .ref ba, .int 0, .ref se, .ref si, .ref pa, .ref he])), (sa, aO g 41 (va_up (va_up fs 0 (some s0)) 1 (some s1))), (s0, .inr (9, [.int 0, .int 0, .int 0, .int 0, .int 0, .int 0, .int 0, .ref t1u, .ref t2u, .ref t3u, .ref t4u, .ref t5u, .ref t6u, .ref t7u]))] nX)) (va_Qi (fun (r : Int32) (_ : Unit) => r = (-1)) (Qst g [] sz (fun _ => [])) (va_A [] sz)) 0 0 (va_A [] sz) := by
  refine Met.ofW (cc := cX11_worth) (maxL := 5) (ret := (some .int)) (by decide) rfl ?_
  intro p e s m args below meth c s₁ B hml hv
  obtain ⟨rfl, hsz, hP, hK, hD0, hX⟩ := hv
  have hx := B.exec
  have hb := B.bytes
  have hr := B.returns
  have hT : ∀ w ∈ gT, w.before _ s = true := fun w h => atoms_spec (ws := .code yX11_worth cX11_worth 5 (some .int) :: gT) B.pre w (List.mem_cons_of_mem _ h)
  have hown : s.vm.findClass RX11 = some m.cls := findClass_of_methodNamed B.named
  have hlocks := B.notSynchronized
  subst hsz
  have hD := hD0
  generalize hAe : va_A [] s.heap.size = A at ⊢
  have hA : ∀ q : Nat, s.heap.size ≤ q → A q := fun q h => by rw [← hAe]; exact Or.inr h
  have hS : va_S A s.heap s.heap [] := va_S.rf
  have hl := lv_entry ([.ref x, .int p0, .int p1, .int p2]) (n := 5) (Nat.le_of_ble_eq_true rfl)
  rw [lg_entry_eq]
  generalize (lg_sl ([.ref x, .int p0, .int p1, .int p2]) ++ List.replicate (5 - (lg_sl ([.ref x, .int p0, .int p1, .int p2])).length) Slot.unset).toArray = ls at hl ⊢
  have hl : lv_has ls 5 [(0, .ref x), (1, .int p0), (2, .int p1), (3, .int p2)] := hl
  refine p_nH (fun H hH => ?_)
  have hP : va_P g.1 vwCl [(x, .inr (11, [.ref xt, .int 0, .ref xr, .ref la, .ref lb, .ref sa, .int 0, .int 0, .ref ba, .int 0, .ref se, .ref si, .ref pa, .ref he])), (sa, aO g 41 (va_up (va_up fs 0 (some s0)) 1 (some s1))), (s0, .inr (9, [.int 0, .int 0, .int 0, .int 0, .int 0, .int 0, .int 0, .ref t1u, .ref t2u, .ref t3u, .ref t4u, .ref t5u, .ref t6u, .ref t7u]))] H := by rw [hH]; exact hP
  have hS : va_S A s.heap H [] := by rw [hH]; exact hS
  refine lv_aload_n hx hb dX11_worth_0 rfl (lv_at hl 0 rfl) ?_
  refine va_get (D := g.1) (ci := 11) (v := .ref sa) (C := RX11) (T := TX11) (N := 14) hx hb hT inF_X11 hown hK.1 hP 0 rfl rfl 5 (by decide) (hT _ bw_20) (fun _ h9 => h9) rfl dX11_worth_1 ?_
  refine lv_aload_n hx hb dX11_worth_4 rfl (lv_at hl 0 rfl) ?_
  refine va_get (D := g.1) (ci := 11) (v := .int 0) (C := RX11) (T := TX11) (N := 14) hx hb hT inF_X11 hown hK.1 hP 0 rfl rfl 6 (by decide) (hT _ bw_21) (fun _ h9 => h9) rfl dX11_worth_5 ?_
  refine va_aldq hx hb hK.1 hP 1 4 rfl rfl (i := 0) (by unfold vp_in; decide) dX11_worth_8 ?_
  refine p_tr (x := s0) (rfl) ?_
  refine lv_astore (lv' := [(4, .ref s0), (0, .ref x), (1, .int p0), (2, .int p1), (3, .int p2)]) hx hb dX11_worth_9 hl (by decide) rfl (fun ls hl => ?_)
  refine lv_aload hx hb dX11_worth_11 (lv_at hl 0 rfl) ?_
  refine lv_iload_n hx hb dX11_worth_13 rfl (lv_at hl 2 rfl) ?_
  refine k_iR (k_V (n := 1) ⟨hx, hb, hml, hown, hT⟩ hK hP hD [2] rfl (by decide) (c_X9_hasDuel l g H.size s0 t1u t2u t3u t4u t5u t6u t7u p0) (gV bw_22 bw_23 bw_24 bw_25 bw_5) rfl rfl (by decide +kernel) ⟨by decide, by decide⟩ (ci := 9) (q0 := 0) rfl rfl (fun _ _ _ _ _ => trivial) (fun _ _ _ => trivial) rfl rfl hl.1 (Nat.le_of_ble_eq_true rfl) dX11_worth_14 ⟨by decide, by decide⟩) hP hS hA (fun r_1 _ H locs hw hP hS => ?_)
  have hw : r_1 = 0 := hw
  subst hw
  refine lv_if_eq (tgt := 45) hx hb dX11_worth_17 (by decide) (fun _ => ?_) (fun c9 => absurd (by decide) c9)
  refine lv_iconst (v := (-1)) hx hb dX11_worth_45 (by decide) ?_
  have hP9 : va_P g.1 vwCl [] H := hP.sub [] rfl
  have hD9 : va_D A [] := ⟨fun i j p q h => by simp at h, fun k q h => by simp at h⟩
  exact W.iret (v := (-1)) hx hb hr (fun t ht hW => ⟨⟨(-1), (), rfl, rfl, by rw [ht]; exact hP9, by rw [hAe]; exact hD9⟩, hS.F ht⟩) hS.2.2 dX11_worth_46

set_option maxHeartbeats 4000000 in
set_option maxRecDepth 100000 in
theorem c_X11_may (l : Launch) (g : GG) (sz : Nat) (x : Nat) (xt : Nat) (xr : Nat) (la : Nat) (lb : Nat) (sa : Nat) (ba : Nat) (se : Nat) (si : Nat) (pa : Nat) (he : Nat) (s1 : Nat) (s0 : Nat) (t1u : Nat) (t2u : Nat) (t3u : Nat) (t4u : Nat) (t5u : Nat) (t6u : Nat) (t7u : Nat) (fs : Nat → Option Nat) (p0 : Int32) (p1 : Int32) : Met l yX11_may (.code yX11_may cX11_may 4 (some .int) :: gT) ({ frames := 1, cells := 0, slots := 0, locals := 21 }) (va_Pc [.ref x, .int p0, .int p1] (Pst g sz [(x, .inr (11, [.ref xt, .int 0, .ref xr, .ref la, .ref lb, .ref sa, .int 0, .int 0, .ref ba, .int 0, .ref se, .ref si, .ref pa, .ref he])), (sa, aO g 41 (va_up (va_up fs 0 (some s0)) 1 (some s1))), (s0, .inr (9, [.int 0, .int 0, .int 0, .int 0, .int 0, .int 0, .int 0, .ref t1u, .ref t2u, .ref t3u, .ref t4u, .ref t5u, .ref t6u, .ref t7u]))] nX)) (va_Qi (fun (r : Int32) (_ : Unit) => r = (-1)) (Qst g [] sz (fun _ => [])) (va_A [] sz)) 0 0 (va_A [] sz) := by
  refine Met.ofW (cc := cX11_may) (maxL := 4) (ret := (some .int)) (by decide) rfl ?_
  intro p e s m args below meth c s₁ B hml hv
  obtain ⟨rfl, hsz, hP, hK, hD0, hX⟩ := hv
  have hx := B.exec
  have hb := B.bytes
  have hr := B.returns
  have hT : ∀ w ∈ gT, w.before _ s = true := fun w h => atoms_spec (ws := .code yX11_may cX11_may 4 (some .int) :: gT) B.pre w (List.mem_cons_of_mem _ h)
  have hown : s.vm.findClass RX11 = some m.cls := findClass_of_methodNamed B.named
  have hlocks := B.notSynchronized
  subst hsz
  have hD := hD0
  generalize hAe : va_A [] s.heap.size = A at ⊢
  have hA : ∀ q : Nat, s.heap.size ≤ q → A q := fun q h => by rw [← hAe]; exact Or.inr h
  have hS : va_S A s.heap s.heap [] := va_S.rf
  have hl := lv_entry ([.ref x, .int p0, .int p1]) (n := 4) (Nat.le_of_ble_eq_true rfl)
  rw [lg_entry_eq]
  generalize (lg_sl ([.ref x, .int p0, .int p1]) ++ List.replicate (4 - (lg_sl ([.ref x, .int p0, .int p1])).length) Slot.unset).toArray = ls at hl ⊢
  have hl : lv_has ls 4 [(0, .ref x), (1, .int p0), (2, .int p1)] := hl
  refine p_nH (fun H hH => ?_)
  have hP : va_P g.1 vwCl [(x, .inr (11, [.ref xt, .int 0, .ref xr, .ref la, .ref lb, .ref sa, .int 0, .int 0, .ref ba, .int 0, .ref se, .ref si, .ref pa, .ref he])), (sa, aO g 41 (va_up (va_up fs 0 (some s0)) 1 (some s1))), (s0, .inr (9, [.int 0, .int 0, .int 0, .int 0, .int 0, .int 0, .int 0, .ref t1u, .ref t2u, .ref t3u, .ref t4u, .ref t5u, .ref t6u, .ref t7u]))] H := by rw [hH]; exact hP
  have hS : va_S A s.heap H [] := by rw [hH]; exact hS
  refine lv_aload_n hx hb dX11_may_0 rfl (lv_at hl 0 rfl) ?_
  refine va_get (D := g.1) (ci := 11) (v := .ref sa) (C := RX11) (T := TX11) (N := 14) hx hb hT inF_X11 hown hK.1 hP 0 rfl rfl 5 (by decide) (hT _ bw_20) (fun _ h9 => h9) rfl dX11_may_1 ?_
  refine lv_aload_n hx hb dX11_may_4 rfl (lv_at hl 0 rfl) ?_
  refine va_get (D := g.1) (ci := 11) (v := .int 0) (C := RX11) (T := TX11) (N := 14) hx hb hT inF_X11 hown hK.1 hP 0 rfl rfl 6 (by decide) (hT _ bw_21) (fun _ h9 => h9) rfl dX11_may_5 ?_
  refine va_aldq hx hb hK.1 hP 1 4 rfl rfl (i := 0) (by unfold vp_in; decide) dX11_may_8 ?_
  refine p_tr (x := s0) (rfl) ?_
  refine lv_astore_n (lv' := [(3, .ref s0), (0, .ref x), (1, .int p0), (2, .int p1)]) hx hb dX11_may_9 rfl hl (by decide) rfl (fun ls hl => ?_)
  refine lv_aload_n hx hb dX11_may_10 rfl (lv_at hl 0 rfl) ?_
  refine lv_iload_n hx hb dX11_may_11 rfl (lv_at hl 2 rfl) ?_
  refine k_iR (k_V (n := 1) ⟨hx, hb, hml, hown, hT⟩ hK hP hD [2] rfl (by decide) (c_X9_hasDuel l g H.size s0 t1u t2u t3u t4u t5u t6u t7u p0) (gV bw_22 bw_23 bw_24 bw_25 bw_5) rfl rfl (by decide +kernel) ⟨by decide, by decide⟩ (ci := 9) (q0 := 0) rfl rfl (fun _ _ _ _ _ => trivial) (fun _ _ _ => trivial) rfl rfl hl.1 (Nat.le_of_ble_eq_true rfl) dX11_may_12 ⟨by decide, by decide⟩) hP hS hA (fun r_1 _ H locs hw hP hS => ?_)
  have hw : r_1 = 0 := hw
  subst hw
  refine lv_if_eq (tgt := 25) hx hb dX11_may_15 (by decide) (fun _ => ?_) (fun c9 => absurd (by decide) c9)
  refine lv_iconst (v := (-1)) hx hb dX11_may_25 (by decide) ?_
  have hP9 : va_P g.1 vwCl [] H := hP.sub [] rfl
  have hD9 : va_D A [] := ⟨fun i j p q h => by simp at h, fun k q h => by simp at h⟩
  exact W.iret (v := (-1)) hx hb hr (fun t ht hW => ⟨⟨(-1), (), rfl, rfl, by rw [ht]; exact hP9, by rw [hAe]; exact hD9⟩, hS.F ht⟩) hS.2.2 dX11_may_26

set_option maxHeartbeats 4000000 in
set_option maxRecDepth 100000 in
theorem c_X11_next (l : Launch) (g : GG) (sz : Nat) (x : Nat) (xt : Nat) (xr : Nat) (la : Nat) (lb : Nat) (sa : Nat) (ba : Nat) (se : Nat) (si : Nat) (pa : Nat) (he : Nat) (s1 : Nat) (s0 : Nat) (t1u : Nat) (t2u : Nat) (t3u : Nat) (t4u : Nat) (t5u : Nat) (t6u : Nat) (t7u : Nat) (fs : Nat → Option Nat) (p0 : Int32) : Met l yX11_next (.code yX11_next cX11_next 4 (some .int) :: gT) ({ frames := 1, cells := 0, slots := 0, locals := 22 }) (va_Pc [.ref x, .int p0] (Pst g sz [(x, .inr (11, [.ref xt, .int 0, .ref xr, .ref la, .ref lb, .ref sa, .int 0, .int 0, .ref ba, .int 0, .ref se, .ref si, .ref pa, .ref he])), (sa, aO g 41 (va_up (va_up fs 0 (some s0)) 1 (some s1))), (s0, .inr (9, [.int 0, .int 0, .int 0, .int 0, .int 0, .int 0, .int 0, .ref t1u, .ref t2u, .ref t3u, .ref t4u, .ref t5u, .ref t6u, .ref t7u]))] nX)) (va_Qi (fun (r : Int32) (_ : Unit) => r = (-1)) (Qst g [] sz (fun _ => [])) (va_A [] sz)) 0 0 (va_A [] sz) := by
  refine Met.ofW (cc := cX11_next) (maxL := 4) (ret := (some .int)) (by decide) rfl ?_
  intro p e s m args below meth c s₁ B hml hv
  obtain ⟨rfl, hsz, hP, hK, hD0, hX⟩ := hv
  have hx := B.exec
  have hb := B.bytes
  have hr := B.returns
  have hT : ∀ w ∈ gT, w.before _ s = true := fun w h => atoms_spec (ws := .code yX11_next cX11_next 4 (some .int) :: gT) B.pre w (List.mem_cons_of_mem _ h)
  have hown : s.vm.findClass RX11 = some m.cls := findClass_of_methodNamed B.named
  have hlocks := B.notSynchronized
  subst hsz
  have hD := hD0
  generalize hAe : va_A [] s.heap.size = A at ⊢
  have hA : ∀ q : Nat, s.heap.size ≤ q → A q := fun q h => by rw [← hAe]; exact Or.inr h
  have hS : va_S A s.heap s.heap [] := va_S.rf
  have hl := lv_entry ([.ref x, .int p0]) (n := 4) (Nat.le_of_ble_eq_true rfl)
  rw [lg_entry_eq]
  generalize (lg_sl ([.ref x, .int p0]) ++ List.replicate (4 - (lg_sl ([.ref x, .int p0])).length) Slot.unset).toArray = ls at hl ⊢
  have hl : lv_has ls 4 [(0, .ref x), (1, .int p0)] := hl
  refine p_nH (fun H hH => ?_)
  have hP : va_P g.1 vwCl [(x, .inr (11, [.ref xt, .int 0, .ref xr, .ref la, .ref lb, .ref sa, .int 0, .int 0, .ref ba, .int 0, .ref se, .ref si, .ref pa, .ref he])), (sa, aO g 41 (va_up (va_up fs 0 (some s0)) 1 (some s1))), (s0, .inr (9, [.int 0, .int 0, .int 0, .int 0, .int 0, .int 0, .int 0, .ref t1u, .ref t2u, .ref t3u, .ref t4u, .ref t5u, .ref t6u, .ref t7u]))] H := by rw [hH]; exact hP
  have hS : va_S A s.heap H [] := by rw [hH]; exact hS
  refine lv_aload_n hx hb dX11_next_0 rfl (lv_at hl 0 rfl) ?_
  refine va_get (D := g.1) (ci := 11) (v := .ref sa) (C := RX11) (T := TX11) (N := 14) hx hb hT inF_X11 hown hK.1 hP 0 rfl rfl 5 (by decide) (hT _ bw_20) (fun _ h9 => h9) rfl dX11_next_1 ?_
  refine lv_aload_n hx hb dX11_next_4 rfl (lv_at hl 0 rfl) ?_
  refine va_get (D := g.1) (ci := 11) (v := .int 0) (C := RX11) (T := TX11) (N := 14) hx hb hT inF_X11 hown hK.1 hP 0 rfl rfl 6 (by decide) (hT _ bw_21) (fun _ h9 => h9) rfl dX11_next_5 ?_
  refine va_aldq hx hb hK.1 hP 1 4 rfl rfl (i := 0) (by unfold vp_in; decide) dX11_next_8 ?_
  refine p_tr (x := s0) (rfl) ?_
  refine lv_astore_n (lv' := [(2, .ref s0), (0, .ref x), (1, .int p0)]) hx hb dX11_next_9 rfl hl (by decide) rfl (fun ls hl => ?_)
  refine lv_aload_n hx hb dX11_next_10 rfl (lv_at hl 0 rfl) ?_
  refine k_iR (k_V (n := 0) ⟨hx, hb, hml, hown, hT⟩ hK hP hD [2] rfl (by decide) (c_X9_firstOpen l g H.size s0 t1u t2u t3u t4u t5u t6u t7u) (gV bw_35 bw_36 bw_37 bw_25 bw_6) rfl rfl (by decide +kernel) ⟨by decide, by decide⟩ (ci := 9) (q0 := 0) rfl rfl (fun _ _ _ _ _ => trivial) (fun _ _ _ => trivial) rfl rfl hl.1 (Nat.le_of_ble_eq_true rfl) dX11_next_11 ⟨by decide, by decide⟩) hP hS hA (fun r_1 _ H locs hw hP hS => ?_)
  have hw : r_1 = (-1) := hw
  subst hw
  refine lv_istore_n (lv' := [(3, .int (-1)), (2, .ref s0), (0, .ref x), (1, .int p0)]) hx hb dX11_next_14 rfl hl (by decide) rfl (fun ls hl => ?_)
  refine lv_iload_n hx hb dX11_next_15 rfl (lv_at hl 0 rfl) ?_
  refine lv_iconst (v := (-1)) hx hb dX11_next_16 (by decide) ?_
  refine lv_icmp_ne (tgt := 22) hx hb dX11_next_17 (by decide) (fun c9 => absurd (by decide) c9) (fun _ => ?_)
  refine lv_iconst (v := (-1)) hx hb dX11_next_20 (by decide) ?_
  have hP9 : va_P g.1 vwCl [] H := hP.sub [] rfl
  have hD9 : va_D A [] := ⟨fun i j p q h => by simp at h, fun k q h => by simp at h⟩
  exact W.iret (v := (-1)) hx hb hr (fun t ht hW => ⟨⟨(-1), (), rfl, rfl, by rw [ht]; exact hP9, by rw [hAe]; exact hD9⟩, hS.F ht⟩) hS.2.2 dX11_next_21

set_option maxHeartbeats 4000000 in
set_option maxRecDepth 100000 in
theorem c_X11_heir (l : Launch) (g : GG) (sz : Nat) (x : Nat) (xt : Nat) (xr : Nat) (la : Nat) (lb : Nat) (sa : Nat) (ba : Nat) (se : Nat) (si : Nat) (pa : Nat) (he : Nat) (mea : Nat) (foa : Nat) (rea : Nat) (d1a : Nat) (d2a : Nat) (d3a : Nat) (m1a : Nat) (m2a : Nat) (m3a : Nat) (m4a : Nat) (p0 : Int32) : Met l yX11_heir (.code yX11_heir cX11_heir 2 (some .int) :: gT) ({ frames := 1, cells := 0, slots := 0, locals := 21 }) (va_Pc [.ref x, .int p0] (Pst g sz [(x, .inr (11, [.ref xt, .int 0, .ref xr, .ref la, .ref lb, .ref sa, .int 0, .int 0, .ref ba, .int 0, .ref se, .ref si, .ref pa, .ref he])), (la, .inr (2, [.ref mea, .ref foa, .ref rea, .int 0, .ref d1a, .ref d2a, .int 9, .int 0, .ref d3a])), (mea, .inr (3, [.int 0, .ref m1a, .ref m2a, .ref m3a, .ref m4a]))] nX)) (va_Qi (fun (r : Int32) (_ : Unit) => r = (-1)) (Qst g [] sz (fun _ => [])) (va_A [] sz)) 0 0 (va_A [] sz) := by
  refine Met.ofW (cc := cX11_heir) (maxL := 2) (ret := (some .int)) (by decide) rfl ?_
  intro p e s m args below meth c s₁ B hml hv
  obtain ⟨rfl, hsz, hP, hK, hD0, hX⟩ := hv
  have hx := B.exec
  have hb := B.bytes
  have hr := B.returns
  have hT : ∀ w ∈ gT, w.before _ s = true := fun w h => atoms_spec (ws := .code yX11_heir cX11_heir 2 (some .int) :: gT) B.pre w (List.mem_cons_of_mem _ h)
  have hown : s.vm.findClass RX11 = some m.cls := findClass_of_methodNamed B.named
  have hlocks := B.notSynchronized
  subst hsz
  have hD := hD0
  generalize hAe : va_A [] s.heap.size = A at ⊢
  have hA : ∀ q : Nat, s.heap.size ≤ q → A q := fun q h => by rw [← hAe]; exact Or.inr h
  have hS : va_S A s.heap s.heap [] := va_S.rf
  have hl := lv_entry ([.ref x, .int p0]) (n := 2) (Nat.le_of_ble_eq_true rfl)
  rw [lg_entry_eq]
  generalize (lg_sl ([.ref x, .int p0]) ++ List.replicate (2 - (lg_sl ([.ref x, .int p0])).length) Slot.unset).toArray = ls at hl ⊢
  have hl : lv_has ls 2 [(0, .ref x), (1, .int p0)] := hl
  refine p_nH (fun H hH => ?_)
  have hP : va_P g.1 vwCl [(x, .inr (11, [.ref xt, .int 0, .ref xr, .ref la, .ref lb, .ref sa, .int 0, .int 0, .ref ba, .int 0, .ref se, .ref si, .ref pa, .ref he])), (la, .inr (2, [.ref mea, .ref foa, .ref rea, .int 0, .ref d1a, .ref d2a, .int 9, .int 0, .ref d3a])), (mea, .inr (3, [.int 0, .ref m1a, .ref m2a, .ref m3a, .ref m4a]))] H := by rw [hH]; exact hP
  have hS : va_S A s.heap H [] := by rw [hH]; exact hS
  refine lv_aload_n hx hb dX11_heir_0 rfl (lv_at hl 0 rfl) ?_
  refine va_get (D := g.1) (ci := 11) (v := .ref la) (C := RX11) (T := TX11) (N := 14) hx hb hT inF_X11 hown hK.1 hP 0 rfl rfl 3 (by decide) (hT _ bw_13) (fun _ h9 => h9) rfl dX11_heir_1 ?_
  refine va_get (D := g.1) (ci := 2) (v := .ref mea) (C := RX2) (T := TX2) (N := 9) hx hb hT inF_X2 hown hK.1 hP 1 rfl rfl 0 (by decide) (hT _ bw_14) (fun _ h9 => h9) rfl dX11_heir_4 ?_
  refine lv_iload_n hx hb dX11_heir_7 rfl (lv_at hl 1 rfl) ?_
  refine k_iR (k_V (n := 1) ⟨hx, hb, hml, hown, hT⟩ hK hP hD [2] rfl (by decide) (c_X3_has l g H.size mea m1a m2a m3a m4a p0) (gV bw_15 bw_16 bw_17 bw_18 bw_1) rfl rfl (by decide +kernel) ⟨by decide, by decide⟩ (ci := 3) (q0 := 0) rfl rfl (fun _ _ _ _ _ => trivial) (fun _ _ _ => trivial) rfl rfl hl.1 (Nat.le_of_ble_eq_true rfl) dX11_heir_8 ⟨by decide, by decide⟩) hP hS hA (fun r_1 _ H locs hw hP hS => ?_)
  have hw : r_1 = 0 := hw
  subst hw
  refine lv_if_eq (tgt := 34) hx hb dX11_heir_11 (by decide) (fun _ => ?_) (fun c9 => absurd (by decide) c9)
  refine lv_iconst (v := (-1)) hx hb dX11_heir_34 (by decide) ?_
  have hP9 : va_P g.1 vwCl [] H := hP.sub [] rfl
  have hD9 : va_D A [] := ⟨fun i j p q h => by simp at h, fun k q h => by simp at h⟩
  exact W.iret (v := (-1)) hx hb hr (fun t ht hW => ⟨⟨(-1), (), rfl, rfl, by rw [ht]; exact hP9, by rw [hAe]; exact hD9⟩, hS.F ht⟩) hS.2.2 dX11_heir_35

set_option maxHeartbeats 4000000 in
set_option maxRecDepth 100000 in
theorem c_X11_his (l : Launch) (g : GG) (sz : Nat) (x : Nat) (xt : Nat) (xr : Nat) (la : Nat) (lb : Nat) (sa : Nat) (ba : Nat) (se : Nat) (si : Nat) (pa : Nat) (he : Nat) (mea : Nat) (foa : Nat) (rea : Nat) (d1a : Nat) (d2a : Nat) (d3a : Nat) (m1a : Nat) (m2a : Nat) (m3a : Nat) (m4a : Nat) (p0 : Int32) : Met l yX11_his (.code yX11_his cX11_his 6 (some .int) :: gT) ({ frames := 1, cells := 0, slots := 0, locals := 21 }) (va_Pc [.ref x, .int p0] (Pst g sz [(x, .inr (11, [.ref xt, .int 0, .ref xr, .ref la, .ref lb, .ref sa, .int 0, .int 0, .ref ba, .int 0, .ref se, .ref si, .ref pa, .ref he])), (la, .inr (2, [.ref mea, .ref foa, .ref rea, .int 0, .ref d1a, .ref d2a, .int 9, .int 0, .ref d3a])), (mea, .inr (3, [.int 0, .ref m1a, .ref m2a, .ref m3a, .ref m4a]))] nX)) (va_Qi (fun (r : Int32) (_ : Unit) => r = (-1)) (Qst g [] sz (fun _ => [])) (va_A [] sz)) 0 0 (va_A [] sz) := by
  refine Met.ofW (cc := cX11_his) (maxL := 6) (ret := (some .int)) (by decide) rfl ?_
  intro p e s m args below meth c s₁ B hml hv
  obtain ⟨rfl, hsz, hP, hK, hD0, hX⟩ := hv
  have hx := B.exec
  have hb := B.bytes
  have hr := B.returns
  have hT : ∀ w ∈ gT, w.before _ s = true := fun w h => atoms_spec (ws := .code yX11_his cX11_his 6 (some .int) :: gT) B.pre w (List.mem_cons_of_mem _ h)
  have hown : s.vm.findClass RX11 = some m.cls := findClass_of_methodNamed B.named
  have hlocks := B.notSynchronized
  subst hsz
  have hD := hD0
  generalize hAe : va_A [] s.heap.size = A at ⊢
  have hA : ∀ q : Nat, s.heap.size ≤ q → A q := fun q h => by rw [← hAe]; exact Or.inr h
  have hS : va_S A s.heap s.heap [] := va_S.rf
  have hl := lv_entry ([.ref x, .int p0]) (n := 6) (Nat.le_of_ble_eq_true rfl)
  rw [lg_entry_eq]
  generalize (lg_sl ([.ref x, .int p0]) ++ List.replicate (6 - (lg_sl ([.ref x, .int p0])).length) Slot.unset).toArray = ls at hl ⊢
  have hl : lv_has ls 6 [(0, .ref x), (1, .int p0)] := hl
  refine p_nH (fun H hH => ?_)
  have hP : va_P g.1 vwCl [(x, .inr (11, [.ref xt, .int 0, .ref xr, .ref la, .ref lb, .ref sa, .int 0, .int 0, .ref ba, .int 0, .ref se, .ref si, .ref pa, .ref he])), (la, .inr (2, [.ref mea, .ref foa, .ref rea, .int 0, .ref d1a, .ref d2a, .int 9, .int 0, .ref d3a])), (mea, .inr (3, [.int 0, .ref m1a, .ref m2a, .ref m3a, .ref m4a]))] H := by rw [hH]; exact hP
  have hS : va_S A s.heap H [] := by rw [hH]; exact hS
  refine lv_aload_n hx hb dX11_his_0 rfl (lv_at hl 0 rfl) ?_
  refine va_get (D := g.1) (ci := 11) (v := .ref la) (C := RX11) (T := TX11) (N := 14) hx hb hT inF_X11 hown hK.1 hP 0 rfl rfl 3 (by decide) (hT _ bw_13) (fun _ h9 => h9) rfl dX11_his_1 ?_
  refine va_get (D := g.1) (ci := 2) (v := .ref mea) (C := RX2) (T := TX2) (N := 9) hx hb hT inF_X2 hown hK.1 hP 1 rfl rfl 0 (by decide) (hT _ bw_14) (fun _ h9 => h9) rfl dX11_his_4 ?_
  refine lv_iload_n hx hb dX11_his_7 rfl (lv_at hl 1 rfl) ?_
  refine k_iR (k_V (n := 1) ⟨hx, hb, hml, hown, hT⟩ hK hP hD [2] rfl (by decide) (c_X3_has l g H.size mea m1a m2a m3a m4a p0) (gV bw_15 bw_16 bw_17 bw_18 bw_1) rfl rfl (by decide +kernel) ⟨by decide, by decide⟩ (ci := 3) (q0 := 0) rfl rfl (fun _ _ _ _ _ => trivial) (fun _ _ _ => trivial) rfl rfl hl.1 (Nat.le_of_ble_eq_true rfl) dX11_his_8 ⟨by decide, by decide⟩) hP hS hA (fun r_1 _ H locs hw hP hS => ?_)
  have hw : r_1 = 0 := hw
  subst hw
  refine lv_if_ne (tgt := 16) hx hb dX11_his_11 (by decide) (fun c9 => absurd (by decide) c9) (fun _ => ?_)
  refine lv_iconst (v := (-1)) hx hb dX11_his_14 (by decide) ?_
  have hP9 : va_P g.1 vwCl [] H := hP.sub [] rfl
  have hD9 : va_D A [] := ⟨fun i j p q h => by simp at h, fun k q h => by simp at h⟩
  exact W.iret (v := (-1)) hx hb hr (fun t ht hW => ⟨⟨(-1), (), rfl, rfl, by rw [ht]; exact hP9, by rw [hAe]; exact hD9⟩, hS.F ht⟩) hS.2.2 dX11_his_15

set_option maxHeartbeats 4000000 in
set_option maxRecDepth 100000 in
theorem c_X11_comes (l : Launch) (g : GG) (sz : Nat) (x : Nat) (xt : Nat) (xr : Nat) (la : Nat) (lb : Nat) (sa : Nat) (ba : Nat) (se : Nat) (si : Nat) (pa : Nat) (he : Nat) (mea : Nat) (foa : Nat) (rea : Nat) (d1a : Nat) (d2a : Nat) (d3a : Nat) (m1a : Nat) (m2a : Nat) (m3a : Nat) (m4a : Nat) (p0 : Int32) (p1 : Int32) : Met l yX11_comes (.code yX11_comes cX11_comes 6 (some .int) :: gT) ({ frames := 1, cells := 0, slots := 0, locals := 21 }) (va_Pc [.ref x, .int p0, .int p1] (Pst g sz [(x, .inr (11, [.ref xt, .int 0, .ref xr, .ref la, .ref lb, .ref sa, .int 0, .int 0, .ref ba, .int 0, .ref se, .ref si, .ref pa, .ref he])), (la, .inr (2, [.ref mea, .ref foa, .ref rea, .int 0, .ref d1a, .ref d2a, .int 9, .int 0, .ref d3a])), (mea, .inr (3, [.int 0, .ref m1a, .ref m2a, .ref m3a, .ref m4a]))] nX)) (va_Qi (fun (r : Int32) (_ : Unit) => r = (-1)) (Qst g [] sz (fun _ => [])) (va_A [] sz)) 0 0 (va_A [] sz) := by
  refine Met.ofW (cc := cX11_comes) (maxL := 6) (ret := (some .int)) (by decide) rfl ?_
  intro p e s m args below meth c s₁ B hml hv
  obtain ⟨rfl, hsz, hP, hK, hD0, hX⟩ := hv
  have hx := B.exec
  have hb := B.bytes
  have hr := B.returns
  have hT : ∀ w ∈ gT, w.before _ s = true := fun w h => atoms_spec (ws := .code yX11_comes cX11_comes 6 (some .int) :: gT) B.pre w (List.mem_cons_of_mem _ h)
  have hown : s.vm.findClass RX11 = some m.cls := findClass_of_methodNamed B.named
  have hlocks := B.notSynchronized
  subst hsz
  have hD := hD0
  generalize hAe : va_A [] s.heap.size = A at ⊢
  have hA : ∀ q : Nat, s.heap.size ≤ q → A q := fun q h => by rw [← hAe]; exact Or.inr h
  have hS : va_S A s.heap s.heap [] := va_S.rf
  have hl := lv_entry ([.ref x, .int p0, .int p1]) (n := 6) (Nat.le_of_ble_eq_true rfl)
  rw [lg_entry_eq]
  generalize (lg_sl ([.ref x, .int p0, .int p1]) ++ List.replicate (6 - (lg_sl ([.ref x, .int p0, .int p1])).length) Slot.unset).toArray = ls at hl ⊢
  have hl : lv_has ls 6 [(0, .ref x), (1, .int p0), (2, .int p1)] := hl
  refine p_nH (fun H hH => ?_)
  have hP : va_P g.1 vwCl [(x, .inr (11, [.ref xt, .int 0, .ref xr, .ref la, .ref lb, .ref sa, .int 0, .int 0, .ref ba, .int 0, .ref se, .ref si, .ref pa, .ref he])), (la, .inr (2, [.ref mea, .ref foa, .ref rea, .int 0, .ref d1a, .ref d2a, .int 9, .int 0, .ref d3a])), (mea, .inr (3, [.int 0, .ref m1a, .ref m2a, .ref m3a, .ref m4a]))] H := by rw [hH]; exact hP
  have hS : va_S A s.heap H [] := by rw [hH]; exact hS
  refine lv_aload_n hx hb dX11_comes_0 rfl (lv_at hl 0 rfl) ?_
  refine va_get (D := g.1) (ci := 11) (v := .ref la) (C := RX11) (T := TX11) (N := 14) hx hb hT inF_X11 hown hK.1 hP 0 rfl rfl 3 (by decide) (hT _ bw_13) (fun _ h9 => h9) rfl dX11_comes_1 ?_
  refine va_get (D := g.1) (ci := 2) (v := .ref mea) (C := RX2) (T := TX2) (N := 9) hx hb hT inF_X2 hown hK.1 hP 1 rfl rfl 0 (by decide) (hT _ bw_14) (fun _ h9 => h9) rfl dX11_comes_4 ?_
  refine lv_astore_n (lv' := [(3, .ref mea), (0, .ref x), (1, .int p0), (2, .int p1)]) hx hb dX11_comes_7 rfl hl (by decide) rfl (fun ls hl => ?_)
  refine lv_aload_n hx hb dX11_comes_8 rfl (lv_at hl 0 rfl) ?_
  refine lv_iload_n hx hb dX11_comes_9 rfl (lv_at hl 2 rfl) ?_
  refine k_iR (k_V (n := 1) ⟨hx, hb, hml, hown, hT⟩ hK hP hD [2] rfl (by decide) (c_X3_has l g H.size mea m1a m2a m3a m4a p0) (gV bw_15 bw_16 bw_17 bw_18 bw_1) rfl rfl (by decide +kernel) ⟨by decide, by decide⟩ (ci := 3) (q0 := 0) rfl rfl (fun _ _ _ _ _ => trivial) (fun _ _ _ => trivial) rfl rfl hl.1 (Nat.le_of_ble_eq_true rfl) dX11_comes_10 ⟨by decide, by decide⟩) hP hS hA (fun r_1 _ H locs hw hP hS => ?_)
  have hw : r_1 = 0 := hw
  subst hw
  refine lv_if_eq (tgt := 24) hx hb dX11_comes_13 (by decide) (fun _ => ?_) (fun c9 => absurd (by decide) c9)
  refine lv_iconst (v := (-1)) hx hb dX11_comes_24 (by decide) ?_
  have hP9 : va_P g.1 vwCl [] H := hP.sub [] rfl
  have hD9 : va_D A [] := ⟨fun i j p q h => by simp at h, fun k q h => by simp at h⟩
  exact W.iret (v := (-1)) hx hb hr (fun t ht hW => ⟨⟨(-1), (), rfl, rfl, by rw [ht]; exact hP9, by rw [hAe]; exact hD9⟩, hS.F ht⟩) hS.2.2 dX11_comes_25

set_option maxHeartbeats 4000000 in
set_option maxRecDepth 100000 in
theorem c_X11_put (l : Launch) (g : GG) (sz : Nat) (x : Nat) (xt : Nat) (xr : Nat) (la : Nat) (lb : Nat) (sa : Nat) (ba : Nat) (se : Nat) (si : Nat) (pa : Nat) (he : Nat) (s1 : Nat) (s0 : Nat) (t1u : Nat) (t2u : Nat) (t3u : Nat) (t4u : Nat) (t5u : Nat) (t6u : Nat) (t7u : Nat) (fs : Nat → Option Nat) (p0 : Int32) (p1 : Int32) (p2 : Int32) : Met l yX11_put (.code yX11_put cX11_put 6 (some .int) :: gT) ({ frames := 1, cells := 0, slots := 0, locals := 21 }) (va_Pc [.ref x, .int p0, .int p1, .int p2] (Pst g sz [(x, .inr (11, [.ref xt, .int 0, .ref xr, .ref la, .ref lb, .ref sa, .int 0, .int 0, .ref ba, .int 0, .ref se, .ref si, .ref pa, .ref he])), (sa, aO g 41 (va_up (va_up fs 0 (some s0)) 1 (some s1))), (s0, .inr (9, [.int 0, .int 0, .int 0, .int 0, .int 0, .int 0, .int 0, .ref t1u, .ref t2u, .ref t3u, .ref t4u, .ref t5u, .ref t6u, .ref t7u]))] nX)) (va_Qi (fun (r : Int32) (_ : Unit) => r = (-1)) (Qst g [] sz (fun _ => [])) (va_A [] sz)) 0 0 (va_A [] sz) := by
  refine Met.ofW (cc := cX11_put) (maxL := 6) (ret := (some .int)) (by decide) rfl ?_
  intro p e s m args below meth c s₁ B hml hv
  obtain ⟨rfl, hsz, hP, hK, hD0, hX⟩ := hv
  have hx := B.exec
  have hb := B.bytes
  have hr := B.returns
  have hT : ∀ w ∈ gT, w.before _ s = true := fun w h => atoms_spec (ws := .code yX11_put cX11_put 6 (some .int) :: gT) B.pre w (List.mem_cons_of_mem _ h)
  have hown : s.vm.findClass RX11 = some m.cls := findClass_of_methodNamed B.named
  have hlocks := B.notSynchronized
  subst hsz
  have hD := hD0
  generalize hAe : va_A [] s.heap.size = A at ⊢
  have hA : ∀ q : Nat, s.heap.size ≤ q → A q := fun q h => by rw [← hAe]; exact Or.inr h
  have hS : va_S A s.heap s.heap [] := va_S.rf
  have hl := lv_entry ([.ref x, .int p0, .int p1, .int p2]) (n := 6) (Nat.le_of_ble_eq_true rfl)
  rw [lg_entry_eq]
  generalize (lg_sl ([.ref x, .int p0, .int p1, .int p2]) ++ List.replicate (6 - (lg_sl ([.ref x, .int p0, .int p1, .int p2])).length) Slot.unset).toArray = ls at hl ⊢
  have hl : lv_has ls 6 [(0, .ref x), (1, .int p0), (2, .int p1), (3, .int p2)] := hl
  refine p_nH (fun H hH => ?_)
  have hP : va_P g.1 vwCl [(x, .inr (11, [.ref xt, .int 0, .ref xr, .ref la, .ref lb, .ref sa, .int 0, .int 0, .ref ba, .int 0, .ref se, .ref si, .ref pa, .ref he])), (sa, aO g 41 (va_up (va_up fs 0 (some s0)) 1 (some s1))), (s0, .inr (9, [.int 0, .int 0, .int 0, .int 0, .int 0, .int 0, .int 0, .ref t1u, .ref t2u, .ref t3u, .ref t4u, .ref t5u, .ref t6u, .ref t7u]))] H := by rw [hH]; exact hP
  have hS : va_S A s.heap H [] := by rw [hH]; exact hS
  refine lv_aload_n hx hb dX11_put_0 rfl (lv_at hl 0 rfl) ?_
  refine va_get (D := g.1) (ci := 11) (v := .ref sa) (C := RX11) (T := TX11) (N := 14) hx hb hT inF_X11 hown hK.1 hP 0 rfl rfl 5 (by decide) (hT _ bw_20) (fun _ h9 => h9) rfl dX11_put_1 ?_
  refine lv_aload_n hx hb dX11_put_4 rfl (lv_at hl 0 rfl) ?_
  refine va_get (D := g.1) (ci := 11) (v := .int 0) (C := RX11) (T := TX11) (N := 14) hx hb hT inF_X11 hown hK.1 hP 0 rfl rfl 6 (by decide) (hT _ bw_21) (fun _ h9 => h9) rfl dX11_put_5 ?_
  refine va_aldq hx hb hK.1 hP 1 4 rfl rfl (i := 0) (by unfold vp_in; decide) dX11_put_8 ?_
  refine p_tr (x := s0) (rfl) ?_
  refine lv_astore (lv' := [(4, .ref s0), (0, .ref x), (1, .int p0), (2, .int p1), (3, .int p2)]) hx hb dX11_put_9 hl (by decide) rfl (fun ls hl => ?_)
  refine lv_aload hx hb dX11_put_11 (lv_at hl 0 rfl) ?_
  refine lv_iload_n hx hb dX11_put_13 rfl (lv_at hl 2 rfl) ?_
  refine k_iR (k_V (n := 1) ⟨hx, hb, hml, hown, hT⟩ hK hP hD [2] rfl (by decide) (c_X9_hasDuel l g H.size s0 t1u t2u t3u t4u t5u t6u t7u p0) (gV bw_22 bw_23 bw_24 bw_25 bw_5) rfl rfl (by decide +kernel) ⟨by decide, by decide⟩ (ci := 9) (q0 := 0) rfl rfl (fun _ _ _ _ _ => trivial) (fun _ _ _ => trivial) rfl rfl hl.1 (Nat.le_of_ble_eq_true rfl) dX11_put_14 ⟨by decide, by decide⟩) hP hS hA (fun r_1 _ H locs hw hP hS => ?_)
  have hw : r_1 = 0 := hw
  subst hw
  refine lv_if_eq (tgt := 41) hx hb dX11_put_17 (by decide) (fun _ => ?_) (fun c9 => absurd (by decide) c9)
  refine lv_iconst (v := (-1)) hx hb dX11_put_41 (by decide) ?_
  have hP9 : va_P g.1 vwCl [] H := hP.sub [] rfl
  have hD9 : va_D A [] := ⟨fun i j p q h => by simp at h, fun k q h => by simp at h⟩
  exact W.iret (v := (-1)) hx hb hr (fun t ht hW => ⟨⟨(-1), (), rfl, rfl, by rw [ht]; exact hP9, by rw [hAe]; exact hD9⟩, hS.F ht⟩) hS.2.2 dX11_put_42

set_option maxHeartbeats 4000000 in
set_option maxRecDepth 100000 in
theorem c_X11_rent (l : Launch) (g : GG) (sz : Nat) (x : Nat) (xt : Nat) (xr : Nat) (la : Nat) (lb : Nat) (sa : Nat) (ba : Nat) (se : Nat) (si : Nat) (pa : Nat) (he : Nat) (mea : Nat) (foa : Nat) (rea : Nat) (d1a : Nat) (d2a : Nat) (d3a : Nat) (m1a : Nat) (m2a : Nat) (m3a : Nat) (m4a : Nat) (s1 : Nat) (s0 : Nat) (fs : Nat → Option Nat) (p0 : Int32) (p1 : Int32) : Met l yX11_rent (.code yX11_rent cX11_rent 6 (some .int) :: gT) ({ frames := 1, cells := 0, slots := 0, locals := 21 }) (va_Pc [.ref x, .int p0, .int p1] (Pst g sz [(x, .inr (11, [.ref xt, .int 0, .ref xr, .ref la, .ref lb, .ref sa, .int 0, .int 0, .ref ba, .int 0, .ref se, .ref si, .ref pa, .ref he])), (la, .inr (2, [.ref mea, .ref foa, .ref rea, .int 0, .ref d1a, .ref d2a, .int 9, .int 0, .ref d3a])), (mea, .inr (3, [.int 0, .ref m1a, .ref m2a, .ref m3a, .ref m4a])), (sa, aO g 41 (va_up (va_up fs 0 (some s0)) 1 (some s1)))] nX)) (va_Qi (fun (r : Int32) (_ : Unit) => r = (-1)) (Qst g [] sz (fun _ => [])) (va_A [] sz)) 0 0 (va_A [] sz) := by
  refine Met.ofW (cc := cX11_rent) (maxL := 6) (ret := (some .int)) (by decide) rfl ?_
  intro p e s m args below meth c s₁ B hml hv
  obtain ⟨rfl, hsz, hP, hK, hD0, hX⟩ := hv
  have hx := B.exec
  have hb := B.bytes
  have hr := B.returns
  have hT : ∀ w ∈ gT, w.before _ s = true := fun w h => atoms_spec (ws := .code yX11_rent cX11_rent 6 (some .int) :: gT) B.pre w (List.mem_cons_of_mem _ h)
  have hown : s.vm.findClass RX11 = some m.cls := findClass_of_methodNamed B.named
  have hlocks := B.notSynchronized
  subst hsz
  have hD := hD0
  generalize hAe : va_A [] s.heap.size = A at ⊢
  have hA : ∀ q : Nat, s.heap.size ≤ q → A q := fun q h => by rw [← hAe]; exact Or.inr h
  have hS : va_S A s.heap s.heap [] := va_S.rf
  have hl := lv_entry ([.ref x, .int p0, .int p1]) (n := 6) (Nat.le_of_ble_eq_true rfl)
  rw [lg_entry_eq]
  generalize (lg_sl ([.ref x, .int p0, .int p1]) ++ List.replicate (6 - (lg_sl ([.ref x, .int p0, .int p1])).length) Slot.unset).toArray = ls at hl ⊢
  have hl : lv_has ls 6 [(0, .ref x), (1, .int p0), (2, .int p1)] := hl
  refine p_nH (fun H hH => ?_)
  have hP : va_P g.1 vwCl [(x, .inr (11, [.ref xt, .int 0, .ref xr, .ref la, .ref lb, .ref sa, .int 0, .int 0, .ref ba, .int 0, .ref se, .ref si, .ref pa, .ref he])), (la, .inr (2, [.ref mea, .ref foa, .ref rea, .int 0, .ref d1a, .ref d2a, .int 9, .int 0, .ref d3a])), (mea, .inr (3, [.int 0, .ref m1a, .ref m2a, .ref m3a, .ref m4a])), (sa, aO g 41 (va_up (va_up fs 0 (some s0)) 1 (some s1)))] H := by rw [hH]; exact hP
  have hS : va_S A s.heap H [] := by rw [hH]; exact hS
  refine lv_aload_n hx hb dX11_rent_0 rfl (lv_at hl 0 rfl) ?_
  refine va_get (D := g.1) (ci := 11) (v := .ref sa) (C := RX11) (T := TX11) (N := 14) hx hb hT inF_X11 hown hK.1 hP 0 rfl rfl 5 (by decide) (hT _ bw_20) (fun _ h9 => h9) rfl dX11_rent_1 ?_
  refine lv_aload_n hx hb dX11_rent_4 rfl (lv_at hl 0 rfl) ?_
  refine va_get (D := g.1) (ci := 11) (v := .int 0) (C := RX11) (T := TX11) (N := 14) hx hb hT inF_X11 hown hK.1 hP 0 rfl rfl 6 (by decide) (hT _ bw_21) (fun _ h9 => h9) rfl dX11_rent_5 ?_
  refine va_aldq hx hb hK.1 hP 3 4 rfl rfl (i := 0) (by unfold vp_in; decide) dX11_rent_8 ?_
  refine p_tr (x := s0) (rfl) ?_
  refine lv_astore_n (lv' := [(3, .ref s0), (0, .ref x), (1, .int p0), (2, .int p1)]) hx hb dX11_rent_9 rfl hl (by decide) rfl (fun ls hl => ?_)
  refine lv_aload_n hx hb dX11_rent_10 rfl (lv_at hl 1 rfl) ?_
  refine va_get (D := g.1) (ci := 11) (v := .ref la) (C := RX11) (T := TX11) (N := 14) hx hb hT inF_X11 hown hK.1 hP 0 rfl rfl 3 (by decide) (hT _ bw_13) (fun _ h9 => h9) rfl dX11_rent_11 ?_
  refine va_get (D := g.1) (ci := 2) (v := .ref mea) (C := RX2) (T := TX2) (N := 9) hx hb hT inF_X2 hown hK.1 hP 1 rfl rfl 0 (by decide) (hT _ bw_14) (fun _ h9 => h9) rfl dX11_rent_14 ?_
  refine lv_iload_n hx hb dX11_rent_17 rfl (lv_at hl 2 rfl) ?_
  refine k_iR (k_V (n := 1) ⟨hx, hb, hml, hown, hT⟩ hK hP hD [2] rfl (by decide) (c_X3_has l g H.size mea m1a m2a m3a m4a p0) (gV bw_15 bw_16 bw_17 bw_18 bw_1) rfl rfl (by decide +kernel) ⟨by decide, by decide⟩ (ci := 3) (q0 := 0) rfl rfl (fun _ _ _ _ _ => trivial) (fun _ _ _ => trivial) rfl rfl hl.1 (Nat.le_of_ble_eq_true rfl) dX11_rent_18 ⟨by decide, by decide⟩) hP hS hA (fun r_1 _ H locs hw hP hS => ?_)
  have hw : r_1 = 0 := hw
  subst hw
  refine lv_if_eq (tgt := 46) hx hb dX11_rent_21 (by decide) (fun _ => ?_) (fun c9 => absurd (by decide) c9)
  refine lv_iconst (v := (-1)) hx hb dX11_rent_46 (by decide) ?_
  have hP9 : va_P g.1 vwCl [] H := hP.sub [] rfl
  have hD9 : va_D A [] := ⟨fun i j p q h => by simp at h, fun k q h => by simp at h⟩
  exact W.iret (v := (-1)) hx hb hr (fun t ht hW => ⟨⟨(-1), (), rfl, rfl, by rw [ht]; exact hP9, by rw [hAe]; exact hD9⟩, hS.F ht⟩) hS.2.2 dX11_rent_47

set_option maxHeartbeats 4000000 in
set_option maxRecDepth 100000 in
theorem c_X11_strike (l : Launch) (g : GG) (sz : Nat) (x : Nat) (xt : Nat) (xr : Nat) (la : Nat) (lb : Nat) (sa : Nat) (ba : Nat) (se : Nat) (si : Nat) (pa : Nat) (he : Nat) (mea : Nat) (foa : Nat) (rea : Nat) (d1a : Nat) (d2a : Nat) (d3a : Nat) (r1a : Nat) (r2a : Nat) (r3a : Nat) (r4a : Nat) (r5a : Nat) (r6a : Nat) (r7a : Nat) (p0 : Int32) : Met l yX11_strike (.code yX11_strike cX11_strike 2 (some .boolean) :: gT) ({ frames := 1, cells := 0, slots := 0, locals := 21 }) (va_Pc [.ref x, .int p0] (Pst g sz [(x, .inr (11, [.ref xt, .int 0, .ref xr, .ref la, .ref lb, .ref sa, .int 0, .int 0, .ref ba, .int 0, .ref se, .ref si, .ref pa, .ref he])), (la, .inr (2, [.ref mea, .ref foa, .ref rea, .int 0, .ref d1a, .ref d2a, .int 9, .int 0, .ref d3a])), (rea, .inr (6, [.int 0, .ref r1a, .ref r2a, .ref r3a, .ref r4a, .ref r5a, .ref r6a, .ref r7a]))] nX)) (va_Qi (fun (r : Int32) (_ : Unit) => r = 0) (Qst g [] sz (fun _ => [])) (va_A [] sz)) 0 0 (va_A [] sz) := by
  refine Met.ofW (cc := cX11_strike) (maxL := 2) (ret := (some .boolean)) (by decide) rfl ?_
  intro p e s m args below meth c s₁ B hml hv
  obtain ⟨rfl, hsz, hP, hK, hD0, hX⟩ := hv
  have hx := B.exec
  have hb := B.bytes
  have hr := B.returns
  have hT : ∀ w ∈ gT, w.before _ s = true := fun w h => atoms_spec (ws := .code yX11_strike cX11_strike 2 (some .boolean) :: gT) B.pre w (List.mem_cons_of_mem _ h)
  have hown : s.vm.findClass RX11 = some m.cls := findClass_of_methodNamed B.named
  have hlocks := B.notSynchronized
  subst hsz
  have hD := hD0
  generalize hAe : va_A [] s.heap.size = A at ⊢
  have hA : ∀ q : Nat, s.heap.size ≤ q → A q := fun q h => by rw [← hAe]; exact Or.inr h
  have hS : va_S A s.heap s.heap [] := va_S.rf
  have hl := lv_entry ([.ref x, .int p0]) (n := 2) (Nat.le_of_ble_eq_true rfl)
  rw [lg_entry_eq]
  generalize (lg_sl ([.ref x, .int p0]) ++ List.replicate (2 - (lg_sl ([.ref x, .int p0])).length) Slot.unset).toArray = ls at hl ⊢
  have hl : lv_has ls 2 [(0, .ref x), (1, .int p0)] := hl
  refine p_nH (fun H hH => ?_)
  have hP : va_P g.1 vwCl [(x, .inr (11, [.ref xt, .int 0, .ref xr, .ref la, .ref lb, .ref sa, .int 0, .int 0, .ref ba, .int 0, .ref se, .ref si, .ref pa, .ref he])), (la, .inr (2, [.ref mea, .ref foa, .ref rea, .int 0, .ref d1a, .ref d2a, .int 9, .int 0, .ref d3a])), (rea, .inr (6, [.int 0, .ref r1a, .ref r2a, .ref r3a, .ref r4a, .ref r5a, .ref r6a, .ref r7a]))] H := by rw [hH]; exact hP
  have hS : va_S A s.heap H [] := by rw [hH]; exact hS
  refine lv_aload_n hx hb dX11_strike_0 rfl (lv_at hl 0 rfl) ?_
  refine va_get (D := g.1) (ci := 11) (v := .ref la) (C := RX11) (T := TX11) (N := 14) hx hb hT inF_X11 hown hK.1 hP 0 rfl rfl 3 (by decide) (hT _ bw_13) (fun _ h9 => h9) rfl dX11_strike_1 ?_
  refine va_get (D := g.1) (ci := 2) (v := .ref rea) (C := RX2) (T := TX2) (N := 9) hx hb hT inF_X2 hown hK.1 hP 1 rfl rfl 2 (by decide) (hT _ bw_27) (fun _ h9 => h9) rfl dX11_strike_4 ?_
  refine lv_iload_n hx hb dX11_strike_7 rfl (lv_at hl 1 rfl) ?_
  refine k_iR (k_V (n := 1) ⟨hx, hb, hml, hown, hT⟩ hK hP hD [2] rfl (by decide) (c_X6_has l g H.size rea r1a r2a r3a r4a r5a r6a r7a p0) (gV bw_28 bw_29 bw_30 bw_31 bw_3) rfl rfl (by decide +kernel) ⟨by decide, by decide⟩ (ci := 6) (q0 := 0) rfl rfl (fun _ _ _ _ _ => trivial) (fun _ _ _ => trivial) rfl rfl hl.1 (Nat.le_of_ble_eq_true rfl) dX11_strike_8 ⟨by decide, by decide⟩) hP hS hA (fun r_1 _ H locs hw hP hS => ?_)
  have hw : r_1 = 0 := hw
  subst hw
  refine lv_if_eq (tgt := 30) hx hb dX11_strike_11 (by decide) (fun _ => ?_) (fun c9 => absurd (by decide) c9)
  refine lv_iconst (v := 0) hx hb dX11_strike_30 (by decide) ?_
  have hP9 : va_P g.1 vwCl [] H := hP.sub [] rfl
  have hD9 : va_D A [] := ⟨fun i j p q h => by simp at h, fun k q h => by simp at h⟩
  exact W.zret (v := 0) (ty := .boolean) hx hb hr rfl (fun t ht hW => ⟨⟨0, (), rfl, rfl, by rw [ht]; exact hP9, by rw [hAe]; exact hD9⟩, hS.F ht⟩) hS.2.2 dX11_strike_31

set_option maxHeartbeats 4000000 in
set_option maxRecDepth 100000 in
theorem c_X11_insult (l : Launch) (g : GG) (sz : Nat) (x : Nat) (xt : Nat) (xr : Nat) (la : Nat) (lb : Nat) (sa : Nat) (ba : Nat) (se : Nat) (si : Nat) (pa : Nat) (he : Nat) (mea : Nat) (foa : Nat) (rea : Nat) (d1a : Nat) (d2a : Nat) (d3a : Nat) (m1a : Nat) (m2a : Nat) (m3a : Nat) (m4a : Nat) (s1 : Nat) (s0 : Nat) (fs : Nat → Option Nat) (p0 : Int32) (p1 : Int32) : Met l yX11_insult (.code yX11_insult cX11_insult 5 (some .int) :: gT) ({ frames := 1, cells := 0, slots := 0, locals := 21 }) (va_Pc [.ref x, .int p0, .int p1] (Pst g sz [(x, .inr (11, [.ref xt, .int 0, .ref xr, .ref la, .ref lb, .ref sa, .int 0, .int 0, .ref ba, .int 0, .ref se, .ref si, .ref pa, .ref he])), (la, .inr (2, [.ref mea, .ref foa, .ref rea, .int 0, .ref d1a, .ref d2a, .int 9, .int 0, .ref d3a])), (mea, .inr (3, [.int 0, .ref m1a, .ref m2a, .ref m3a, .ref m4a])), (sa, aO g 41 (va_up (va_up fs 0 (some s0)) 1 (some s1)))] nX)) (va_Qi (fun (r : Int32) (_ : Unit) => r = (-1)) (Qst g [] sz (fun _ => [])) (va_A [] sz)) 0 0 (va_A [] sz) := by
  refine Met.ofW (cc := cX11_insult) (maxL := 5) (ret := (some .int)) (by decide) rfl ?_
  intro p e s m args below meth c s₁ B hml hv
  obtain ⟨rfl, hsz, hP, hK, hD0, hX⟩ := hv
  have hx := B.exec
  have hb := B.bytes
  have hr := B.returns
  have hT : ∀ w ∈ gT, w.before _ s = true := fun w h => atoms_spec (ws := .code yX11_insult cX11_insult 5 (some .int) :: gT) B.pre w (List.mem_cons_of_mem _ h)
  have hown : s.vm.findClass RX11 = some m.cls := findClass_of_methodNamed B.named
  have hlocks := B.notSynchronized
  subst hsz
  have hD := hD0
  generalize hAe : va_A [] s.heap.size = A at ⊢
  have hA : ∀ q : Nat, s.heap.size ≤ q → A q := fun q h => by rw [← hAe]; exact Or.inr h
  have hS : va_S A s.heap s.heap [] := va_S.rf
  have hl := lv_entry ([.ref x, .int p0, .int p1]) (n := 5) (Nat.le_of_ble_eq_true rfl)
  rw [lg_entry_eq]
  generalize (lg_sl ([.ref x, .int p0, .int p1]) ++ List.replicate (5 - (lg_sl ([.ref x, .int p0, .int p1])).length) Slot.unset).toArray = ls at hl ⊢
  have hl : lv_has ls 5 [(0, .ref x), (1, .int p0), (2, .int p1)] := hl
  refine p_nH (fun H hH => ?_)
  have hP : va_P g.1 vwCl [(x, .inr (11, [.ref xt, .int 0, .ref xr, .ref la, .ref lb, .ref sa, .int 0, .int 0, .ref ba, .int 0, .ref se, .ref si, .ref pa, .ref he])), (la, .inr (2, [.ref mea, .ref foa, .ref rea, .int 0, .ref d1a, .ref d2a, .int 9, .int 0, .ref d3a])), (mea, .inr (3, [.int 0, .ref m1a, .ref m2a, .ref m3a, .ref m4a])), (sa, aO g 41 (va_up (va_up fs 0 (some s0)) 1 (some s1)))] H := by rw [hH]; exact hP
  have hS : va_S A s.heap H [] := by rw [hH]; exact hS
  refine lv_aload_n hx hb dX11_insult_0 rfl (lv_at hl 0 rfl) ?_
  refine va_get (D := g.1) (ci := 11) (v := .ref sa) (C := RX11) (T := TX11) (N := 14) hx hb hT inF_X11 hown hK.1 hP 0 rfl rfl 5 (by decide) (hT _ bw_20) (fun _ h9 => h9) rfl dX11_insult_1 ?_
  refine lv_aload_n hx hb dX11_insult_4 rfl (lv_at hl 0 rfl) ?_
  refine va_get (D := g.1) (ci := 11) (v := .int 0) (C := RX11) (T := TX11) (N := 14) hx hb hT inF_X11 hown hK.1 hP 0 rfl rfl 6 (by decide) (hT _ bw_21) (fun _ h9 => h9) rfl dX11_insult_5 ?_
  refine va_aldq hx hb hK.1 hP 3 4 rfl rfl (i := 0) (by unfold vp_in; decide) dX11_insult_8 ?_
  refine p_tr (x := s0) (rfl) ?_
  refine lv_astore_n (lv' := [(3, .ref s0), (0, .ref x), (1, .int p0), (2, .int p1)]) hx hb dX11_insult_9 rfl hl (by decide) rfl (fun ls hl => ?_)
  refine lv_aload_n hx hb dX11_insult_10 rfl (lv_at hl 1 rfl) ?_
  refine va_get (D := g.1) (ci := 11) (v := .ref la) (C := RX11) (T := TX11) (N := 14) hx hb hT inF_X11 hown hK.1 hP 0 rfl rfl 3 (by decide) (hT _ bw_13) (fun _ h9 => h9) rfl dX11_insult_11 ?_
  refine va_get (D := g.1) (ci := 2) (v := .ref mea) (C := RX2) (T := TX2) (N := 9) hx hb hT inF_X2 hown hK.1 hP 1 rfl rfl 0 (by decide) (hT _ bw_14) (fun _ h9 => h9) rfl dX11_insult_14 ?_
  refine lv_iload_n hx hb dX11_insult_17 rfl (lv_at hl 2 rfl) ?_
  refine k_iR (k_V (n := 1) ⟨hx, hb, hml, hown, hT⟩ hK hP hD [2] rfl (by decide) (c_X3_has l g H.size mea m1a m2a m3a m4a p0) (gV bw_15 bw_16 bw_17 bw_18 bw_1) rfl rfl (by decide +kernel) ⟨by decide, by decide⟩ (ci := 3) (q0 := 0) rfl rfl (fun _ _ _ _ _ => trivial) (fun _ _ _ => trivial) rfl rfl hl.1 (Nat.le_of_ble_eq_true rfl) dX11_insult_18 ⟨by decide, by decide⟩) hP hS hA (fun r_1 _ H locs hw hP hS => ?_)
  have hw : r_1 = 0 := hw
  subst hw
  refine lv_if_eq (tgt := 52) hx hb dX11_insult_21 (by decide) (fun _ => ?_) (fun c9 => absurd (by decide) c9)
  refine lv_iconst (v := (-1)) hx hb dX11_insult_52 (by decide) ?_
  have hP9 : va_P g.1 vwCl [] H := hP.sub [] rfl
  have hD9 : va_D A [] := ⟨fun i j p q h => by simp at h, fun k q h => by simp at h⟩
  exact W.iret (v := (-1)) hx hb hr (fun t ht hW => ⟨⟨(-1), (), rfl, rfl, by rw [ht]; exact hP9, by rw [hAe]; exact hD9⟩, hS.F ht⟩) hS.2.2 dX11_insult_53

set_option maxHeartbeats 4000000 in
set_option maxRecDepth 100000 in
theorem c_X11_undo (l : Launch) (g : GG) (sz : Nat) (x : Nat) (xt : Nat) (xr : Nat) (la : Nat) (lb : Nat) (sa : Nat) (ba : Nat) (se : Nat) (si : Nat) (pa : Nat) (he : Nat) : Met l yX11_undo (.code yX11_undo cX11_undo 1 (some .boolean) :: gT) ({ frames := 0, cells := 0, slots := 0, locals := 0 }) (va_Pc [.ref x] (Pst g sz [(x, .inr (11, [.ref xt, .int 0, .ref xr, .ref la, .ref lb, .ref sa, .int 0, .int 0, .ref ba, .int 0, .ref se, .ref si, .ref pa, .ref he]))] nX)) (va_Qi (fun (r : Int32) (_ : Unit) => r = 0) (Qst g [] sz (fun _ => [])) (va_A [] sz)) 0 0 (va_A [] sz) := by
  refine Met.ofW (cc := cX11_undo) (maxL := 1) (ret := (some .boolean)) (by decide) rfl ?_
  intro p e s m args below meth c s₁ B hml hv
  obtain ⟨rfl, hsz, hP, hK, hD0, hX⟩ := hv
  have hx := B.exec
  have hb := B.bytes
  have hr := B.returns
  have hT : ∀ w ∈ gT, w.before _ s = true := fun w h => atoms_spec (ws := .code yX11_undo cX11_undo 1 (some .boolean) :: gT) B.pre w (List.mem_cons_of_mem _ h)
  have hown : s.vm.findClass RX11 = some m.cls := findClass_of_methodNamed B.named
  have hlocks := B.notSynchronized
  subst hsz
  have hD := hD0
  generalize hAe : va_A [] s.heap.size = A at ⊢
  have hA : ∀ q : Nat, s.heap.size ≤ q → A q := fun q h => by rw [← hAe]; exact Or.inr h
  have hS : va_S A s.heap s.heap [] := va_S.rf
  have hl := lv_entry ([.ref x]) (n := 1) (Nat.le_of_ble_eq_true rfl)
  rw [lg_entry_eq]
  generalize (lg_sl ([.ref x]) ++ List.replicate (1 - (lg_sl ([.ref x])).length) Slot.unset).toArray = ls at hl ⊢
  have hl : lv_has ls 1 [(0, .ref x)] := hl
  refine p_nH (fun H hH => ?_)
  have hP : va_P g.1 vwCl [(x, .inr (11, [.ref xt, .int 0, .ref xr, .ref la, .ref lb, .ref sa, .int 0, .int 0, .ref ba, .int 0, .ref se, .ref si, .ref pa, .ref he]))] H := by rw [hH]; exact hP
  have hS : va_S A s.heap H [] := by rw [hH]; exact hS
  refine lv_aload_n hx hb dX11_undo_0 rfl (lv_at hl 0 rfl) ?_
  refine va_get (D := g.1) (ci := 11) (v := .int 0) (C := RX11) (T := TX11) (N := 14) hx hb hT inF_X11 hown hK.1 hP 0 rfl rfl 6 (by decide) (hT _ bw_21) (fun _ h9 => h9) rfl dX11_undo_1 ?_
  refine lv_if_ne (tgt := 9) hx hb dX11_undo_4 (by decide) (fun c9 => absurd (by decide) c9) (fun _ => ?_)
  refine lv_iconst (v := 0) hx hb dX11_undo_7 (by decide) ?_
  have hP9 : va_P g.1 vwCl [] H := hP.sub [] rfl
  have hD9 : va_D A [] := ⟨fun i j p q h => by simp at h, fun k q h => by simp at h⟩
  exact W.zret (v := 0) (ty := .boolean) hx hb hr rfl (fun t ht hW => ⟨⟨0, (), rfl, rfl, by rw [ht]; exact hP9, by rw [hAe]; exact hD9⟩, hS.F ht⟩) hS.2.2 dX11_undo_8

set_option maxHeartbeats 4000000 in
set_option maxRecDepth 100000 in
theorem c_X11_redo (l : Launch) (g : GG) (sz : Nat) (x : Nat) (xt : Nat) (xr : Nat) (la : Nat) (lb : Nat) (sa : Nat) (ba : Nat) (se : Nat) (si : Nat) (pa : Nat) (he : Nat) : Met l yX11_redo (.code yX11_redo cX11_redo 1 (some .boolean) :: gT) ({ frames := 0, cells := 0, slots := 0, locals := 0 }) (va_Pc [.ref x] (Pst g sz [(x, .inr (11, [.ref xt, .int 0, .ref xr, .ref la, .ref lb, .ref sa, .int 0, .int 0, .ref ba, .int 0, .ref se, .ref si, .ref pa, .ref he]))] nX)) (va_Qi (fun (r : Int32) (_ : Unit) => r = 0) (Qst g [] sz (fun _ => [])) (va_A [] sz)) 0 0 (va_A [] sz) := by
  refine Met.ofW (cc := cX11_redo) (maxL := 1) (ret := (some .boolean)) (by decide) rfl ?_
  intro p e s m args below meth c s₁ B hml hv
  obtain ⟨rfl, hsz, hP, hK, hD0, hX⟩ := hv
  have hx := B.exec
  have hb := B.bytes
  have hr := B.returns
  have hT : ∀ w ∈ gT, w.before _ s = true := fun w h => atoms_spec (ws := .code yX11_redo cX11_redo 1 (some .boolean) :: gT) B.pre w (List.mem_cons_of_mem _ h)
  have hown : s.vm.findClass RX11 = some m.cls := findClass_of_methodNamed B.named
  have hlocks := B.notSynchronized
  subst hsz
  have hD := hD0
  generalize hAe : va_A [] s.heap.size = A at ⊢
  have hA : ∀ q : Nat, s.heap.size ≤ q → A q := fun q h => by rw [← hAe]; exact Or.inr h
  have hS : va_S A s.heap s.heap [] := va_S.rf
  have hl := lv_entry ([.ref x]) (n := 1) (Nat.le_of_ble_eq_true rfl)
  rw [lg_entry_eq]
  generalize (lg_sl ([.ref x]) ++ List.replicate (1 - (lg_sl ([.ref x])).length) Slot.unset).toArray = ls at hl ⊢
  have hl : lv_has ls 1 [(0, .ref x)] := hl
  refine p_nH (fun H hH => ?_)
  have hP : va_P g.1 vwCl [(x, .inr (11, [.ref xt, .int 0, .ref xr, .ref la, .ref lb, .ref sa, .int 0, .int 0, .ref ba, .int 0, .ref se, .ref si, .ref pa, .ref he]))] H := by rw [hH]; exact hP
  have hS : va_S A s.heap H [] := by rw [hH]; exact hS
  refine lv_aload_n hx hb dX11_redo_0 rfl (lv_at hl 0 rfl) ?_
  refine va_get (D := g.1) (ci := 11) (v := .int 0) (C := RX11) (T := TX11) (N := 14) hx hb hT inF_X11 hown hK.1 hP 0 rfl rfl 6 (by decide) (hT _ bw_21) (fun _ h9 => h9) rfl dX11_redo_1 ?_
  refine lv_aload_n hx hb dX11_redo_4 rfl (lv_at hl 0 rfl) ?_
  refine va_get (D := g.1) (ci := 11) (v := .int 0) (C := RX11) (T := TX11) (N := 14) hx hb hT inF_X11 hown hK.1 hP 0 rfl rfl 7 (by decide) (hT _ bw_47) (fun _ h9 => h9) rfl dX11_redo_5 ?_
  refine lv_icmp_lt (tgt := 13) hx hb dX11_redo_8 (by decide) (fun c9 => absurd c9 (by decide)) (fun _ => ?_)
  refine lv_iconst (v := 0) hx hb dX11_redo_11 (by decide) ?_
  have hP9 : va_P g.1 vwCl [] H := hP.sub [] rfl
  have hD9 : va_D A [] := ⟨fun i j p q h => by simp at h, fun k q h => by simp at h⟩
  exact W.zret (v := 0) (ty := .boolean) hx hb hr rfl (fun t ht hW => ⟨⟨0, (), rfl, rfl, by rw [ht]; exact hP9, by rw [hAe]; exact hD9⟩, hS.F ht⟩) hS.2.2 dX11_redo_12

set_option maxHeartbeats 4000000 in
set_option maxRecDepth 100000 in
theorem c_X11_late (l : Launch) (g : GG) (sz : Nat) (x : Nat) (xt : Nat) (xr : Nat) (la : Nat) (lb : Nat) (sa : Nat) (ba : Nat) (se : Nat) (si : Nat) (pa : Nat) (he : Nat) (s1 : Nat) (s0 : Nat) (t1u : Nat) (t2u : Nat) (t3u : Nat) (t4u : Nat) (t5u : Nat) (t6u : Nat) (t7u : Nat) (fs : Nat → Option Nat) (p0 : Int32) (p1 : Int32) : Met l yX11_late (.code yX11_late cX11_late 4 (some .int) :: gT) ({ frames := 1, cells := 0, slots := 0, locals := 21 }) (va_Pc [.ref x, .int p0, .int p1] (Pst g sz [(x, .inr (11, [.ref xt, .int 0, .ref xr, .ref la, .ref lb, .ref sa, .int 0, .int 0, .ref ba, .int 0, .ref se, .ref si, .ref pa, .ref he])), (sa, aO g 41 (va_up (va_up fs 0 (some s0)) 1 (some s1))), (s0, .inr (9, [.int 0, .int 0, .int 0, .int 0, .int 0, .int 0, .int 0, .ref t1u, .ref t2u, .ref t3u, .ref t4u, .ref t5u, .ref t6u, .ref t7u]))] nX)) (va_Qi (fun (r : Int32) (_ : Unit) => r = (-1)) (Qst g [] sz (fun _ => [])) (va_A [] sz)) 0 0 (va_A [] sz) := by
  refine Met.ofW (cc := cX11_late) (maxL := 4) (ret := (some .int)) (by decide) rfl ?_
  intro p e s m args below meth c s₁ B hml hv
  obtain ⟨rfl, hsz, hP, hK, hD0, hX⟩ := hv
  have hx := B.exec
  have hb := B.bytes
  have hr := B.returns
  have hT : ∀ w ∈ gT, w.before _ s = true := fun w h => atoms_spec (ws := .code yX11_late cX11_late 4 (some .int) :: gT) B.pre w (List.mem_cons_of_mem _ h)
  have hown : s.vm.findClass RX11 = some m.cls := findClass_of_methodNamed B.named
  have hlocks := B.notSynchronized
  subst hsz
  have hD := hD0
  generalize hAe : va_A [] s.heap.size = A at ⊢
  have hA : ∀ q : Nat, s.heap.size ≤ q → A q := fun q h => by rw [← hAe]; exact Or.inr h
  have hS : va_S A s.heap s.heap [] := va_S.rf
  have hl := lv_entry ([.ref x, .int p0, .int p1]) (n := 4) (Nat.le_of_ble_eq_true rfl)
  rw [lg_entry_eq]
  generalize (lg_sl ([.ref x, .int p0, .int p1]) ++ List.replicate (4 - (lg_sl ([.ref x, .int p0, .int p1])).length) Slot.unset).toArray = ls at hl ⊢
  have hl : lv_has ls 4 [(0, .ref x), (1, .int p0), (2, .int p1)] := hl
  refine p_nH (fun H hH => ?_)
  have hP : va_P g.1 vwCl [(x, .inr (11, [.ref xt, .int 0, .ref xr, .ref la, .ref lb, .ref sa, .int 0, .int 0, .ref ba, .int 0, .ref se, .ref si, .ref pa, .ref he])), (sa, aO g 41 (va_up (va_up fs 0 (some s0)) 1 (some s1))), (s0, .inr (9, [.int 0, .int 0, .int 0, .int 0, .int 0, .int 0, .int 0, .ref t1u, .ref t2u, .ref t3u, .ref t4u, .ref t5u, .ref t6u, .ref t7u]))] H := by rw [hH]; exact hP
  have hS : va_S A s.heap H [] := by rw [hH]; exact hS
  refine lv_aload_n hx hb dX11_late_0 rfl (lv_at hl 0 rfl) ?_
  refine va_get (D := g.1) (ci := 11) (v := .ref sa) (C := RX11) (T := TX11) (N := 14) hx hb hT inF_X11 hown hK.1 hP 0 rfl rfl 5 (by decide) (hT _ bw_20) (fun _ h9 => h9) rfl dX11_late_1 ?_
  refine lv_aload_n hx hb dX11_late_4 rfl (lv_at hl 0 rfl) ?_
  refine va_get (D := g.1) (ci := 11) (v := .int 0) (C := RX11) (T := TX11) (N := 14) hx hb hT inF_X11 hown hK.1 hP 0 rfl rfl 6 (by decide) (hT _ bw_21) (fun _ h9 => h9) rfl dX11_late_5 ?_
  refine va_aldq hx hb hK.1 hP 1 4 rfl rfl (i := 0) (by unfold vp_in; decide) dX11_late_8 ?_
  refine p_tr (x := s0) (rfl) ?_
  refine lv_astore_n (lv' := [(3, .ref s0), (0, .ref x), (1, .int p0), (2, .int p1)]) hx hb dX11_late_9 rfl hl (by decide) rfl (fun ls hl => ?_)
  refine lv_iload_n hx hb dX11_late_10 rfl (lv_at hl 3 rfl) ?_
  refine lv_if_lt (tgt := 36) hx hb dX11_late_11 (by decide) (fun c_1 => ?_) (fun c_1 => ?_)
  · refine lv_iconst (v := (-1)) hx hb dX11_late_36 (by decide) ?_
    have hP9 : va_P g.1 vwCl [] H := hP.sub [] rfl
    have hD9 : va_D A [] := ⟨fun i j p q h => by simp at h, fun k q h => by simp at h⟩
    exact W.iret (v := (-1)) hx hb hr (fun t ht hW => ⟨⟨(-1), (), rfl, rfl, by rw [ht]; exact hP9, by rw [hAe]; exact hD9⟩, hS.F ht⟩) hS.2.2 dX11_late_37
  · refine lv_iload_n hx hb dX11_late_14 rfl (lv_at hl 3 rfl) ?_
    refine lv_bipush (v := 16) hx hb dX11_late_15 (by decide) ?_
    refine lv_icmp_gt (tgt := 36) hx hb dX11_late_17 (by decide) (fun c_2 => ?_) (fun c_2 => ?_)
    · refine lv_iconst (v := (-1)) hx hb dX11_late_36 (by decide) ?_
      have hP9 : va_P g.1 vwCl [] H := hP.sub [] rfl
      have hD9 : va_D A [] := ⟨fun i j p q h => by simp at h, fun k q h => by simp at h⟩
      exact W.iret (v := (-1)) hx hb hr (fun t ht hW => ⟨⟨(-1), (), rfl, rfl, by rw [ht]; exact hP9, by rw [hAe]; exact hD9⟩, hS.F ht⟩) hS.2.2 dX11_late_37
    · refine lv_aload_n hx hb dX11_late_20 rfl (lv_at hl 0 rfl) ?_
      refine lv_iload_n hx hb dX11_late_21 rfl (lv_at hl 2 rfl) ?_
      refine k_iR (k_V (n := 1) ⟨hx, hb, hml, hown, hT⟩ hK hP hD [2] rfl (by decide) (c_X9_hasDuel l g H.size s0 t1u t2u t3u t4u t5u t6u t7u p0) (gV bw_22 bw_23 bw_24 bw_25 bw_5) rfl rfl (by decide +kernel) ⟨by decide, by decide⟩ (ci := 9) (q0 := 0) rfl rfl (fun _ _ _ _ _ => trivial) (fun _ _ _ => trivial) rfl rfl hl.1 (Nat.le_of_ble_eq_true rfl) dX11_late_22 ⟨by decide, by decide⟩) hP hS hA (fun r_3 _ H locs hw hP hS => ?_)
      have hw : r_3 = 0 := hw
      subst hw
      refine lv_if_eq (tgt := 36) hx hb dX11_late_25 (by decide) (fun _ => ?_) (fun c9 => absurd (by decide) c9)
      refine lv_iconst (v := (-1)) hx hb dX11_late_36 (by decide) ?_
      have hP9 : va_P g.1 vwCl [] H := hP.sub [] rfl
      have hD9 : va_D A [] := ⟨fun i j p q h => by simp at h, fun k q h => by simp at h⟩
      exact W.iret (v := (-1)) hx hb hr (fun t ht hW => ⟨⟨(-1), (), rfl, rfl, by rw [ht]; exact hP9, by rw [hAe]; exact hD9⟩, hS.F ht⟩) hS.2.2 dX11_late_37

set_option maxHeartbeats 4000000 in
set_option maxRecDepth 100000 in
theorem c_X11_last (l : Launch) (g : GG) (sz : Nat) (x : Nat) (xt : Nat) (xr : Nat) (la : Nat) (lb : Nat) (sa : Nat) (ba : Nat) (se : Nat) (si : Nat) (pa : Nat) (he : Nat) (s1 : Nat) (s0 : Nat) (t1u : Nat) (t2u : Nat) (t3u : Nat) (t4u : Nat) (t5u : Nat) (t6u : Nat) (t7u : Nat) (fs : Nat → Option Nat) (p0 : Int32) (p1 : Int32) : Met l yX11_last (.code yX11_last cX11_last 4 (some .int) :: gT) ({ frames := 1, cells := 0, slots := 0, locals := 21 }) (va_Pc [.ref x, .int p0, .int p1] (Pst g sz [(x, .inr (11, [.ref xt, .int 0, .ref xr, .ref la, .ref lb, .ref sa, .int 0, .int 0, .ref ba, .int 0, .ref se, .ref si, .ref pa, .ref he])), (sa, aO g 41 (va_up (va_up fs 0 (some s0)) 1 (some s1))), (s0, .inr (9, [.int 0, .int 0, .int 0, .int 0, .int 0, .int 0, .int 0, .ref t1u, .ref t2u, .ref t3u, .ref t4u, .ref t5u, .ref t6u, .ref t7u]))] nX)) (va_Qi (fun (r : Int32) (_ : Unit) => r = (-1)) (Qst g [] sz (fun _ => [])) (va_A [] sz)) 0 0 (va_A [] sz) := by
  refine Met.ofW (cc := cX11_last) (maxL := 4) (ret := (some .int)) (by decide) rfl ?_
  intro p e s m args below meth c s₁ B hml hv
  obtain ⟨rfl, hsz, hP, hK, hD0, hX⟩ := hv
  have hx := B.exec
  have hb := B.bytes
  have hr := B.returns
  have hT : ∀ w ∈ gT, w.before _ s = true := fun w h => atoms_spec (ws := .code yX11_last cX11_last 4 (some .int) :: gT) B.pre w (List.mem_cons_of_mem _ h)
  have hown : s.vm.findClass RX11 = some m.cls := findClass_of_methodNamed B.named
  have hlocks := B.notSynchronized
  subst hsz
  have hD := hD0
  generalize hAe : va_A [] s.heap.size = A at ⊢
  have hA : ∀ q : Nat, s.heap.size ≤ q → A q := fun q h => by rw [← hAe]; exact Or.inr h
  have hS : va_S A s.heap s.heap [] := va_S.rf
  have hl := lv_entry ([.ref x, .int p0, .int p1]) (n := 4) (Nat.le_of_ble_eq_true rfl)
  rw [lg_entry_eq]
  generalize (lg_sl ([.ref x, .int p0, .int p1]) ++ List.replicate (4 - (lg_sl ([.ref x, .int p0, .int p1])).length) Slot.unset).toArray = ls at hl ⊢
  have hl : lv_has ls 4 [(0, .ref x), (1, .int p0), (2, .int p1)] := hl
  refine p_nH (fun H hH => ?_)
  have hP : va_P g.1 vwCl [(x, .inr (11, [.ref xt, .int 0, .ref xr, .ref la, .ref lb, .ref sa, .int 0, .int 0, .ref ba, .int 0, .ref se, .ref si, .ref pa, .ref he])), (sa, aO g 41 (va_up (va_up fs 0 (some s0)) 1 (some s1))), (s0, .inr (9, [.int 0, .int 0, .int 0, .int 0, .int 0, .int 0, .int 0, .ref t1u, .ref t2u, .ref t3u, .ref t4u, .ref t5u, .ref t6u, .ref t7u]))] H := by rw [hH]; exact hP
  have hS : va_S A s.heap H [] := by rw [hH]; exact hS
  refine lv_aload_n hx hb dX11_last_0 rfl (lv_at hl 0 rfl) ?_
  refine va_get (D := g.1) (ci := 11) (v := .ref sa) (C := RX11) (T := TX11) (N := 14) hx hb hT inF_X11 hown hK.1 hP 0 rfl rfl 5 (by decide) (hT _ bw_20) (fun _ h9 => h9) rfl dX11_last_1 ?_
  refine lv_aload_n hx hb dX11_last_4 rfl (lv_at hl 0 rfl) ?_
  refine va_get (D := g.1) (ci := 11) (v := .int 0) (C := RX11) (T := TX11) (N := 14) hx hb hT inF_X11 hown hK.1 hP 0 rfl rfl 6 (by decide) (hT _ bw_21) (fun _ h9 => h9) rfl dX11_last_5 ?_
  refine va_aldq hx hb hK.1 hP 1 4 rfl rfl (i := 0) (by unfold vp_in; decide) dX11_last_8 ?_
  refine p_tr (x := s0) (rfl) ?_
  refine lv_astore_n (lv' := [(3, .ref s0), (0, .ref x), (1, .int p0), (2, .int p1)]) hx hb dX11_last_9 rfl hl (by decide) rfl (fun ls hl => ?_)
  refine lv_iload_n hx hb dX11_last_10 rfl (lv_at hl 3 rfl) ?_
  refine k_iR (k_S (n := 1) ⟨hx, hb, hml, hown, hT⟩ hK hP hD [] rfl (by decide) (c_X11_isSide l g H.size p1) (gS bw_50 bw_51 bw_52 bw_12) rfl rfl (by decide +kernel) ⟨by decide, by decide⟩ (fun _ _ _ _ _ => trivial) (fun _ _ _ => trivial) rfl rfl hl.1 (Nat.le_of_ble_eq_true rfl) dX11_last_11 ⟨by decide, by decide⟩) hP hS hA (fun r_1 _ H locs hw hP hS => ?_)
  refine lv_if_eq (tgt := 33) hx hb dX11_last_14 (by decide) (fun c_2 => ?_) (fun c_2 => ?_)
  · refine lv_iconst (v := (-1)) hx hb dX11_last_33 (by decide) ?_
    have hP9 : va_P g.1 vwCl [] H := hP.sub [] rfl
    have hD9 : va_D A [] := ⟨fun i j p q h => by simp at h, fun k q h => by simp at h⟩
    exact W.iret (v := (-1)) hx hb hr (fun t ht hW => ⟨⟨(-1), (), rfl, rfl, by rw [ht]; exact hP9, by rw [hAe]; exact hD9⟩, hS.F ht⟩) hS.2.2 dX11_last_34
  · refine lv_aload_n hx hb dX11_last_17 rfl (lv_at hl 0 rfl) ?_
    refine lv_iload_n hx hb dX11_last_18 rfl (lv_at hl 2 rfl) ?_
    refine k_iR (k_V (n := 1) ⟨hx, hb, hml, hown, hT⟩ hK hP hD [2] rfl (by decide) (c_X9_hasDuel l g H.size s0 t1u t2u t3u t4u t5u t6u t7u p0) (gV bw_22 bw_23 bw_24 bw_25 bw_5) rfl rfl (by decide +kernel) ⟨by decide, by decide⟩ (ci := 9) (q0 := 0) rfl rfl (fun _ _ _ _ _ => trivial) (fun _ _ _ => trivial) rfl rfl hl.1 (Nat.le_of_ble_eq_true rfl) dX11_last_19 ⟨by decide, by decide⟩) hP hS hA (fun r_3 _ H locs hw hP hS => ?_)
    have hw : r_3 = 0 := hw
    subst hw
    refine lv_if_eq (tgt := 33) hx hb dX11_last_22 (by decide) (fun _ => ?_) (fun c9 => absurd (by decide) c9)
    refine lv_iconst (v := (-1)) hx hb dX11_last_33 (by decide) ?_
    have hP9 : va_P g.1 vwCl [] H := hP.sub [] rfl
    have hD9 : va_D A [] := ⟨fun i j p q h => by simp at h, fun k q h => by simp at h⟩
    exact W.iret (v := (-1)) hx hb hr (fun t ht hW => ⟨⟨(-1), (), rfl, rfl, by rw [ht]; exact hP9, by rw [hAe]; exact hD9⟩, hS.F ht⟩) hS.2.2 dX11_last_34

set_option maxHeartbeats 4000000 in
set_option maxRecDepth 100000 in
theorem c_X11_shun (l : Launch) (g : GG) (sz : Nat) (x : Nat) (xt : Nat) (xr : Nat) (la : Nat) (lb : Nat) (sa : Nat) (ba : Nat) (se : Nat) (si : Nat) (pa : Nat) (he : Nat) (mea : Nat) (foa : Nat) (rea : Nat) (d1a : Nat) (d2a : Nat) (d3a : Nat) (m1a : Nat) (m2a : Nat) (m3a : Nat) (m4a : Nat) (s1 : Nat) (s0 : Nat) (fs : Nat → Option Nat) (p0 : Int32) : Met l yX11_shun (.code yX11_shun cX11_shun 6 (some .int) :: gT) ({ frames := 1, cells := 0, slots := 0, locals := 21 }) (va_Pc [.ref x, .int p0] (Pst g sz [(x, .inr (11, [.ref xt, .int 0, .ref xr, .ref la, .ref lb, .ref sa, .int 0, .int 0, .ref ba, .int 0, .ref se, .ref si, .ref pa, .ref he])), (la, .inr (2, [.ref mea, .ref foa, .ref rea, .int 0, .ref d1a, .ref d2a, .int 9, .int 0, .ref d3a])), (mea, .inr (3, [.int 0, .ref m1a, .ref m2a, .ref m3a, .ref m4a])), (sa, aO g 41 (va_up (va_up fs 0 (some s0)) 1 (some s1)))] nX)) (va_Qi (fun (r : Int32) (_ : Unit) => r = (-1)) (Qst g [] sz (fun _ => [])) (va_A [] sz)) 0 0 (va_A [] sz) := by
  refine Met.ofW (cc := cX11_shun) (maxL := 6) (ret := (some .int)) (by decide) rfl ?_
  intro p e s m args below meth c s₁ B hml hv
  obtain ⟨rfl, hsz, hP, hK, hD0, hX⟩ := hv
  have hx := B.exec
  have hb := B.bytes
  have hr := B.returns
  have hT : ∀ w ∈ gT, w.before _ s = true := fun w h => atoms_spec (ws := .code yX11_shun cX11_shun 6 (some .int) :: gT) B.pre w (List.mem_cons_of_mem _ h)
  have hown : s.vm.findClass RX11 = some m.cls := findClass_of_methodNamed B.named
  have hlocks := B.notSynchronized
  subst hsz
  have hD := hD0
  generalize hAe : va_A [] s.heap.size = A at ⊢
  have hA : ∀ q : Nat, s.heap.size ≤ q → A q := fun q h => by rw [← hAe]; exact Or.inr h
  have hS : va_S A s.heap s.heap [] := va_S.rf
  have hl := lv_entry ([.ref x, .int p0]) (n := 6) (Nat.le_of_ble_eq_true rfl)
  rw [lg_entry_eq]
  generalize (lg_sl ([.ref x, .int p0]) ++ List.replicate (6 - (lg_sl ([.ref x, .int p0])).length) Slot.unset).toArray = ls at hl ⊢
  have hl : lv_has ls 6 [(0, .ref x), (1, .int p0)] := hl
  refine p_nH (fun H hH => ?_)
  have hP : va_P g.1 vwCl [(x, .inr (11, [.ref xt, .int 0, .ref xr, .ref la, .ref lb, .ref sa, .int 0, .int 0, .ref ba, .int 0, .ref se, .ref si, .ref pa, .ref he])), (la, .inr (2, [.ref mea, .ref foa, .ref rea, .int 0, .ref d1a, .ref d2a, .int 9, .int 0, .ref d3a])), (mea, .inr (3, [.int 0, .ref m1a, .ref m2a, .ref m3a, .ref m4a])), (sa, aO g 41 (va_up (va_up fs 0 (some s0)) 1 (some s1)))] H := by rw [hH]; exact hP
  have hS : va_S A s.heap H [] := by rw [hH]; exact hS
  refine lv_aload_n hx hb dX11_shun_0 rfl (lv_at hl 0 rfl) ?_
  refine va_get (D := g.1) (ci := 11) (v := .ref sa) (C := RX11) (T := TX11) (N := 14) hx hb hT inF_X11 hown hK.1 hP 0 rfl rfl 5 (by decide) (hT _ bw_20) (fun _ h9 => h9) rfl dX11_shun_1 ?_
  refine lv_aload_n hx hb dX11_shun_4 rfl (lv_at hl 0 rfl) ?_
  refine va_get (D := g.1) (ci := 11) (v := .int 0) (C := RX11) (T := TX11) (N := 14) hx hb hT inF_X11 hown hK.1 hP 0 rfl rfl 6 (by decide) (hT _ bw_21) (fun _ h9 => h9) rfl dX11_shun_5 ?_
  refine va_aldq hx hb hK.1 hP 3 4 rfl rfl (i := 0) (by unfold vp_in; decide) dX11_shun_8 ?_
  refine p_tr (x := s0) (rfl) ?_
  refine lv_astore_n (lv' := [(2, .ref s0), (0, .ref x), (1, .int p0)]) hx hb dX11_shun_9 rfl hl (by decide) rfl (fun ls hl => ?_)
  refine lv_aload_n hx hb dX11_shun_10 rfl (lv_at hl 1 rfl) ?_
  refine va_get (D := g.1) (ci := 11) (v := .ref la) (C := RX11) (T := TX11) (N := 14) hx hb hT inF_X11 hown hK.1 hP 0 rfl rfl 3 (by decide) (hT _ bw_13) (fun _ h9 => h9) rfl dX11_shun_11 ?_
  refine va_get (D := g.1) (ci := 2) (v := .ref mea) (C := RX2) (T := TX2) (N := 9) hx hb hT inF_X2 hown hK.1 hP 1 rfl rfl 0 (by decide) (hT _ bw_14) (fun _ h9 => h9) rfl dX11_shun_14 ?_
  refine lv_iload_n hx hb dX11_shun_17 rfl (lv_at hl 2 rfl) ?_
  refine k_iR (k_V (n := 1) ⟨hx, hb, hml, hown, hT⟩ hK hP hD [2] rfl (by decide) (c_X3_has l g H.size mea m1a m2a m3a m4a p0) (gV bw_15 bw_16 bw_17 bw_18 bw_1) rfl rfl (by decide +kernel) ⟨by decide, by decide⟩ (ci := 3) (q0 := 0) rfl rfl (fun _ _ _ _ _ => trivial) (fun _ _ _ => trivial) rfl rfl hl.1 (Nat.le_of_ble_eq_true rfl) dX11_shun_18 ⟨by decide, by decide⟩) hP hS hA (fun r_1 _ H locs hw hP hS => ?_)
  have hw : r_1 = 0 := hw
  subst hw
  refine lv_if_eq (tgt := 41) hx hb dX11_shun_21 (by decide) (fun _ => ?_) (fun c9 => absurd (by decide) c9)
  refine lv_iconst (v := (-1)) hx hb dX11_shun_41 (by decide) ?_
  have hP9 : va_P g.1 vwCl [] H := hP.sub [] rfl
  have hD9 : va_D A [] := ⟨fun i j p q h => by simp at h, fun k q h => by simp at h⟩
  exact W.iret (v := (-1)) hx hb hr (fun t ht hW => ⟨⟨(-1), (), rfl, rfl, by rw [ht]; exact hP9, by rw [hAe]; exact hD9⟩, hS.F ht⟩) hS.2.2 dX11_shun_42

set_option maxHeartbeats 4000000 in
set_option maxRecDepth 100000 in
theorem c_X11_clash (l : Launch) (g : GG) (sz : Nat) (x : Nat) (xt : Nat) (xr : Nat) (la : Nat) (lb : Nat) (sa : Nat) (ba : Nat) (se : Nat) (si : Nat) (pa : Nat) (he : Nat) (mea : Nat) (foa : Nat) (rea : Nat) (d1a : Nat) (d2a : Nat) (d3a : Nat) (m1a : Nat) (m2a : Nat) (m3a : Nat) (m4a : Nat) (p0 : Int32) : Met l yX11_clash (.code yX11_clash cX11_clash 3 (some .int) :: gT) ({ frames := 1, cells := 0, slots := 0, locals := 21 }) (va_Pc [.ref x, .int p0] (Pst g sz [(x, .inr (11, [.ref xt, .int 0, .ref xr, .ref la, .ref lb, .ref sa, .int 0, .int 0, .ref ba, .int 0, .ref se, .ref si, .ref pa, .ref he])), (la, .inr (2, [.ref mea, .ref foa, .ref rea, .int 0, .ref d1a, .ref d2a, .int 9, .int 0, .ref d3a])), (mea, .inr (3, [.int 0, .ref m1a, .ref m2a, .ref m3a, .ref m4a]))] nX)) (va_Qi (fun (r : Int32) (_ : Unit) => r = (-1)) (Qst g [] sz (fun _ => [])) (va_A [] sz)) 0 0 (va_A [] sz) := by
  refine Met.ofW (cc := cX11_clash) (maxL := 3) (ret := (some .int)) (by decide) rfl ?_
  intro p e s m args below meth c s₁ B hml hv
  obtain ⟨rfl, hsz, hP, hK, hD0, hX⟩ := hv
  have hx := B.exec
  have hb := B.bytes
  have hr := B.returns
  have hT : ∀ w ∈ gT, w.before _ s = true := fun w h => atoms_spec (ws := .code yX11_clash cX11_clash 3 (some .int) :: gT) B.pre w (List.mem_cons_of_mem _ h)
  have hown : s.vm.findClass RX11 = some m.cls := findClass_of_methodNamed B.named
  have hlocks := B.notSynchronized
  subst hsz
  have hD := hD0
  generalize hAe : va_A [] s.heap.size = A at ⊢
  have hA : ∀ q : Nat, s.heap.size ≤ q → A q := fun q h => by rw [← hAe]; exact Or.inr h
  have hS : va_S A s.heap s.heap [] := va_S.rf
  have hl := lv_entry ([.ref x, .int p0]) (n := 3) (Nat.le_of_ble_eq_true rfl)
  rw [lg_entry_eq]
  generalize (lg_sl ([.ref x, .int p0]) ++ List.replicate (3 - (lg_sl ([.ref x, .int p0])).length) Slot.unset).toArray = ls at hl ⊢
  have hl : lv_has ls 3 [(0, .ref x), (1, .int p0)] := hl
  refine p_nH (fun H hH => ?_)
  have hP : va_P g.1 vwCl [(x, .inr (11, [.ref xt, .int 0, .ref xr, .ref la, .ref lb, .ref sa, .int 0, .int 0, .ref ba, .int 0, .ref se, .ref si, .ref pa, .ref he])), (la, .inr (2, [.ref mea, .ref foa, .ref rea, .int 0, .ref d1a, .ref d2a, .int 9, .int 0, .ref d3a])), (mea, .inr (3, [.int 0, .ref m1a, .ref m2a, .ref m3a, .ref m4a]))] H := by rw [hH]; exact hP
  have hS : va_S A s.heap H [] := by rw [hH]; exact hS
  refine lv_aload_n hx hb dX11_clash_0 rfl (lv_at hl 0 rfl) ?_
  refine va_get (D := g.1) (ci := 11) (v := .ref la) (C := RX11) (T := TX11) (N := 14) hx hb hT inF_X11 hown hK.1 hP 0 rfl rfl 3 (by decide) (hT _ bw_13) (fun _ h9 => h9) rfl dX11_clash_1 ?_
  refine va_get (D := g.1) (ci := 2) (v := .ref mea) (C := RX2) (T := TX2) (N := 9) hx hb hT inF_X2 hown hK.1 hP 1 rfl rfl 0 (by decide) (hT _ bw_14) (fun _ h9 => h9) rfl dX11_clash_4 ?_
  refine lv_iload_n hx hb dX11_clash_7 rfl (lv_at hl 1 rfl) ?_
  refine k_iR (k_V (n := 1) ⟨hx, hb, hml, hown, hT⟩ hK hP hD [2] rfl (by decide) (c_X3_has l g H.size mea m1a m2a m3a m4a p0) (gV bw_15 bw_16 bw_17 bw_18 bw_1) rfl rfl (by decide +kernel) ⟨by decide, by decide⟩ (ci := 3) (q0 := 0) rfl rfl (fun _ _ _ _ _ => trivial) (fun _ _ _ => trivial) rfl rfl hl.1 (Nat.le_of_ble_eq_true rfl) dX11_clash_8 ⟨by decide, by decide⟩) hP hS hA (fun r_1 _ H locs hw hP hS => ?_)
  have hw : r_1 = 0 := hw
  subst hw
  refine lv_if_ne (tgt := 16) hx hb dX11_clash_11 (by decide) (fun c9 => absurd (by decide) c9) (fun _ => ?_)
  refine lv_iconst (v := (-1)) hx hb dX11_clash_14 (by decide) ?_
  have hP9 : va_P g.1 vwCl [] H := hP.sub [] rfl
  have hD9 : va_D A [] := ⟨fun i j p q h => by simp at h, fun k q h => by simp at h⟩
  exact W.iret (v := (-1)) hx hb hr (fun t ht hW => ⟨⟨(-1), (), rfl, rfl, by rw [ht]; exact hP9, by rw [hAe]; exact hD9⟩, hS.F ht⟩) hS.2.2 dX11_clash_15

set_option maxHeartbeats 4000000 in
set_option maxRecDepth 100000 in
theorem c_X11_lies (l : Launch) (g : GG) (sz : Nat) (x : Nat) (xt : Nat) (xr : Nat) (la : Nat) (lb : Nat) (sa : Nat) (ba : Nat) (se : Nat) (si : Nat) (pa : Nat) (he : Nat) (k3 : Nat) (p0 : Int32) : Met l yX11_lies (.code yX11_lies cX11_lies 2 (some .int) :: gT) ({ frames := 0, cells := 0, slots := 0, locals := 0 }) (va_Pc [.ref x, .int p0] (Pst g sz [(x, .inr (11, [.ref xt, .int 0, .ref xr, .ref la, .ref lb, .ref sa, .int 0, .int 0, .ref ba, .int 0, .ref se, .ref si, .ref pa, .ref he])), (he, .inr (1, [.int 0, .ref k3]))] nX)) (va_Qi (fun (r : Int32) (_ : Unit) => r = (-1)) (Qst g [] sz (fun _ => [])) (va_A [] sz)) 0 0 (va_A [] sz) := by
  refine Met.ofW (cc := cX11_lies) (maxL := 2) (ret := (some .int)) (by decide) rfl ?_
  intro p e s m args below meth c s₁ B hml hv
  obtain ⟨rfl, hsz, hP, hK, hD0, hX⟩ := hv
  have hx := B.exec
  have hb := B.bytes
  have hr := B.returns
  have hT : ∀ w ∈ gT, w.before _ s = true := fun w h => atoms_spec (ws := .code yX11_lies cX11_lies 2 (some .int) :: gT) B.pre w (List.mem_cons_of_mem _ h)
  have hown : s.vm.findClass RX11 = some m.cls := findClass_of_methodNamed B.named
  have hlocks := B.notSynchronized
  subst hsz
  have hD := hD0
  generalize hAe : va_A [] s.heap.size = A at ⊢
  have hA : ∀ q : Nat, s.heap.size ≤ q → A q := fun q h => by rw [← hAe]; exact Or.inr h
  have hS : va_S A s.heap s.heap [] := va_S.rf
  have hl := lv_entry ([.ref x, .int p0]) (n := 2) (Nat.le_of_ble_eq_true rfl)
  rw [lg_entry_eq]
  generalize (lg_sl ([.ref x, .int p0]) ++ List.replicate (2 - (lg_sl ([.ref x, .int p0])).length) Slot.unset).toArray = ls at hl ⊢
  have hl : lv_has ls 2 [(0, .ref x), (1, .int p0)] := hl
  refine p_nH (fun H hH => ?_)
  have hP : va_P g.1 vwCl [(x, .inr (11, [.ref xt, .int 0, .ref xr, .ref la, .ref lb, .ref sa, .int 0, .int 0, .ref ba, .int 0, .ref se, .ref si, .ref pa, .ref he])), (he, .inr (1, [.int 0, .ref k3]))] H := by rw [hH]; exact hP
  have hS : va_S A s.heap H [] := by rw [hH]; exact hS
  refine lv_iload_n hx hb dX11_lies_0 rfl (lv_at hl 1 rfl) ?_
  refine lv_if_lt (tgt := 27) hx hb dX11_lies_1 (by decide) (fun c_1 => ?_) (fun c_1 => ?_)
  · refine lv_iconst (v := (-1)) hx hb dX11_lies_27 (by decide) ?_
    have hP9 : va_P g.1 vwCl [] H := hP.sub [] rfl
    have hD9 : va_D A [] := ⟨fun i j p q h => by simp at h, fun k q h => by simp at h⟩
    exact W.iret (v := (-1)) hx hb hr (fun t ht hW => ⟨⟨(-1), (), rfl, rfl, by rw [ht]; exact hP9, by rw [hAe]; exact hD9⟩, hS.F ht⟩) hS.2.2 dX11_lies_28
  · refine lv_iload_n hx hb dX11_lies_4 rfl (lv_at hl 1 rfl) ?_
    refine lv_aload_n hx hb dX11_lies_5 rfl (lv_at hl 0 rfl) ?_
    refine va_get (D := g.1) (ci := 11) (v := .ref he) (C := RX11) (T := TX11) (N := 14) hx hb hT inF_X11 hown hK.1 hP 0 rfl rfl 13 (by decide) (hT _ bw_56) (fun _ h9 => h9) rfl dX11_lies_6 ?_
    refine va_get (D := g.1) (ci := 1) (v := .int 0) (C := RX1) (T := TX1) (N := 2) hx hb hT inF_X1 hown hK.1 hP 1 rfl rfl 0 (by decide) (hT _ bw_57) (fun _ h9 => h9) rfl dX11_lies_9 ?_
    refine lv_icmp_ge (tgt := 27) hx hb dX11_lies_12 (by decide) (fun _ => ?_) (fun c9 => absurd (by have e0 : (0 : Int32).toInt = 0 := (by decide); simp only [Int32.lt_iff_toInt_lt, Int32.le_iff_toInt_le, ← Int32.toInt_inj, e0] at c_1 ⊢; omega) c9)
    refine lv_iconst (v := (-1)) hx hb dX11_lies_27 (by decide) ?_
    have hP9 : va_P g.1 vwCl [] H := hP.sub [] rfl
    have hD9 : va_D A [] := ⟨fun i j p q h => by simp at h, fun k q h => by simp at h⟩
    exact W.iret (v := (-1)) hx hb hr (fun t ht hW => ⟨⟨(-1), (), rfl, rfl, by rw [ht]; exact hP9, by rw [hAe]; exact hD9⟩, hS.F ht⟩) hS.2.2 dX11_lies_28

set_option maxHeartbeats 4000000 in
set_option maxRecDepth 100000 in
theorem c_X11_log (l : Launch) (g : GG) (sz : Nat) (x : Nat) (xt : Nat) (xr : Nat) (la : Nat) (lb : Nat) (sa : Nat) (ba : Nat) (se : Nat) (si : Nat) (pa : Nat) (he : Nat) (s1 : Nat) (s0 : Nat) (t1u : Nat) (t2u : Nat) (t3u : Nat) (t4u : Nat) (t5u : Nat) (t6u : Nat) (t7u : Nat) (fs : Nat → Option Nat) (p0 : Int32) (p1 : Int32) : Met l yX11_log (.code yX11_log cX11_log 4 (some .int) :: gT) ({ frames := 0, cells := 0, slots := 0, locals := 0 }) (va_Pc [.ref x, .int p0, .int p1] (Pst g sz [(x, .inr (11, [.ref xt, .int 0, .ref xr, .ref la, .ref lb, .ref sa, .int 0, .int 0, .ref ba, .int 0, .ref se, .ref si, .ref pa, .ref he])), (sa, aO g 41 (va_up (va_up fs 0 (some s0)) 1 (some s1))), (s0, .inr (9, [.int 0, .int 0, .int 0, .int 0, .int 0, .int 0, .int 0, .ref t1u, .ref t2u, .ref t3u, .ref t4u, .ref t5u, .ref t6u, .ref t7u]))] nX)) (va_Qi (fun (r : Int32) (_ : Unit) => r = (-1)) (Qst g [] sz (fun _ => [])) (va_A [] sz)) 0 0 (va_A [] sz) := by
  refine Met.ofW (cc := cX11_log) (maxL := 4) (ret := (some .int)) (by decide) rfl ?_
  intro p e s m args below meth c s₁ B hml hv
  obtain ⟨rfl, hsz, hP, hK, hD0, hX⟩ := hv
  have hx := B.exec
  have hb := B.bytes
  have hr := B.returns
  have hT : ∀ w ∈ gT, w.before _ s = true := fun w h => atoms_spec (ws := .code yX11_log cX11_log 4 (some .int) :: gT) B.pre w (List.mem_cons_of_mem _ h)
  have hown : s.vm.findClass RX11 = some m.cls := findClass_of_methodNamed B.named
  have hlocks := B.notSynchronized
  subst hsz
  have hD := hD0
  generalize hAe : va_A [] s.heap.size = A at ⊢
  have hA : ∀ q : Nat, s.heap.size ≤ q → A q := fun q h => by rw [← hAe]; exact Or.inr h
  have hS : va_S A s.heap s.heap [] := va_S.rf
  have hl := lv_entry ([.ref x, .int p0, .int p1]) (n := 4) (Nat.le_of_ble_eq_true rfl)
  rw [lg_entry_eq]
  generalize (lg_sl ([.ref x, .int p0, .int p1]) ++ List.replicate (4 - (lg_sl ([.ref x, .int p0, .int p1])).length) Slot.unset).toArray = ls at hl ⊢
  have hl : lv_has ls 4 [(0, .ref x), (1, .int p0), (2, .int p1)] := hl
  refine p_nH (fun H hH => ?_)
  have hP : va_P g.1 vwCl [(x, .inr (11, [.ref xt, .int 0, .ref xr, .ref la, .ref lb, .ref sa, .int 0, .int 0, .ref ba, .int 0, .ref se, .ref si, .ref pa, .ref he])), (sa, aO g 41 (va_up (va_up fs 0 (some s0)) 1 (some s1))), (s0, .inr (9, [.int 0, .int 0, .int 0, .int 0, .int 0, .int 0, .int 0, .ref t1u, .ref t2u, .ref t3u, .ref t4u, .ref t5u, .ref t6u, .ref t7u]))] H := by rw [hH]; exact hP
  have hS : va_S A s.heap H [] := by rw [hH]; exact hS
  refine lv_aload_n hx hb dX11_log_0 rfl (lv_at hl 0 rfl) ?_
  refine va_get (D := g.1) (ci := 11) (v := .ref sa) (C := RX11) (T := TX11) (N := 14) hx hb hT inF_X11 hown hK.1 hP 0 rfl rfl 5 (by decide) (hT _ bw_20) (fun _ h9 => h9) rfl dX11_log_1 ?_
  refine lv_aload_n hx hb dX11_log_4 rfl (lv_at hl 0 rfl) ?_
  refine va_get (D := g.1) (ci := 11) (v := .int 0) (C := RX11) (T := TX11) (N := 14) hx hb hT inF_X11 hown hK.1 hP 0 rfl rfl 6 (by decide) (hT _ bw_21) (fun _ h9 => h9) rfl dX11_log_5 ?_
  refine va_aldq hx hb hK.1 hP 1 4 rfl rfl (i := 0) (by unfold vp_in; decide) dX11_log_8 ?_
  refine p_tr (x := s0) (rfl) ?_
  refine lv_astore_n (lv' := [(3, .ref s0), (0, .ref x), (1, .int p0), (2, .int p1)]) hx hb dX11_log_9 rfl hl (by decide) rfl (fun ls hl => ?_)
  refine lv_iload_n hx hb dX11_log_10 rfl (lv_at hl 2 rfl) ?_
  refine lv_if_lt (tgt := 31) hx hb dX11_log_11 (by decide) (fun c_1 => ?_) (fun c_1 => ?_)
  · refine lv_iconst (v := (-1)) hx hb dX11_log_31 (by decide) ?_
    have hP9 : va_P g.1 vwCl [] H := hP.sub [] rfl
    have hD9 : va_D A [] := ⟨fun i j p q h => by simp at h, fun k q h => by simp at h⟩
    exact W.iret (v := (-1)) hx hb hr (fun t ht hW => ⟨⟨(-1), (), rfl, rfl, by rw [ht]; exact hP9, by rw [hAe]; exact hD9⟩, hS.F ht⟩) hS.2.2 dX11_log_32
  · refine lv_iload_n hx hb dX11_log_14 rfl (lv_at hl 2 rfl) ?_
    refine lv_aload_n hx hb dX11_log_15 rfl (lv_at hl 0 rfl) ?_
    refine va_get (D := g.1) (ci := 9) (v := .int 0) (C := RX9) (T := TX9) (N := 14) hx hb hT inF_X9 hown hK.1 hP 2 rfl rfl 6 (by decide) (hT _ bw_59) (fun _ h9 => h9) rfl dX11_log_16 ?_
    refine lv_icmp_ge (tgt := 31) hx hb dX11_log_19 (by decide) (fun _ => ?_) (fun c9 => absurd (by have e0 : (0 : Int32).toInt = 0 := (by decide); simp only [Int32.lt_iff_toInt_lt, Int32.le_iff_toInt_le, ← Int32.toInt_inj, e0] at c_1 ⊢; omega) c9)
    refine lv_iconst (v := (-1)) hx hb dX11_log_31 (by decide) ?_
    have hP9 : va_P g.1 vwCl [] H := hP.sub [] rfl
    have hD9 : va_D A [] := ⟨fun i j p q h => by simp at h, fun k q h => by simp at h⟩
    exact W.iret (v := (-1)) hx hb hr (fun t ht hW => ⟨⟨(-1), (), rfl, rfl, by rw [ht]; exact hP9, by rw [hAe]; exact hD9⟩, hS.F ht⟩) hS.2.2 dX11_log_32

set_option maxHeartbeats 4000000 in
set_option maxRecDepth 100000 in
theorem c_X11_began (l : Launch) (g : GG) (sz : Nat) (x : Nat) (xt : Nat) (xr : Nat) (la : Nat) (lb : Nat) (sa : Nat) (ba : Nat) (se : Nat) (si : Nat) (pa : Nat) (he : Nat) (s1 : Nat) (s0 : Nat) (t1u : Nat) (t2u : Nat) (t3u : Nat) (t4u : Nat) (t5u : Nat) (t6u : Nat) (t7u : Nat) (fs : Nat → Option Nat) (p0 : Int32) : Met l yX11_began (.code yX11_began cX11_began 4 (some .int) :: gT) ({ frames := 1, cells := 0, slots := 0, locals := 21 }) (va_Pc [.ref x, .int p0] (Pst g sz [(x, .inr (11, [.ref xt, .int 0, .ref xr, .ref la, .ref lb, .ref sa, .int 0, .int 0, .ref ba, .int 0, .ref se, .ref si, .ref pa, .ref he])), (sa, aO g 41 (va_up (va_up fs 0 (some s0)) 1 (some s1))), (s0, .inr (9, [.int 0, .int 0, .int 0, .int 0, .int 0, .int 0, .int 0, .ref t1u, .ref t2u, .ref t3u, .ref t4u, .ref t5u, .ref t6u, .ref t7u]))] nX)) (va_Qi (fun (r : Int32) (_ : Unit) => r = (-2)) (Qst g [] sz (fun _ => [])) (va_A [] sz)) 0 0 (va_A [] sz) := by
  refine Met.ofW (cc := cX11_began) (maxL := 4) (ret := (some .int)) (by decide) rfl ?_
  intro p e s m args below meth c s₁ B hml hv
  obtain ⟨rfl, hsz, hP, hK, hD0, hX⟩ := hv
  have hx := B.exec
  have hb := B.bytes
  have hr := B.returns
  have hT : ∀ w ∈ gT, w.before _ s = true := fun w h => atoms_spec (ws := .code yX11_began cX11_began 4 (some .int) :: gT) B.pre w (List.mem_cons_of_mem _ h)
  have hown : s.vm.findClass RX11 = some m.cls := findClass_of_methodNamed B.named
  have hlocks := B.notSynchronized
  subst hsz
  have hD := hD0
  generalize hAe : va_A [] s.heap.size = A at ⊢
  have hA : ∀ q : Nat, s.heap.size ≤ q → A q := fun q h => by rw [← hAe]; exact Or.inr h
  have hS : va_S A s.heap s.heap [] := va_S.rf
  have hl := lv_entry ([.ref x, .int p0]) (n := 4) (Nat.le_of_ble_eq_true rfl)
  rw [lg_entry_eq]
  generalize (lg_sl ([.ref x, .int p0]) ++ List.replicate (4 - (lg_sl ([.ref x, .int p0])).length) Slot.unset).toArray = ls at hl ⊢
  have hl : lv_has ls 4 [(0, .ref x), (1, .int p0)] := hl
  refine p_nH (fun H hH => ?_)
  have hP : va_P g.1 vwCl [(x, .inr (11, [.ref xt, .int 0, .ref xr, .ref la, .ref lb, .ref sa, .int 0, .int 0, .ref ba, .int 0, .ref se, .ref si, .ref pa, .ref he])), (sa, aO g 41 (va_up (va_up fs 0 (some s0)) 1 (some s1))), (s0, .inr (9, [.int 0, .int 0, .int 0, .int 0, .int 0, .int 0, .int 0, .ref t1u, .ref t2u, .ref t3u, .ref t4u, .ref t5u, .ref t6u, .ref t7u]))] H := by rw [hH]; exact hP
  have hS : va_S A s.heap H [] := by rw [hH]; exact hS
  refine lv_aload_n hx hb dX11_began_0 rfl (lv_at hl 0 rfl) ?_
  refine va_get (D := g.1) (ci := 11) (v := .ref sa) (C := RX11) (T := TX11) (N := 14) hx hb hT inF_X11 hown hK.1 hP 0 rfl rfl 5 (by decide) (hT _ bw_20) (fun _ h9 => h9) rfl dX11_began_1 ?_
  refine lv_aload_n hx hb dX11_began_4 rfl (lv_at hl 0 rfl) ?_
  refine va_get (D := g.1) (ci := 11) (v := .int 0) (C := RX11) (T := TX11) (N := 14) hx hb hT inF_X11 hown hK.1 hP 0 rfl rfl 6 (by decide) (hT _ bw_21) (fun _ h9 => h9) rfl dX11_began_5 ?_
  refine va_aldq hx hb hK.1 hP 1 4 rfl rfl (i := 0) (by unfold vp_in; decide) dX11_began_8 ?_
  refine p_tr (x := s0) (rfl) ?_
  refine lv_astore_n (lv' := [(2, .ref s0), (0, .ref x), (1, .int p0)]) hx hb dX11_began_9 rfl hl (by decide) rfl (fun ls hl => ?_)
  refine lv_aload_n hx hb dX11_began_10 rfl (lv_at hl 0 rfl) ?_
  refine lv_iload_n hx hb dX11_began_11 rfl (lv_at hl 2 rfl) ?_
  refine k_iR (k_V (n := 1) ⟨hx, hb, hml, hown, hT⟩ hK hP hD [2] rfl (by decide) (c_X9_hasDuel l g H.size s0 t1u t2u t3u t4u t5u t6u t7u p0) (gV bw_22 bw_23 bw_24 bw_25 bw_5) rfl rfl (by decide +kernel) ⟨by decide, by decide⟩ (ci := 9) (q0 := 0) rfl rfl (fun _ _ _ _ _ => trivial) (fun _ _ _ => trivial) rfl rfl hl.1 (Nat.le_of_ble_eq_true rfl) dX11_began_12 ⟨by decide, by decide⟩) hP hS hA (fun r_1 _ H locs hw hP hS => ?_)
  have hw : r_1 = 0 := hw
  subst hw
  refine lv_if_ne (tgt := 21) hx hb dX11_began_15 (by decide) (fun c9 => absurd (by decide) c9) (fun _ => ?_)
  refine lv_bipush (v := (-2)) hx hb dX11_began_18 (by decide) ?_
  have hP9 : va_P g.1 vwCl [] H := hP.sub [] rfl
  have hD9 : va_D A [] := ⟨fun i j p q h => by simp at h, fun k q h => by simp at h⟩
  exact W.iret (v := (-2)) hx hb hr (fun t ht hW => ⟨⟨(-2), (), rfl, rfl, by rw [ht]; exact hP9, by rw [hAe]; exact hD9⟩, hS.F ht⟩) hS.2.2 dX11_began_20

set_option maxHeartbeats 4000000 in
set_option maxRecDepth 100000 in
theorem c_X11_sight (l : Launch) (g : GG) (sz : Nat) (x : Nat) (xt : Nat) (xr : Nat) (la : Nat) (lb : Nat) (sa : Nat) (ba : Nat) (se : Nat) (si : Nat) (pa : Nat) (he : Nat) (mea : Nat) (foa : Nat) (rea : Nat) (d1a : Nat) (d2a : Nat) (d3a : Nat) (r1a : Nat) (r2a : Nat) (r3a : Nat) (r4a : Nat) (r5a : Nat) (r6a : Nat) (r7a : Nat) (p0 : Int32) (p1 : Int32) : Met l yX11_sight (.code yX11_sight cX11_sight 3 (some .int) :: gT) ({ frames := 1, cells := 0, slots := 0, locals := 21 }) (va_Pc [.ref x, .int p0, .int p1] (Pst g sz [(x, .inr (11, [.ref xt, .int 0, .ref xr, .ref la, .ref lb, .ref sa, .int 0, .int 0, .ref ba, .int 0, .ref se, .ref si, .ref pa, .ref he])), (la, .inr (2, [.ref mea, .ref foa, .ref rea, .int 0, .ref d1a, .ref d2a, .int 9, .int 0, .ref d3a])), (rea, .inr (6, [.int 0, .ref r1a, .ref r2a, .ref r3a, .ref r4a, .ref r5a, .ref r6a, .ref r7a]))] nX)) (va_Qi (fun (r : Int32) (_ : Unit) => r = (-1)) (Qst g [] sz (fun _ => [])) (va_A [] sz)) 0 0 (va_A [] sz) := by
  refine Met.ofW (cc := cX11_sight) (maxL := 3) (ret := (some .int)) (by decide) rfl ?_
  intro p e s m args below meth c s₁ B hml hv
  obtain ⟨rfl, hsz, hP, hK, hD0, hX⟩ := hv
  have hx := B.exec
  have hb := B.bytes
  have hr := B.returns
  have hT : ∀ w ∈ gT, w.before _ s = true := fun w h => atoms_spec (ws := .code yX11_sight cX11_sight 3 (some .int) :: gT) B.pre w (List.mem_cons_of_mem _ h)
  have hown : s.vm.findClass RX11 = some m.cls := findClass_of_methodNamed B.named
  have hlocks := B.notSynchronized
  subst hsz
  have hD := hD0
  generalize hAe : va_A [] s.heap.size = A at ⊢
  have hA : ∀ q : Nat, s.heap.size ≤ q → A q := fun q h => by rw [← hAe]; exact Or.inr h
  have hS : va_S A s.heap s.heap [] := va_S.rf
  have hl := lv_entry ([.ref x, .int p0, .int p1]) (n := 3) (Nat.le_of_ble_eq_true rfl)
  rw [lg_entry_eq]
  generalize (lg_sl ([.ref x, .int p0, .int p1]) ++ List.replicate (3 - (lg_sl ([.ref x, .int p0, .int p1])).length) Slot.unset).toArray = ls at hl ⊢
  have hl : lv_has ls 3 [(0, .ref x), (1, .int p0), (2, .int p1)] := hl
  refine p_nH (fun H hH => ?_)
  have hP : va_P g.1 vwCl [(x, .inr (11, [.ref xt, .int 0, .ref xr, .ref la, .ref lb, .ref sa, .int 0, .int 0, .ref ba, .int 0, .ref se, .ref si, .ref pa, .ref he])), (la, .inr (2, [.ref mea, .ref foa, .ref rea, .int 0, .ref d1a, .ref d2a, .int 9, .int 0, .ref d3a])), (rea, .inr (6, [.int 0, .ref r1a, .ref r2a, .ref r3a, .ref r4a, .ref r5a, .ref r6a, .ref r7a]))] H := by rw [hH]; exact hP
  have hS : va_S A s.heap H [] := by rw [hH]; exact hS
  refine lv_aload_n hx hb dX11_sight_0 rfl (lv_at hl 0 rfl) ?_
  refine va_get (D := g.1) (ci := 11) (v := .ref la) (C := RX11) (T := TX11) (N := 14) hx hb hT inF_X11 hown hK.1 hP 0 rfl rfl 3 (by decide) (hT _ bw_13) (fun _ h9 => h9) rfl dX11_sight_1 ?_
  refine va_get (D := g.1) (ci := 2) (v := .ref rea) (C := RX2) (T := TX2) (N := 9) hx hb hT inF_X2 hown hK.1 hP 1 rfl rfl 2 (by decide) (hT _ bw_27) (fun _ h9 => h9) rfl dX11_sight_4 ?_
  refine lv_iload_n hx hb dX11_sight_7 rfl (lv_at hl 1 rfl) ?_
  refine k_iR (k_V (n := 1) ⟨hx, hb, hml, hown, hT⟩ hK hP hD [2] rfl (by decide) (c_X6_has l g H.size rea r1a r2a r3a r4a r5a r6a r7a p0) (gV bw_28 bw_29 bw_30 bw_31 bw_3) rfl rfl (by decide +kernel) ⟨by decide, by decide⟩ (ci := 6) (q0 := 0) rfl rfl (fun _ _ _ _ _ => trivial) (fun _ _ _ => trivial) rfl rfl hl.1 (Nat.le_of_ble_eq_true rfl) dX11_sight_8 ⟨by decide, by decide⟩) hP hS hA (fun r_1 _ H locs hw hP hS => ?_)
  have hw : r_1 = 0 := hw
  subst hw
  refine lv_if_eq (tgt := 25) hx hb dX11_sight_11 (by decide) (fun _ => ?_) (fun c9 => absurd (by decide) c9)
  refine lv_iconst (v := (-1)) hx hb dX11_sight_25 (by decide) ?_
  have hP9 : va_P g.1 vwCl [] H := hP.sub [] rfl
  have hD9 : va_D A [] := ⟨fun i j p q h => by simp at h, fun k q h => by simp at h⟩
  exact W.iret (v := (-1)) hx hb hr (fun t ht hW => ⟨⟨(-1), (), rfl, rfl, by rw [ht]; exact hP9, by rw [hAe]; exact hD9⟩, hS.F ht⟩) hS.2.2 dX11_sight_26

set_option maxHeartbeats 4000000 in
set_option maxRecDepth 100000 in
theorem c_X11_untell (l : Launch) (g : GG) (sz : Nat) (x : Nat) (xt : Nat) (xr : Nat) (la : Nat) (lb : Nat) (sa : Nat) (ba : Nat) (se : Nat) (si : Nat) (pa : Nat) (he : Nat) (i1 : Nat) (i2 : Nat) (i3 : Nat) (i4 : Nat) (p0 : Int32) : Met l yX11_untell (.code yX11_untell cX11_untell 2 (some .boolean) :: gT) ({ frames := 1, cells := 0, slots := 0, locals := 21 }) (va_Pc [.ref x, .int p0] (Pst g sz [(x, .inr (11, [.ref xt, .int 0, .ref xr, .ref la, .ref lb, .ref sa, .int 0, .int 0, .ref ba, .int 0, .ref se, .ref si, .ref pa, .ref he])), (si, .inr (8, [.int 0, .int 0, .ref i1, .ref i2, .ref i3, .ref i4]))] nX)) (va_Qi (fun (r : Int32) (_ : Unit) => r = 0) (Qst g [] sz (fun _ => [])) (va_A [] sz)) 0 0 (va_A [] sz) := by
  refine Met.ofW (cc := cX11_untell) (maxL := 2) (ret := (some .boolean)) (by decide) rfl ?_
  intro p e s m args below meth c s₁ B hml hv
  obtain ⟨rfl, hsz, hP, hK, hD0, hX⟩ := hv
  have hx := B.exec
  have hb := B.bytes
  have hr := B.returns
  have hT : ∀ w ∈ gT, w.before _ s = true := fun w h => atoms_spec (ws := .code yX11_untell cX11_untell 2 (some .boolean) :: gT) B.pre w (List.mem_cons_of_mem _ h)
  have hown : s.vm.findClass RX11 = some m.cls := findClass_of_methodNamed B.named
  have hlocks := B.notSynchronized
  subst hsz
  have hD := hD0
  generalize hAe : va_A [] s.heap.size = A at ⊢
  have hA : ∀ q : Nat, s.heap.size ≤ q → A q := fun q h => by rw [← hAe]; exact Or.inr h
  have hS : va_S A s.heap s.heap [] := va_S.rf
  have hl := lv_entry ([.ref x, .int p0]) (n := 2) (Nat.le_of_ble_eq_true rfl)
  rw [lg_entry_eq]
  generalize (lg_sl ([.ref x, .int p0]) ++ List.replicate (2 - (lg_sl ([.ref x, .int p0])).length) Slot.unset).toArray = ls at hl ⊢
  have hl : lv_has ls 2 [(0, .ref x), (1, .int p0)] := hl
  refine p_nH (fun H hH => ?_)
  have hP : va_P g.1 vwCl [(x, .inr (11, [.ref xt, .int 0, .ref xr, .ref la, .ref lb, .ref sa, .int 0, .int 0, .ref ba, .int 0, .ref se, .ref si, .ref pa, .ref he])), (si, .inr (8, [.int 0, .int 0, .ref i1, .ref i2, .ref i3, .ref i4]))] H := by rw [hH]; exact hP
  have hS : va_S A s.heap H [] := by rw [hH]; exact hS
  refine lv_aload_n hx hb dX11_untell_0 rfl (lv_at hl 0 rfl) ?_
  refine va_get (D := g.1) (ci := 11) (v := .ref si) (C := RX11) (T := TX11) (N := 14) hx hb hT inF_X11 hown hK.1 hP 0 rfl rfl 11 (by decide) (hT _ bw_63) (fun _ h9 => h9) rfl dX11_untell_1 ?_
  refine lv_iload_n hx hb dX11_untell_4 rfl (lv_at hl 1 rfl) ?_
  refine k_iR (k_V (n := 1) ⟨hx, hb, hml, hown, hT⟩ hK hP hD [1] rfl (by decide) (c_X8_takeBack l g H.size si i1 i2 i3 i4 p0) (gV bw_64 bw_65 bw_66 bw_67 bw_8) rfl rfl (by decide +kernel) ⟨by decide, by decide⟩ (ci := 8) (q0 := 0) rfl rfl (fun _ _ _ _ _ => trivial) (fun _ _ _ => trivial) rfl rfl hl.1 (Nat.le_of_ble_eq_true rfl) dX11_untell_5 ⟨by decide, by decide⟩) hP hS hA (fun r_1 _ H locs hw hP hS => ?_)
  have hw : r_1 = 0 := hw
  subst hw
  have hP9 : va_P g.1 vwCl [] H := hP.sub [] rfl
  have hD9 : va_D A [] := ⟨fun i j p q h => by simp at h, fun k q h => by simp at h⟩
  exact W.zret (v := 0) (ty := .boolean) hx hb hr rfl (fun t ht hW => ⟨⟨0, (), rfl, rfl, by rw [ht]; exact hP9, by rw [hAe]; exact hD9⟩, hS.F ht⟩) hS.2.2 dX11_untell_8

set_option maxHeartbeats 4000000 in
set_option maxRecDepth 100000 in
theorem c_X11_back (l : Launch) (g : GG) (sz : Nat) (x : Nat) (xt : Nat) (xr : Nat) (la : Nat) (lb : Nat) (sa : Nat) (ba : Nat) (se : Nat) (si : Nat) (pa : Nat) (he : Nat) (p0 : Int32) : Met l yX11_back (.code yX11_back cX11_back 2 (some .int) :: gT) ({ frames := 0, cells := 0, slots := 0, locals := 0 }) (va_Pc [.ref x, .int p0] (Pst g sz [(x, .inr (11, [.ref xt, .int 0, .ref xr, .ref la, .ref lb, .ref sa, .int 0, .int 0, .ref ba, .int 0, .ref se, .ref si, .ref pa, .ref he]))] nX)) (va_Qi (fun (r : Int32) (_ : Unit) => r = (-1)) (Qst g [] sz (fun _ => [])) (va_A [] sz)) 0 0 (va_A [] sz) := by
  refine Met.ofW (cc := cX11_back) (maxL := 2) (ret := (some .int)) (by decide) rfl ?_
  intro p e s m args below meth c s₁ B hml hv
  obtain ⟨rfl, hsz, hP, hK, hD0, hX⟩ := hv
  have hx := B.exec
  have hb := B.bytes
  have hr := B.returns
  have hT : ∀ w ∈ gT, w.before _ s = true := fun w h => atoms_spec (ws := .code yX11_back cX11_back 2 (some .int) :: gT) B.pre w (List.mem_cons_of_mem _ h)
  have hown : s.vm.findClass RX11 = some m.cls := findClass_of_methodNamed B.named
  have hlocks := B.notSynchronized
  subst hsz
  have hD := hD0
  generalize hAe : va_A [] s.heap.size = A at ⊢
  have hA : ∀ q : Nat, s.heap.size ≤ q → A q := fun q h => by rw [← hAe]; exact Or.inr h
  have hS : va_S A s.heap s.heap [] := va_S.rf
  have hl := lv_entry ([.ref x, .int p0]) (n := 2) (Nat.le_of_ble_eq_true rfl)
  rw [lg_entry_eq]
  generalize (lg_sl ([.ref x, .int p0]) ++ List.replicate (2 - (lg_sl ([.ref x, .int p0])).length) Slot.unset).toArray = ls at hl ⊢
  have hl : lv_has ls 2 [(0, .ref x), (1, .int p0)] := hl
  refine p_nH (fun H hH => ?_)
  have hP : va_P g.1 vwCl [(x, .inr (11, [.ref xt, .int 0, .ref xr, .ref la, .ref lb, .ref sa, .int 0, .int 0, .ref ba, .int 0, .ref se, .ref si, .ref pa, .ref he]))] H := by rw [hH]; exact hP
  have hS : va_S A s.heap H [] := by rw [hH]; exact hS
  refine lv_iload_n hx hb dX11_back_0 rfl (lv_at hl 1 rfl) ?_
  refine lv_if_lt (tgt := 20) hx hb dX11_back_1 (by decide) (fun c_1 => ?_) (fun c_1 => ?_)
  · refine lv_iconst (v := (-1)) hx hb dX11_back_20 (by decide) ?_
    have hP9 : va_P g.1 vwCl [] H := hP.sub [] rfl
    have hD9 : va_D A [] := ⟨fun i j p q h => by simp at h, fun k q h => by simp at h⟩
    exact W.iret (v := (-1)) hx hb hr (fun t ht hW => ⟨⟨(-1), (), rfl, rfl, by rw [ht]; exact hP9, by rw [hAe]; exact hD9⟩, hS.F ht⟩) hS.2.2 dX11_back_21
  · refine lv_iload_n hx hb dX11_back_4 rfl (lv_at hl 1 rfl) ?_
    refine lv_iconst (v := 3) hx hb dX11_back_5 (by decide) ?_
    refine lv_icmp_ge (tgt := 20) hx hb dX11_back_6 (by decide) (fun c_2 => ?_) (fun c_2 => ?_)
    · refine lv_iconst (v := (-1)) hx hb dX11_back_20 (by decide) ?_
      have hP9 : va_P g.1 vwCl [] H := hP.sub [] rfl
      have hD9 : va_D A [] := ⟨fun i j p q h => by simp at h, fun k q h => by simp at h⟩
      exact W.iret (v := (-1)) hx hb hr (fun t ht hW => ⟨⟨(-1), (), rfl, rfl, by rw [ht]; exact hP9, by rw [hAe]; exact hD9⟩, hS.F ht⟩) hS.2.2 dX11_back_21
    · refine lv_aload_n hx hb dX11_back_9 rfl (lv_at hl 0 rfl) ?_
      refine va_get (D := g.1) (ci := 11) (v := .int 0) (C := RX11) (T := TX11) (N := 14) hx hb hT inF_X11 hown hK.1 hP 0 rfl rfl 9 (by decide) (hT _ bw_69) (fun _ h9 => h9) rfl dX11_back_10 ?_
      refine lv_iload_n hx hb dX11_back_13 rfl (lv_at hl 1 rfl) ?_
      refine lv_ishr hx hb dX11_back_14 ?_
      refine p_ti (v := 0) (zshr _) ?_
      refine lv_iconst (v := 1) hx hb dX11_back_15 (by decide) ?_
      refine lv_iand hx hb dX11_back_16 ?_
      refine p_ti (v := 0) (by decide +kernel) ?_
      refine lv_if_ne (tgt := 22) hx hb dX11_back_17 (by decide) (fun c9 => absurd (by decide) c9) (fun _ => ?_)
      refine lv_iconst (v := (-1)) hx hb dX11_back_20 (by decide) ?_
      have hP9 : va_P g.1 vwCl [] H := hP.sub [] rfl
      have hD9 : va_D A [] := ⟨fun i j p q h => by simp at h, fun k q h => by simp at h⟩
      exact W.iret (v := (-1)) hx hb hr (fun t ht hW => ⟨⟨(-1), (), rfl, rfl, by rw [ht]; exact hP9, by rw [hAe]; exact hD9⟩, hS.F ht⟩) hS.2.2 dX11_back_21

set_option maxHeartbeats 4000000 in
set_option maxRecDepth 100000 in
theorem c_X11_life (l : Launch) (g : GG) (sz : Nat) (x : Nat) (xt : Nat) (xr : Nat) (la : Nat) (lb : Nat) (sa : Nat) (ba : Nat) (se : Nat) (si : Nat) (pa : Nat) (he : Nat) (s1 : Nat) (s0 : Nat) (t1u : Nat) (t2u : Nat) (t3u : Nat) (t4u : Nat) (t5u : Nat) (t6u : Nat) (t7u : Nat) (k3 : Nat) (fs : Nat → Option Nat) (p0 : Int32) : Met l yX11_life (.code yX11_life cX11_life 7 (some .int) :: gT) ({ frames := 1, cells := 0, slots := 0, locals := 21 }) (va_Pc [.ref x, .int p0] (Pst g sz [(x, .inr (11, [.ref xt, .int 0, .ref xr, .ref la, .ref lb, .ref sa, .int 0, .int 0, .ref ba, .int 0, .ref se, .ref si, .ref pa, .ref he])), (sa, aO g 41 (va_up (va_up fs 0 (some s0)) 1 (some s1))), (s0, .inr (9, [.int 0, .int 0, .int 0, .int 0, .int 0, .int 0, .int 0, .ref t1u, .ref t2u, .ref t3u, .ref t4u, .ref t5u, .ref t6u, .ref t7u])), (he, .inr (1, [.int 0, .ref k3]))] nX)) (va_Qi (fun (r : Int32) (_ : Unit) => r = (-1)) (Qst g [(x, .inr (11, [.ref xt, .int 0, .ref xr, .ref la, .ref lb, .ref sa, .int 0, .int 0, .ref ba, .int 0, .ref se, .ref si, .ref pa, .ref he])), (sa, aO g 41 (va_up (va_up fs 0 (some s0)) 1 (some s1))), (s0, .inr (9, [.int 0, .int 0, .int 0, .int 0, .int 0, .int 0, .int 0, .ref t1u, .ref t2u, .ref t3u, .ref t4u, .ref t5u, .ref t6u, .ref t7u])), (he, .inr (1, [.int 0, .ref k3]))] sz (fun _ => [])) (va_A [(x, .inr (11, [.ref xt, .int 0, .ref xr, .ref la, .ref lb, .ref sa, .int 0, .int 0, .ref ba, .int 0, .ref se, .ref si, .ref pa, .ref he])), (sa, aO g 41 (va_up (va_up fs 0 (some s0)) 1 (some s1))), (s0, .inr (9, [.int 0, .int 0, .int 0, .int 0, .int 0, .int 0, .int 0, .ref t1u, .ref t2u, .ref t3u, .ref t4u, .ref t5u, .ref t6u, .ref t7u])), (he, .inr (1, [.int 0, .ref k3]))] sz)) 0 0 (va_A [(x, .inr (11, [.ref xt, .int 0, .ref xr, .ref la, .ref lb, .ref sa, .int 0, .int 0, .ref ba, .int 0, .ref se, .ref si, .ref pa, .ref he])), (sa, aO g 41 (va_up (va_up fs 0 (some s0)) 1 (some s1))), (s0, .inr (9, [.int 0, .int 0, .int 0, .int 0, .int 0, .int 0, .int 0, .ref t1u, .ref t2u, .ref t3u, .ref t4u, .ref t5u, .ref t6u, .ref t7u])), (he, .inr (1, [.int 0, .ref k3]))] sz) := by
  refine Met.ofW (cc := cX11_life) (maxL := 7) (ret := (some .int)) (by decide) rfl ?_
  intro p e s m args below meth c s₁ B hml hv
  obtain ⟨rfl, hsz, hP, hK, hD0, hX⟩ := hv
  have hx := B.exec
  have hb := B.bytes
  have hr := B.returns
  have hT : ∀ w ∈ gT, w.before _ s = true := fun w h => atoms_spec (ws := .code yX11_life cX11_life 7 (some .int) :: gT) B.pre w (List.mem_cons_of_mem _ h)
  have hown : s.vm.findClass RX11 = some m.cls := findClass_of_methodNamed B.named
  have hlocks := B.notSynchronized
  subst hsz
  have hD := hD0.self (sz := s.heap.size)
  generalize hAe : va_A [(x, .inr (11, [.ref xt, .int 0, .ref xr, .ref la, .ref lb, .ref sa, .int 0, .int 0, .ref ba, .int 0, .ref se, .ref si, .ref pa, .ref he])), (sa, aO g 41 (va_up (va_up fs 0 (some s0)) 1 (some s1))), (s0, .inr (9, [.int 0, .int 0, .int 0, .int 0, .int 0, .int 0, .int 0, .ref t1u, .ref t2u, .ref t3u, .ref t4u, .ref t5u, .ref t6u, .ref t7u])), (he, .inr (1, [.int 0, .ref k3]))] s.heap.size = A at hD ⊢
  have hA : ∀ q : Nat, s.heap.size ≤ q → A q := fun q h => by rw [← hAe]; exact Or.inr h
  have hS : va_S A s.heap s.heap [] := va_S.rf
  have hl := lv_entry ([.ref x, .int p0]) (n := 7) (Nat.le_of_ble_eq_true rfl)
  rw [lg_entry_eq]
  generalize (lg_sl ([.ref x, .int p0]) ++ List.replicate (7 - (lg_sl ([.ref x, .int p0])).length) Slot.unset).toArray = ls at hl ⊢
  have hl : lv_has ls 7 [(0, .ref x), (1, .int p0)] := hl
  refine p_nH (fun H hH => ?_)
  have hP : va_P g.1 vwCl [(x, .inr (11, [.ref xt, .int 0, .ref xr, .ref la, .ref lb, .ref sa, .int 0, .int 0, .ref ba, .int 0, .ref se, .ref si, .ref pa, .ref he])), (sa, aO g 41 (va_up (va_up fs 0 (some s0)) 1 (some s1))), (s0, .inr (9, [.int 0, .int 0, .int 0, .int 0, .int 0, .int 0, .int 0, .ref t1u, .ref t2u, .ref t3u, .ref t4u, .ref t5u, .ref t6u, .ref t7u])), (he, .inr (1, [.int 0, .ref k3]))] H := by rw [hH]; exact hP
  have hS : va_S A s.heap H [] := by rw [hH]; exact hS
  refine lv_aload_n hx hb dX11_life_0 rfl (lv_at hl 0 rfl) ?_
  refine va_get (D := g.1) (ci := 11) (v := .ref he) (C := RX11) (T := TX11) (N := 14) hx hb hT inF_X11 hown hK.1 hP 0 rfl rfl 13 (by decide) (hT _ bw_56) (fun _ h9 => h9) rfl dX11_life_1 ?_
  refine k_v (wr := [(x, .inr (11, [.ref xt, .int 0, .ref xr, .ref la, .ref lb, .ref sa, .int 0, .int 0, .ref ba, .int 0, .ref se, .ref si, .ref pa, .ref he])), (sa, aO g 41 (va_up (va_up fs 0 (some s0)) 1 (some s1))), (s0, .inr (9, [.int 0, .int 0, .int 0, .int 0, .int 0, .int 0, .int 0, .ref t1u, .ref t2u, .ref t3u, .ref t4u, .ref t5u, .ref t6u, .ref t7u]))]) (k_V (n := 0) ⟨hx, hb, hml, hown, hT⟩ hK hP hD [3] rfl (by decide) (c_X1_clear l g H.size he k3) (gV bw_71 bw_72 bw_73 bw_74 bw_10) rfl rfl (by decide +kernel) ⟨by decide, by decide⟩ (ci := 1) (q0 := 0) rfl rfl (fun _ _ _ _ _ => trivial) (fun _ _ _ => trivial) rfl rfl hl.1 (Nat.le_of_ble_eq_true rfl) dX11_life_4 ⟨by decide, by decide⟩) hP hD hS hA [3] [0, 1, 2] rfl rfl (by decide) (by decide) (fun u H locs hw hP hD hS => ?_)
  have hP : va_P g.1 vwCl [(x, .inr (11, [.ref xt, .int 0, .ref xr, .ref la, .ref lb, .ref sa, .int 0, .int 0, .ref ba, .int 0, .ref se, .ref si, .ref pa, .ref he])), (sa, aO g 41 (va_up (va_up fs 0 (some s0)) 1 (some s1))), (s0, .inr (9, [.int 0, .int 0, .int 0, .int 0, .int 0, .int 0, .int 0, .ref t1u, .ref t2u, .ref t3u, .ref t4u, .ref t5u, .ref t6u, .ref t7u])), (he, .inr (1, [.int 0, .ref k3]))] H := hP
  have hD : va_D A [(x, .inr (11, [.ref xt, .int 0, .ref xr, .ref la, .ref lb, .ref sa, .int 0, .int 0, .ref ba, .int 0, .ref se, .ref si, .ref pa, .ref he])), (sa, aO g 41 (va_up (va_up fs 0 (some s0)) 1 (some s1))), (s0, .inr (9, [.int 0, .int 0, .int 0, .int 0, .int 0, .int 0, .int 0, .ref t1u, .ref t2u, .ref t3u, .ref t4u, .ref t5u, .ref t6u, .ref t7u])), (he, .inr (1, [.int 0, .ref k3]))] := hD
  refine lv_aload_n hx hb dX11_life_7 rfl (lv_at hl 0 rfl) ?_
  refine va_get (D := g.1) (ci := 11) (v := .ref sa) (C := RX11) (T := TX11) (N := 14) hx hb hT inF_X11 hown hK.1 hP 0 rfl rfl 5 (by decide) (hT _ bw_20) (fun _ h9 => h9) rfl dX11_life_8 ?_
  refine lv_aload_n hx hb dX11_life_11 rfl (lv_at hl 0 rfl) ?_
  refine va_get (D := g.1) (ci := 11) (v := .int 0) (C := RX11) (T := TX11) (N := 14) hx hb hT inF_X11 hown hK.1 hP 0 rfl rfl 6 (by decide) (hT _ bw_21) (fun _ h9 => h9) rfl dX11_life_12 ?_
  refine va_aldq hx hb hK.1 hP 1 4 rfl rfl (i := 0) (by unfold vp_in; decide) dX11_life_15 ?_
  refine p_tr (x := s0) (rfl) ?_
  refine lv_astore_n (lv' := [(2, .ref s0), (0, .ref x), (1, .int p0)]) hx hb dX11_life_16 rfl hl (by decide) rfl (fun ls hl => ?_)
  refine lv_aload_n hx hb dX11_life_17 rfl (lv_at hl 0 rfl) ?_
  refine lv_iload_n hx hb dX11_life_18 rfl (lv_at hl 2 rfl) ?_
  refine k_iR (k_V (n := 1) ⟨hx, hb, hml, hown, hT⟩ hK hP hD [2] rfl (by decide) (c_X9_hasDuel l g H.size s0 t1u t2u t3u t4u t5u t6u t7u p0) (gV bw_22 bw_23 bw_24 bw_25 bw_5) rfl rfl (by decide +kernel) ⟨by decide, by decide⟩ (ci := 9) (q0 := 0) rfl rfl (fun _ _ _ _ _ => trivial) (fun _ _ _ => trivial) rfl rfl hl.1 (Nat.le_of_ble_eq_true rfl) dX11_life_19 ⟨by decide, by decide⟩) hP hS hA (fun r_1 _ H locs hw hP hS => ?_)
  have hw : r_1 = 0 := hw
  subst hw
  refine lv_if_eq (tgt := 33) hx hb dX11_life_22 (by decide) (fun _ => ?_) (fun c9 => absurd (by decide) c9)
  refine lv_iconst (v := (-1)) hx hb dX11_life_33 (by decide) ?_
  have hP9 : va_P g.1 vwCl [] H := hP.sub [] rfl
  have hD9 : va_D A [] := ⟨fun i j p q h => by simp at h, fun k q h => by simp at h⟩
  exact W.iret (v := (-1)) hx hb hr (fun t ht hW => ⟨⟨(-1), (), rfl, rfl, by rw [ht]; exact hP9, by rw [hAe]; exact hD9⟩, hS.F ht⟩) hS.2.2 dX11_life_34

set_option maxHeartbeats 4000000 in
set_option maxRecDepth 100000 in
theorem c_X11_hire (l : Launch) (g : GG) (sz : Nat) (x : Nat) (xt : Nat) (xr : Nat) (la : Nat) (lb : Nat) (sa : Nat) (ba : Nat) (se : Nat) (si : Nat) (pa : Nat) (he : Nat) (s1 : Nat) (s0 : Nat) (t1u : Nat) (t2u : Nat) (t3u : Nat) (t4u : Nat) (t5u : Nat) (t6u : Nat) (t7u : Nat) (k3 : Nat) (fs : Nat → Option Nat) (p0 : Int32) (p1 : Int32) : Met l yX11_hire (.code yX11_hire cX11_hire 9 (some .int) :: gT) ({ frames := 1, cells := 0, slots := 0, locals := 21 }) (va_Pc [.ref x, .int p0, .int p1] (Pst g sz [(x, .inr (11, [.ref xt, .int 0, .ref xr, .ref la, .ref lb, .ref sa, .int 0, .int 0, .ref ba, .int 0, .ref se, .ref si, .ref pa, .ref he])), (sa, aO g 41 (va_up (va_up fs 0 (some s0)) 1 (some s1))), (s0, .inr (9, [.int 0, .int 0, .int 0, .int 0, .int 0, .int 0, .int 0, .ref t1u, .ref t2u, .ref t3u, .ref t4u, .ref t5u, .ref t6u, .ref t7u])), (he, .inr (1, [.int 0, .ref k3]))] nX)) (va_Qi (fun (r : Int32) (_ : Unit) => r = (-1)) (Qst g [(x, .inr (11, [.ref xt, .int 0, .ref xr, .ref la, .ref lb, .ref sa, .int 0, .int 0, .ref ba, .int 0, .ref se, .ref si, .ref pa, .ref he])), (sa, aO g 41 (va_up (va_up fs 0 (some s0)) 1 (some s1))), (s0, .inr (9, [.int 0, .int 0, .int 0, .int 0, .int 0, .int 0, .int 0, .ref t1u, .ref t2u, .ref t3u, .ref t4u, .ref t5u, .ref t6u, .ref t7u])), (he, .inr (1, [.int 0, .ref k3]))] sz (fun _ => [])) (va_A [(x, .inr (11, [.ref xt, .int 0, .ref xr, .ref la, .ref lb, .ref sa, .int 0, .int 0, .ref ba, .int 0, .ref se, .ref si, .ref pa, .ref he])), (sa, aO g 41 (va_up (va_up fs 0 (some s0)) 1 (some s1))), (s0, .inr (9, [.int 0, .int 0, .int 0, .int 0, .int 0, .int 0, .int 0, .ref t1u, .ref t2u, .ref t3u, .ref t4u, .ref t5u, .ref t6u, .ref t7u])), (he, .inr (1, [.int 0, .ref k3]))] sz)) 0 0 (va_A [(x, .inr (11, [.ref xt, .int 0, .ref xr, .ref la, .ref lb, .ref sa, .int 0, .int 0, .ref ba, .int 0, .ref se, .ref si, .ref pa, .ref he])), (sa, aO g 41 (va_up (va_up fs 0 (some s0)) 1 (some s1))), (s0, .inr (9, [.int 0, .int 0, .int 0, .int 0, .int 0, .int 0, .int 0, .ref t1u, .ref t2u, .ref t3u, .ref t4u, .ref t5u, .ref t6u, .ref t7u])), (he, .inr (1, [.int 0, .ref k3]))] sz) := by
  refine Met.ofW (cc := cX11_hire) (maxL := 9) (ret := (some .int)) (by decide) rfl ?_
  intro p e s m args below meth c s₁ B hml hv
  obtain ⟨rfl, hsz, hP, hK, hD0, hX⟩ := hv
  have hx := B.exec
  have hb := B.bytes
  have hr := B.returns
  have hT : ∀ w ∈ gT, w.before _ s = true := fun w h => atoms_spec (ws := .code yX11_hire cX11_hire 9 (some .int) :: gT) B.pre w (List.mem_cons_of_mem _ h)
  have hown : s.vm.findClass RX11 = some m.cls := findClass_of_methodNamed B.named
  have hlocks := B.notSynchronized
  subst hsz
  have hD := hD0.self (sz := s.heap.size)
  generalize hAe : va_A [(x, .inr (11, [.ref xt, .int 0, .ref xr, .ref la, .ref lb, .ref sa, .int 0, .int 0, .ref ba, .int 0, .ref se, .ref si, .ref pa, .ref he])), (sa, aO g 41 (va_up (va_up fs 0 (some s0)) 1 (some s1))), (s0, .inr (9, [.int 0, .int 0, .int 0, .int 0, .int 0, .int 0, .int 0, .ref t1u, .ref t2u, .ref t3u, .ref t4u, .ref t5u, .ref t6u, .ref t7u])), (he, .inr (1, [.int 0, .ref k3]))] s.heap.size = A at hD ⊢
  have hA : ∀ q : Nat, s.heap.size ≤ q → A q := fun q h => by rw [← hAe]; exact Or.inr h
  have hS : va_S A s.heap s.heap [] := va_S.rf
  have hl := lv_entry ([.ref x, .int p0, .int p1]) (n := 9) (Nat.le_of_ble_eq_true rfl)
  rw [lg_entry_eq]
  generalize (lg_sl ([.ref x, .int p0, .int p1]) ++ List.replicate (9 - (lg_sl ([.ref x, .int p0, .int p1])).length) Slot.unset).toArray = ls at hl ⊢
  have hl : lv_has ls 9 [(0, .ref x), (1, .int p0), (2, .int p1)] := hl
  refine p_nH (fun H hH => ?_)
  have hP : va_P g.1 vwCl [(x, .inr (11, [.ref xt, .int 0, .ref xr, .ref la, .ref lb, .ref sa, .int 0, .int 0, .ref ba, .int 0, .ref se, .ref si, .ref pa, .ref he])), (sa, aO g 41 (va_up (va_up fs 0 (some s0)) 1 (some s1))), (s0, .inr (9, [.int 0, .int 0, .int 0, .int 0, .int 0, .int 0, .int 0, .ref t1u, .ref t2u, .ref t3u, .ref t4u, .ref t5u, .ref t6u, .ref t7u])), (he, .inr (1, [.int 0, .ref k3]))] H := by rw [hH]; exact hP
  have hS : va_S A s.heap H [] := by rw [hH]; exact hS
  refine lv_aload_n hx hb dX11_hire_0 rfl (lv_at hl 0 rfl) ?_
  refine va_get (D := g.1) (ci := 11) (v := .ref he) (C := RX11) (T := TX11) (N := 14) hx hb hT inF_X11 hown hK.1 hP 0 rfl rfl 13 (by decide) (hT _ bw_56) (fun _ h9 => h9) rfl dX11_hire_1 ?_
  refine k_v (wr := [(x, .inr (11, [.ref xt, .int 0, .ref xr, .ref la, .ref lb, .ref sa, .int 0, .int 0, .ref ba, .int 0, .ref se, .ref si, .ref pa, .ref he])), (sa, aO g 41 (va_up (va_up fs 0 (some s0)) 1 (some s1))), (s0, .inr (9, [.int 0, .int 0, .int 0, .int 0, .int 0, .int 0, .int 0, .ref t1u, .ref t2u, .ref t3u, .ref t4u, .ref t5u, .ref t6u, .ref t7u]))]) (k_V (n := 0) ⟨hx, hb, hml, hown, hT⟩ hK hP hD [3] rfl (by decide) (c_X1_clear l g H.size he k3) (gV bw_71 bw_72 bw_73 bw_74 bw_10) rfl rfl (by decide +kernel) ⟨by decide, by decide⟩ (ci := 1) (q0 := 0) rfl rfl (fun _ _ _ _ _ => trivial) (fun _ _ _ => trivial) rfl rfl hl.1 (Nat.le_of_ble_eq_true rfl) dX11_hire_4 ⟨by decide, by decide⟩) hP hD hS hA [3] [0, 1, 2] rfl rfl (by decide) (by decide) (fun u H locs hw hP hD hS => ?_)
  have hP : va_P g.1 vwCl [(x, .inr (11, [.ref xt, .int 0, .ref xr, .ref la, .ref lb, .ref sa, .int 0, .int 0, .ref ba, .int 0, .ref se, .ref si, .ref pa, .ref he])), (sa, aO g 41 (va_up (va_up fs 0 (some s0)) 1 (some s1))), (s0, .inr (9, [.int 0, .int 0, .int 0, .int 0, .int 0, .int 0, .int 0, .ref t1u, .ref t2u, .ref t3u, .ref t4u, .ref t5u, .ref t6u, .ref t7u])), (he, .inr (1, [.int 0, .ref k3]))] H := hP
  have hD : va_D A [(x, .inr (11, [.ref xt, .int 0, .ref xr, .ref la, .ref lb, .ref sa, .int 0, .int 0, .ref ba, .int 0, .ref se, .ref si, .ref pa, .ref he])), (sa, aO g 41 (va_up (va_up fs 0 (some s0)) 1 (some s1))), (s0, .inr (9, [.int 0, .int 0, .int 0, .int 0, .int 0, .int 0, .int 0, .ref t1u, .ref t2u, .ref t3u, .ref t4u, .ref t5u, .ref t6u, .ref t7u])), (he, .inr (1, [.int 0, .ref k3]))] := hD
  refine lv_aload_n hx hb dX11_hire_7 rfl (lv_at hl 0 rfl) ?_
  refine va_get (D := g.1) (ci := 11) (v := .ref sa) (C := RX11) (T := TX11) (N := 14) hx hb hT inF_X11 hown hK.1 hP 0 rfl rfl 5 (by decide) (hT _ bw_20) (fun _ h9 => h9) rfl dX11_hire_8 ?_
  refine lv_aload_n hx hb dX11_hire_11 rfl (lv_at hl 0 rfl) ?_
  refine va_get (D := g.1) (ci := 11) (v := .int 0) (C := RX11) (T := TX11) (N := 14) hx hb hT inF_X11 hown hK.1 hP 0 rfl rfl 6 (by decide) (hT _ bw_21) (fun _ h9 => h9) rfl dX11_hire_12 ?_
  refine va_aldq hx hb hK.1 hP 1 4 rfl rfl (i := 0) (by unfold vp_in; decide) dX11_hire_15 ?_
  refine p_tr (x := s0) (rfl) ?_
  refine lv_astore_n (lv' := [(3, .ref s0), (0, .ref x), (1, .int p0), (2, .int p1)]) hx hb dX11_hire_16 rfl hl (by decide) rfl (fun ls hl => ?_)
  refine lv_iload_n hx hb dX11_hire_17 rfl (lv_at hl 3 rfl) ?_
  refine k_iR (k_S (n := 1) ⟨hx, hb, hml, hown, hT⟩ hK hP hD [] rfl (by decide) (c_X11_isSide l g H.size p1) (gS bw_50 bw_51 bw_52 bw_12) rfl rfl (by decide +kernel) ⟨by decide, by decide⟩ (fun _ _ _ _ _ => trivial) (fun _ _ _ => trivial) rfl rfl hl.1 (Nat.le_of_ble_eq_true rfl) dX11_hire_18 ⟨by decide, by decide⟩) hP hS hA (fun r_1 _ H locs hw hP hS => ?_)
  refine lv_if_eq (tgt := 40) hx hb dX11_hire_21 (by decide) (fun c_2 => ?_) (fun c_2 => ?_)
  · refine lv_iconst (v := (-1)) hx hb dX11_hire_40 (by decide) ?_
    have hP9 : va_P g.1 vwCl [] H := hP.sub [] rfl
    have hD9 : va_D A [] := ⟨fun i j p q h => by simp at h, fun k q h => by simp at h⟩
    exact W.iret (v := (-1)) hx hb hr (fun t ht hW => ⟨⟨(-1), (), rfl, rfl, by rw [ht]; exact hP9, by rw [hAe]; exact hD9⟩, hS.F ht⟩) hS.2.2 dX11_hire_41
  · refine lv_aload_n hx hb dX11_hire_24 rfl (lv_at hl 0 rfl) ?_
    refine lv_iload_n hx hb dX11_hire_25 rfl (lv_at hl 2 rfl) ?_
    refine k_iR (k_V (n := 1) ⟨hx, hb, hml, hown, hT⟩ hK hP hD [2] rfl (by decide) (c_X9_hasDuel l g H.size s0 t1u t2u t3u t4u t5u t6u t7u p0) (gV bw_22 bw_23 bw_24 bw_25 bw_5) rfl rfl (by decide +kernel) ⟨by decide, by decide⟩ (ci := 9) (q0 := 0) rfl rfl (fun _ _ _ _ _ => trivial) (fun _ _ _ => trivial) rfl rfl hl.1 (Nat.le_of_ble_eq_true rfl) dX11_hire_26 ⟨by decide, by decide⟩) hP hS hA (fun r_3 _ H locs hw hP hS => ?_)
    have hw : r_3 = 0 := hw
    subst hw
    refine lv_if_eq (tgt := 40) hx hb dX11_hire_29 (by decide) (fun _ => ?_) (fun c9 => absurd (by decide) c9)
    refine lv_iconst (v := (-1)) hx hb dX11_hire_40 (by decide) ?_
    have hP9 : va_P g.1 vwCl [] H := hP.sub [] rfl
    have hD9 : va_D A [] := ⟨fun i j p q h => by simp at h, fun k q h => by simp at h⟩
    exact W.iret (v := (-1)) hx hb hr (fun t ht hW => ⟨⟨(-1), (), rfl, rfl, by rw [ht]; exact hP9, by rw [hAe]; exact hD9⟩, hS.F ht⟩) hS.2.2 dX11_hire_41

set_option maxHeartbeats 4000000 in
set_option maxRecDepth 100000 in
theorem c_X11_part (l : Launch) (g : GG) (sz : Nat) (x : Nat) (xt : Nat) (xr : Nat) (la : Nat) (lb : Nat) (sa : Nat) (ba : Nat) (se : Nat) (si : Nat) (pa : Nat) (he : Nat) (mea : Nat) (foa : Nat) (rea : Nat) (d1a : Nat) (d2a : Nat) (d3a : Nat) (m1a : Nat) (m2a : Nat) (m3a : Nat) (m4a : Nat) (k3 : Nat) (p0 : Int32) : Met l yX11_part (.code yX11_part cX11_part 3 (some .int) :: gT) ({ frames := 1, cells := 0, slots := 0, locals := 21 }) (va_Pc [.ref x, .int p0] (Pst g sz [(x, .inr (11, [.ref xt, .int 0, .ref xr, .ref la, .ref lb, .ref sa, .int 0, .int 0, .ref ba, .int 0, .ref se, .ref si, .ref pa, .ref he])), (la, .inr (2, [.ref mea, .ref foa, .ref rea, .int 0, .ref d1a, .ref d2a, .int 9, .int 0, .ref d3a])), (mea, .inr (3, [.int 0, .ref m1a, .ref m2a, .ref m3a, .ref m4a])), (he, .inr (1, [.int 0, .ref k3]))] nX)) (va_Qi (fun (r : Int32) (_ : Unit) => r = (-1)) (Qst g [(x, .inr (11, [.ref xt, .int 0, .ref xr, .ref la, .ref lb, .ref sa, .int 0, .int 0, .ref ba, .int 0, .ref se, .ref si, .ref pa, .ref he])), (la, .inr (2, [.ref mea, .ref foa, .ref rea, .int 0, .ref d1a, .ref d2a, .int 9, .int 0, .ref d3a])), (mea, .inr (3, [.int 0, .ref m1a, .ref m2a, .ref m3a, .ref m4a])), (he, .inr (1, [.int 0, .ref k3]))] sz (fun _ => [])) (va_A [(x, .inr (11, [.ref xt, .int 0, .ref xr, .ref la, .ref lb, .ref sa, .int 0, .int 0, .ref ba, .int 0, .ref se, .ref si, .ref pa, .ref he])), (la, .inr (2, [.ref mea, .ref foa, .ref rea, .int 0, .ref d1a, .ref d2a, .int 9, .int 0, .ref d3a])), (mea, .inr (3, [.int 0, .ref m1a, .ref m2a, .ref m3a, .ref m4a])), (he, .inr (1, [.int 0, .ref k3]))] sz)) 0 0 (va_A [(x, .inr (11, [.ref xt, .int 0, .ref xr, .ref la, .ref lb, .ref sa, .int 0, .int 0, .ref ba, .int 0, .ref se, .ref si, .ref pa, .ref he])), (la, .inr (2, [.ref mea, .ref foa, .ref rea, .int 0, .ref d1a, .ref d2a, .int 9, .int 0, .ref d3a])), (mea, .inr (3, [.int 0, .ref m1a, .ref m2a, .ref m3a, .ref m4a])), (he, .inr (1, [.int 0, .ref k3]))] sz) := by
  refine Met.ofW (cc := cX11_part) (maxL := 3) (ret := (some .int)) (by decide) rfl ?_
  intro p e s m args below meth c s₁ B hml hv
  obtain ⟨rfl, hsz, hP, hK, hD0, hX⟩ := hv
  have hx := B.exec
  have hb := B.bytes
  have hr := B.returns
  have hT : ∀ w ∈ gT, w.before _ s = true := fun w h => atoms_spec (ws := .code yX11_part cX11_part 3 (some .int) :: gT) B.pre w (List.mem_cons_of_mem _ h)
  have hown : s.vm.findClass RX11 = some m.cls := findClass_of_methodNamed B.named
  have hlocks := B.notSynchronized
  subst hsz
  have hD := hD0.self (sz := s.heap.size)
  generalize hAe : va_A [(x, .inr (11, [.ref xt, .int 0, .ref xr, .ref la, .ref lb, .ref sa, .int 0, .int 0, .ref ba, .int 0, .ref se, .ref si, .ref pa, .ref he])), (la, .inr (2, [.ref mea, .ref foa, .ref rea, .int 0, .ref d1a, .ref d2a, .int 9, .int 0, .ref d3a])), (mea, .inr (3, [.int 0, .ref m1a, .ref m2a, .ref m3a, .ref m4a])), (he, .inr (1, [.int 0, .ref k3]))] s.heap.size = A at hD ⊢
  have hA : ∀ q : Nat, s.heap.size ≤ q → A q := fun q h => by rw [← hAe]; exact Or.inr h
  have hS : va_S A s.heap s.heap [] := va_S.rf
  have hl := lv_entry ([.ref x, .int p0]) (n := 3) (Nat.le_of_ble_eq_true rfl)
  rw [lg_entry_eq]
  generalize (lg_sl ([.ref x, .int p0]) ++ List.replicate (3 - (lg_sl ([.ref x, .int p0])).length) Slot.unset).toArray = ls at hl ⊢
  have hl : lv_has ls 3 [(0, .ref x), (1, .int p0)] := hl
  refine p_nH (fun H hH => ?_)
  have hP : va_P g.1 vwCl [(x, .inr (11, [.ref xt, .int 0, .ref xr, .ref la, .ref lb, .ref sa, .int 0, .int 0, .ref ba, .int 0, .ref se, .ref si, .ref pa, .ref he])), (la, .inr (2, [.ref mea, .ref foa, .ref rea, .int 0, .ref d1a, .ref d2a, .int 9, .int 0, .ref d3a])), (mea, .inr (3, [.int 0, .ref m1a, .ref m2a, .ref m3a, .ref m4a])), (he, .inr (1, [.int 0, .ref k3]))] H := by rw [hH]; exact hP
  have hS : va_S A s.heap H [] := by rw [hH]; exact hS
  refine lv_aload_n hx hb dX11_part_0 rfl (lv_at hl 0 rfl) ?_
  refine va_get (D := g.1) (ci := 11) (v := .ref he) (C := RX11) (T := TX11) (N := 14) hx hb hT inF_X11 hown hK.1 hP 0 rfl rfl 13 (by decide) (hT _ bw_56) (fun _ h9 => h9) rfl dX11_part_1 ?_
  refine k_v (wr := [(x, .inr (11, [.ref xt, .int 0, .ref xr, .ref la, .ref lb, .ref sa, .int 0, .int 0, .ref ba, .int 0, .ref se, .ref si, .ref pa, .ref he])), (la, .inr (2, [.ref mea, .ref foa, .ref rea, .int 0, .ref d1a, .ref d2a, .int 9, .int 0, .ref d3a])), (mea, .inr (3, [.int 0, .ref m1a, .ref m2a, .ref m3a, .ref m4a]))]) (k_V (n := 0) ⟨hx, hb, hml, hown, hT⟩ hK hP hD [3] rfl (by decide) (c_X1_clear l g H.size he k3) (gV bw_71 bw_72 bw_73 bw_74 bw_10) rfl rfl (by decide +kernel) ⟨by decide, by decide⟩ (ci := 1) (q0 := 0) rfl rfl (fun _ _ _ _ _ => trivial) (fun _ _ _ => trivial) rfl rfl hl.1 (Nat.le_of_ble_eq_true rfl) dX11_part_4 ⟨by decide, by decide⟩) hP hD hS hA [3] [0, 1, 2] rfl rfl (by decide) (by decide) (fun u H locs hw hP hD hS => ?_)
  have hP : va_P g.1 vwCl [(x, .inr (11, [.ref xt, .int 0, .ref xr, .ref la, .ref lb, .ref sa, .int 0, .int 0, .ref ba, .int 0, .ref se, .ref si, .ref pa, .ref he])), (la, .inr (2, [.ref mea, .ref foa, .ref rea, .int 0, .ref d1a, .ref d2a, .int 9, .int 0, .ref d3a])), (mea, .inr (3, [.int 0, .ref m1a, .ref m2a, .ref m3a, .ref m4a])), (he, .inr (1, [.int 0, .ref k3]))] H := hP
  have hD : va_D A [(x, .inr (11, [.ref xt, .int 0, .ref xr, .ref la, .ref lb, .ref sa, .int 0, .int 0, .ref ba, .int 0, .ref se, .ref si, .ref pa, .ref he])), (la, .inr (2, [.ref mea, .ref foa, .ref rea, .int 0, .ref d1a, .ref d2a, .int 9, .int 0, .ref d3a])), (mea, .inr (3, [.int 0, .ref m1a, .ref m2a, .ref m3a, .ref m4a])), (he, .inr (1, [.int 0, .ref k3]))] := hD
  refine lv_aload_n hx hb dX11_part_7 rfl (lv_at hl 0 rfl) ?_
  refine va_get (D := g.1) (ci := 11) (v := .ref la) (C := RX11) (T := TX11) (N := 14) hx hb hT inF_X11 hown hK.1 hP 0 rfl rfl 3 (by decide) (hT _ bw_13) (fun _ h9 => h9) rfl dX11_part_8 ?_
  refine va_get (D := g.1) (ci := 2) (v := .ref mea) (C := RX2) (T := TX2) (N := 9) hx hb hT inF_X2 hown hK.1 hP 1 rfl rfl 0 (by decide) (hT _ bw_14) (fun _ h9 => h9) rfl dX11_part_11 ?_
  refine lv_iload_n hx hb dX11_part_14 rfl (lv_at hl 1 rfl) ?_
  refine k_iR (k_V (n := 1) ⟨hx, hb, hml, hown, hT⟩ hK hP hD [2] rfl (by decide) (c_X3_has l g H.size mea m1a m2a m3a m4a p0) (gV bw_15 bw_16 bw_17 bw_18 bw_1) rfl rfl (by decide +kernel) ⟨by decide, by decide⟩ (ci := 3) (q0 := 0) rfl rfl (fun _ _ _ _ _ => trivial) (fun _ _ _ => trivial) rfl rfl hl.1 (Nat.le_of_ble_eq_true rfl) dX11_part_15 ⟨by decide, by decide⟩) hP hS hA (fun r_1 _ H locs hw hP hS => ?_)
  have hw : r_1 = 0 := hw
  subst hw
  refine lv_if_ne (tgt := 23) hx hb dX11_part_18 (by decide) (fun c9 => absurd (by decide) c9) (fun _ => ?_)
  refine lv_iconst (v := (-1)) hx hb dX11_part_21 (by decide) ?_
  have hP9 : va_P g.1 vwCl [] H := hP.sub [] rfl
  have hD9 : va_D A [] := ⟨fun i j p q h => by simp at h, fun k q h => by simp at h⟩
  exact W.iret (v := (-1)) hx hb hr (fun t ht hW => ⟨⟨(-1), (), rfl, rfl, by rw [ht]; exact hP9, by rw [hAe]; exact hD9⟩, hS.F ht⟩) hS.2.2 dX11_part_22

set_option maxHeartbeats 4000000 in
set_option maxRecDepth 100000 in
theorem c_X11_falses (l : Launch) (g : GG) (sz : Nat) (x : Nat) (xt : Nat) (xr : Nat) (la : Nat) (lb : Nat) (sa : Nat) (ba : Nat) (se : Nat) (si : Nat) (pa : Nat) (he : Nat) (s1 : Nat) (s0 : Nat) (t1u : Nat) (t2u : Nat) (t3u : Nat) (t4u : Nat) (t5u : Nat) (t6u : Nat) (t7u : Nat) (k3 : Nat) (fs : Nat → Option Nat) (p0 : Int32) : Met l yX11_falses (.code yX11_falses cX11_falses 5 (some .int) :: gT) ({ frames := 1, cells := 0, slots := 0, locals := 20 }) (va_Pc [.ref x, .int p0] (Pst g sz [(x, .inr (11, [.ref xt, .int 0, .ref xr, .ref la, .ref lb, .ref sa, .int 0, .int 0, .ref ba, .int 0, .ref se, .ref si, .ref pa, .ref he])), (sa, aO g 41 (va_up (va_up fs 0 (some s0)) 1 (some s1))), (s0, .inr (9, [.int 0, .int 0, .int 0, .int 0, .int 0, .int 0, .int 0, .ref t1u, .ref t2u, .ref t3u, .ref t4u, .ref t5u, .ref t6u, .ref t7u])), (he, .inr (1, [.int 0, .ref k3]))] nX)) (va_Qi (fun (r : Int32) (_ : Unit) => r = 0) (Qst g [(x, .inr (11, [.ref xt, .int 0, .ref xr, .ref la, .ref lb, .ref sa, .int 0, .int 0, .ref ba, .int 0, .ref se, .ref si, .ref pa, .ref he])), (sa, aO g 41 (va_up (va_up fs 0 (some s0)) 1 (some s1))), (s0, .inr (9, [.int 0, .int 0, .int 0, .int 0, .int 0, .int 0, .int 0, .ref t1u, .ref t2u, .ref t3u, .ref t4u, .ref t5u, .ref t6u, .ref t7u])), (he, .inr (1, [.int 0, .ref k3]))] sz (fun _ => [])) (va_A [(x, .inr (11, [.ref xt, .int 0, .ref xr, .ref la, .ref lb, .ref sa, .int 0, .int 0, .ref ba, .int 0, .ref se, .ref si, .ref pa, .ref he])), (sa, aO g 41 (va_up (va_up fs 0 (some s0)) 1 (some s1))), (s0, .inr (9, [.int 0, .int 0, .int 0, .int 0, .int 0, .int 0, .int 0, .ref t1u, .ref t2u, .ref t3u, .ref t4u, .ref t5u, .ref t6u, .ref t7u])), (he, .inr (1, [.int 0, .ref k3]))] sz)) 0 0 (va_A [(x, .inr (11, [.ref xt, .int 0, .ref xr, .ref la, .ref lb, .ref sa, .int 0, .int 0, .ref ba, .int 0, .ref se, .ref si, .ref pa, .ref he])), (sa, aO g 41 (va_up (va_up fs 0 (some s0)) 1 (some s1))), (s0, .inr (9, [.int 0, .int 0, .int 0, .int 0, .int 0, .int 0, .int 0, .ref t1u, .ref t2u, .ref t3u, .ref t4u, .ref t5u, .ref t6u, .ref t7u])), (he, .inr (1, [.int 0, .ref k3]))] sz) := by
  refine Met.ofW (cc := cX11_falses) (maxL := 5) (ret := (some .int)) (by decide) rfl ?_
  intro p e s m args below meth c s₁ B hml hv
  obtain ⟨rfl, hsz, hP, hK, hD0, hX⟩ := hv
  have hx := B.exec
  have hb := B.bytes
  have hr := B.returns
  have hT : ∀ w ∈ gT, w.before _ s = true := fun w h => atoms_spec (ws := .code yX11_falses cX11_falses 5 (some .int) :: gT) B.pre w (List.mem_cons_of_mem _ h)
  have hown : s.vm.findClass RX11 = some m.cls := findClass_of_methodNamed B.named
  have hlocks := B.notSynchronized
  subst hsz
  have hD := hD0.self (sz := s.heap.size)
  generalize hAe : va_A [(x, .inr (11, [.ref xt, .int 0, .ref xr, .ref la, .ref lb, .ref sa, .int 0, .int 0, .ref ba, .int 0, .ref se, .ref si, .ref pa, .ref he])), (sa, aO g 41 (va_up (va_up fs 0 (some s0)) 1 (some s1))), (s0, .inr (9, [.int 0, .int 0, .int 0, .int 0, .int 0, .int 0, .int 0, .ref t1u, .ref t2u, .ref t3u, .ref t4u, .ref t5u, .ref t6u, .ref t7u])), (he, .inr (1, [.int 0, .ref k3]))] s.heap.size = A at hD ⊢
  have hA : ∀ q : Nat, s.heap.size ≤ q → A q := fun q h => by rw [← hAe]; exact Or.inr h
  have hS : va_S A s.heap s.heap [] := va_S.rf
  have hl := lv_entry ([.ref x, .int p0]) (n := 5) (Nat.le_of_ble_eq_true rfl)
  rw [lg_entry_eq]
  generalize (lg_sl ([.ref x, .int p0]) ++ List.replicate (5 - (lg_sl ([.ref x, .int p0])).length) Slot.unset).toArray = ls at hl ⊢
  have hl : lv_has ls 5 [(0, .ref x), (1, .int p0)] := hl
  refine p_nH (fun H hH => ?_)
  have hP : va_P g.1 vwCl [(x, .inr (11, [.ref xt, .int 0, .ref xr, .ref la, .ref lb, .ref sa, .int 0, .int 0, .ref ba, .int 0, .ref se, .ref si, .ref pa, .ref he])), (sa, aO g 41 (va_up (va_up fs 0 (some s0)) 1 (some s1))), (s0, .inr (9, [.int 0, .int 0, .int 0, .int 0, .int 0, .int 0, .int 0, .ref t1u, .ref t2u, .ref t3u, .ref t4u, .ref t5u, .ref t6u, .ref t7u])), (he, .inr (1, [.int 0, .ref k3]))] H := by rw [hH]; exact hP
  have hS : va_S A s.heap H [] := by rw [hH]; exact hS
  refine lv_aload_n hx hb dX11_falses_0 rfl (lv_at hl 0 rfl) ?_
  refine va_get (D := g.1) (ci := 11) (v := .ref he) (C := RX11) (T := TX11) (N := 14) hx hb hT inF_X11 hown hK.1 hP 0 rfl rfl 13 (by decide) (hT _ bw_56) (fun _ h9 => h9) rfl dX11_falses_1 ?_
  refine k_v (wr := [(x, .inr (11, [.ref xt, .int 0, .ref xr, .ref la, .ref lb, .ref sa, .int 0, .int 0, .ref ba, .int 0, .ref se, .ref si, .ref pa, .ref he])), (sa, aO g 41 (va_up (va_up fs 0 (some s0)) 1 (some s1))), (s0, .inr (9, [.int 0, .int 0, .int 0, .int 0, .int 0, .int 0, .int 0, .ref t1u, .ref t2u, .ref t3u, .ref t4u, .ref t5u, .ref t6u, .ref t7u]))]) (k_V (n := 0) ⟨hx, hb, hml, hown, hT⟩ hK hP hD [3] rfl (by decide) (c_X1_clear l g H.size he k3) (gV bw_71 bw_72 bw_73 bw_74 bw_10) rfl rfl (by decide +kernel) ⟨by decide, by decide⟩ (ci := 1) (q0 := 0) rfl rfl (fun _ _ _ _ _ => trivial) (fun _ _ _ => trivial) rfl rfl hl.1 (Nat.le_of_ble_eq_true rfl) dX11_falses_4 ⟨by decide, by decide⟩) hP hD hS hA [3] [0, 1, 2] rfl rfl (by decide) (by decide) (fun u H locs hw hP hD hS => ?_)
  have hP : va_P g.1 vwCl [(x, .inr (11, [.ref xt, .int 0, .ref xr, .ref la, .ref lb, .ref sa, .int 0, .int 0, .ref ba, .int 0, .ref se, .ref si, .ref pa, .ref he])), (sa, aO g 41 (va_up (va_up fs 0 (some s0)) 1 (some s1))), (s0, .inr (9, [.int 0, .int 0, .int 0, .int 0, .int 0, .int 0, .int 0, .ref t1u, .ref t2u, .ref t3u, .ref t4u, .ref t5u, .ref t6u, .ref t7u])), (he, .inr (1, [.int 0, .ref k3]))] H := hP
  have hD : va_D A [(x, .inr (11, [.ref xt, .int 0, .ref xr, .ref la, .ref lb, .ref sa, .int 0, .int 0, .ref ba, .int 0, .ref se, .ref si, .ref pa, .ref he])), (sa, aO g 41 (va_up (va_up fs 0 (some s0)) 1 (some s1))), (s0, .inr (9, [.int 0, .int 0, .int 0, .int 0, .int 0, .int 0, .int 0, .ref t1u, .ref t2u, .ref t3u, .ref t4u, .ref t5u, .ref t6u, .ref t7u])), (he, .inr (1, [.int 0, .ref k3]))] := hD
  refine lv_aload_n hx hb dX11_falses_7 rfl (lv_at hl 0 rfl) ?_
  refine va_get (D := g.1) (ci := 11) (v := .ref sa) (C := RX11) (T := TX11) (N := 14) hx hb hT inF_X11 hown hK.1 hP 0 rfl rfl 5 (by decide) (hT _ bw_20) (fun _ h9 => h9) rfl dX11_falses_8 ?_
  refine lv_aload_n hx hb dX11_falses_11 rfl (lv_at hl 0 rfl) ?_
  refine va_get (D := g.1) (ci := 11) (v := .int 0) (C := RX11) (T := TX11) (N := 14) hx hb hT inF_X11 hown hK.1 hP 0 rfl rfl 6 (by decide) (hT _ bw_21) (fun _ h9 => h9) rfl dX11_falses_12 ?_
  refine va_aldq hx hb hK.1 hP 1 4 rfl rfl (i := 0) (by unfold vp_in; decide) dX11_falses_15 ?_
  refine p_tr (x := s0) (rfl) ?_
  refine lv_astore_n (lv' := [(2, .ref s0), (0, .ref x), (1, .int p0)]) hx hb dX11_falses_16 rfl hl (by decide) rfl (fun ls hl => ?_)
  refine lv_iconst (v := 0) hx hb dX11_falses_17 (by decide) ?_
  refine lv_istore_n (lv' := [(3, .int 0), (2, .ref s0), (0, .ref x), (1, .int p0)]) hx hb dX11_falses_18 rfl hl (by decide) rfl (fun ls hl => ?_)
  refine lv_iconst (v := 0) hx hb dX11_falses_19 (by decide) ?_
  refine lv_istore (lv' := [(4, .int 0), (3, .int 0), (2, .ref s0), (0, .ref x), (1, .int p0)]) hx hb dX11_falses_20 hl (by decide) rfl (fun ls hl => ?_)
  refine lv_iload hx hb dX11_falses_22 (lv_at hl 0 rfl) ?_
  refine lv_aload_n hx hb dX11_falses_24 rfl (lv_at hl 2 rfl) ?_
  refine va_get (D := g.1) (ci := 9) (v := .int 0) (C := RX9) (T := TX9) (N := 14) hx hb hT inF_X9 hown hK.1 hP 2 rfl rfl 6 (by decide) (hT _ bw_59) (fun _ h9 => h9) rfl dX11_falses_25 ?_
  refine lv_icmp_ge (tgt := 80) hx hb dX11_falses_28 (by decide) (fun _ => ?_) (fun c9 => absurd (by decide) c9)
  refine lv_iload_n hx hb dX11_falses_80 rfl (lv_at hl 1 rfl) ?_
  have hP9 : va_P g.1 vwCl [] H := hP.sub [] rfl
  have hD9 : va_D A [] := ⟨fun i j p q h => by simp at h, fun k q h => by simp at h⟩
  exact W.iret (v := 0) hx hb hr (fun t ht hW => ⟨⟨0, (), rfl, rfl, by rw [ht]; exact hP9, by rw [hAe]; exact hD9⟩, hS.F ht⟩) hS.2.2 dX11_falses_81
end
section
set_option maxHeartbeats 4000000 in
set_option maxRecDepth 100000 in
theorem c_J7_fill_53178_4 (l : Launch) (g : GG) (sz : Nat) (h : Nat) : Met l yJ7_fill_53178 (.code yJ7_fill_53178 cJ7_fill_53178 4 none :: gT) ({ frames := 0, cells := 0, slots := 0, locals := 0 }) (va_Pc [.ref h, .int 0] (Pst g sz [(h, aI g 4 z0)] nX)) (va_Qv (fun (_ : Unit) => True) (Qst g [(h, aI g 4 z0)] sz (fun _ => [(h, aI g 4 z0)])) (va_A [(h, aI g 4 z0)] sz)) 0 0 (va_A [(h, aI g 4 z0)] sz) := by
  refine Met.ofW (cc := cJ7_fill_53178) (maxL := 4) (ret := none) (by decide) rfl ?_
  intro p e s m args below meth c s₁ B hml hv
  obtain ⟨rfl, hsz, hP, hK, hD0, hX⟩ := hv
  have hx := B.exec
  have hb := B.bytes
  have hr := B.returns
  have hT : ∀ w ∈ gT, w.before _ s = true := fun w h => atoms_spec (ws := .code yJ7_fill_53178 cJ7_fill_53178 4 none :: gT) B.pre w (List.mem_cons_of_mem _ h)
  have hown : s.vm.findClass RJ7 = some m.cls := findClass_of_methodNamed B.named
  have hlocks := B.notSynchronized
  subst hsz
  have hD := hD0.self (sz := s.heap.size)
  generalize hAe : va_A [(h, aI g 4 z0)] s.heap.size = A at hD ⊢
  have hA : ∀ q : Nat, s.heap.size ≤ q → A q := fun q h => by rw [← hAe]; exact Or.inr h
  have hS : va_S A s.heap s.heap [] := va_S.rf
  have hl := lv_entry ([.ref h, .int 0]) (n := 4) (Nat.le_of_ble_eq_true rfl)
  rw [lg_entry_eq]
  generalize (lg_sl ([.ref h, .int 0]) ++ List.replicate (4 - (lg_sl ([.ref h, .int 0])).length) Slot.unset).toArray = ls at hl ⊢
  have hl : lv_has ls 4 [(0, .ref h), (1, .int 0)] := hl
  refine p_nH (fun H hH => ?_)
  have hP : va_P g.1 vwCl [(h, aI g 4 z0)] H := by rw [hH]; exact hP
  have hS : va_S A s.heap H [] := by rw [hH]; exact hS
  refine lv_iconst (v := 0) hx hb dJ7_fill_53178_0 (by decide) ?_
  refine lv_istore_n (lv' := [(2, .int 0), (0, .ref h), (1, .int 0)]) hx hb dJ7_fill_53178_1 rfl hl (by decide) rfl (fun ls hl => ?_)
  refine lv_aload_n hx hb dJ7_fill_53178_2 rfl (lv_at hl 1 rfl) ?_
  refine va_alen (v := 4) hx hb hK.1 hP 0 1 rfl rfl (by decide) dJ7_fill_53178_3 ?_
  refine lv_istore_n (lv' := [(3, .int 4), (2, .int 0), (0, .ref h), (1, .int 0)]) hx hb dJ7_fill_53178_4 rfl hl (by decide) rfl (fun ls hl => ?_)
  refine lv_iload_n hx hb dJ7_fill_53178_5 rfl (lv_at hl 1 rfl) ?_
  refine lv_iload_n hx hb dJ7_fill_53178_6 rfl (lv_at hl 0 rfl) ?_
  refine lv_icmp_ge (tgt := 20) hx hb dJ7_fill_53178_7 (by decide) (fun c9 => absurd c9 (by decide)) (fun _ => ?_)
  refine lv_aload_n hx hb dJ7_fill_53178_10 rfl (lv_at hl 2 rfl) ?_
  refine lv_iload_n hx hb dJ7_fill_53178_11 rfl (lv_at hl 1 rfl) ?_
  refine lv_iload_n hx hb dJ7_fill_53178_12 rfl (lv_at hl 3 rfl) ?_
  refine va_iast hx hb hK.1 hP hD hS 0 1 rfl rfl (i := 0) (x := 0) (by unfold vp_in; decide) dJ7_fill_53178_13 (fun H locs hP hD hS => ?_)
  simp only [z0_u] at hP hD
  have hP : va_P g.1 vwCl [(h, aI g 4 z0)] H := hP
  have hD : va_D A [(h, aI g 4 z0)] := hD
  refine lv_iinc (v := 1) (lv' := [(2, .int 1), (3, .int 4), (0, .ref h), (1, .int 0)]) hx hb dJ7_fill_53178_14 hl (k := 1) rfl (by decide) (by decide) rfl (fun ls hl => ?_)
  refine lv_goto (tgt := 5) hx hb dJ7_fill_53178_17 (by decide) ?_
  refine lv_iload_n hx hb dJ7_fill_53178_5 rfl (lv_at hl 0 rfl) ?_
  refine lv_iload_n hx hb dJ7_fill_53178_6 rfl (lv_at hl 1 rfl) ?_
  refine lv_icmp_ge (tgt := 20) hx hb dJ7_fill_53178_7 (by decide) (fun c9 => absurd c9 (by decide)) (fun _ => ?_)
  refine lv_aload_n hx hb dJ7_fill_53178_10 rfl (lv_at hl 2 rfl) ?_
  refine lv_iload_n hx hb dJ7_fill_53178_11 rfl (lv_at hl 0 rfl) ?_
  refine lv_iload_n hx hb dJ7_fill_53178_12 rfl (lv_at hl 3 rfl) ?_
  refine va_iast hx hb hK.1 hP hD hS 0 1 rfl rfl (i := 1) (x := 0) (by unfold vp_in; decide) dJ7_fill_53178_13 (fun H locs hP hD hS => ?_)
  simp only [z0_u] at hP hD
  have hP : va_P g.1 vwCl [(h, aI g 4 z0)] H := hP
  have hD : va_D A [(h, aI g 4 z0)] := hD
  refine lv_iinc (v := 2) (lv' := [(2, .int 2), (3, .int 4), (0, .ref h), (1, .int 0)]) hx hb dJ7_fill_53178_14 hl (k := 0) rfl (by decide) (by decide) rfl (fun ls hl => ?_)
  refine lv_goto (tgt := 5) hx hb dJ7_fill_53178_17 (by decide) ?_
  refine lv_iload_n hx hb dJ7_fill_53178_5 rfl (lv_at hl 0 rfl) ?_
  refine lv_iload_n hx hb dJ7_fill_53178_6 rfl (lv_at hl 1 rfl) ?_
  refine lv_icmp_ge (tgt := 20) hx hb dJ7_fill_53178_7 (by decide) (fun c9 => absurd c9 (by decide)) (fun _ => ?_)
  refine lv_aload_n hx hb dJ7_fill_53178_10 rfl (lv_at hl 2 rfl) ?_
  refine lv_iload_n hx hb dJ7_fill_53178_11 rfl (lv_at hl 0 rfl) ?_
  refine lv_iload_n hx hb dJ7_fill_53178_12 rfl (lv_at hl 3 rfl) ?_
  refine va_iast hx hb hK.1 hP hD hS 0 1 rfl rfl (i := 2) (x := 0) (by unfold vp_in; decide) dJ7_fill_53178_13 (fun H locs hP hD hS => ?_)
  simp only [z0_u] at hP hD
  have hP : va_P g.1 vwCl [(h, aI g 4 z0)] H := hP
  have hD : va_D A [(h, aI g 4 z0)] := hD
  refine lv_iinc (v := 3) (lv' := [(2, .int 3), (3, .int 4), (0, .ref h), (1, .int 0)]) hx hb dJ7_fill_53178_14 hl (k := 0) rfl (by decide) (by decide) rfl (fun ls hl => ?_)
  refine lv_goto (tgt := 5) hx hb dJ7_fill_53178_17 (by decide) ?_
  refine lv_iload_n hx hb dJ7_fill_53178_5 rfl (lv_at hl 0 rfl) ?_
  refine lv_iload_n hx hb dJ7_fill_53178_6 rfl (lv_at hl 1 rfl) ?_
  refine lv_icmp_ge (tgt := 20) hx hb dJ7_fill_53178_7 (by decide) (fun c9 => absurd c9 (by decide)) (fun _ => ?_)
  refine lv_aload_n hx hb dJ7_fill_53178_10 rfl (lv_at hl 2 rfl) ?_
  refine lv_iload_n hx hb dJ7_fill_53178_11 rfl (lv_at hl 0 rfl) ?_
  refine lv_iload_n hx hb dJ7_fill_53178_12 rfl (lv_at hl 3 rfl) ?_
  refine va_iast hx hb hK.1 hP hD hS 0 1 rfl rfl (i := 3) (x := 0) (by unfold vp_in; decide) dJ7_fill_53178_13 (fun H locs hP hD hS => ?_)
  simp only [z0_u] at hP hD
  have hP : va_P g.1 vwCl [(h, aI g 4 z0)] H := hP
  have hD : va_D A [(h, aI g 4 z0)] := hD
  refine lv_iinc (v := 4) (lv' := [(2, .int 4), (3, .int 4), (0, .ref h), (1, .int 0)]) hx hb dJ7_fill_53178_14 hl (k := 0) rfl (by decide) (by decide) rfl (fun ls hl => ?_)
  refine lv_goto (tgt := 5) hx hb dJ7_fill_53178_17 (by decide) ?_
  refine lv_iload_n hx hb dJ7_fill_53178_5 rfl (lv_at hl 0 rfl) ?_
  refine lv_iload_n hx hb dJ7_fill_53178_6 rfl (lv_at hl 1 rfl) ?_
  refine lv_icmp_ge (tgt := 20) hx hb dJ7_fill_53178_7 (by decide) (fun _ => ?_) (fun c9 => absurd (by decide) c9)
  have hP9 : va_P g.1 vwCl [(h, aI g 4 z0)] H := hP.sub [0] rfl
  have hD9 : va_D A [(h, aI g 4 z0)] := hD.sub [0] (by decide) rfl
  exact W.vret hx hb hr (fun t ht hW => ⟨⟨(), rfl, trivial, by rw [ht]; exact hP9, by rw [hAe]; exact hD9⟩, hS.F ht⟩) hS.2.2 dJ7_fill_53178_20

set_option maxHeartbeats 4000000 in
set_option maxRecDepth 100000 in
theorem c_J7_fill_53178_6 (l : Launch) (g : GG) (sz : Nat) (h : Nat) : Met l yJ7_fill_53178 (.code yJ7_fill_53178 cJ7_fill_53178 4 none :: gT) ({ frames := 0, cells := 0, slots := 0, locals := 0 }) (va_Pc [.ref h, .int 0] (Pst g sz [(h, aI g 6 z0)] nX)) (va_Qv (fun (_ : Unit) => True) (Qst g [(h, aI g 6 z0)] sz (fun _ => [(h, aI g 6 z0)])) (va_A [(h, aI g 6 z0)] sz)) 0 0 (va_A [(h, aI g 6 z0)] sz) := by
  refine Met.ofW (cc := cJ7_fill_53178) (maxL := 4) (ret := none) (by decide) rfl ?_
  intro p e s m args below meth c s₁ B hml hv
  obtain ⟨rfl, hsz, hP, hK, hD0, hX⟩ := hv
  have hx := B.exec
  have hb := B.bytes
  have hr := B.returns
  have hT : ∀ w ∈ gT, w.before _ s = true := fun w h => atoms_spec (ws := .code yJ7_fill_53178 cJ7_fill_53178 4 none :: gT) B.pre w (List.mem_cons_of_mem _ h)
  have hown : s.vm.findClass RJ7 = some m.cls := findClass_of_methodNamed B.named
  have hlocks := B.notSynchronized
  subst hsz
  have hD := hD0.self (sz := s.heap.size)
  generalize hAe : va_A [(h, aI g 6 z0)] s.heap.size = A at hD ⊢
  have hA : ∀ q : Nat, s.heap.size ≤ q → A q := fun q h => by rw [← hAe]; exact Or.inr h
  have hS : va_S A s.heap s.heap [] := va_S.rf
  have hl := lv_entry ([.ref h, .int 0]) (n := 4) (Nat.le_of_ble_eq_true rfl)
  rw [lg_entry_eq]
  generalize (lg_sl ([.ref h, .int 0]) ++ List.replicate (4 - (lg_sl ([.ref h, .int 0])).length) Slot.unset).toArray = ls at hl ⊢
  have hl : lv_has ls 4 [(0, .ref h), (1, .int 0)] := hl
  refine p_nH (fun H hH => ?_)
  have hP : va_P g.1 vwCl [(h, aI g 6 z0)] H := by rw [hH]; exact hP
  have hS : va_S A s.heap H [] := by rw [hH]; exact hS
  refine lv_iconst (v := 0) hx hb dJ7_fill_53178_0 (by decide) ?_
  refine lv_istore_n (lv' := [(2, .int 0), (0, .ref h), (1, .int 0)]) hx hb dJ7_fill_53178_1 rfl hl (by decide) rfl (fun ls hl => ?_)
  refine lv_aload_n hx hb dJ7_fill_53178_2 rfl (lv_at hl 1 rfl) ?_
  refine va_alen (v := 6) hx hb hK.1 hP 0 1 rfl rfl (by decide) dJ7_fill_53178_3 ?_
  refine lv_istore_n (lv' := [(3, .int 6), (2, .int 0), (0, .ref h), (1, .int 0)]) hx hb dJ7_fill_53178_4 rfl hl (by decide) rfl (fun ls hl => ?_)
  refine lv_iload_n hx hb dJ7_fill_53178_5 rfl (lv_at hl 1 rfl) ?_
  refine lv_iload_n hx hb dJ7_fill_53178_6 rfl (lv_at hl 0 rfl) ?_
  refine lv_icmp_ge (tgt := 20) hx hb dJ7_fill_53178_7 (by decide) (fun c9 => absurd c9 (by decide)) (fun _ => ?_)
  refine lv_aload_n hx hb dJ7_fill_53178_10 rfl (lv_at hl 2 rfl) ?_
  refine lv_iload_n hx hb dJ7_fill_53178_11 rfl (lv_at hl 1 rfl) ?_
  refine lv_iload_n hx hb dJ7_fill_53178_12 rfl (lv_at hl 3 rfl) ?_
  refine va_iast hx hb hK.1 hP hD hS 0 1 rfl rfl (i := 0) (x := 0) (by unfold vp_in; decide) dJ7_fill_53178_13 (fun H locs hP hD hS => ?_)
  simp only [z0_u] at hP hD
  have hP : va_P g.1 vwCl [(h, aI g 6 z0)] H := hP
  have hD : va_D A [(h, aI g 6 z0)] := hD
  refine lv_iinc (v := 1) (lv' := [(2, .int 1), (3, .int 6), (0, .ref h), (1, .int 0)]) hx hb dJ7_fill_53178_14 hl (k := 1) rfl (by decide) (by decide) rfl (fun ls hl => ?_)
  refine lv_goto (tgt := 5) hx hb dJ7_fill_53178_17 (by decide) ?_
  refine lv_iload_n hx hb dJ7_fill_53178_5 rfl (lv_at hl 0 rfl) ?_
  refine lv_iload_n hx hb dJ7_fill_53178_6 rfl (lv_at hl 1 rfl) ?_
  refine lv_icmp_ge (tgt := 20) hx hb dJ7_fill_53178_7 (by decide) (fun c9 => absurd c9 (by decide)) (fun _ => ?_)
  refine lv_aload_n hx hb dJ7_fill_53178_10 rfl (lv_at hl 2 rfl) ?_
  refine lv_iload_n hx hb dJ7_fill_53178_11 rfl (lv_at hl 0 rfl) ?_
  refine lv_iload_n hx hb dJ7_fill_53178_12 rfl (lv_at hl 3 rfl) ?_
  refine va_iast hx hb hK.1 hP hD hS 0 1 rfl rfl (i := 1) (x := 0) (by unfold vp_in; decide) dJ7_fill_53178_13 (fun H locs hP hD hS => ?_)
  simp only [z0_u] at hP hD
  have hP : va_P g.1 vwCl [(h, aI g 6 z0)] H := hP
  have hD : va_D A [(h, aI g 6 z0)] := hD
  refine lv_iinc (v := 2) (lv' := [(2, .int 2), (3, .int 6), (0, .ref h), (1, .int 0)]) hx hb dJ7_fill_53178_14 hl (k := 0) rfl (by decide) (by decide) rfl (fun ls hl => ?_)
  refine lv_goto (tgt := 5) hx hb dJ7_fill_53178_17 (by decide) ?_
  refine lv_iload_n hx hb dJ7_fill_53178_5 rfl (lv_at hl 0 rfl) ?_
  refine lv_iload_n hx hb dJ7_fill_53178_6 rfl (lv_at hl 1 rfl) ?_
  refine lv_icmp_ge (tgt := 20) hx hb dJ7_fill_53178_7 (by decide) (fun c9 => absurd c9 (by decide)) (fun _ => ?_)
  refine lv_aload_n hx hb dJ7_fill_53178_10 rfl (lv_at hl 2 rfl) ?_
  refine lv_iload_n hx hb dJ7_fill_53178_11 rfl (lv_at hl 0 rfl) ?_
  refine lv_iload_n hx hb dJ7_fill_53178_12 rfl (lv_at hl 3 rfl) ?_
  refine va_iast hx hb hK.1 hP hD hS 0 1 rfl rfl (i := 2) (x := 0) (by unfold vp_in; decide) dJ7_fill_53178_13 (fun H locs hP hD hS => ?_)
  simp only [z0_u] at hP hD
  have hP : va_P g.1 vwCl [(h, aI g 6 z0)] H := hP
  have hD : va_D A [(h, aI g 6 z0)] := hD
  refine lv_iinc (v := 3) (lv' := [(2, .int 3), (3, .int 6), (0, .ref h), (1, .int 0)]) hx hb dJ7_fill_53178_14 hl (k := 0) rfl (by decide) (by decide) rfl (fun ls hl => ?_)
  refine lv_goto (tgt := 5) hx hb dJ7_fill_53178_17 (by decide) ?_
  refine lv_iload_n hx hb dJ7_fill_53178_5 rfl (lv_at hl 0 rfl) ?_
  refine lv_iload_n hx hb dJ7_fill_53178_6 rfl (lv_at hl 1 rfl) ?_
  refine lv_icmp_ge (tgt := 20) hx hb dJ7_fill_53178_7 (by decide) (fun c9 => absurd c9 (by decide)) (fun _ => ?_)
  refine lv_aload_n hx hb dJ7_fill_53178_10 rfl (lv_at hl 2 rfl) ?_
  refine lv_iload_n hx hb dJ7_fill_53178_11 rfl (lv_at hl 0 rfl) ?_
  refine lv_iload_n hx hb dJ7_fill_53178_12 rfl (lv_at hl 3 rfl) ?_
  refine va_iast hx hb hK.1 hP hD hS 0 1 rfl rfl (i := 3) (x := 0) (by unfold vp_in; decide) dJ7_fill_53178_13 (fun H locs hP hD hS => ?_)
  simp only [z0_u] at hP hD
  have hP : va_P g.1 vwCl [(h, aI g 6 z0)] H := hP
  have hD : va_D A [(h, aI g 6 z0)] := hD
  refine lv_iinc (v := 4) (lv' := [(2, .int 4), (3, .int 6), (0, .ref h), (1, .int 0)]) hx hb dJ7_fill_53178_14 hl (k := 0) rfl (by decide) (by decide) rfl (fun ls hl => ?_)
  refine lv_goto (tgt := 5) hx hb dJ7_fill_53178_17 (by decide) ?_
  refine lv_iload_n hx hb dJ7_fill_53178_5 rfl (lv_at hl 0 rfl) ?_
  refine lv_iload_n hx hb dJ7_fill_53178_6 rfl (lv_at hl 1 rfl) ?_
  refine lv_icmp_ge (tgt := 20) hx hb dJ7_fill_53178_7 (by decide) (fun c9 => absurd c9 (by decide)) (fun _ => ?_)
  refine lv_aload_n hx hb dJ7_fill_53178_10 rfl (lv_at hl 2 rfl) ?_
  refine lv_iload_n hx hb dJ7_fill_53178_11 rfl (lv_at hl 0 rfl) ?_
  refine lv_iload_n hx hb dJ7_fill_53178_12 rfl (lv_at hl 3 rfl) ?_
  refine va_iast hx hb hK.1 hP hD hS 0 1 rfl rfl (i := 4) (x := 0) (by unfold vp_in; decide) dJ7_fill_53178_13 (fun H locs hP hD hS => ?_)
  simp only [z0_u] at hP hD
  have hP : va_P g.1 vwCl [(h, aI g 6 z0)] H := hP
  have hD : va_D A [(h, aI g 6 z0)] := hD
  refine lv_iinc (v := 5) (lv' := [(2, .int 5), (3, .int 6), (0, .ref h), (1, .int 0)]) hx hb dJ7_fill_53178_14 hl (k := 0) rfl (by decide) (by decide) rfl (fun ls hl => ?_)
  refine lv_goto (tgt := 5) hx hb dJ7_fill_53178_17 (by decide) ?_
  refine lv_iload_n hx hb dJ7_fill_53178_5 rfl (lv_at hl 0 rfl) ?_
  refine lv_iload_n hx hb dJ7_fill_53178_6 rfl (lv_at hl 1 rfl) ?_
  refine lv_icmp_ge (tgt := 20) hx hb dJ7_fill_53178_7 (by decide) (fun c9 => absurd c9 (by decide)) (fun _ => ?_)
  refine lv_aload_n hx hb dJ7_fill_53178_10 rfl (lv_at hl 2 rfl) ?_
  refine lv_iload_n hx hb dJ7_fill_53178_11 rfl (lv_at hl 0 rfl) ?_
  refine lv_iload_n hx hb dJ7_fill_53178_12 rfl (lv_at hl 3 rfl) ?_
  refine va_iast hx hb hK.1 hP hD hS 0 1 rfl rfl (i := 5) (x := 0) (by unfold vp_in; decide) dJ7_fill_53178_13 (fun H locs hP hD hS => ?_)
  simp only [z0_u] at hP hD
  have hP : va_P g.1 vwCl [(h, aI g 6 z0)] H := hP
  have hD : va_D A [(h, aI g 6 z0)] := hD
  refine lv_iinc (v := 6) (lv' := [(2, .int 6), (3, .int 6), (0, .ref h), (1, .int 0)]) hx hb dJ7_fill_53178_14 hl (k := 0) rfl (by decide) (by decide) rfl (fun ls hl => ?_)
  refine lv_goto (tgt := 5) hx hb dJ7_fill_53178_17 (by decide) ?_
  refine lv_iload_n hx hb dJ7_fill_53178_5 rfl (lv_at hl 0 rfl) ?_
  refine lv_iload_n hx hb dJ7_fill_53178_6 rfl (lv_at hl 1 rfl) ?_
  refine lv_icmp_ge (tgt := 20) hx hb dJ7_fill_53178_7 (by decide) (fun _ => ?_) (fun c9 => absurd (by decide) c9)
  have hP9 : va_P g.1 vwCl [(h, aI g 6 z0)] H := hP.sub [0] rfl
  have hD9 : va_D A [(h, aI g 6 z0)] := hD.sub [0] (by decide) rfl
  exact W.vret hx hb hr (fun t ht hW => ⟨⟨(), rfl, trivial, by rw [ht]; exact hP9, by rw [hAe]; exact hD9⟩, hS.F ht⟩) hS.2.2 dJ7_fill_53178_20

set_option maxHeartbeats 4000000 in
set_option maxRecDepth 100000 in
theorem c_X0_clear (l : Launch) (g : GG) (sz : Nat) (h : Nat) (f1 : Nat) (f2 : Nat) (f3 : Nat) (f4 : Nat) : Met l yX0_clear (.code yX0_clear cX0_clear 1 none :: gT) ({ frames := 0, cells := 0, slots := 0, locals := 0 }) (va_Pc [.ref h] (Pst g sz [(h, .inr (0, [.int 0, .int 0, .ref f1, .int 0, .int 0, .ref f2, .ref f3, .ref f4]))] nX)) (va_Qv (fun (_ : Unit) => True) (Qst g [(h, .inr (0, [.int 0, .int 0, .ref f1, .int 0, .int 0, .ref f2, .ref f3, .ref f4]))] sz (fun _ => [(h, .inr (0, [.int 0, .int 0, .ref f1, .int 0, .int 0, .ref f2, .ref f3, .ref f4]))])) (va_A [(h, .inr (0, [.int 0, .int 0, .ref f1, .int 0, .int 0, .ref f2, .ref f3, .ref f4]))] sz)) 0 0 (va_A [(h, .inr (0, [.int 0, .int 0, .ref f1, .int 0, .int 0, .ref f2, .ref f3, .ref f4]))] sz) := by
  refine Met.ofW (cc := cX0_clear) (maxL := 1) (ret := none) (by decide) rfl ?_
  intro p e s m args below meth c s₁ B hml hv
  obtain ⟨rfl, hsz, hP, hK, hD0, hX⟩ := hv
  have hx := B.exec
  have hb := B.bytes
  have hr := B.returns
  have hT : ∀ w ∈ gT, w.before _ s = true := fun w h => atoms_spec (ws := .code yX0_clear cX0_clear 1 none :: gT) B.pre w (List.mem_cons_of_mem _ h)
  have hown : s.vm.findClass RX0 = some m.cls := findClass_of_methodNamed B.named
  have hlocks := B.notSynchronized
  subst hsz
  have hD := hD0.self (sz := s.heap.size)
  generalize hAe : va_A [(h, .inr (0, [.int 0, .int 0, .ref f1, .int 0, .int 0, .ref f2, .ref f3, .ref f4]))] s.heap.size = A at hD ⊢
  have hA : ∀ q : Nat, s.heap.size ≤ q → A q := fun q h => by rw [← hAe]; exact Or.inr h
  have hS : va_S A s.heap s.heap [] := va_S.rf
  have hl := lv_entry ([.ref h]) (n := 1) (Nat.le_of_ble_eq_true rfl)
  rw [lg_entry_eq]
  generalize (lg_sl ([.ref h]) ++ List.replicate (1 - (lg_sl ([.ref h])).length) Slot.unset).toArray = ls at hl ⊢
  have hl : lv_has ls 1 [(0, .ref h)] := hl
  refine p_nH (fun H hH => ?_)
  have hP : va_P g.1 vwCl [(h, .inr (0, [.int 0, .int 0, .ref f1, .int 0, .int 0, .ref f2, .ref f3, .ref f4]))] H := by rw [hH]; exact hP
  have hS : va_S A s.heap H [] := by rw [hH]; exact hS
  refine lv_aload_n hx hb dX0_clear_0 rfl (lv_at hl 0 rfl) ?_
  refine lv_iconst (v := 0) hx hb dX0_clear_1 (by decide) ?_
  refine va_put (D := g.1) (ci := 0) (v := .int 0) (ty := .int) (C := RX0) (T := TX0) (N := 8) hx hb hT inF_X0 tyX0 tyX0_ok nmX0 hown hK.1 hP hD hS 0 rfl rfl 0 (by decide) (hT _ bw_80) (fun _ h9 => h9) rfl (by decide +kernel) rfl rfl (Nat.le_of_ble_eq_true rfl) dX0_clear_2 (fun H locs hP hD hS => ?_)
  have hP : va_P g.1 vwCl [(h, .inr (0, [.int 0, .int 0, .ref f1, .int 0, .int 0, .ref f2, .ref f3, .ref f4]))] H := hP
  have hD : va_D A [(h, .inr (0, [.int 0, .int 0, .ref f1, .int 0, .int 0, .ref f2, .ref f3, .ref f4]))] := hD
  refine lv_aload_n hx hb dX0_clear_5 rfl (lv_at hl 0 rfl) ?_
  refine lv_iconst (v := 0) hx hb dX0_clear_6 (by decide) ?_
  refine va_put (D := g.1) (ci := 0) (v := .int 0) (ty := .int) (C := RX0) (T := TX0) (N := 8) hx hb hT inF_X0 tyX0 tyX0_ok nmX0 hown hK.1 hP hD hS 0 rfl rfl 1 (by decide) (hT _ bw_81) (fun _ h9 => h9) rfl (by decide +kernel) rfl rfl (Nat.le_of_ble_eq_true rfl) dX0_clear_7 (fun H locs hP hD hS => ?_)
  have hP : va_P g.1 vwCl [(h, .inr (0, [.int 0, .int 0, .ref f1, .int 0, .int 0, .ref f2, .ref f3, .ref f4]))] H := hP
  have hD : va_D A [(h, .inr (0, [.int 0, .int 0, .ref f1, .int 0, .int 0, .ref f2, .ref f3, .ref f4]))] := hD
  refine lv_aload_n hx hb dX0_clear_10 rfl (lv_at hl 0 rfl) ?_
  refine lv_iconst (v := 0) hx hb dX0_clear_11 (by decide) ?_
  refine va_put (D := g.1) (ci := 0) (v := .int 0) (ty := .int) (C := RX0) (T := TX0) (N := 8) hx hb hT inF_X0 tyX0 tyX0_ok nmX0 hown hK.1 hP hD hS 0 rfl rfl 4 (by decide) (hT _ bw_82) (fun _ h9 => h9) rfl (by decide +kernel) rfl rfl (Nat.le_of_ble_eq_true rfl) dX0_clear_12 (fun H locs hP hD hS => ?_)
  have hP : va_P g.1 vwCl [(h, .inr (0, [.int 0, .int 0, .ref f1, .int 0, .int 0, .ref f2, .ref f3, .ref f4]))] H := hP
  have hD : va_D A [(h, .inr (0, [.int 0, .int 0, .ref f1, .int 0, .int 0, .ref f2, .ref f3, .ref f4]))] := hD
  have hP9 : va_P g.1 vwCl [(h, .inr (0, [.int 0, .int 0, .ref f1, .int 0, .int 0, .ref f2, .ref f3, .ref f4]))] H := hP.sub [0] rfl
  have hD9 : va_D A [(h, .inr (0, [.int 0, .int 0, .ref f1, .int 0, .int 0, .ref f2, .ref f3, .ref f4]))] := hD.sub [0] (by decide) rfl
  exact W.vret hx hb hr (fun t ht hW => ⟨⟨(), rfl, trivial, by rw [ht]; exact hP9, by rw [hAe]; exact hD9⟩, hS.F ht⟩) hS.2.2 dX0_clear_15

set_option maxHeartbeats 4000000 in
set_option maxRecDepth 100000 in
theorem c_X2_clear (l : Launch) (g : GG) (sz : Nat) (la : Nat) (mea : Nat) (foa : Nat) (rea : Nat) (d1a : Nat) (d2a : Nat) (d3a : Nat) (m1a : Nat) (m2a : Nat) (m3a : Nat) (m4a : Nat) (f1a : Nat) (f2a : Nat) (f3a : Nat) (f4a : Nat) (r1a : Nat) (r2a : Nat) (r3a : Nat) (r4a : Nat) (r5a : Nat) (r6a : Nat) (r7a : Nat) : Met l yX2_clear (.code yX2_clear cX2_clear 1 none :: gT) ({ frames := 1, cells := 0, slots := 0, locals := 23 }) (va_Pc [.ref la] (Pst g sz [(la, .inr (2, [.ref mea, .ref foa, .ref rea, .int 0, .ref d1a, .ref d2a, .int 9, .int 0, .ref d3a])), (mea, .inr (3, [.int 0, .ref m1a, .ref m2a, .ref m3a, .ref m4a])), (foa, .inr (0, [.int 0, .int 0, .ref f1a, .int 0, .int 0, .ref f2a, .ref f3a, .ref f4a])), (rea, .inr (6, [.int 0, .ref r1a, .ref r2a, .ref r3a, .ref r4a, .ref r5a, .ref r6a, .ref r7a])), (d3a, aI g 4 z0)] nX)) (va_Qv (fun (_ : Unit) => True) (Qst g [(la, .inr (2, [.ref mea, .ref foa, .ref rea, .int 0, .ref d1a, .ref d2a, .int 9, .int 0, .ref d3a])), (mea, .inr (3, [.int 0, .ref m1a, .ref m2a, .ref m3a, .ref m4a])), (foa, .inr (0, [.int 0, .int 0, .ref f1a, .int 0, .int 0, .ref f2a, .ref f3a, .ref f4a])), (rea, .inr (6, [.int 0, .ref r1a, .ref r2a, .ref r3a, .ref r4a, .ref r5a, .ref r6a, .ref r7a])), (d3a, aI g 4 z0)] sz (fun _ => [(la, .inr (2, [.ref mea, .ref foa, .ref rea, .int 0, .ref d1a, .ref d2a, .int 9, .int 0, .ref d3a])), (mea, .inr (3, [.int 0, .ref m1a, .ref m2a, .ref m3a, .ref m4a])), (rea, .inr (6, [.int 0, .ref r1a, .ref r2a, .ref r3a, .ref r4a, .ref r5a, .ref r6a, .ref r7a])), (foa, .inr (0, [.int 0, .int 0, .ref f1a, .int 0, .int 0, .ref f2a, .ref f3a, .ref f4a])), (d3a, aI g 4 z0)])) (va_A [(la, .inr (2, [.ref mea, .ref foa, .ref rea, .int 0, .ref d1a, .ref d2a, .int 9, .int 0, .ref d3a])), (mea, .inr (3, [.int 0, .ref m1a, .ref m2a, .ref m3a, .ref m4a])), (foa, .inr (0, [.int 0, .int 0, .ref f1a, .int 0, .int 0, .ref f2a, .ref f3a, .ref f4a])), (rea, .inr (6, [.int 0, .ref r1a, .ref r2a, .ref r3a, .ref r4a, .ref r5a, .ref r6a, .ref r7a])), (d3a, aI g 4 z0)] sz)) 0 0 (va_A [(la, .inr (2, [.ref mea, .ref foa, .ref rea, .int 0, .ref d1a, .ref d2a, .int 9, .int 0, .ref d3a])), (mea, .inr (3, [.int 0, .ref m1a, .ref m2a, .ref m3a, .ref m4a])), (foa, .inr (0, [.int 0, .int 0, .ref f1a, .int 0, .int 0, .ref f2a, .ref f3a, .ref f4a])), (rea, .inr (6, [.int 0, .ref r1a, .ref r2a, .ref r3a, .ref r4a, .ref r5a, .ref r6a, .ref r7a])), (d3a, aI g 4 z0)] sz) := by
  refine Met.ofW (cc := cX2_clear) (maxL := 1) (ret := none) (by decide) rfl ?_
  intro p e s m args below meth c s₁ B hml hv
  obtain ⟨rfl, hsz, hP, hK, hD0, hX⟩ := hv
  have hx := B.exec
  have hb := B.bytes
  have hr := B.returns
  have hT : ∀ w ∈ gT, w.before _ s = true := fun w h => atoms_spec (ws := .code yX2_clear cX2_clear 1 none :: gT) B.pre w (List.mem_cons_of_mem _ h)
  have hown : s.vm.findClass RX2 = some m.cls := findClass_of_methodNamed B.named
  have hlocks := B.notSynchronized
  subst hsz
  have hD := hD0.self (sz := s.heap.size)
  generalize hAe : va_A [(la, .inr (2, [.ref mea, .ref foa, .ref rea, .int 0, .ref d1a, .ref d2a, .int 9, .int 0, .ref d3a])), (mea, .inr (3, [.int 0, .ref m1a, .ref m2a, .ref m3a, .ref m4a])), (foa, .inr (0, [.int 0, .int 0, .ref f1a, .int 0, .int 0, .ref f2a, .ref f3a, .ref f4a])), (rea, .inr (6, [.int 0, .ref r1a, .ref r2a, .ref r3a, .ref r4a, .ref r5a, .ref r6a, .ref r7a])), (d3a, aI g 4 z0)] s.heap.size = A at hD ⊢
  have hA : ∀ q : Nat, s.heap.size ≤ q → A q := fun q h => by rw [← hAe]; exact Or.inr h
  have hS : va_S A s.heap s.heap [] := va_S.rf
  have hl := lv_entry ([.ref la]) (n := 1) (Nat.le_of_ble_eq_true rfl)
  rw [lg_entry_eq]
  generalize (lg_sl ([.ref la]) ++ List.replicate (1 - (lg_sl ([.ref la])).length) Slot.unset).toArray = ls at hl ⊢
  have hl : lv_has ls 1 [(0, .ref la)] := hl
  refine p_nH (fun H hH => ?_)
  have hP : va_P g.1 vwCl [(la, .inr (2, [.ref mea, .ref foa, .ref rea, .int 0, .ref d1a, .ref d2a, .int 9, .int 0, .ref d3a])), (mea, .inr (3, [.int 0, .ref m1a, .ref m2a, .ref m3a, .ref m4a])), (foa, .inr (0, [.int 0, .int 0, .ref f1a, .int 0, .int 0, .ref f2a, .ref f3a, .ref f4a])), (rea, .inr (6, [.int 0, .ref r1a, .ref r2a, .ref r3a, .ref r4a, .ref r5a, .ref r6a, .ref r7a])), (d3a, aI g 4 z0)] H := by rw [hH]; exact hP
  have hS : va_S A s.heap H [] := by rw [hH]; exact hS
  refine lv_aload_n hx hb dX2_clear_0 rfl (lv_at hl 0 rfl) ?_
  refine va_get (D := g.1) (ci := 2) (v := .ref mea) (C := RX2) (T := TX2) (N := 9) hx hb hT inF_X2 hown hK.1 hP 0 rfl rfl 0 (by decide) (hT _ bw_84) (fun _ h9 => h9) rfl dX2_clear_1 ?_
  refine lv_iconst (v := 0) hx hb dX2_clear_4 (by decide) ?_
  refine va_put (D := g.1) (ci := 3) (v := .int 0) (ty := .int) (C := RX3) (T := TX3) (N := 5) hx hb hT inF_X3 tyX3 tyX3_ok nmX3 hown hK.1 hP hD hS 1 rfl rfl 0 (by decide) (hT _ bw_85) (fun _ h9 => h9) rfl (by decide +kernel) rfl rfl (Nat.le_of_ble_eq_true rfl) dX2_clear_5 (fun H locs hP hD hS => ?_)
  have hP : va_P g.1 vwCl [(la, .inr (2, [.ref mea, .ref foa, .ref rea, .int 0, .ref d1a, .ref d2a, .int 9, .int 0, .ref d3a])), (mea, .inr (3, [.int 0, .ref m1a, .ref m2a, .ref m3a, .ref m4a])), (foa, .inr (0, [.int 0, .int 0, .ref f1a, .int 0, .int 0, .ref f2a, .ref f3a, .ref f4a])), (rea, .inr (6, [.int 0, .ref r1a, .ref r2a, .ref r3a, .ref r4a, .ref r5a, .ref r6a, .ref r7a])), (d3a, aI g 4 z0)] H := hP
  have hD : va_D A [(la, .inr (2, [.ref mea, .ref foa, .ref rea, .int 0, .ref d1a, .ref d2a, .int 9, .int 0, .ref d3a])), (mea, .inr (3, [.int 0, .ref m1a, .ref m2a, .ref m3a, .ref m4a])), (foa, .inr (0, [.int 0, .int 0, .ref f1a, .int 0, .int 0, .ref f2a, .ref f3a, .ref f4a])), (rea, .inr (6, [.int 0, .ref r1a, .ref r2a, .ref r3a, .ref r4a, .ref r5a, .ref r6a, .ref r7a])), (d3a, aI g 4 z0)] := hD
  refine lv_aload_n hx hb dX2_clear_8 rfl (lv_at hl 0 rfl) ?_
  refine va_get (D := g.1) (ci := 2) (v := .ref foa) (C := RX2) (T := TX2) (N := 9) hx hb hT inF_X2 hown hK.1 hP 0 rfl rfl 1 (by decide) (hT _ bw_86) (fun _ h9 => h9) rfl dX2_clear_9 ?_
  refine k_v (wr := [(la, .inr (2, [.ref mea, .ref foa, .ref rea, .int 0, .ref d1a, .ref d2a, .int 9, .int 0, .ref d3a])), (mea, .inr (3, [.int 0, .ref m1a, .ref m2a, .ref m3a, .ref m4a])), (rea, .inr (6, [.int 0, .ref r1a, .ref r2a, .ref r3a, .ref r4a, .ref r5a, .ref r6a, .ref r7a])), (d3a, aI g 4 z0)]) (k_V (n := 0) ⟨hx, hb, hml, hown, hT⟩ hK hP hD [2] rfl (by decide) (c_X0_clear l g H.size foa f1a f2a f3a f4a) (gV bw_87 bw_88 bw_89 bw_90 bw_83) rfl rfl (by decide +kernel) ⟨by decide, by decide⟩ (ci := 0) (q0 := 0) rfl rfl (fun _ _ _ _ _ => trivial) (fun _ _ _ => trivial) rfl rfl hl.1 (Nat.le_of_ble_eq_true rfl) dX2_clear_12 ⟨by decide, by decide⟩) hP hD hS hA [2] [0, 1, 3, 4] rfl rfl (by decide) (by decide) (fun u H locs hw hP hD hS => ?_)
  have hP : va_P g.1 vwCl [(la, .inr (2, [.ref mea, .ref foa, .ref rea, .int 0, .ref d1a, .ref d2a, .int 9, .int 0, .ref d3a])), (mea, .inr (3, [.int 0, .ref m1a, .ref m2a, .ref m3a, .ref m4a])), (rea, .inr (6, [.int 0, .ref r1a, .ref r2a, .ref r3a, .ref r4a, .ref r5a, .ref r6a, .ref r7a])), (d3a, aI g 4 z0), (foa, .inr (0, [.int 0, .int 0, .ref f1a, .int 0, .int 0, .ref f2a, .ref f3a, .ref f4a]))] H := hP
  have hD : va_D A [(la, .inr (2, [.ref mea, .ref foa, .ref rea, .int 0, .ref d1a, .ref d2a, .int 9, .int 0, .ref d3a])), (mea, .inr (3, [.int 0, .ref m1a, .ref m2a, .ref m3a, .ref m4a])), (rea, .inr (6, [.int 0, .ref r1a, .ref r2a, .ref r3a, .ref r4a, .ref r5a, .ref r6a, .ref r7a])), (d3a, aI g 4 z0), (foa, .inr (0, [.int 0, .int 0, .ref f1a, .int 0, .int 0, .ref f2a, .ref f3a, .ref f4a]))] := hD
  refine lv_aload_n hx hb dX2_clear_15 rfl (lv_at hl 0 rfl) ?_
  refine va_get (D := g.1) (ci := 2) (v := .ref rea) (C := RX2) (T := TX2) (N := 9) hx hb hT inF_X2 hown hK.1 hP 0 rfl rfl 2 (by decide) (hT _ bw_91) (fun _ h9 => h9) rfl dX2_clear_16 ?_
  refine lv_iconst (v := 0) hx hb dX2_clear_19 (by decide) ?_
  refine va_put (D := g.1) (ci := 6) (v := .int 0) (ty := .int) (C := RX6) (T := TX6) (N := 8) hx hb hT inF_X6 tyX6 tyX6_ok nmX6 hown hK.1 hP hD hS 2 rfl rfl 0 (by decide) (hT _ bw_92) (fun _ h9 => h9) rfl (by decide +kernel) rfl rfl (Nat.le_of_ble_eq_true rfl) dX2_clear_20 (fun H locs hP hD hS => ?_)
  have hP : va_P g.1 vwCl [(la, .inr (2, [.ref mea, .ref foa, .ref rea, .int 0, .ref d1a, .ref d2a, .int 9, .int 0, .ref d3a])), (mea, .inr (3, [.int 0, .ref m1a, .ref m2a, .ref m3a, .ref m4a])), (rea, .inr (6, [.int 0, .ref r1a, .ref r2a, .ref r3a, .ref r4a, .ref r5a, .ref r6a, .ref r7a])), (d3a, aI g 4 z0), (foa, .inr (0, [.int 0, .int 0, .ref f1a, .int 0, .int 0, .ref f2a, .ref f3a, .ref f4a]))] H := hP
  have hD : va_D A [(la, .inr (2, [.ref mea, .ref foa, .ref rea, .int 0, .ref d1a, .ref d2a, .int 9, .int 0, .ref d3a])), (mea, .inr (3, [.int 0, .ref m1a, .ref m2a, .ref m3a, .ref m4a])), (rea, .inr (6, [.int 0, .ref r1a, .ref r2a, .ref r3a, .ref r4a, .ref r5a, .ref r6a, .ref r7a])), (d3a, aI g 4 z0), (foa, .inr (0, [.int 0, .int 0, .ref f1a, .int 0, .int 0, .ref f2a, .ref f3a, .ref f4a]))] := hD
  refine lv_aload_n hx hb dX2_clear_23 rfl (lv_at hl 0 rfl) ?_
  refine lv_iconst (v := 0) hx hb dX2_clear_24 (by decide) ?_
  refine va_put (D := g.1) (ci := 2) (v := .int 0) (ty := .int) (C := RX2) (T := TX2) (N := 9) hx hb hT inF_X2 tyX2 tyX2_ok nmX2 hown hK.1 hP hD hS 0 rfl rfl 3 (by decide) (hT _ bw_93) (fun _ h9 => h9) rfl (by decide +kernel) rfl rfl (Nat.le_of_ble_eq_true rfl) dX2_clear_25 (fun H locs hP hD hS => ?_)
  have hP : va_P g.1 vwCl [(la, .inr (2, [.ref mea, .ref foa, .ref rea, .int 0, .ref d1a, .ref d2a, .int 9, .int 0, .ref d3a])), (mea, .inr (3, [.int 0, .ref m1a, .ref m2a, .ref m3a, .ref m4a])), (rea, .inr (6, [.int 0, .ref r1a, .ref r2a, .ref r3a, .ref r4a, .ref r5a, .ref r6a, .ref r7a])), (d3a, aI g 4 z0), (foa, .inr (0, [.int 0, .int 0, .ref f1a, .int 0, .int 0, .ref f2a, .ref f3a, .ref f4a]))] H := hP
  have hD : va_D A [(la, .inr (2, [.ref mea, .ref foa, .ref rea, .int 0, .ref d1a, .ref d2a, .int 9, .int 0, .ref d3a])), (mea, .inr (3, [.int 0, .ref m1a, .ref m2a, .ref m3a, .ref m4a])), (rea, .inr (6, [.int 0, .ref r1a, .ref r2a, .ref r3a, .ref r4a, .ref r5a, .ref r6a, .ref r7a])), (d3a, aI g 4 z0), (foa, .inr (0, [.int 0, .int 0, .ref f1a, .int 0, .int 0, .ref f2a, .ref f3a, .ref f4a]))] := hD
  refine lv_aload_n hx hb dX2_clear_28 rfl (lv_at hl 0 rfl) ?_
  refine lv_bipush (v := 9) hx hb dX2_clear_29 (by decide) ?_
  refine va_put (D := g.1) (ci := 2) (v := .int 9) (ty := .int) (C := RX2) (T := TX2) (N := 9) hx hb hT inF_X2 tyX2 tyX2_ok nmX2 hown hK.1 hP hD hS 0 rfl rfl 6 (by decide) (hT _ bw_94) (fun _ h9 => h9) rfl (by decide +kernel) rfl rfl (Nat.le_of_ble_eq_true rfl) dX2_clear_31 (fun H locs hP hD hS => ?_)
  have hP : va_P g.1 vwCl [(la, .inr (2, [.ref mea, .ref foa, .ref rea, .int 0, .ref d1a, .ref d2a, .int 9, .int 0, .ref d3a])), (mea, .inr (3, [.int 0, .ref m1a, .ref m2a, .ref m3a, .ref m4a])), (rea, .inr (6, [.int 0, .ref r1a, .ref r2a, .ref r3a, .ref r4a, .ref r5a, .ref r6a, .ref r7a])), (d3a, aI g 4 z0), (foa, .inr (0, [.int 0, .int 0, .ref f1a, .int 0, .int 0, .ref f2a, .ref f3a, .ref f4a]))] H := hP
  have hD : va_D A [(la, .inr (2, [.ref mea, .ref foa, .ref rea, .int 0, .ref d1a, .ref d2a, .int 9, .int 0, .ref d3a])), (mea, .inr (3, [.int 0, .ref m1a, .ref m2a, .ref m3a, .ref m4a])), (rea, .inr (6, [.int 0, .ref r1a, .ref r2a, .ref r3a, .ref r4a, .ref r5a, .ref r6a, .ref r7a])), (d3a, aI g 4 z0), (foa, .inr (0, [.int 0, .int 0, .ref f1a, .int 0, .int 0, .ref f2a, .ref f3a, .ref f4a]))] := hD
  refine lv_aload_n hx hb dX2_clear_34 rfl (lv_at hl 0 rfl) ?_
  refine lv_iconst (v := 0) hx hb dX2_clear_35 (by decide) ?_
  refine va_put (D := g.1) (ci := 2) (v := .int 0) (ty := .int) (C := RX2) (T := TX2) (N := 9) hx hb hT inF_X2 tyX2 tyX2_ok nmX2 hown hK.1 hP hD hS 0 rfl rfl 7 (by decide) (hT _ bw_95) (fun _ h9 => h9) rfl (by decide +kernel) rfl rfl (Nat.le_of_ble_eq_true rfl) dX2_clear_36 (fun H locs hP hD hS => ?_)
  have hP : va_P g.1 vwCl [(la, .inr (2, [.ref mea, .ref foa, .ref rea, .int 0, .ref d1a, .ref d2a, .int 9, .int 0, .ref d3a])), (mea, .inr (3, [.int 0, .ref m1a, .ref m2a, .ref m3a, .ref m4a])), (rea, .inr (6, [.int 0, .ref r1a, .ref r2a, .ref r3a, .ref r4a, .ref r5a, .ref r6a, .ref r7a])), (d3a, aI g 4 z0), (foa, .inr (0, [.int 0, .int 0, .ref f1a, .int 0, .int 0, .ref f2a, .ref f3a, .ref f4a]))] H := hP
  have hD : va_D A [(la, .inr (2, [.ref mea, .ref foa, .ref rea, .int 0, .ref d1a, .ref d2a, .int 9, .int 0, .ref d3a])), (mea, .inr (3, [.int 0, .ref m1a, .ref m2a, .ref m3a, .ref m4a])), (rea, .inr (6, [.int 0, .ref r1a, .ref r2a, .ref r3a, .ref r4a, .ref r5a, .ref r6a, .ref r7a])), (d3a, aI g 4 z0), (foa, .inr (0, [.int 0, .int 0, .ref f1a, .int 0, .int 0, .ref f2a, .ref f3a, .ref f4a]))] := hD
  refine lv_aload_n hx hb dX2_clear_39 rfl (lv_at hl 0 rfl) ?_
  refine va_get (D := g.1) (ci := 2) (v := .ref d3a) (C := RX2) (T := TX2) (N := 9) hx hb hT inF_X2 hown hK.1 hP 0 rfl rfl 8 (by decide) (hT _ bw_96) (fun _ h9 => h9) rfl dX2_clear_40 ?_
  refine lv_iconst (v := 0) hx hb dX2_clear_43 (by decide) ?_
  refine k_v (wr := [(la, .inr (2, [.ref mea, .ref foa, .ref rea, .int 0, .ref d1a, .ref d2a, .int 9, .int 0, .ref d3a])), (mea, .inr (3, [.int 0, .ref m1a, .ref m2a, .ref m3a, .ref m4a])), (rea, .inr (6, [.int 0, .ref r1a, .ref r2a, .ref r3a, .ref r4a, .ref r5a, .ref r6a, .ref r7a])), (foa, .inr (0, [.int 0, .int 0, .ref f1a, .int 0, .int 0, .ref f2a, .ref f3a, .ref f4a]))]) (k_S (n := 2) ⟨hx, hb, hml, hown, hT⟩ hK hP hD [3] rfl (by decide) (c_J7_fill_53178_4 l g H.size d3a) (gS bw_97 bw_98 bw_99 bw_79) rfl rfl (by decide +kernel) ⟨by decide, by decide⟩ (fun _ _ _ _ _ => trivial) (fun _ _ _ => trivial) rfl rfl hl.1 (Nat.le_of_ble_eq_true rfl) dX2_clear_44 ⟨by decide, by decide⟩) hP hD hS hA [3] [0, 1, 2, 4] rfl rfl (by decide) (by decide) (fun u H locs hw hP hD hS => ?_)
  have hP : va_P g.1 vwCl [(la, .inr (2, [.ref mea, .ref foa, .ref rea, .int 0, .ref d1a, .ref d2a, .int 9, .int 0, .ref d3a])), (mea, .inr (3, [.int 0, .ref m1a, .ref m2a, .ref m3a, .ref m4a])), (rea, .inr (6, [.int 0, .ref r1a, .ref r2a, .ref r3a, .ref r4a, .ref r5a, .ref r6a, .ref r7a])), (foa, .inr (0, [.int 0, .int 0, .ref f1a, .int 0, .int 0, .ref f2a, .ref f3a, .ref f4a])), (d3a, aI g 4 z0)] H := hP
  have hD : va_D A [(la, .inr (2, [.ref mea, .ref foa, .ref rea, .int 0, .ref d1a, .ref d2a, .int 9, .int 0, .ref d3a])), (mea, .inr (3, [.int 0, .ref m1a, .ref m2a, .ref m3a, .ref m4a])), (rea, .inr (6, [.int 0, .ref r1a, .ref r2a, .ref r3a, .ref r4a, .ref r5a, .ref r6a, .ref r7a])), (foa, .inr (0, [.int 0, .int 0, .ref f1a, .int 0, .int 0, .ref f2a, .ref f3a, .ref f4a])), (d3a, aI g 4 z0)] := hD
  have hP9 : va_P g.1 vwCl [(la, .inr (2, [.ref mea, .ref foa, .ref rea, .int 0, .ref d1a, .ref d2a, .int 9, .int 0, .ref d3a])), (mea, .inr (3, [.int 0, .ref m1a, .ref m2a, .ref m3a, .ref m4a])), (rea, .inr (6, [.int 0, .ref r1a, .ref r2a, .ref r3a, .ref r4a, .ref r5a, .ref r6a, .ref r7a])), (foa, .inr (0, [.int 0, .int 0, .ref f1a, .int 0, .int 0, .ref f2a, .ref f3a, .ref f4a])), (d3a, aI g 4 z0)] H := hP.sub [0, 1, 2, 3, 4] rfl
  have hD9 : va_D A [(la, .inr (2, [.ref mea, .ref foa, .ref rea, .int 0, .ref d1a, .ref d2a, .int 9, .int 0, .ref d3a])), (mea, .inr (3, [.int 0, .ref m1a, .ref m2a, .ref m3a, .ref m4a])), (rea, .inr (6, [.int 0, .ref r1a, .ref r2a, .ref r3a, .ref r4a, .ref r5a, .ref r6a, .ref r7a])), (foa, .inr (0, [.int 0, .int 0, .ref f1a, .int 0, .int 0, .ref f2a, .ref f3a, .ref f4a])), (d3a, aI g 4 z0)] := hD.sub [0, 1, 2, 3, 4] (by decide) rfl
  exact W.vret hx hb hr (fun t ht hW => ⟨⟨(), rfl, trivial, by rw [ht]; exact hP9, by rw [hAe]; exact hD9⟩, hS.F ht⟩) hS.2.2 dX2_clear_47

set_option maxHeartbeats 4000000 in
set_option maxRecDepth 100000 in
theorem c_X9_begin (l : Launch) (g : GG) (sz : Nat) (h : Nat) (t1 : Nat) (t2 : Nat) (t3 : Nat) (t4 : Nat) (t5 : Nat) (t6 : Nat) (t7 : Nat) (la : Nat) (mea : Nat) (foa : Nat) (rea : Nat) (d1a : Nat) (d2a : Nat) (d3a : Nat) (m1a : Nat) (m2a : Nat) (m3a : Nat) (m4a : Nat) : Met l yX9_begin (.code yX9_begin cX9_begin 3 none :: gT) ({ frames := 1, cells := 0, slots := 0, locals := 60 }) (va_Pc [.ref h, .ref la] (Pst g sz [(h, .inr (9, [.int 0, .int 0, .int 0, .int 0, .int 0, .int 0, .int 0, .ref t1, .ref t2, .ref t3, .ref t4, .ref t5, .ref t6, .ref t7])), (t1, aI g 6 z0), (t2, aI g 6 z0), (la, .inr (2, [.ref mea, .ref foa, .ref rea, .int 0, .ref d1a, .ref d2a, .int 9, .int 0, .ref d3a])), (mea, .inr (3, [.int 0, .ref m1a, .ref m2a, .ref m3a, .ref m4a])), (m3a, aI g 6 z0)] nX)) (va_Qv (fun (_ : Unit) => True) (Qst g [(h, .inr (9, [.int 0, .int 0, .int 0, .int 0, .int 0, .int 0, .int 0, .ref t1, .ref t2, .ref t3, .ref t4, .ref t5, .ref t6, .ref t7])), (t1, aI g 6 z0), (t2, aI g 6 z0), (la, .inr (2, [.ref mea, .ref foa, .ref rea, .int 0, .ref d1a, .ref d2a, .int 9, .int 0, .ref d3a])), (mea, .inr (3, [.int 0, .ref m1a, .ref m2a, .ref m3a, .ref m4a])), (m3a, aI g 6 z0)] sz (fun _ => [(h, .inr (9, [.int 0, .int 0, .int 0, .int 0, .int 0, .int 0, .int 0, .ref t1, .ref t2, .ref t3, .ref t4, .ref t5, .ref t6, .ref t7])), (t1, aI g 6 z0), (la, .inr (2, [.ref mea, .ref foa, .ref rea, .int 0, .ref d1a, .ref d2a, .int 9, .int 0, .ref d3a])), (mea, .inr (3, [.int 0, .ref m1a, .ref m2a, .ref m3a, .ref m4a])), (m3a, aI g 6 z0), (t2, aI g 6 z0)])) (va_A [(h, .inr (9, [.int 0, .int 0, .int 0, .int 0, .int 0, .int 0, .int 0, .ref t1, .ref t2, .ref t3, .ref t4, .ref t5, .ref t6, .ref t7])), (t1, aI g 6 z0), (t2, aI g 6 z0), (la, .inr (2, [.ref mea, .ref foa, .ref rea, .int 0, .ref d1a, .ref d2a, .int 9, .int 0, .ref d3a])), (mea, .inr (3, [.int 0, .ref m1a, .ref m2a, .ref m3a, .ref m4a])), (m3a, aI g 6 z0)] sz)) 0 0 (va_A [(h, .inr (9, [.int 0, .int 0, .int 0, .int 0, .int 0, .int 0, .int 0, .ref t1, .ref t2, .ref t3, .ref t4, .ref t5, .ref t6, .ref t7])), (t1, aI g 6 z0), (t2, aI g 6 z0), (la, .inr (2, [.ref mea, .ref foa, .ref rea, .int 0, .ref d1a, .ref d2a, .int 9, .int 0, .ref d3a])), (mea, .inr (3, [.int 0, .ref m1a, .ref m2a, .ref m3a, .ref m4a])), (m3a, aI g 6 z0)] sz) := by
  refine Met.ofW (cc := cX9_begin) (maxL := 3) (ret := none) (by decide) rfl ?_
  intro p e s m args below meth c s₁ B hml hv
  obtain ⟨rfl, hsz, hP, hK, hD0, hX⟩ := hv
  have hx := B.exec
  have hb := B.bytes
  have hr := B.returns
  have hT : ∀ w ∈ gT, w.before _ s = true := fun w h => atoms_spec (ws := .code yX9_begin cX9_begin 3 none :: gT) B.pre w (List.mem_cons_of_mem _ h)
  have hown : s.vm.findClass RX9 = some m.cls := findClass_of_methodNamed B.named
  have hlocks := B.notSynchronized
  subst hsz
  have hD := hD0.self (sz := s.heap.size)
  generalize hAe : va_A [(h, .inr (9, [.int 0, .int 0, .int 0, .int 0, .int 0, .int 0, .int 0, .ref t1, .ref t2, .ref t3, .ref t4, .ref t5, .ref t6, .ref t7])), (t1, aI g 6 z0), (t2, aI g 6 z0), (la, .inr (2, [.ref mea, .ref foa, .ref rea, .int 0, .ref d1a, .ref d2a, .int 9, .int 0, .ref d3a])), (mea, .inr (3, [.int 0, .ref m1a, .ref m2a, .ref m3a, .ref m4a])), (m3a, aI g 6 z0)] s.heap.size = A at hD ⊢
  have hA : ∀ q : Nat, s.heap.size ≤ q → A q := fun q h => by rw [← hAe]; exact Or.inr h
  have hS : va_S A s.heap s.heap [] := va_S.rf
  have hl := lv_entry ([.ref h, .ref la]) (n := 3) (Nat.le_of_ble_eq_true rfl)
  rw [lg_entry_eq]
  generalize (lg_sl ([.ref h, .ref la]) ++ List.replicate (3 - (lg_sl ([.ref h, .ref la])).length) Slot.unset).toArray = ls at hl ⊢
  have hl : lv_has ls 3 [(0, .ref h), (1, .ref la)] := hl
  refine p_nH (fun H hH => ?_)
  have hP : va_P g.1 vwCl [(h, .inr (9, [.int 0, .int 0, .int 0, .int 0, .int 0, .int 0, .int 0, .ref t1, .ref t2, .ref t3, .ref t4, .ref t5, .ref t6, .ref t7])), (t1, aI g 6 z0), (t2, aI g 6 z0), (la, .inr (2, [.ref mea, .ref foa, .ref rea, .int 0, .ref d1a, .ref d2a, .int 9, .int 0, .ref d3a])), (mea, .inr (3, [.int 0, .ref m1a, .ref m2a, .ref m3a, .ref m4a])), (m3a, aI g 6 z0)] H := by rw [hH]; exact hP
  have hS : va_S A s.heap H [] := by rw [hH]; exact hS
  refine lv_aload_n hx hb dX9_begin_0 rfl (lv_at hl 0 rfl) ?_
  refine lv_iconst (v := 0) hx hb dX9_begin_1 (by decide) ?_
  refine va_put (D := g.1) (ci := 9) (v := .int 0) (ty := .int) (C := RX9) (T := TX9) (N := 14) hx hb hT inF_X9 tyX9 tyX9_ok nmX9 hown hK.1 hP hD hS 0 rfl rfl 0 (by decide) (hT _ bw_101) (fun _ h9 => h9) rfl (by decide +kernel) rfl rfl (Nat.le_of_ble_eq_true rfl) dX9_begin_2 (fun H locs hP hD hS => ?_)
  have hP : va_P g.1 vwCl [(h, .inr (9, [.int 0, .int 0, .int 0, .int 0, .int 0, .int 0, .int 0, .ref t1, .ref t2, .ref t3, .ref t4, .ref t5, .ref t6, .ref t7])), (t1, aI g 6 z0), (t2, aI g 6 z0), (la, .inr (2, [.ref mea, .ref foa, .ref rea, .int 0, .ref d1a, .ref d2a, .int 9, .int 0, .ref d3a])), (mea, .inr (3, [.int 0, .ref m1a, .ref m2a, .ref m3a, .ref m4a])), (m3a, aI g 6 z0)] H := hP
  have hD : va_D A [(h, .inr (9, [.int 0, .int 0, .int 0, .int 0, .int 0, .int 0, .int 0, .ref t1, .ref t2, .ref t3, .ref t4, .ref t5, .ref t6, .ref t7])), (t1, aI g 6 z0), (t2, aI g 6 z0), (la, .inr (2, [.ref mea, .ref foa, .ref rea, .int 0, .ref d1a, .ref d2a, .int 9, .int 0, .ref d3a])), (mea, .inr (3, [.int 0, .ref m1a, .ref m2a, .ref m3a, .ref m4a])), (m3a, aI g 6 z0)] := hD
  refine lv_aload_n hx hb dX9_begin_5 rfl (lv_at hl 0 rfl) ?_
  refine lv_aload_n hx hb dX9_begin_6 rfl (lv_at hl 1 rfl) ?_
  refine va_get (D := g.1) (ci := 2) (v := .int 0) (C := RX2) (T := TX2) (N := 9) hx hb hT inF_X2 hown hK.1 hP 3 rfl rfl 7 (by decide) (hT _ bw_102) (fun _ h9 => h9) rfl dX9_begin_7 ?_
  refine va_put (D := g.1) (ci := 9) (v := .int 0) (ty := .int) (C := RX9) (T := TX9) (N := 14) hx hb hT inF_X9 tyX9 tyX9_ok nmX9 hown hK.1 hP hD hS 0 rfl rfl 1 (by decide) (hT _ bw_103) (fun _ h9 => h9) rfl (by decide +kernel) rfl rfl (Nat.le_of_ble_eq_true rfl) dX9_begin_10 (fun H locs hP hD hS => ?_)
  have hP : va_P g.1 vwCl [(h, .inr (9, [.int 0, .int 0, .int 0, .int 0, .int 0, .int 0, .int 0, .ref t1, .ref t2, .ref t3, .ref t4, .ref t5, .ref t6, .ref t7])), (t1, aI g 6 z0), (t2, aI g 6 z0), (la, .inr (2, [.ref mea, .ref foa, .ref rea, .int 0, .ref d1a, .ref d2a, .int 9, .int 0, .ref d3a])), (mea, .inr (3, [.int 0, .ref m1a, .ref m2a, .ref m3a, .ref m4a])), (m3a, aI g 6 z0)] H := hP
  have hD : va_D A [(h, .inr (9, [.int 0, .int 0, .int 0, .int 0, .int 0, .int 0, .int 0, .ref t1, .ref t2, .ref t3, .ref t4, .ref t5, .ref t6, .ref t7])), (t1, aI g 6 z0), (t2, aI g 6 z0), (la, .inr (2, [.ref mea, .ref foa, .ref rea, .int 0, .ref d1a, .ref d2a, .int 9, .int 0, .ref d3a])), (mea, .inr (3, [.int 0, .ref m1a, .ref m2a, .ref m3a, .ref m4a])), (m3a, aI g 6 z0)] := hD
  refine lv_aload_n hx hb dX9_begin_13 rfl (lv_at hl 0 rfl) ?_
  refine lv_iconst (v := 1) hx hb dX9_begin_14 (by decide) ?_
  refine lv_aload_n hx hb dX9_begin_15 rfl (lv_at hl 1 rfl) ?_
  refine va_get (D := g.1) (ci := 2) (v := .ref mea) (C := RX2) (T := TX2) (N := 9) hx hb hT inF_X2 hown hK.1 hP 3 rfl rfl 0 (by decide) (hT _ bw_104) (fun _ h9 => h9) rfl dX9_begin_16 ?_
  refine va_get (D := g.1) (ci := 3) (v := .int 0) (C := RX3) (T := TX3) (N := 5) hx hb hT inF_X3 hown hK.1 hP 4 rfl rfl 0 (by decide) (hT _ bw_105) (fun _ h9 => h9) rfl dX9_begin_19 ?_
  refine lv_ishl hx hb dX9_begin_22 ?_
  refine p_ti (v := 1) (by decide +kernel) ?_
  refine lv_iconst (v := 1) hx hb dX9_begin_23 (by decide) ?_
  refine lv_isub hx hb dX9_begin_24 ?_
  refine p_ti (v := 0) (by decide +kernel) ?_
  refine va_put (D := g.1) (ci := 9) (v := .int 0) (ty := .int) (C := RX9) (T := TX9) (N := 14) hx hb hT inF_X9 tyX9 tyX9_ok nmX9 hown hK.1 hP hD hS 0 rfl rfl 2 (by decide) (hT _ bw_106) (fun _ h9 => h9) rfl (by decide +kernel) rfl rfl (Nat.le_of_ble_eq_true rfl) dX9_begin_25 (fun H locs hP hD hS => ?_)
  have hP : va_P g.1 vwCl [(h, .inr (9, [.int 0, .int 0, .int 0, .int 0, .int 0, .int 0, .int 0, .ref t1, .ref t2, .ref t3, .ref t4, .ref t5, .ref t6, .ref t7])), (t1, aI g 6 z0), (t2, aI g 6 z0), (la, .inr (2, [.ref mea, .ref foa, .ref rea, .int 0, .ref d1a, .ref d2a, .int 9, .int 0, .ref d3a])), (mea, .inr (3, [.int 0, .ref m1a, .ref m2a, .ref m3a, .ref m4a])), (m3a, aI g 6 z0)] H := hP
  have hD : va_D A [(h, .inr (9, [.int 0, .int 0, .int 0, .int 0, .int 0, .int 0, .int 0, .ref t1, .ref t2, .ref t3, .ref t4, .ref t5, .ref t6, .ref t7])), (t1, aI g 6 z0), (t2, aI g 6 z0), (la, .inr (2, [.ref mea, .ref foa, .ref rea, .int 0, .ref d1a, .ref d2a, .int 9, .int 0, .ref d3a])), (mea, .inr (3, [.int 0, .ref m1a, .ref m2a, .ref m3a, .ref m4a])), (m3a, aI g 6 z0)] := hD
  refine lv_aload_n hx hb dX9_begin_28 rfl (lv_at hl 0 rfl) ?_
  refine lv_iconst (v := 0) hx hb dX9_begin_29 (by decide) ?_
  refine va_put (D := g.1) (ci := 9) (v := .int 0) (ty := .int) (C := RX9) (T := TX9) (N := 14) hx hb hT inF_X9 tyX9 tyX9_ok nmX9 hown hK.1 hP hD hS 0 rfl rfl 3 (by decide) (hT _ bw_107) (fun _ h9 => h9) rfl (by decide +kernel) rfl rfl (Nat.le_of_ble_eq_true rfl) dX9_begin_30 (fun H locs hP hD hS => ?_)
  have hP : va_P g.1 vwCl [(h, .inr (9, [.int 0, .int 0, .int 0, .int 0, .int 0, .int 0, .int 0, .ref t1, .ref t2, .ref t3, .ref t4, .ref t5, .ref t6, .ref t7])), (t1, aI g 6 z0), (t2, aI g 6 z0), (la, .inr (2, [.ref mea, .ref foa, .ref rea, .int 0, .ref d1a, .ref d2a, .int 9, .int 0, .ref d3a])), (mea, .inr (3, [.int 0, .ref m1a, .ref m2a, .ref m3a, .ref m4a])), (m3a, aI g 6 z0)] H := hP
  have hD : va_D A [(h, .inr (9, [.int 0, .int 0, .int 0, .int 0, .int 0, .int 0, .int 0, .ref t1, .ref t2, .ref t3, .ref t4, .ref t5, .ref t6, .ref t7])), (t1, aI g 6 z0), (t2, aI g 6 z0), (la, .inr (2, [.ref mea, .ref foa, .ref rea, .int 0, .ref d1a, .ref d2a, .int 9, .int 0, .ref d3a])), (mea, .inr (3, [.int 0, .ref m1a, .ref m2a, .ref m3a, .ref m4a])), (m3a, aI g 6 z0)] := hD
  refine lv_aload_n hx hb dX9_begin_33 rfl (lv_at hl 0 rfl) ?_
  refine lv_iconst (v := 0) hx hb dX9_begin_34 (by decide) ?_
  refine va_put (D := g.1) (ci := 9) (v := .int 0) (ty := .int) (C := RX9) (T := TX9) (N := 14) hx hb hT inF_X9 tyX9 tyX9_ok nmX9 hown hK.1 hP hD hS 0 rfl rfl 4 (by decide) (hT _ bw_108) (fun _ h9 => h9) rfl (by decide +kernel) rfl rfl (Nat.le_of_ble_eq_true rfl) dX9_begin_35 (fun H locs hP hD hS => ?_)
  have hP : va_P g.1 vwCl [(h, .inr (9, [.int 0, .int 0, .int 0, .int 0, .int 0, .int 0, .int 0, .ref t1, .ref t2, .ref t3, .ref t4, .ref t5, .ref t6, .ref t7])), (t1, aI g 6 z0), (t2, aI g 6 z0), (la, .inr (2, [.ref mea, .ref foa, .ref rea, .int 0, .ref d1a, .ref d2a, .int 9, .int 0, .ref d3a])), (mea, .inr (3, [.int 0, .ref m1a, .ref m2a, .ref m3a, .ref m4a])), (m3a, aI g 6 z0)] H := hP
  have hD : va_D A [(h, .inr (9, [.int 0, .int 0, .int 0, .int 0, .int 0, .int 0, .int 0, .ref t1, .ref t2, .ref t3, .ref t4, .ref t5, .ref t6, .ref t7])), (t1, aI g 6 z0), (t2, aI g 6 z0), (la, .inr (2, [.ref mea, .ref foa, .ref rea, .int 0, .ref d1a, .ref d2a, .int 9, .int 0, .ref d3a])), (mea, .inr (3, [.int 0, .ref m1a, .ref m2a, .ref m3a, .ref m4a])), (m3a, aI g 6 z0)] := hD
  refine lv_aload_n hx hb dX9_begin_38 rfl (lv_at hl 0 rfl) ?_
  refine lv_iconst (v := 0) hx hb dX9_begin_39 (by decide) ?_
  refine va_put (D := g.1) (ci := 9) (v := .int 0) (ty := .int) (C := RX9) (T := TX9) (N := 14) hx hb hT inF_X9 tyX9 tyX9_ok nmX9 hown hK.1 hP hD hS 0 rfl rfl 5 (by decide) (hT _ bw_4) (fun _ h9 => h9) rfl (by decide +kernel) rfl rfl (Nat.le_of_ble_eq_true rfl) dX9_begin_40 (fun H locs hP hD hS => ?_)
  have hP : va_P g.1 vwCl [(h, .inr (9, [.int 0, .int 0, .int 0, .int 0, .int 0, .int 0, .int 0, .ref t1, .ref t2, .ref t3, .ref t4, .ref t5, .ref t6, .ref t7])), (t1, aI g 6 z0), (t2, aI g 6 z0), (la, .inr (2, [.ref mea, .ref foa, .ref rea, .int 0, .ref d1a, .ref d2a, .int 9, .int 0, .ref d3a])), (mea, .inr (3, [.int 0, .ref m1a, .ref m2a, .ref m3a, .ref m4a])), (m3a, aI g 6 z0)] H := hP
  have hD : va_D A [(h, .inr (9, [.int 0, .int 0, .int 0, .int 0, .int 0, .int 0, .int 0, .ref t1, .ref t2, .ref t3, .ref t4, .ref t5, .ref t6, .ref t7])), (t1, aI g 6 z0), (t2, aI g 6 z0), (la, .inr (2, [.ref mea, .ref foa, .ref rea, .int 0, .ref d1a, .ref d2a, .int 9, .int 0, .ref d3a])), (mea, .inr (3, [.int 0, .ref m1a, .ref m2a, .ref m3a, .ref m4a])), (m3a, aI g 6 z0)] := hD
  refine lv_aload_n hx hb dX9_begin_43 rfl (lv_at hl 0 rfl) ?_
  refine lv_iconst (v := 0) hx hb dX9_begin_44 (by decide) ?_
  refine va_put (D := g.1) (ci := 9) (v := .int 0) (ty := .int) (C := RX9) (T := TX9) (N := 14) hx hb hT inF_X9 tyX9 tyX9_ok nmX9 hown hK.1 hP hD hS 0 rfl rfl 6 (by decide) (hT _ bw_109) (fun _ h9 => h9) rfl (by decide +kernel) rfl rfl (Nat.le_of_ble_eq_true rfl) dX9_begin_45 (fun H locs hP hD hS => ?_)
  have hP : va_P g.1 vwCl [(h, .inr (9, [.int 0, .int 0, .int 0, .int 0, .int 0, .int 0, .int 0, .ref t1, .ref t2, .ref t3, .ref t4, .ref t5, .ref t6, .ref t7])), (t1, aI g 6 z0), (t2, aI g 6 z0), (la, .inr (2, [.ref mea, .ref foa, .ref rea, .int 0, .ref d1a, .ref d2a, .int 9, .int 0, .ref d3a])), (mea, .inr (3, [.int 0, .ref m1a, .ref m2a, .ref m3a, .ref m4a])), (m3a, aI g 6 z0)] H := hP
  have hD : va_D A [(h, .inr (9, [.int 0, .int 0, .int 0, .int 0, .int 0, .int 0, .int 0, .ref t1, .ref t2, .ref t3, .ref t4, .ref t5, .ref t6, .ref t7])), (t1, aI g 6 z0), (t2, aI g 6 z0), (la, .inr (2, [.ref mea, .ref foa, .ref rea, .int 0, .ref d1a, .ref d2a, .int 9, .int 0, .ref d3a])), (mea, .inr (3, [.int 0, .ref m1a, .ref m2a, .ref m3a, .ref m4a])), (m3a, aI g 6 z0)] := hD
  refine lv_aload_n hx hb dX9_begin_48 rfl (lv_at hl 1 rfl) ?_
  refine va_get (D := g.1) (ci := 2) (v := .ref mea) (C := RX2) (T := TX2) (N := 9) hx hb hT inF_X2 hown hK.1 hP 3 rfl rfl 0 (by decide) (hT _ bw_104) (fun _ h9 => h9) rfl dX9_begin_49 ?_
  refine va_get (D := g.1) (ci := 3) (v := .ref m3a) (C := RX3) (T := TX3) (N := 5) hx hb hT inF_X3 hown hK.1 hP 4 rfl rfl 3 (by decide) (hT _ bw_110) (fun _ h9 => h9) rfl dX9_begin_52 ?_
  refine lv_iconst (v := 0) hx hb dX9_begin_55 (by decide) ?_
  refine lv_aload_n hx hb dX9_begin_56 rfl (lv_at hl 0 rfl) ?_
  refine va_get (D := g.1) (ci := 9) (v := .ref t1) (C := RX9) (T := TX9) (N := 14) hx hb hT inF_X9 hown hK.1 hP 0 rfl rfl 7 (by decide) (hT _ bw_111) (fun _ h9 => h9) rfl dX9_begin_57 ?_
  refine lv_iconst (v := 0) hx hb dX9_begin_60 (by decide) ?_
  refine lv_bipush (v := 6) hx hb dX9_begin_61 (by decide) ?_
  refine va_copyi hx hb (hml.trans hl.1.symm) hown (hT _ bw_115) (hT _ bw_112) (hT _ bw_113) (hT _ bw_114) hK.1 hP hD hS 5 1 1 1 rfl rfl rfl rfl rfl (sp := 0) (dp := 0) (n := 6) (by decide) (by decide) (by decide) (by decide) (by decide) (fun _ _ => rfl) (Nat.le_of_ble_eq_true rfl) (Nat.le_of_ble_eq_true rfl) dX9_begin_63 (fun H locs hP hD hS => ?_)
  simp only [z0_c] at hP hD
  have hP : va_P g.1 vwCl [(h, .inr (9, [.int 0, .int 0, .int 0, .int 0, .int 0, .int 0, .int 0, .ref t1, .ref t2, .ref t3, .ref t4, .ref t5, .ref t6, .ref t7])), (t1, aI g 6 z0), (t2, aI g 6 z0), (la, .inr (2, [.ref mea, .ref foa, .ref rea, .int 0, .ref d1a, .ref d2a, .int 9, .int 0, .ref d3a])), (mea, .inr (3, [.int 0, .ref m1a, .ref m2a, .ref m3a, .ref m4a])), (m3a, aI g 6 z0)] H := hP
  have hD : va_D A [(h, .inr (9, [.int 0, .int 0, .int 0, .int 0, .int 0, .int 0, .int 0, .ref t1, .ref t2, .ref t3, .ref t4, .ref t5, .ref t6, .ref t7])), (t1, aI g 6 z0), (t2, aI g 6 z0), (la, .inr (2, [.ref mea, .ref foa, .ref rea, .int 0, .ref d1a, .ref d2a, .int 9, .int 0, .ref d3a])), (mea, .inr (3, [.int 0, .ref m1a, .ref m2a, .ref m3a, .ref m4a])), (m3a, aI g 6 z0)] := hD
  refine lv_aload_n hx hb dX9_begin_66 rfl (lv_at hl 0 rfl) ?_
  refine va_get (D := g.1) (ci := 9) (v := .ref t2) (C := RX9) (T := TX9) (N := 14) hx hb hT inF_X9 hown hK.1 hP 0 rfl rfl 8 (by decide) (hT _ bw_116) (fun _ h9 => h9) rfl dX9_begin_67 ?_
  refine lv_iconst (v := 0) hx hb dX9_begin_70 (by decide) ?_
  refine k_v (wr := [(h, .inr (9, [.int 0, .int 0, .int 0, .int 0, .int 0, .int 0, .int 0, .ref t1, .ref t2, .ref t3, .ref t4, .ref t5, .ref t6, .ref t7])), (t1, aI g 6 z0), (la, .inr (2, [.ref mea, .ref foa, .ref rea, .int 0, .ref d1a, .ref d2a, .int 9, .int 0, .ref d3a])), (mea, .inr (3, [.int 0, .ref m1a, .ref m2a, .ref m3a, .ref m4a])), (m3a, aI g 6 z0)]) (k_S (n := 2) ⟨hx, hb, hml, hown, hT⟩ hK hP hD [2] rfl (by decide) (c_J7_fill_53178_6 l g H.size t2) (gS bw_117 bw_98 bw_99 bw_79) rfl rfl (by decide +kernel) ⟨by decide, by decide⟩ (fun _ _ _ _ _ => trivial) (fun _ _ _ => trivial) rfl rfl hl.1 (Nat.le_of_ble_eq_true rfl) dX9_begin_71 ⟨by decide, by decide⟩) hP hD hS hA [2] [0, 1, 3, 4, 5] rfl rfl (by decide) (by decide) (fun u H locs hw hP hD hS => ?_)
  have hP : va_P g.1 vwCl [(h, .inr (9, [.int 0, .int 0, .int 0, .int 0, .int 0, .int 0, .int 0, .ref t1, .ref t2, .ref t3, .ref t4, .ref t5, .ref t6, .ref t7])), (t1, aI g 6 z0), (la, .inr (2, [.ref mea, .ref foa, .ref rea, .int 0, .ref d1a, .ref d2a, .int 9, .int 0, .ref d3a])), (mea, .inr (3, [.int 0, .ref m1a, .ref m2a, .ref m3a, .ref m4a])), (m3a, aI g 6 z0), (t2, aI g 6 z0)] H := hP
  have hD : va_D A [(h, .inr (9, [.int 0, .int 0, .int 0, .int 0, .int 0, .int 0, .int 0, .ref t1, .ref t2, .ref t3, .ref t4, .ref t5, .ref t6, .ref t7])), (t1, aI g 6 z0), (la, .inr (2, [.ref mea, .ref foa, .ref rea, .int 0, .ref d1a, .ref d2a, .int 9, .int 0, .ref d3a])), (mea, .inr (3, [.int 0, .ref m1a, .ref m2a, .ref m3a, .ref m4a])), (m3a, aI g 6 z0), (t2, aI g 6 z0)] := hD
  refine lv_iconst (v := 0) hx hb dX9_begin_74 (by decide) ?_
  refine lv_istore_n (lv' := [(2, .int 0), (0, .ref h), (1, .ref la)]) hx hb dX9_begin_75 rfl hl (by decide) rfl (fun ls hl => ?_)
  refine lv_iload_n hx hb dX9_begin_76 rfl (lv_at hl 0 rfl) ?_
  refine lv_aload_n hx hb dX9_begin_77 rfl (lv_at hl 2 rfl) ?_
  refine va_get (D := g.1) (ci := 2) (v := .int 0) (C := RX2) (T := TX2) (N := 9) hx hb hT inF_X2 hown hK.1 hP 2 rfl rfl 3 (by decide) (hT _ bw_118) (fun _ h9 => h9) rfl dX9_begin_78 ?_
  refine lv_icmp_ge (tgt := 118) hx hb dX9_begin_81 (by decide) (fun _ => ?_) (fun c9 => absurd (by decide) c9)
  have hP9 : va_P g.1 vwCl [(h, .inr (9, [.int 0, .int 0, .int 0, .int 0, .int 0, .int 0, .int 0, .ref t1, .ref t2, .ref t3, .ref t4, .ref t5, .ref t6, .ref t7])), (t1, aI g 6 z0), (la, .inr (2, [.ref mea, .ref foa, .ref rea, .int 0, .ref d1a, .ref d2a, .int 9, .int 0, .ref d3a])), (mea, .inr (3, [.int 0, .ref m1a, .ref m2a, .ref m3a, .ref m4a])), (m3a, aI g 6 z0), (t2, aI g 6 z0)] H := hP.sub [0, 1, 2, 3, 4, 5] rfl
  have hD9 : va_D A [(h, .inr (9, [.int 0, .int 0, .int 0, .int 0, .int 0, .int 0, .int 0, .ref t1, .ref t2, .ref t3, .ref t4, .ref t5, .ref t6, .ref t7])), (t1, aI g 6 z0), (la, .inr (2, [.ref mea, .ref foa, .ref rea, .int 0, .ref d1a, .ref d2a, .int 9, .int 0, .ref d3a])), (mea, .inr (3, [.int 0, .ref m1a, .ref m2a, .ref m3a, .ref m4a])), (m3a, aI g 6 z0), (t2, aI g 6 z0)] := hD.sub [0, 1, 2, 3, 4, 5] (by decide) rfl
  exact W.vret hx hb hr (fun t ht hW => ⟨⟨(), rfl, trivial, by rw [ht]; exact hP9, by rw [hAe]; exact hD9⟩, hS.F ht⟩) hS.2.2 dX9_begin_118

set_option maxHeartbeats 4000000 in
set_option maxRecDepth 100000 in
theorem c_X9_copy (l : Launch) (g : GG) (sz : Nat) (h : Nat) (t1 : Nat) (t2 : Nat) (t3 : Nat) (t4 : Nat) (t5 : Nat) (t6 : Nat) (t7 : Nat) (o : Nat) (t1o : Nat) (t2o : Nat) (t3o : Nat) (t4o : Nat) (t5o : Nat) (t6o : Nat) (t7o : Nat) : Met l yX9_copy (.code yX9_copy cX9_copy 2 none :: gT) ({ frames := 1, cells := 0, slots := 0, locals := 60 }) (va_Pc [.ref h, .ref o] (Pst g sz [(h, .inr (9, [.int 0, .int 0, .int 0, .int 0, .int 0, .int 0, .int 0, .ref t1, .ref t2, .ref t3, .ref t4, .ref t5, .ref t6, .ref t7])), (t1, aI g 6 z0), (t2, aI g 6 z0), (t3, aI g 8 z0), (t4, aI g 8 z0), (t5, aI g 8 z0), (t6, aI g 16 z0), (t7, aI g 60 z0), (o, .inr (9, [.int 0, .int 0, .int 0, .int 0, .int 0, .int 0, .int 0, .ref t1o, .ref t2o, .ref t3o, .ref t4o, .ref t5o, .ref t6o, .ref t7o])), (t1o, aI g 6 z0), (t2o, aI g 6 z0), (t3o, aI g 8 z0), (t4o, aI g 8 z0), (t5o, aI g 8 z0), (t6o, aI g 16 z0), (t7o, aI g 60 z0)] nX)) (va_Qv (fun (_ : Unit) => True) (Qst g [(h, .inr (9, [.int 0, .int 0, .int 0, .int 0, .int 0, .int 0, .int 0, .ref t1, .ref t2, .ref t3, .ref t4, .ref t5, .ref t6, .ref t7])), (t1, aI g 6 z0), (t2, aI g 6 z0), (t3, aI g 8 z0), (t4, aI g 8 z0), (t5, aI g 8 z0), (t6, aI g 16 z0), (t7, aI g 60 z0), (o, .inr (9, [.int 0, .int 0, .int 0, .int 0, .int 0, .int 0, .int 0, .ref t1o, .ref t2o, .ref t3o, .ref t4o, .ref t5o, .ref t6o, .ref t7o])), (t1o, aI g 6 z0), (t2o, aI g 6 z0), (t3o, aI g 8 z0), (t4o, aI g 8 z0), (t5o, aI g 8 z0), (t6o, aI g 16 z0), (t7o, aI g 60 z0)] sz (fun _ => [(h, .inr (9, [.int 0, .int 0, .int 0, .int 0, .int 0, .int 0, .int 0, .ref t1, .ref t2, .ref t3, .ref t4, .ref t5, .ref t6, .ref t7])), (t1, aI g 6 z0), (t2, aI g 6 z0), (t3, aI g 8 z0), (t4, aI g 8 z0), (t5, aI g 8 z0), (t6, aI g 16 z0), (t7, aI g 60 z0), (o, .inr (9, [.int 0, .int 0, .int 0, .int 0, .int 0, .int 0, .int 0, .ref t1o, .ref t2o, .ref t3o, .ref t4o, .ref t5o, .ref t6o, .ref t7o])), (t1o, aI g 6 z0), (t2o, aI g 6 z0), (t3o, aI g 8 z0), (t4o, aI g 8 z0), (t5o, aI g 8 z0), (t6o, aI g 16 z0), (t7o, aI g 60 z0)])) (va_A [(h, .inr (9, [.int 0, .int 0, .int 0, .int 0, .int 0, .int 0, .int 0, .ref t1, .ref t2, .ref t3, .ref t4, .ref t5, .ref t6, .ref t7])), (t1, aI g 6 z0), (t2, aI g 6 z0), (t3, aI g 8 z0), (t4, aI g 8 z0), (t5, aI g 8 z0), (t6, aI g 16 z0), (t7, aI g 60 z0), (o, .inr (9, [.int 0, .int 0, .int 0, .int 0, .int 0, .int 0, .int 0, .ref t1o, .ref t2o, .ref t3o, .ref t4o, .ref t5o, .ref t6o, .ref t7o])), (t1o, aI g 6 z0), (t2o, aI g 6 z0), (t3o, aI g 8 z0), (t4o, aI g 8 z0), (t5o, aI g 8 z0), (t6o, aI g 16 z0), (t7o, aI g 60 z0)] sz)) 0 0 (va_A [(h, .inr (9, [.int 0, .int 0, .int 0, .int 0, .int 0, .int 0, .int 0, .ref t1, .ref t2, .ref t3, .ref t4, .ref t5, .ref t6, .ref t7])), (t1, aI g 6 z0), (t2, aI g 6 z0), (t3, aI g 8 z0), (t4, aI g 8 z0), (t5, aI g 8 z0), (t6, aI g 16 z0), (t7, aI g 60 z0), (o, .inr (9, [.int 0, .int 0, .int 0, .int 0, .int 0, .int 0, .int 0, .ref t1o, .ref t2o, .ref t3o, .ref t4o, .ref t5o, .ref t6o, .ref t7o])), (t1o, aI g 6 z0), (t2o, aI g 6 z0), (t3o, aI g 8 z0), (t4o, aI g 8 z0), (t5o, aI g 8 z0), (t6o, aI g 16 z0), (t7o, aI g 60 z0)] sz) := by
  refine Met.ofW (cc := cX9_copy) (maxL := 2) (ret := none) (by decide) rfl ?_
  intro p e s m args below meth c s₁ B hml hv
  obtain ⟨rfl, hsz, hP, hK, hD0, hX⟩ := hv
  have hx := B.exec
  have hb := B.bytes
  have hr := B.returns
  have hT : ∀ w ∈ gT, w.before _ s = true := fun w h => atoms_spec (ws := .code yX9_copy cX9_copy 2 none :: gT) B.pre w (List.mem_cons_of_mem _ h)
  have hown : s.vm.findClass RX9 = some m.cls := findClass_of_methodNamed B.named
  have hlocks := B.notSynchronized
  subst hsz
  have hD := hD0.self (sz := s.heap.size)
  generalize hAe : va_A [(h, .inr (9, [.int 0, .int 0, .int 0, .int 0, .int 0, .int 0, .int 0, .ref t1, .ref t2, .ref t3, .ref t4, .ref t5, .ref t6, .ref t7])), (t1, aI g 6 z0), (t2, aI g 6 z0), (t3, aI g 8 z0), (t4, aI g 8 z0), (t5, aI g 8 z0), (t6, aI g 16 z0), (t7, aI g 60 z0), (o, .inr (9, [.int 0, .int 0, .int 0, .int 0, .int 0, .int 0, .int 0, .ref t1o, .ref t2o, .ref t3o, .ref t4o, .ref t5o, .ref t6o, .ref t7o])), (t1o, aI g 6 z0), (t2o, aI g 6 z0), (t3o, aI g 8 z0), (t4o, aI g 8 z0), (t5o, aI g 8 z0), (t6o, aI g 16 z0), (t7o, aI g 60 z0)] s.heap.size = A at hD ⊢
  have hA : ∀ q : Nat, s.heap.size ≤ q → A q := fun q h => by rw [← hAe]; exact Or.inr h
  have hS : va_S A s.heap s.heap [] := va_S.rf
  have hl := lv_entry ([.ref h, .ref o]) (n := 2) (Nat.le_of_ble_eq_true rfl)
  rw [lg_entry_eq]
  generalize (lg_sl ([.ref h, .ref o]) ++ List.replicate (2 - (lg_sl ([.ref h, .ref o])).length) Slot.unset).toArray = ls at hl ⊢
  have hl : lv_has ls 2 [(0, .ref h), (1, .ref o)] := hl
  refine p_nH (fun H hH => ?_)
  have hP : va_P g.1 vwCl [(h, .inr (9, [.int 0, .int 0, .int 0, .int 0, .int 0, .int 0, .int 0, .ref t1, .ref t2, .ref t3, .ref t4, .ref t5, .ref t6, .ref t7])), (t1, aI g 6 z0), (t2, aI g 6 z0), (t3, aI g 8 z0), (t4, aI g 8 z0), (t5, aI g 8 z0), (t6, aI g 16 z0), (t7, aI g 60 z0), (o, .inr (9, [.int 0, .int 0, .int 0, .int 0, .int 0, .int 0, .int 0, .ref t1o, .ref t2o, .ref t3o, .ref t4o, .ref t5o, .ref t6o, .ref t7o])), (t1o, aI g 6 z0), (t2o, aI g 6 z0), (t3o, aI g 8 z0), (t4o, aI g 8 z0), (t5o, aI g 8 z0), (t6o, aI g 16 z0), (t7o, aI g 60 z0)] H := by rw [hH]; exact hP
  have hS : va_S A s.heap H [] := by rw [hH]; exact hS
  refine lv_aload_n hx hb dX9_copy_0 rfl (lv_at hl 0 rfl) ?_
  refine lv_aload_n hx hb dX9_copy_1 rfl (lv_at hl 1 rfl) ?_
  refine va_get (D := g.1) (ci := 9) (v := .int 0) (C := RX9) (T := TX9) (N := 14) hx hb hT inF_X9 hown hK.1 hP 8 rfl rfl 0 (by decide) (hT _ bw_101) (fun _ h9 => h9) rfl dX9_copy_2 ?_
  refine va_put (D := g.1) (ci := 9) (v := .int 0) (ty := .int) (C := RX9) (T := TX9) (N := 14) hx hb hT inF_X9 tyX9 tyX9_ok nmX9 hown hK.1 hP hD hS 0 rfl rfl 0 (by decide) (hT _ bw_101) (fun _ h9 => h9) rfl (by decide +kernel) rfl rfl (Nat.le_of_ble_eq_true rfl) dX9_copy_5 (fun H locs hP hD hS => ?_)
  have hP : va_P g.1 vwCl [(h, .inr (9, [.int 0, .int 0, .int 0, .int 0, .int 0, .int 0, .int 0, .ref t1, .ref t2, .ref t3, .ref t4, .ref t5, .ref t6, .ref t7])), (t1, aI g 6 z0), (t2, aI g 6 z0), (t3, aI g 8 z0), (t4, aI g 8 z0), (t5, aI g 8 z0), (t6, aI g 16 z0), (t7, aI g 60 z0), (o, .inr (9, [.int 0, .int 0, .int 0, .int 0, .int 0, .int 0, .int 0, .ref t1o, .ref t2o, .ref t3o, .ref t4o, .ref t5o, .ref t6o, .ref t7o])), (t1o, aI g 6 z0), (t2o, aI g 6 z0), (t3o, aI g 8 z0), (t4o, aI g 8 z0), (t5o, aI g 8 z0), (t6o, aI g 16 z0), (t7o, aI g 60 z0)] H := hP
  have hD : va_D A [(h, .inr (9, [.int 0, .int 0, .int 0, .int 0, .int 0, .int 0, .int 0, .ref t1, .ref t2, .ref t3, .ref t4, .ref t5, .ref t6, .ref t7])), (t1, aI g 6 z0), (t2, aI g 6 z0), (t3, aI g 8 z0), (t4, aI g 8 z0), (t5, aI g 8 z0), (t6, aI g 16 z0), (t7, aI g 60 z0), (o, .inr (9, [.int 0, .int 0, .int 0, .int 0, .int 0, .int 0, .int 0, .ref t1o, .ref t2o, .ref t3o, .ref t4o, .ref t5o, .ref t6o, .ref t7o])), (t1o, aI g 6 z0), (t2o, aI g 6 z0), (t3o, aI g 8 z0), (t4o, aI g 8 z0), (t5o, aI g 8 z0), (t6o, aI g 16 z0), (t7o, aI g 60 z0)] := hD
  refine lv_aload_n hx hb dX9_copy_8 rfl (lv_at hl 0 rfl) ?_
  refine lv_aload_n hx hb dX9_copy_9 rfl (lv_at hl 1 rfl) ?_
  refine va_get (D := g.1) (ci := 9) (v := .int 0) (C := RX9) (T := TX9) (N := 14) hx hb hT inF_X9 hown hK.1 hP 8 rfl rfl 1 (by decide) (hT _ bw_103) (fun _ h9 => h9) rfl dX9_copy_10 ?_
  refine va_put (D := g.1) (ci := 9) (v := .int 0) (ty := .int) (C := RX9) (T := TX9) (N := 14) hx hb hT inF_X9 tyX9 tyX9_ok nmX9 hown hK.1 hP hD hS 0 rfl rfl 1 (by decide) (hT _ bw_103) (fun _ h9 => h9) rfl (by decide +kernel) rfl rfl (Nat.le_of_ble_eq_true rfl) dX9_copy_13 (fun H locs hP hD hS => ?_)
  have hP : va_P g.1 vwCl [(h, .inr (9, [.int 0, .int 0, .int 0, .int 0, .int 0, .int 0, .int 0, .ref t1, .ref t2, .ref t3, .ref t4, .ref t5, .ref t6, .ref t7])), (t1, aI g 6 z0), (t2, aI g 6 z0), (t3, aI g 8 z0), (t4, aI g 8 z0), (t5, aI g 8 z0), (t6, aI g 16 z0), (t7, aI g 60 z0), (o, .inr (9, [.int 0, .int 0, .int 0, .int 0, .int 0, .int 0, .int 0, .ref t1o, .ref t2o, .ref t3o, .ref t4o, .ref t5o, .ref t6o, .ref t7o])), (t1o, aI g 6 z0), (t2o, aI g 6 z0), (t3o, aI g 8 z0), (t4o, aI g 8 z0), (t5o, aI g 8 z0), (t6o, aI g 16 z0), (t7o, aI g 60 z0)] H := hP
  have hD : va_D A [(h, .inr (9, [.int 0, .int 0, .int 0, .int 0, .int 0, .int 0, .int 0, .ref t1, .ref t2, .ref t3, .ref t4, .ref t5, .ref t6, .ref t7])), (t1, aI g 6 z0), (t2, aI g 6 z0), (t3, aI g 8 z0), (t4, aI g 8 z0), (t5, aI g 8 z0), (t6, aI g 16 z0), (t7, aI g 60 z0), (o, .inr (9, [.int 0, .int 0, .int 0, .int 0, .int 0, .int 0, .int 0, .ref t1o, .ref t2o, .ref t3o, .ref t4o, .ref t5o, .ref t6o, .ref t7o])), (t1o, aI g 6 z0), (t2o, aI g 6 z0), (t3o, aI g 8 z0), (t4o, aI g 8 z0), (t5o, aI g 8 z0), (t6o, aI g 16 z0), (t7o, aI g 60 z0)] := hD
  refine lv_aload_n hx hb dX9_copy_16 rfl (lv_at hl 0 rfl) ?_
  refine lv_aload_n hx hb dX9_copy_17 rfl (lv_at hl 1 rfl) ?_
  refine va_get (D := g.1) (ci := 9) (v := .int 0) (C := RX9) (T := TX9) (N := 14) hx hb hT inF_X9 hown hK.1 hP 8 rfl rfl 2 (by decide) (hT _ bw_106) (fun _ h9 => h9) rfl dX9_copy_18 ?_
  refine va_put (D := g.1) (ci := 9) (v := .int 0) (ty := .int) (C := RX9) (T := TX9) (N := 14) hx hb hT inF_X9 tyX9 tyX9_ok nmX9 hown hK.1 hP hD hS 0 rfl rfl 2 (by decide) (hT _ bw_106) (fun _ h9 => h9) rfl (by decide +kernel) rfl rfl (Nat.le_of_ble_eq_true rfl) dX9_copy_21 (fun H locs hP hD hS => ?_)
  have hP : va_P g.1 vwCl [(h, .inr (9, [.int 0, .int 0, .int 0, .int 0, .int 0, .int 0, .int 0, .ref t1, .ref t2, .ref t3, .ref t4, .ref t5, .ref t6, .ref t7])), (t1, aI g 6 z0), (t2, aI g 6 z0), (t3, aI g 8 z0), (t4, aI g 8 z0), (t5, aI g 8 z0), (t6, aI g 16 z0), (t7, aI g 60 z0), (o, .inr (9, [.int 0, .int 0, .int 0, .int 0, .int 0, .int 0, .int 0, .ref t1o, .ref t2o, .ref t3o, .ref t4o, .ref t5o, .ref t6o, .ref t7o])), (t1o, aI g 6 z0), (t2o, aI g 6 z0), (t3o, aI g 8 z0), (t4o, aI g 8 z0), (t5o, aI g 8 z0), (t6o, aI g 16 z0), (t7o, aI g 60 z0)] H := hP
  have hD : va_D A [(h, .inr (9, [.int 0, .int 0, .int 0, .int 0, .int 0, .int 0, .int 0, .ref t1, .ref t2, .ref t3, .ref t4, .ref t5, .ref t6, .ref t7])), (t1, aI g 6 z0), (t2, aI g 6 z0), (t3, aI g 8 z0), (t4, aI g 8 z0), (t5, aI g 8 z0), (t6, aI g 16 z0), (t7, aI g 60 z0), (o, .inr (9, [.int 0, .int 0, .int 0, .int 0, .int 0, .int 0, .int 0, .ref t1o, .ref t2o, .ref t3o, .ref t4o, .ref t5o, .ref t6o, .ref t7o])), (t1o, aI g 6 z0), (t2o, aI g 6 z0), (t3o, aI g 8 z0), (t4o, aI g 8 z0), (t5o, aI g 8 z0), (t6o, aI g 16 z0), (t7o, aI g 60 z0)] := hD
  refine lv_aload_n hx hb dX9_copy_24 rfl (lv_at hl 0 rfl) ?_
  refine lv_aload_n hx hb dX9_copy_25 rfl (lv_at hl 1 rfl) ?_
  refine va_get (D := g.1) (ci := 9) (v := .int 0) (C := RX9) (T := TX9) (N := 14) hx hb hT inF_X9 hown hK.1 hP 8 rfl rfl 3 (by decide) (hT _ bw_107) (fun _ h9 => h9) rfl dX9_copy_26 ?_
  refine va_put (D := g.1) (ci := 9) (v := .int 0) (ty := .int) (C := RX9) (T := TX9) (N := 14) hx hb hT inF_X9 tyX9 tyX9_ok nmX9 hown hK.1 hP hD hS 0 rfl rfl 3 (by decide) (hT _ bw_107) (fun _ h9 => h9) rfl (by decide +kernel) rfl rfl (Nat.le_of_ble_eq_true rfl) dX9_copy_29 (fun H locs hP hD hS => ?_)
  have hP : va_P g.1 vwCl [(h, .inr (9, [.int 0, .int 0, .int 0, .int 0, .int 0, .int 0, .int 0, .ref t1, .ref t2, .ref t3, .ref t4, .ref t5, .ref t6, .ref t7])), (t1, aI g 6 z0), (t2, aI g 6 z0), (t3, aI g 8 z0), (t4, aI g 8 z0), (t5, aI g 8 z0), (t6, aI g 16 z0), (t7, aI g 60 z0), (o, .inr (9, [.int 0, .int 0, .int 0, .int 0, .int 0, .int 0, .int 0, .ref t1o, .ref t2o, .ref t3o, .ref t4o, .ref t5o, .ref t6o, .ref t7o])), (t1o, aI g 6 z0), (t2o, aI g 6 z0), (t3o, aI g 8 z0), (t4o, aI g 8 z0), (t5o, aI g 8 z0), (t6o, aI g 16 z0), (t7o, aI g 60 z0)] H := hP
  have hD : va_D A [(h, .inr (9, [.int 0, .int 0, .int 0, .int 0, .int 0, .int 0, .int 0, .ref t1, .ref t2, .ref t3, .ref t4, .ref t5, .ref t6, .ref t7])), (t1, aI g 6 z0), (t2, aI g 6 z0), (t3, aI g 8 z0), (t4, aI g 8 z0), (t5, aI g 8 z0), (t6, aI g 16 z0), (t7, aI g 60 z0), (o, .inr (9, [.int 0, .int 0, .int 0, .int 0, .int 0, .int 0, .int 0, .ref t1o, .ref t2o, .ref t3o, .ref t4o, .ref t5o, .ref t6o, .ref t7o])), (t1o, aI g 6 z0), (t2o, aI g 6 z0), (t3o, aI g 8 z0), (t4o, aI g 8 z0), (t5o, aI g 8 z0), (t6o, aI g 16 z0), (t7o, aI g 60 z0)] := hD
  refine lv_aload_n hx hb dX9_copy_32 rfl (lv_at hl 0 rfl) ?_
  refine lv_aload_n hx hb dX9_copy_33 rfl (lv_at hl 1 rfl) ?_
  refine va_get (D := g.1) (ci := 9) (v := .int 0) (C := RX9) (T := TX9) (N := 14) hx hb hT inF_X9 hown hK.1 hP 8 rfl rfl 4 (by decide) (hT _ bw_108) (fun _ h9 => h9) rfl dX9_copy_34 ?_
  refine va_put (D := g.1) (ci := 9) (v := .int 0) (ty := .int) (C := RX9) (T := TX9) (N := 14) hx hb hT inF_X9 tyX9 tyX9_ok nmX9 hown hK.1 hP hD hS 0 rfl rfl 4 (by decide) (hT _ bw_108) (fun _ h9 => h9) rfl (by decide +kernel) rfl rfl (Nat.le_of_ble_eq_true rfl) dX9_copy_37 (fun H locs hP hD hS => ?_)
  have hP : va_P g.1 vwCl [(h, .inr (9, [.int 0, .int 0, .int 0, .int 0, .int 0, .int 0, .int 0, .ref t1, .ref t2, .ref t3, .ref t4, .ref t5, .ref t6, .ref t7])), (t1, aI g 6 z0), (t2, aI g 6 z0), (t3, aI g 8 z0), (t4, aI g 8 z0), (t5, aI g 8 z0), (t6, aI g 16 z0), (t7, aI g 60 z0), (o, .inr (9, [.int 0, .int 0, .int 0, .int 0, .int 0, .int 0, .int 0, .ref t1o, .ref t2o, .ref t3o, .ref t4o, .ref t5o, .ref t6o, .ref t7o])), (t1o, aI g 6 z0), (t2o, aI g 6 z0), (t3o, aI g 8 z0), (t4o, aI g 8 z0), (t5o, aI g 8 z0), (t6o, aI g 16 z0), (t7o, aI g 60 z0)] H := hP
  have hD : va_D A [(h, .inr (9, [.int 0, .int 0, .int 0, .int 0, .int 0, .int 0, .int 0, .ref t1, .ref t2, .ref t3, .ref t4, .ref t5, .ref t6, .ref t7])), (t1, aI g 6 z0), (t2, aI g 6 z0), (t3, aI g 8 z0), (t4, aI g 8 z0), (t5, aI g 8 z0), (t6, aI g 16 z0), (t7, aI g 60 z0), (o, .inr (9, [.int 0, .int 0, .int 0, .int 0, .int 0, .int 0, .int 0, .ref t1o, .ref t2o, .ref t3o, .ref t4o, .ref t5o, .ref t6o, .ref t7o])), (t1o, aI g 6 z0), (t2o, aI g 6 z0), (t3o, aI g 8 z0), (t4o, aI g 8 z0), (t5o, aI g 8 z0), (t6o, aI g 16 z0), (t7o, aI g 60 z0)] := hD
  refine lv_aload_n hx hb dX9_copy_40 rfl (lv_at hl 0 rfl) ?_
  refine lv_aload_n hx hb dX9_copy_41 rfl (lv_at hl 1 rfl) ?_
  refine va_get (D := g.1) (ci := 9) (v := .int 0) (C := RX9) (T := TX9) (N := 14) hx hb hT inF_X9 hown hK.1 hP 8 rfl rfl 5 (by decide) (hT _ bw_4) (fun _ h9 => h9) rfl dX9_copy_42 ?_
  refine va_put (D := g.1) (ci := 9) (v := .int 0) (ty := .int) (C := RX9) (T := TX9) (N := 14) hx hb hT inF_X9 tyX9 tyX9_ok nmX9 hown hK.1 hP hD hS 0 rfl rfl 5 (by decide) (hT _ bw_4) (fun _ h9 => h9) rfl (by decide +kernel) rfl rfl (Nat.le_of_ble_eq_true rfl) dX9_copy_45 (fun H locs hP hD hS => ?_)
  have hP : va_P g.1 vwCl [(h, .inr (9, [.int 0, .int 0, .int 0, .int 0, .int 0, .int 0, .int 0, .ref t1, .ref t2, .ref t3, .ref t4, .ref t5, .ref t6, .ref t7])), (t1, aI g 6 z0), (t2, aI g 6 z0), (t3, aI g 8 z0), (t4, aI g 8 z0), (t5, aI g 8 z0), (t6, aI g 16 z0), (t7, aI g 60 z0), (o, .inr (9, [.int 0, .int 0, .int 0, .int 0, .int 0, .int 0, .int 0, .ref t1o, .ref t2o, .ref t3o, .ref t4o, .ref t5o, .ref t6o, .ref t7o])), (t1o, aI g 6 z0), (t2o, aI g 6 z0), (t3o, aI g 8 z0), (t4o, aI g 8 z0), (t5o, aI g 8 z0), (t6o, aI g 16 z0), (t7o, aI g 60 z0)] H := hP
  have hD : va_D A [(h, .inr (9, [.int 0, .int 0, .int 0, .int 0, .int 0, .int 0, .int 0, .ref t1, .ref t2, .ref t3, .ref t4, .ref t5, .ref t6, .ref t7])), (t1, aI g 6 z0), (t2, aI g 6 z0), (t3, aI g 8 z0), (t4, aI g 8 z0), (t5, aI g 8 z0), (t6, aI g 16 z0), (t7, aI g 60 z0), (o, .inr (9, [.int 0, .int 0, .int 0, .int 0, .int 0, .int 0, .int 0, .ref t1o, .ref t2o, .ref t3o, .ref t4o, .ref t5o, .ref t6o, .ref t7o])), (t1o, aI g 6 z0), (t2o, aI g 6 z0), (t3o, aI g 8 z0), (t4o, aI g 8 z0), (t5o, aI g 8 z0), (t6o, aI g 16 z0), (t7o, aI g 60 z0)] := hD
  refine lv_aload_n hx hb dX9_copy_48 rfl (lv_at hl 0 rfl) ?_
  refine lv_aload_n hx hb dX9_copy_49 rfl (lv_at hl 1 rfl) ?_
  refine va_get (D := g.1) (ci := 9) (v := .int 0) (C := RX9) (T := TX9) (N := 14) hx hb hT inF_X9 hown hK.1 hP 8 rfl rfl 6 (by decide) (hT _ bw_109) (fun _ h9 => h9) rfl dX9_copy_50 ?_
  refine va_put (D := g.1) (ci := 9) (v := .int 0) (ty := .int) (C := RX9) (T := TX9) (N := 14) hx hb hT inF_X9 tyX9 tyX9_ok nmX9 hown hK.1 hP hD hS 0 rfl rfl 6 (by decide) (hT _ bw_109) (fun _ h9 => h9) rfl (by decide +kernel) rfl rfl (Nat.le_of_ble_eq_true rfl) dX9_copy_53 (fun H locs hP hD hS => ?_)
  have hP : va_P g.1 vwCl [(h, .inr (9, [.int 0, .int 0, .int 0, .int 0, .int 0, .int 0, .int 0, .ref t1, .ref t2, .ref t3, .ref t4, .ref t5, .ref t6, .ref t7])), (t1, aI g 6 z0), (t2, aI g 6 z0), (t3, aI g 8 z0), (t4, aI g 8 z0), (t5, aI g 8 z0), (t6, aI g 16 z0), (t7, aI g 60 z0), (o, .inr (9, [.int 0, .int 0, .int 0, .int 0, .int 0, .int 0, .int 0, .ref t1o, .ref t2o, .ref t3o, .ref t4o, .ref t5o, .ref t6o, .ref t7o])), (t1o, aI g 6 z0), (t2o, aI g 6 z0), (t3o, aI g 8 z0), (t4o, aI g 8 z0), (t5o, aI g 8 z0), (t6o, aI g 16 z0), (t7o, aI g 60 z0)] H := hP
  have hD : va_D A [(h, .inr (9, [.int 0, .int 0, .int 0, .int 0, .int 0, .int 0, .int 0, .ref t1, .ref t2, .ref t3, .ref t4, .ref t5, .ref t6, .ref t7])), (t1, aI g 6 z0), (t2, aI g 6 z0), (t3, aI g 8 z0), (t4, aI g 8 z0), (t5, aI g 8 z0), (t6, aI g 16 z0), (t7, aI g 60 z0), (o, .inr (9, [.int 0, .int 0, .int 0, .int 0, .int 0, .int 0, .int 0, .ref t1o, .ref t2o, .ref t3o, .ref t4o, .ref t5o, .ref t6o, .ref t7o])), (t1o, aI g 6 z0), (t2o, aI g 6 z0), (t3o, aI g 8 z0), (t4o, aI g 8 z0), (t5o, aI g 8 z0), (t6o, aI g 16 z0), (t7o, aI g 60 z0)] := hD
  refine lv_aload_n hx hb dX9_copy_56 rfl (lv_at hl 1 rfl) ?_
  refine va_get (D := g.1) (ci := 9) (v := .ref t1o) (C := RX9) (T := TX9) (N := 14) hx hb hT inF_X9 hown hK.1 hP 8 rfl rfl 7 (by decide) (hT _ bw_111) (fun _ h9 => h9) rfl dX9_copy_57 ?_
  refine lv_iconst (v := 0) hx hb dX9_copy_60 (by decide) ?_
  refine lv_aload_n hx hb dX9_copy_61 rfl (lv_at hl 0 rfl) ?_
  refine va_get (D := g.1) (ci := 9) (v := .ref t1) (C := RX9) (T := TX9) (N := 14) hx hb hT inF_X9 hown hK.1 hP 0 rfl rfl 7 (by decide) (hT _ bw_111) (fun _ h9 => h9) rfl dX9_copy_62 ?_
  refine lv_iconst (v := 0) hx hb dX9_copy_65 (by decide) ?_
  refine lv_bipush (v := 6) hx hb dX9_copy_66 (by decide) ?_
  refine va_copyi hx hb (hml.trans hl.1.symm) hown (hT _ bw_115) (hT _ bw_112) (hT _ bw_113) (hT _ bw_114) hK.1 hP hD hS 9 1 1 1 rfl rfl rfl rfl rfl (sp := 0) (dp := 0) (n := 6) (by decide) (by decide) (by decide) (by decide) (by decide) (fun _ _ => rfl) (Nat.le_of_ble_eq_true rfl) (Nat.le_of_ble_eq_true rfl) dX9_copy_68 (fun H locs hP hD hS => ?_)
  simp only [z0_c] at hP hD
  have hP : va_P g.1 vwCl [(h, .inr (9, [.int 0, .int 0, .int 0, .int 0, .int 0, .int 0, .int 0, .ref t1, .ref t2, .ref t3, .ref t4, .ref t5, .ref t6, .ref t7])), (t1, aI g 6 z0), (t2, aI g 6 z0), (t3, aI g 8 z0), (t4, aI g 8 z0), (t5, aI g 8 z0), (t6, aI g 16 z0), (t7, aI g 60 z0), (o, .inr (9, [.int 0, .int 0, .int 0, .int 0, .int 0, .int 0, .int 0, .ref t1o, .ref t2o, .ref t3o, .ref t4o, .ref t5o, .ref t6o, .ref t7o])), (t1o, aI g 6 z0), (t2o, aI g 6 z0), (t3o, aI g 8 z0), (t4o, aI g 8 z0), (t5o, aI g 8 z0), (t6o, aI g 16 z0), (t7o, aI g 60 z0)] H := hP
  have hD : va_D A [(h, .inr (9, [.int 0, .int 0, .int 0, .int 0, .int 0, .int 0, .int 0, .ref t1, .ref t2, .ref t3, .ref t4, .ref t5, .ref t6, .ref t7])), (t1, aI g 6 z0), (t2, aI g 6 z0), (t3, aI g 8 z0), (t4, aI g 8 z0), (t5, aI g 8 z0), (t6, aI g 16 z0), (t7, aI g 60 z0), (o, .inr (9, [.int 0, .int 0, .int 0, .int 0, .int 0, .int 0, .int 0, .ref t1o, .ref t2o, .ref t3o, .ref t4o, .ref t5o, .ref t6o, .ref t7o])), (t1o, aI g 6 z0), (t2o, aI g 6 z0), (t3o, aI g 8 z0), (t4o, aI g 8 z0), (t5o, aI g 8 z0), (t6o, aI g 16 z0), (t7o, aI g 60 z0)] := hD
  refine lv_aload_n hx hb dX9_copy_71 rfl (lv_at hl 1 rfl) ?_
  refine va_get (D := g.1) (ci := 9) (v := .ref t2o) (C := RX9) (T := TX9) (N := 14) hx hb hT inF_X9 hown hK.1 hP 8 rfl rfl 8 (by decide) (hT _ bw_116) (fun _ h9 => h9) rfl dX9_copy_72 ?_
  refine lv_iconst (v := 0) hx hb dX9_copy_75 (by decide) ?_
  refine lv_aload_n hx hb dX9_copy_76 rfl (lv_at hl 0 rfl) ?_
  refine va_get (D := g.1) (ci := 9) (v := .ref t2) (C := RX9) (T := TX9) (N := 14) hx hb hT inF_X9 hown hK.1 hP 0 rfl rfl 8 (by decide) (hT _ bw_116) (fun _ h9 => h9) rfl dX9_copy_77 ?_
  refine lv_iconst (v := 0) hx hb dX9_copy_80 (by decide) ?_
  refine lv_bipush (v := 6) hx hb dX9_copy_81 (by decide) ?_
  refine va_copyi hx hb (hml.trans hl.1.symm) hown (hT _ bw_115) (hT _ bw_112) (hT _ bw_113) (hT _ bw_114) hK.1 hP hD hS 10 2 1 1 rfl rfl rfl rfl rfl (sp := 0) (dp := 0) (n := 6) (by decide) (by decide) (by decide) (by decide) (by decide) (fun _ _ => rfl) (Nat.le_of_ble_eq_true rfl) (Nat.le_of_ble_eq_true rfl) dX9_copy_83 (fun H locs hP hD hS => ?_)
  simp only [z0_c] at hP hD
  have hP : va_P g.1 vwCl [(h, .inr (9, [.int 0, .int 0, .int 0, .int 0, .int 0, .int 0, .int 0, .ref t1, .ref t2, .ref t3, .ref t4, .ref t5, .ref t6, .ref t7])), (t1, aI g 6 z0), (t2, aI g 6 z0), (t3, aI g 8 z0), (t4, aI g 8 z0), (t5, aI g 8 z0), (t6, aI g 16 z0), (t7, aI g 60 z0), (o, .inr (9, [.int 0, .int 0, .int 0, .int 0, .int 0, .int 0, .int 0, .ref t1o, .ref t2o, .ref t3o, .ref t4o, .ref t5o, .ref t6o, .ref t7o])), (t1o, aI g 6 z0), (t2o, aI g 6 z0), (t3o, aI g 8 z0), (t4o, aI g 8 z0), (t5o, aI g 8 z0), (t6o, aI g 16 z0), (t7o, aI g 60 z0)] H := hP
  have hD : va_D A [(h, .inr (9, [.int 0, .int 0, .int 0, .int 0, .int 0, .int 0, .int 0, .ref t1, .ref t2, .ref t3, .ref t4, .ref t5, .ref t6, .ref t7])), (t1, aI g 6 z0), (t2, aI g 6 z0), (t3, aI g 8 z0), (t4, aI g 8 z0), (t5, aI g 8 z0), (t6, aI g 16 z0), (t7, aI g 60 z0), (o, .inr (9, [.int 0, .int 0, .int 0, .int 0, .int 0, .int 0, .int 0, .ref t1o, .ref t2o, .ref t3o, .ref t4o, .ref t5o, .ref t6o, .ref t7o])), (t1o, aI g 6 z0), (t2o, aI g 6 z0), (t3o, aI g 8 z0), (t4o, aI g 8 z0), (t5o, aI g 8 z0), (t6o, aI g 16 z0), (t7o, aI g 60 z0)] := hD
  refine lv_aload_n hx hb dX9_copy_86 rfl (lv_at hl 1 rfl) ?_
  refine va_get (D := g.1) (ci := 9) (v := .ref t3o) (C := RX9) (T := TX9) (N := 14) hx hb hT inF_X9 hown hK.1 hP 8 rfl rfl 9 (by decide) (hT _ bw_120) (fun _ h9 => h9) rfl dX9_copy_87 ?_
  refine lv_iconst (v := 0) hx hb dX9_copy_90 (by decide) ?_
  refine lv_aload_n hx hb dX9_copy_91 rfl (lv_at hl 0 rfl) ?_
  refine va_get (D := g.1) (ci := 9) (v := .ref t3) (C := RX9) (T := TX9) (N := 14) hx hb hT inF_X9 hown hK.1 hP 0 rfl rfl 9 (by decide) (hT _ bw_120) (fun _ h9 => h9) rfl dX9_copy_92 ?_
  refine lv_iconst (v := 0) hx hb dX9_copy_95 (by decide) ?_
  refine lv_bipush (v := 8) hx hb dX9_copy_96 (by decide) ?_
  refine va_copyi hx hb (hml.trans hl.1.symm) hown (hT _ bw_115) (hT _ bw_112) (hT _ bw_113) (hT _ bw_114) hK.1 hP hD hS 11 3 1 1 rfl rfl rfl rfl rfl (sp := 0) (dp := 0) (n := 8) (by decide) (by decide) (by decide) (by decide) (by decide) (fun _ _ => rfl) (Nat.le_of_ble_eq_true rfl) (Nat.le_of_ble_eq_true rfl) dX9_copy_98 (fun H locs hP hD hS => ?_)
  simp only [z0_c] at hP hD
  have hP : va_P g.1 vwCl [(h, .inr (9, [.int 0, .int 0, .int 0, .int 0, .int 0, .int 0, .int 0, .ref t1, .ref t2, .ref t3, .ref t4, .ref t5, .ref t6, .ref t7])), (t1, aI g 6 z0), (t2, aI g 6 z0), (t3, aI g 8 z0), (t4, aI g 8 z0), (t5, aI g 8 z0), (t6, aI g 16 z0), (t7, aI g 60 z0), (o, .inr (9, [.int 0, .int 0, .int 0, .int 0, .int 0, .int 0, .int 0, .ref t1o, .ref t2o, .ref t3o, .ref t4o, .ref t5o, .ref t6o, .ref t7o])), (t1o, aI g 6 z0), (t2o, aI g 6 z0), (t3o, aI g 8 z0), (t4o, aI g 8 z0), (t5o, aI g 8 z0), (t6o, aI g 16 z0), (t7o, aI g 60 z0)] H := hP
  have hD : va_D A [(h, .inr (9, [.int 0, .int 0, .int 0, .int 0, .int 0, .int 0, .int 0, .ref t1, .ref t2, .ref t3, .ref t4, .ref t5, .ref t6, .ref t7])), (t1, aI g 6 z0), (t2, aI g 6 z0), (t3, aI g 8 z0), (t4, aI g 8 z0), (t5, aI g 8 z0), (t6, aI g 16 z0), (t7, aI g 60 z0), (o, .inr (9, [.int 0, .int 0, .int 0, .int 0, .int 0, .int 0, .int 0, .ref t1o, .ref t2o, .ref t3o, .ref t4o, .ref t5o, .ref t6o, .ref t7o])), (t1o, aI g 6 z0), (t2o, aI g 6 z0), (t3o, aI g 8 z0), (t4o, aI g 8 z0), (t5o, aI g 8 z0), (t6o, aI g 16 z0), (t7o, aI g 60 z0)] := hD
  refine lv_aload_n hx hb dX9_copy_101 rfl (lv_at hl 1 rfl) ?_
  refine va_get (D := g.1) (ci := 9) (v := .ref t4o) (C := RX9) (T := TX9) (N := 14) hx hb hT inF_X9 hown hK.1 hP 8 rfl rfl 10 (by decide) (hT _ bw_121) (fun _ h9 => h9) rfl dX9_copy_102 ?_
  refine lv_iconst (v := 0) hx hb dX9_copy_105 (by decide) ?_
  refine lv_aload_n hx hb dX9_copy_106 rfl (lv_at hl 0 rfl) ?_
  refine va_get (D := g.1) (ci := 9) (v := .ref t4) (C := RX9) (T := TX9) (N := 14) hx hb hT inF_X9 hown hK.1 hP 0 rfl rfl 10 (by decide) (hT _ bw_121) (fun _ h9 => h9) rfl dX9_copy_107 ?_
  refine lv_iconst (v := 0) hx hb dX9_copy_110 (by decide) ?_
  refine lv_bipush (v := 8) hx hb dX9_copy_111 (by decide) ?_
  refine va_copyi hx hb (hml.trans hl.1.symm) hown (hT _ bw_115) (hT _ bw_112) (hT _ bw_113) (hT _ bw_114) hK.1 hP hD hS 12 4 1 1 rfl rfl rfl rfl rfl (sp := 0) (dp := 0) (n := 8) (by decide) (by decide) (by decide) (by decide) (by decide) (fun _ _ => rfl) (Nat.le_of_ble_eq_true rfl) (Nat.le_of_ble_eq_true rfl) dX9_copy_113 (fun H locs hP hD hS => ?_)
  simp only [z0_c] at hP hD
  have hP : va_P g.1 vwCl [(h, .inr (9, [.int 0, .int 0, .int 0, .int 0, .int 0, .int 0, .int 0, .ref t1, .ref t2, .ref t3, .ref t4, .ref t5, .ref t6, .ref t7])), (t1, aI g 6 z0), (t2, aI g 6 z0), (t3, aI g 8 z0), (t4, aI g 8 z0), (t5, aI g 8 z0), (t6, aI g 16 z0), (t7, aI g 60 z0), (o, .inr (9, [.int 0, .int 0, .int 0, .int 0, .int 0, .int 0, .int 0, .ref t1o, .ref t2o, .ref t3o, .ref t4o, .ref t5o, .ref t6o, .ref t7o])), (t1o, aI g 6 z0), (t2o, aI g 6 z0), (t3o, aI g 8 z0), (t4o, aI g 8 z0), (t5o, aI g 8 z0), (t6o, aI g 16 z0), (t7o, aI g 60 z0)] H := hP
  have hD : va_D A [(h, .inr (9, [.int 0, .int 0, .int 0, .int 0, .int 0, .int 0, .int 0, .ref t1, .ref t2, .ref t3, .ref t4, .ref t5, .ref t6, .ref t7])), (t1, aI g 6 z0), (t2, aI g 6 z0), (t3, aI g 8 z0), (t4, aI g 8 z0), (t5, aI g 8 z0), (t6, aI g 16 z0), (t7, aI g 60 z0), (o, .inr (9, [.int 0, .int 0, .int 0, .int 0, .int 0, .int 0, .int 0, .ref t1o, .ref t2o, .ref t3o, .ref t4o, .ref t5o, .ref t6o, .ref t7o])), (t1o, aI g 6 z0), (t2o, aI g 6 z0), (t3o, aI g 8 z0), (t4o, aI g 8 z0), (t5o, aI g 8 z0), (t6o, aI g 16 z0), (t7o, aI g 60 z0)] := hD
  refine lv_aload_n hx hb dX9_copy_116 rfl (lv_at hl 1 rfl) ?_
  refine va_get (D := g.1) (ci := 9) (v := .ref t5o) (C := RX9) (T := TX9) (N := 14) hx hb hT inF_X9 hown hK.1 hP 8 rfl rfl 11 (by decide) (hT _ bw_122) (fun _ h9 => h9) rfl dX9_copy_117 ?_
  refine lv_iconst (v := 0) hx hb dX9_copy_120 (by decide) ?_
  refine lv_aload_n hx hb dX9_copy_121 rfl (lv_at hl 0 rfl) ?_
  refine va_get (D := g.1) (ci := 9) (v := .ref t5) (C := RX9) (T := TX9) (N := 14) hx hb hT inF_X9 hown hK.1 hP 0 rfl rfl 11 (by decide) (hT _ bw_122) (fun _ h9 => h9) rfl dX9_copy_122 ?_
  refine lv_iconst (v := 0) hx hb dX9_copy_125 (by decide) ?_
  refine lv_bipush (v := 8) hx hb dX9_copy_126 (by decide) ?_
  refine va_copyi hx hb (hml.trans hl.1.symm) hown (hT _ bw_115) (hT _ bw_112) (hT _ bw_113) (hT _ bw_114) hK.1 hP hD hS 13 5 1 1 rfl rfl rfl rfl rfl (sp := 0) (dp := 0) (n := 8) (by decide) (by decide) (by decide) (by decide) (by decide) (fun _ _ => rfl) (Nat.le_of_ble_eq_true rfl) (Nat.le_of_ble_eq_true rfl) dX9_copy_128 (fun H locs hP hD hS => ?_)
  simp only [z0_c] at hP hD
  have hP : va_P g.1 vwCl [(h, .inr (9, [.int 0, .int 0, .int 0, .int 0, .int 0, .int 0, .int 0, .ref t1, .ref t2, .ref t3, .ref t4, .ref t5, .ref t6, .ref t7])), (t1, aI g 6 z0), (t2, aI g 6 z0), (t3, aI g 8 z0), (t4, aI g 8 z0), (t5, aI g 8 z0), (t6, aI g 16 z0), (t7, aI g 60 z0), (o, .inr (9, [.int 0, .int 0, .int 0, .int 0, .int 0, .int 0, .int 0, .ref t1o, .ref t2o, .ref t3o, .ref t4o, .ref t5o, .ref t6o, .ref t7o])), (t1o, aI g 6 z0), (t2o, aI g 6 z0), (t3o, aI g 8 z0), (t4o, aI g 8 z0), (t5o, aI g 8 z0), (t6o, aI g 16 z0), (t7o, aI g 60 z0)] H := hP
  have hD : va_D A [(h, .inr (9, [.int 0, .int 0, .int 0, .int 0, .int 0, .int 0, .int 0, .ref t1, .ref t2, .ref t3, .ref t4, .ref t5, .ref t6, .ref t7])), (t1, aI g 6 z0), (t2, aI g 6 z0), (t3, aI g 8 z0), (t4, aI g 8 z0), (t5, aI g 8 z0), (t6, aI g 16 z0), (t7, aI g 60 z0), (o, .inr (9, [.int 0, .int 0, .int 0, .int 0, .int 0, .int 0, .int 0, .ref t1o, .ref t2o, .ref t3o, .ref t4o, .ref t5o, .ref t6o, .ref t7o])), (t1o, aI g 6 z0), (t2o, aI g 6 z0), (t3o, aI g 8 z0), (t4o, aI g 8 z0), (t5o, aI g 8 z0), (t6o, aI g 16 z0), (t7o, aI g 60 z0)] := hD
  refine lv_aload_n hx hb dX9_copy_131 rfl (lv_at hl 1 rfl) ?_
  refine va_get (D := g.1) (ci := 9) (v := .ref t6o) (C := RX9) (T := TX9) (N := 14) hx hb hT inF_X9 hown hK.1 hP 8 rfl rfl 12 (by decide) (hT _ bw_123) (fun _ h9 => h9) rfl dX9_copy_132 ?_
  refine lv_iconst (v := 0) hx hb dX9_copy_135 (by decide) ?_
  refine lv_aload_n hx hb dX9_copy_136 rfl (lv_at hl 0 rfl) ?_
  refine va_get (D := g.1) (ci := 9) (v := .ref t6) (C := RX9) (T := TX9) (N := 14) hx hb hT inF_X9 hown hK.1 hP 0 rfl rfl 12 (by decide) (hT _ bw_123) (fun _ h9 => h9) rfl dX9_copy_137 ?_
  refine lv_iconst (v := 0) hx hb dX9_copy_140 (by decide) ?_
  refine lv_bipush (v := 16) hx hb dX9_copy_141 (by decide) ?_
  refine va_copyi hx hb (hml.trans hl.1.symm) hown (hT _ bw_115) (hT _ bw_112) (hT _ bw_113) (hT _ bw_114) hK.1 hP hD hS 14 6 1 1 rfl rfl rfl rfl rfl (sp := 0) (dp := 0) (n := 16) (by decide) (by decide) (by decide) (by decide) (by decide) (fun _ _ => rfl) (Nat.le_of_ble_eq_true rfl) (Nat.le_of_ble_eq_true rfl) dX9_copy_143 (fun H locs hP hD hS => ?_)
  simp only [z0_c] at hP hD
  have hP : va_P g.1 vwCl [(h, .inr (9, [.int 0, .int 0, .int 0, .int 0, .int 0, .int 0, .int 0, .ref t1, .ref t2, .ref t3, .ref t4, .ref t5, .ref t6, .ref t7])), (t1, aI g 6 z0), (t2, aI g 6 z0), (t3, aI g 8 z0), (t4, aI g 8 z0), (t5, aI g 8 z0), (t6, aI g 16 z0), (t7, aI g 60 z0), (o, .inr (9, [.int 0, .int 0, .int 0, .int 0, .int 0, .int 0, .int 0, .ref t1o, .ref t2o, .ref t3o, .ref t4o, .ref t5o, .ref t6o, .ref t7o])), (t1o, aI g 6 z0), (t2o, aI g 6 z0), (t3o, aI g 8 z0), (t4o, aI g 8 z0), (t5o, aI g 8 z0), (t6o, aI g 16 z0), (t7o, aI g 60 z0)] H := hP
  have hD : va_D A [(h, .inr (9, [.int 0, .int 0, .int 0, .int 0, .int 0, .int 0, .int 0, .ref t1, .ref t2, .ref t3, .ref t4, .ref t5, .ref t6, .ref t7])), (t1, aI g 6 z0), (t2, aI g 6 z0), (t3, aI g 8 z0), (t4, aI g 8 z0), (t5, aI g 8 z0), (t6, aI g 16 z0), (t7, aI g 60 z0), (o, .inr (9, [.int 0, .int 0, .int 0, .int 0, .int 0, .int 0, .int 0, .ref t1o, .ref t2o, .ref t3o, .ref t4o, .ref t5o, .ref t6o, .ref t7o])), (t1o, aI g 6 z0), (t2o, aI g 6 z0), (t3o, aI g 8 z0), (t4o, aI g 8 z0), (t5o, aI g 8 z0), (t6o, aI g 16 z0), (t7o, aI g 60 z0)] := hD
  refine lv_aload_n hx hb dX9_copy_146 rfl (lv_at hl 1 rfl) ?_
  refine va_get (D := g.1) (ci := 9) (v := .ref t7o) (C := RX9) (T := TX9) (N := 14) hx hb hT inF_X9 hown hK.1 hP 8 rfl rfl 13 (by decide) (hT _ bw_124) (fun _ h9 => h9) rfl dX9_copy_147 ?_
  refine lv_iconst (v := 0) hx hb dX9_copy_150 (by decide) ?_
  refine lv_aload_n hx hb dX9_copy_151 rfl (lv_at hl 0 rfl) ?_
  refine va_get (D := g.1) (ci := 9) (v := .ref t7) (C := RX9) (T := TX9) (N := 14) hx hb hT inF_X9 hown hK.1 hP 0 rfl rfl 13 (by decide) (hT _ bw_124) (fun _ h9 => h9) rfl dX9_copy_152 ?_
  refine lv_iconst (v := 0) hx hb dX9_copy_155 (by decide) ?_
  refine lv_aload_n hx hb dX9_copy_156 rfl (lv_at hl 1 rfl) ?_
  refine va_get (D := g.1) (ci := 9) (v := .int 0) (C := RX9) (T := TX9) (N := 14) hx hb hT inF_X9 hown hK.1 hP 8 rfl rfl 6 (by decide) (hT _ bw_109) (fun _ h9 => h9) rfl dX9_copy_157 ?_
  refine va_copyi hx hb (hml.trans hl.1.symm) hown (hT _ bw_115) (hT _ bw_112) (hT _ bw_113) (hT _ bw_114) hK.1 hP hD hS 15 7 1 1 rfl rfl rfl rfl rfl (sp := 0) (dp := 0) (n := 0) (by decide) (by decide) (by decide) (by decide) (by decide) (fun _ _ => rfl) (Nat.le_of_ble_eq_true rfl) (Nat.le_of_ble_eq_true rfl) dX9_copy_160 (fun H locs hP hD hS => ?_)
  simp only [z0_c] at hP hD
  have hP : va_P g.1 vwCl [(h, .inr (9, [.int 0, .int 0, .int 0, .int 0, .int 0, .int 0, .int 0, .ref t1, .ref t2, .ref t3, .ref t4, .ref t5, .ref t6, .ref t7])), (t1, aI g 6 z0), (t2, aI g 6 z0), (t3, aI g 8 z0), (t4, aI g 8 z0), (t5, aI g 8 z0), (t6, aI g 16 z0), (t7, aI g 60 z0), (o, .inr (9, [.int 0, .int 0, .int 0, .int 0, .int 0, .int 0, .int 0, .ref t1o, .ref t2o, .ref t3o, .ref t4o, .ref t5o, .ref t6o, .ref t7o])), (t1o, aI g 6 z0), (t2o, aI g 6 z0), (t3o, aI g 8 z0), (t4o, aI g 8 z0), (t5o, aI g 8 z0), (t6o, aI g 16 z0), (t7o, aI g 60 z0)] H := hP
  have hD : va_D A [(h, .inr (9, [.int 0, .int 0, .int 0, .int 0, .int 0, .int 0, .int 0, .ref t1, .ref t2, .ref t3, .ref t4, .ref t5, .ref t6, .ref t7])), (t1, aI g 6 z0), (t2, aI g 6 z0), (t3, aI g 8 z0), (t4, aI g 8 z0), (t5, aI g 8 z0), (t6, aI g 16 z0), (t7, aI g 60 z0), (o, .inr (9, [.int 0, .int 0, .int 0, .int 0, .int 0, .int 0, .int 0, .ref t1o, .ref t2o, .ref t3o, .ref t4o, .ref t5o, .ref t6o, .ref t7o])), (t1o, aI g 6 z0), (t2o, aI g 6 z0), (t3o, aI g 8 z0), (t4o, aI g 8 z0), (t5o, aI g 8 z0), (t6o, aI g 16 z0), (t7o, aI g 60 z0)] := hD
  have hP9 : va_P g.1 vwCl [(h, .inr (9, [.int 0, .int 0, .int 0, .int 0, .int 0, .int 0, .int 0, .ref t1, .ref t2, .ref t3, .ref t4, .ref t5, .ref t6, .ref t7])), (t1, aI g 6 z0), (t2, aI g 6 z0), (t3, aI g 8 z0), (t4, aI g 8 z0), (t5, aI g 8 z0), (t6, aI g 16 z0), (t7, aI g 60 z0), (o, .inr (9, [.int 0, .int 0, .int 0, .int 0, .int 0, .int 0, .int 0, .ref t1o, .ref t2o, .ref t3o, .ref t4o, .ref t5o, .ref t6o, .ref t7o])), (t1o, aI g 6 z0), (t2o, aI g 6 z0), (t3o, aI g 8 z0), (t4o, aI g 8 z0), (t5o, aI g 8 z0), (t6o, aI g 16 z0), (t7o, aI g 60 z0)] H := hP.sub [0, 1, 2, 3, 4, 5, 6, 7, 8, 9, 10, 11, 12, 13, 14, 15] rfl
  have hD9 : va_D A [(h, .inr (9, [.int 0, .int 0, .int 0, .int 0, .int 0, .int 0, .int 0, .ref t1, .ref t2, .ref t3, .ref t4, .ref t5, .ref t6, .ref t7])), (t1, aI g 6 z0), (t2, aI g 6 z0), (t3, aI g 8 z0), (t4, aI g 8 z0), (t5, aI g 8 z0), (t6, aI g 16 z0), (t7, aI g 60 z0), (o, .inr (9, [.int 0, .int 0, .int 0, .int 0, .int 0, .int 0, .int 0, .ref t1o, .ref t2o, .ref t3o, .ref t4o, .ref t5o, .ref t6o, .ref t7o])), (t1o, aI g 6 z0), (t2o, aI g 6 z0), (t3o, aI g 8 z0), (t4o, aI g 8 z0), (t5o, aI g 8 z0), (t6o, aI g 16 z0), (t7o, aI g 60 z0)] := hD.sub [0, 1, 2, 3, 4, 5, 6, 7, 8, 9, 10, 11, 12, 13, 14, 15] (by decide) rfl
  exact W.vret hx hb hr (fun t ht hW => ⟨⟨(), rfl, trivial, by rw [ht]; exact hP9, by rw [hAe]; exact hD9⟩, hS.F ht⟩) hS.2.2 dX9_copy_163

set_option maxHeartbeats 4000000 in
set_option maxRecDepth 100000 in
theorem c_X9_passDay (l : Launch) (g : GG) (sz : Nat) (h : Nat) (t1 : Nat) (t2 : Nat) (t3 : Nat) (t4 : Nat) (t5 : Nat) (t6 : Nat) (t7 : Nat) (la : Nat) (mea : Nat) (foa : Nat) (rea : Nat) (d1a : Nat) (d2a : Nat) (d3a : Nat) (m1a : Nat) (m2a : Nat) (m3a : Nat) (m4a : Nat) (p0 : Int32) : Met l yX9_passDay (.code yX9_passDay cX9_passDay 3 none :: gT) ({ frames := 0, cells := 0, slots := 0, locals := 0 }) (va_Pc [.ref h, .ref la] (Pst g sz [(h, .inr (9, [.int p0, .int 0, .int 0, .int 0, .int 0, .int 0, .int 0, .ref t1, .ref t2, .ref t3, .ref t4, .ref t5, .ref t6, .ref t7])), (la, .inr (2, [.ref mea, .ref foa, .ref rea, .int 0, .ref d1a, .ref d2a, .int 9, .int 0, .ref d3a])), (mea, .inr (3, [.int 0, .ref m1a, .ref m2a, .ref m3a, .ref m4a]))] nX)) (va_Qv (fun (_ : Unit) => True) (Qst g [(h, .inr (9, [.int p0, .int 0, .int 0, .int 0, .int 0, .int 0, .int 0, .ref t1, .ref t2, .ref t3, .ref t4, .ref t5, .ref t6, .ref t7])), (la, .inr (2, [.ref mea, .ref foa, .ref rea, .int 0, .ref d1a, .ref d2a, .int 9, .int 0, .ref d3a])), (mea, .inr (3, [.int 0, .ref m1a, .ref m2a, .ref m3a, .ref m4a]))] sz (fun _ => [(h, .inr (9, [.int (p0 + 1), .int 0, .int 0, .int 0, .int 0, .int 0, .int 0, .ref t1, .ref t2, .ref t3, .ref t4, .ref t5, .ref t6, .ref t7])), (la, .inr (2, [.ref mea, .ref foa, .ref rea, .int 0, .ref d1a, .ref d2a, .int 9, .int 0, .ref d3a])), (mea, .inr (3, [.int 0, .ref m1a, .ref m2a, .ref m3a, .ref m4a]))])) (va_A [(h, .inr (9, [.int p0, .int 0, .int 0, .int 0, .int 0, .int 0, .int 0, .ref t1, .ref t2, .ref t3, .ref t4, .ref t5, .ref t6, .ref t7])), (la, .inr (2, [.ref mea, .ref foa, .ref rea, .int 0, .ref d1a, .ref d2a, .int 9, .int 0, .ref d3a])), (mea, .inr (3, [.int 0, .ref m1a, .ref m2a, .ref m3a, .ref m4a]))] sz)) 0 0 (va_A [(h, .inr (9, [.int p0, .int 0, .int 0, .int 0, .int 0, .int 0, .int 0, .ref t1, .ref t2, .ref t3, .ref t4, .ref t5, .ref t6, .ref t7])), (la, .inr (2, [.ref mea, .ref foa, .ref rea, .int 0, .ref d1a, .ref d2a, .int 9, .int 0, .ref d3a])), (mea, .inr (3, [.int 0, .ref m1a, .ref m2a, .ref m3a, .ref m4a]))] sz) := by
  refine Met.ofW (cc := cX9_passDay) (maxL := 3) (ret := none) (by decide) rfl ?_
  intro p e s m args below meth c s₁ B hml hv
  obtain ⟨rfl, hsz, hP, hK, hD0, hX⟩ := hv
  have hx := B.exec
  have hb := B.bytes
  have hr := B.returns
  have hT : ∀ w ∈ gT, w.before _ s = true := fun w h => atoms_spec (ws := .code yX9_passDay cX9_passDay 3 none :: gT) B.pre w (List.mem_cons_of_mem _ h)
  have hown : s.vm.findClass RX9 = some m.cls := findClass_of_methodNamed B.named
  have hlocks := B.notSynchronized
  subst hsz
  have hD := hD0.self (sz := s.heap.size)
  generalize hAe : va_A [(h, .inr (9, [.int p0, .int 0, .int 0, .int 0, .int 0, .int 0, .int 0, .ref t1, .ref t2, .ref t3, .ref t4, .ref t5, .ref t6, .ref t7])), (la, .inr (2, [.ref mea, .ref foa, .ref rea, .int 0, .ref d1a, .ref d2a, .int 9, .int 0, .ref d3a])), (mea, .inr (3, [.int 0, .ref m1a, .ref m2a, .ref m3a, .ref m4a]))] s.heap.size = A at hD ⊢
  have hA : ∀ q : Nat, s.heap.size ≤ q → A q := fun q h => by rw [← hAe]; exact Or.inr h
  have hS : va_S A s.heap s.heap [] := va_S.rf
  have hl := lv_entry ([.ref h, .ref la]) (n := 3) (Nat.le_of_ble_eq_true rfl)
  rw [lg_entry_eq]
  generalize (lg_sl ([.ref h, .ref la]) ++ List.replicate (3 - (lg_sl ([.ref h, .ref la])).length) Slot.unset).toArray = ls at hl ⊢
  have hl : lv_has ls 3 [(0, .ref h), (1, .ref la)] := hl
  refine p_nH (fun H hH => ?_)
  have hP : va_P g.1 vwCl [(h, .inr (9, [.int p0, .int 0, .int 0, .int 0, .int 0, .int 0, .int 0, .ref t1, .ref t2, .ref t3, .ref t4, .ref t5, .ref t6, .ref t7])), (la, .inr (2, [.ref mea, .ref foa, .ref rea, .int 0, .ref d1a, .ref d2a, .int 9, .int 0, .ref d3a])), (mea, .inr (3, [.int 0, .ref m1a, .ref m2a, .ref m3a, .ref m4a]))] H := by rw [hH]; exact hP
  have hS : va_S A s.heap H [] := by rw [hH]; exact hS
  refine lv_aload_n hx hb dX9_passDay_0 rfl (lv_at hl 0 rfl) ?_
  refine lv_dup hx hb dX9_passDay_1 rfl ?_
  refine va_get (D := g.1) (ci := 9) (v := .int p0) (C := RX9) (T := TX9) (N := 14) hx hb hT inF_X9 hown hK.1 hP 0 rfl rfl 0 (by decide) (hT _ bw_101) (fun _ h9 => h9) rfl dX9_passDay_2 ?_
  refine lv_iconst (v := 1) hx hb dX9_passDay_5 (by decide) ?_
  refine lv_iadd hx hb dX9_passDay_6 ?_
  refine va_put (D := g.1) (ci := 9) (v := .int (p0 + 1)) (ty := .int) (C := RX9) (T := TX9) (N := 14) hx hb hT inF_X9 tyX9 tyX9_ok nmX9 hown hK.1 hP hD hS 0 rfl rfl 0 (by decide) (hT _ bw_101) (fun _ h9 => h9) rfl (by decide +kernel) rfl rfl (Nat.le_of_ble_eq_true rfl) dX9_passDay_7 (fun H locs hP hD hS => ?_)
  have hP : va_P g.1 vwCl [(h, .inr (9, [.int (p0 + 1), .int 0, .int 0, .int 0, .int 0, .int 0, .int 0, .ref t1, .ref t2, .ref t3, .ref t4, .ref t5, .ref t6, .ref t7])), (la, .inr (2, [.ref mea, .ref foa, .ref rea, .int 0, .ref d1a, .ref d2a, .int 9, .int 0, .ref d3a])), (mea, .inr (3, [.int 0, .ref m1a, .ref m2a, .ref m3a, .ref m4a]))] H := hP
  have hD : va_D A [(h, .inr (9, [.int (p0 + 1), .int 0, .int 0, .int 0, .int 0, .int 0, .int 0, .ref t1, .ref t2, .ref t3, .ref t4, .ref t5, .ref t6, .ref t7])), (la, .inr (2, [.ref mea, .ref foa, .ref rea, .int 0, .ref d1a, .ref d2a, .int 9, .int 0, .ref d3a])), (mea, .inr (3, [.int 0, .ref m1a, .ref m2a, .ref m3a, .ref m4a]))] := hD
  refine lv_iconst (v := 0) hx hb dX9_passDay_10 (by decide) ?_
  refine lv_istore_n (lv' := [(2, .int 0), (0, .ref h), (1, .ref la)]) hx hb dX9_passDay_11 rfl hl (by decide) rfl (fun ls hl => ?_)
  refine lv_iload_n hx hb dX9_passDay_12 rfl (lv_at hl 0 rfl) ?_
  refine lv_aload_n hx hb dX9_passDay_13 rfl (lv_at hl 2 rfl) ?_
  refine va_get (D := g.1) (ci := 2) (v := .ref mea) (C := RX2) (T := TX2) (N := 9) hx hb hT inF_X2 hown hK.1 hP 1 rfl rfl 0 (by decide) (hT _ bw_104) (fun _ h9 => h9) rfl dX9_passDay_14 ?_
  refine va_get (D := g.1) (ci := 3) (v := .int 0) (C := RX3) (T := TX3) (N := 5) hx hb hT inF_X3 hown hK.1 hP 2 rfl rfl 0 (by decide) (hT _ bw_105) (fun _ h9 => h9) rfl dX9_passDay_17 ?_
  refine lv_icmp_ge (tgt := 59) hx hb dX9_passDay_20 (by decide) (fun _ => ?_) (fun c9 => absurd (by decide) c9)
  refine lv_iconst (v := 0) hx hb dX9_passDay_59 (by decide) ?_
  refine lv_istore_n (lv' := [(2, .int 0), (0, .ref h), (1, .ref la)]) hx hb dX9_passDay_60 rfl hl (by decide) rfl (fun ls hl => ?_)
  refine lv_iload_n hx hb dX9_passDay_61 rfl (lv_at hl 0 rfl) ?_
  refine lv_aload_n hx hb dX9_passDay_62 rfl (lv_at hl 1 rfl) ?_
  refine va_get (D := g.1) (ci := 9) (v := .int 0) (C := RX9) (T := TX9) (N := 14) hx hb hT inF_X9 hown hK.1 hP 0 rfl rfl 5 (by decide) (hT _ bw_4) (fun _ h9 => h9) rfl dX9_passDay_63 ?_
  refine lv_icmp_ge (tgt := 102) hx hb dX9_passDay_66 (by decide) (fun _ => ?_) (fun c9 => absurd (by decide) c9)
  have hP9 : va_P g.1 vwCl [(h, .inr (9, [.int (p0 + 1), .int 0, .int 0, .int 0, .int 0, .int 0, .int 0, .ref t1, .ref t2, .ref t3, .ref t4, .ref t5, .ref t6, .ref t7])), (la, .inr (2, [.ref mea, .ref foa, .ref rea, .int 0, .ref d1a, .ref d2a, .int 9, .int 0, .ref d3a])), (mea, .inr (3, [.int 0, .ref m1a, .ref m2a, .ref m3a, .ref m4a]))] H := hP.sub [0, 1, 2] rfl
  have hD9 : va_D A [(h, .inr (9, [.int (p0 + 1), .int 0, .int 0, .int 0, .int 0, .int 0, .int 0, .ref t1, .ref t2, .ref t3, .ref t4, .ref t5, .ref t6, .ref t7])), (la, .inr (2, [.ref mea, .ref foa, .ref rea, .int 0, .ref d1a, .ref d2a, .int 9, .int 0, .ref d3a])), (mea, .inr (3, [.int 0, .ref m1a, .ref m2a, .ref m3a, .ref m4a]))] := hD.sub [0, 1, 2] (by decide) rfl
  exact W.vret hx hb hr (fun t ht hW => ⟨⟨(), rfl, trivial, by rw [ht]; exact hP9, by rw [hAe]; exact hD9⟩, hS.F ht⟩) hS.2.2 dX9_passDay_102
end
section
set_option maxHeartbeats 4000000 in
set_option maxRecDepth 100000 in
theorem c_X10_advance (l : Launch) (g : GG) (sz : Nat) (h : Nat) (tw : Nat) (xt : Nat) : Met l yX10_advance (.code yX10_advance cX10_advance 1 none :: gT) ({ frames := 0, cells := 0, slots := 0, locals := 0 }) (va_Pc [.ref h] (Pst g sz [(h, .inr (10, [.int 0, .int 0, .int 0, .long 0, .ref xt, .int 0, .int 0, .ref tw]))] nX)) (va_Qv (fun (_ : Unit) => True) (Qst g [(h, .inr (10, [.int 0, .int 0, .int 0, .long 0, .ref xt, .int 0, .int 0, .ref tw]))] sz (fun _ => [(h, .inr (10, [.int 0, .int 0, .int 0, .long 0, .ref xt, .int 0, .int 0, .ref tw]))])) (va_A [(h, .inr (10, [.int 0, .int 0, .int 0, .long 0, .ref xt, .int 0, .int 0, .ref tw]))] sz)) 0 0 (va_A [(h, .inr (10, [.int 0, .int 0, .int 0, .long 0, .ref xt, .int 0, .int 0, .ref tw]))] sz) := by
  refine Met.ofW (cc := cX10_advance) (maxL := 1) (ret := none) (by decide) rfl ?_
  intro p e s m args below meth c s₁ B hml hv
  obtain ⟨rfl, hsz, hP, hK, hD0, hX⟩ := hv
  have hx := B.exec
  have hb := B.bytes
  have hr := B.returns
  have hT : ∀ w ∈ gT, w.before _ s = true := fun w h => atoms_spec (ws := .code yX10_advance cX10_advance 1 none :: gT) B.pre w (List.mem_cons_of_mem _ h)
  have hown : s.vm.findClass RX10 = some m.cls := findClass_of_methodNamed B.named
  have hlocks := B.notSynchronized
  subst hsz
  have hD := hD0.self (sz := s.heap.size)
  generalize hAe : va_A [(h, .inr (10, [.int 0, .int 0, .int 0, .long 0, .ref xt, .int 0, .int 0, .ref tw]))] s.heap.size = A at hD ⊢
  have hA : ∀ q : Nat, s.heap.size ≤ q → A q := fun q h => by rw [← hAe]; exact Or.inr h
  have hS : va_S A s.heap s.heap [] := va_S.rf
  have hl := lv_entry ([.ref h]) (n := 1) (Nat.le_of_ble_eq_true rfl)
  rw [lg_entry_eq]
  generalize (lg_sl ([.ref h]) ++ List.replicate (1 - (lg_sl ([.ref h])).length) Slot.unset).toArray = ls at hl ⊢
  have hl : lv_has ls 1 [(0, .ref h)] := hl
  refine p_nH (fun H hH => ?_)
  have hP : va_P g.1 vwCl [(h, .inr (10, [.int 0, .int 0, .int 0, .long 0, .ref xt, .int 0, .int 0, .ref tw]))] H := by rw [hH]; exact hP
  have hS : va_S A s.heap H [] := by rw [hH]; exact hS
  refine lv_aload_n hx hb dX10_advance_0 rfl (lv_at hl 0 rfl) ?_
  refine va_get (D := g.1) (ci := 10) (v := .int 0) (C := RX10) (T := TX10) (N := 8) hx hb hT inF_X10 hown hK.1 hP 0 rfl rfl 6 (by decide) (hT _ bw_127) (fun _ h9 => h9) rfl dX10_advance_1 ?_
  refine lv_aload_n hx hb dX10_advance_4 rfl (lv_at hl 0 rfl) ?_
  refine va_get (D := g.1) (ci := 10) (v := .int 0) (C := RX10) (T := TX10) (N := 8) hx hb hT inF_X10 hown hK.1 hP 0 rfl rfl 5 (by decide) (hT _ bw_128) (fun _ h9 => h9) rfl dX10_advance_5 ?_
  refine lv_icmp_ge (tgt := 39) hx hb dX10_advance_8 (by decide) (fun _ => ?_) (fun c9 => absurd (by decide) c9)
  refine lv_aload_n hx hb dX10_advance_39 rfl (lv_at hl 0 rfl) ?_
  refine lv_aload_n hx hb dX10_advance_40 rfl (lv_at hl 0 rfl) ?_
  refine va_get (D := g.1) (ci := 10) (v := .int 0) (C := RX10) (T := TX10) (N := 8) hx hb hT inF_X10 hown hK.1 hP 0 rfl rfl 6 (by decide) (hT _ bw_127) (fun _ h9 => h9) rfl dX10_advance_41 ?_
  refine va_put (D := g.1) (ci := 10) (v := .int 0) (ty := .int) (C := RX10) (T := TX10) (N := 8) hx hb hT inF_X10 tyX10 tyX10_ok nmX10 hown hK.1 hP hD hS 0 rfl rfl 1 (by decide) (hT _ bw_129) (fun _ h9 => h9) rfl (by decide +kernel) rfl rfl (Nat.le_of_ble_eq_true rfl) dX10_advance_44 (fun H locs hP hD hS => ?_)
  have hP : va_P g.1 vwCl [(h, .inr (10, [.int 0, .int 0, .int 0, .long 0, .ref xt, .int 0, .int 0, .ref tw]))] H := hP
  have hD : va_D A [(h, .inr (10, [.int 0, .int 0, .int 0, .long 0, .ref xt, .int 0, .int 0, .ref tw]))] := hD
  refine lv_aload_n hx hb dX10_advance_47 rfl (lv_at hl 0 rfl) ?_
  refine lv_iconst (v := 0) hx hb dX10_advance_48 (by decide) ?_
  refine va_put (D := g.1) (ci := 10) (v := .int 0) (ty := .int) (C := RX10) (T := TX10) (N := 8) hx hb hT inF_X10 tyX10 tyX10_ok nmX10 hown hK.1 hP hD hS 0 rfl rfl 2 (by decide) (hT _ bw_130) (fun _ h9 => h9) rfl (by decide +kernel) rfl rfl (Nat.le_of_ble_eq_true rfl) dX10_advance_49 (fun H locs hP hD hS => ?_)
  have hP : va_P g.1 vwCl [(h, .inr (10, [.int 0, .int 0, .int 0, .long 0, .ref xt, .int 0, .int 0, .ref tw]))] H := hP
  have hD : va_D A [(h, .inr (10, [.int 0, .int 0, .int 0, .long 0, .ref xt, .int 0, .int 0, .ref tw]))] := hD
  refine lv_aload_n hx hb dX10_advance_52 rfl (lv_at hl 0 rfl) ?_
  refine lv_lconst (v := 0) hx hb dX10_advance_53 (by decide) ?_
  refine va_put (D := g.1) (ci := 10) (v := .long 0) (ty := .long) (C := RX10) (T := TX10) (N := 8) hx hb hT inF_X10 tyX10 tyX10_ok nmX10 hown hK.1 hP hD hS 0 rfl rfl 3 (by decide) (hT _ bw_131) (fun _ h9 => h9) rfl (by decide +kernel) rfl rfl (Nat.le_of_ble_eq_true rfl) dX10_advance_54 (fun H locs hP hD hS => ?_)
  have hP : va_P g.1 vwCl [(h, .inr (10, [.int 0, .int 0, .int 0, .long 0, .ref xt, .int 0, .int 0, .ref tw]))] H := hP
  have hD : va_D A [(h, .inr (10, [.int 0, .int 0, .int 0, .long 0, .ref xt, .int 0, .int 0, .ref tw]))] := hD
  refine lv_aload_n hx hb dX10_advance_57 rfl (lv_at hl 0 rfl) ?_
  refine va_get (D := g.1) (ci := 10) (v := .int 0) (C := RX10) (T := TX10) (N := 8) hx hb hT inF_X10 hown hK.1 hP 0 rfl rfl 6 (by decide) (hT _ bw_127) (fun _ h9 => h9) rfl dX10_advance_58 ?_
  refine lv_aload_n hx hb dX10_advance_61 rfl (lv_at hl 0 rfl) ?_
  refine va_get (D := g.1) (ci := 10) (v := .int 0) (C := RX10) (T := TX10) (N := 8) hx hb hT inF_X10 hown hK.1 hP 0 rfl rfl 5 (by decide) (hT _ bw_128) (fun _ h9 => h9) rfl dX10_advance_62 ?_
  refine lv_icmp_lt (tgt := 76) hx hb dX10_advance_65 (by decide) (fun c9 => absurd c9 (by decide)) (fun _ => ?_)
  refine lv_aload_n hx hb dX10_advance_68 rfl (lv_at hl 0 rfl) ?_
  refine lv_iconst (v := 0) hx hb dX10_advance_69 (by decide) ?_
  refine va_put (D := g.1) (ci := 10) (v := .int 0) (ty := .int) (C := RX10) (T := TX10) (N := 8) hx hb hT inF_X10 tyX10 tyX10_ok nmX10 hown hK.1 hP hD hS 0 rfl rfl 0 (by decide) (hT _ bw_132) (fun _ h9 => h9) rfl (by decide +kernel) rfl rfl (Nat.le_of_ble_eq_true rfl) dX10_advance_70 (fun H locs hP hD hS => ?_)
  have hP : va_P g.1 vwCl [(h, .inr (10, [.int 0, .int 0, .int 0, .long 0, .ref xt, .int 0, .int 0, .ref tw]))] H := hP
  have hD : va_D A [(h, .inr (10, [.int 0, .int 0, .int 0, .long 0, .ref xt, .int 0, .int 0, .ref tw]))] := hD
  refine lv_goto (tgt := 124) hx hb dX10_advance_73 (by decide) ?_
  have hP9 : va_P g.1 vwCl [(h, .inr (10, [.int 0, .int 0, .int 0, .long 0, .ref xt, .int 0, .int 0, .ref tw]))] H := hP.sub [0] rfl
  have hD9 : va_D A [(h, .inr (10, [.int 0, .int 0, .int 0, .long 0, .ref xt, .int 0, .int 0, .ref tw]))] := hD.sub [0] (by decide) rfl
  exact W.vret hx hb hr (fun t ht hW => ⟨⟨(), rfl, trivial, by rw [ht]; exact hP9, by rw [hAe]; exact hD9⟩, hS.F ht⟩) hS.2.2 dX10_advance_124

set_option maxHeartbeats 4000000 in
set_option maxRecDepth 100000 in
theorem c_X10_open (l : Launch) (g : GG) (sz : Nat) (h : Nat) (tw : Nat) (xt : Nat) : Met l yX10_open (.code yX10_open cX10_open 3 none :: gT) ({ frames := 1, cells := 0, slots := 0, locals := 60 }) (va_Pc [.ref h, .ref xt, .int 0] (Pst g sz [(h, .inr (10, [.int 0, .int 0, .int 0, .long 0, .null, .int 0, .int 0, .ref tw])), (xt, aB g 1600 z0)] nX)) (va_Qv (fun (_ : Unit) => True) (Qst g [(h, .inr (10, [.int 0, .int 0, .int 0, .long 0, .null, .int 0, .int 0, .ref tw])), (xt, aB g 1600 z0)] sz (fun _ => [(xt, aB g 1600 z0), (h, .inr (10, [.int 0, .int 0, .int 0, .long 0, .ref xt, .int 0, .int 0, .ref tw]))])) (va_A [(h, .inr (10, [.int 0, .int 0, .int 0, .long 0, .null, .int 0, .int 0, .ref tw])), (xt, aB g 1600 z0)] sz)) 0 0 (va_A [(h, .inr (10, [.int 0, .int 0, .int 0, .long 0, .null, .int 0, .int 0, .ref tw])), (xt, aB g 1600 z0)] sz) := by
  refine Met.ofW (cc := cX10_open) (maxL := 3) (ret := none) (by decide) rfl ?_
  intro p e s m args below meth c s₁ B hml hv
  obtain ⟨rfl, hsz, hP, hK, hD0, hX⟩ := hv
  have hx := B.exec
  have hb := B.bytes
  have hr := B.returns
  have hT : ∀ w ∈ gT, w.before _ s = true := fun w h => atoms_spec (ws := .code yX10_open cX10_open 3 none :: gT) B.pre w (List.mem_cons_of_mem _ h)
  have hown : s.vm.findClass RX10 = some m.cls := findClass_of_methodNamed B.named
  have hlocks := B.notSynchronized
  subst hsz
  have hD := hD0.self (sz := s.heap.size)
  generalize hAe : va_A [(h, .inr (10, [.int 0, .int 0, .int 0, .long 0, .null, .int 0, .int 0, .ref tw])), (xt, aB g 1600 z0)] s.heap.size = A at hD ⊢
  have hA : ∀ q : Nat, s.heap.size ≤ q → A q := fun q h => by rw [← hAe]; exact Or.inr h
  have hS : va_S A s.heap s.heap [] := va_S.rf
  have hl := lv_entry ([.ref h, .ref xt, .int 0]) (n := 3) (Nat.le_of_ble_eq_true rfl)
  rw [lg_entry_eq]
  generalize (lg_sl ([.ref h, .ref xt, .int 0]) ++ List.replicate (3 - (lg_sl ([.ref h, .ref xt, .int 0])).length) Slot.unset).toArray = ls at hl ⊢
  have hl : lv_has ls 3 [(0, .ref h), (1, .ref xt), (2, .int 0)] := hl
  refine p_nH (fun H hH => ?_)
  have hP : va_P g.1 vwCl [(h, .inr (10, [.int 0, .int 0, .int 0, .long 0, .null, .int 0, .int 0, .ref tw])), (xt, aB g 1600 z0)] H := by rw [hH]; exact hP
  have hS : va_S A s.heap H [] := by rw [hH]; exact hS
  refine lv_aload_n hx hb dX10_open_0 rfl (lv_at hl 0 rfl) ?_
  refine lv_aload_n hx hb dX10_open_1 rfl (lv_at hl 1 rfl) ?_
  refine va_put (D := g.1) (ci := 10) (v := .ref xt) (ty := .array .byte) (C := RX10) (T := TX10) (N := 8) hx hb hT inF_X10 tyX10 tyX10_ok nmX10 hown hK.1 hP hD hS 0 rfl rfl 4 (by decide) (hT _ bw_134) (fun _ h9 => h9) rfl (by decide +kernel) rfl rfl (Nat.le_of_ble_eq_true rfl) dX10_open_2 (fun H locs hP hD hS => ?_)
  have hP : va_P g.1 vwCl [(h, .inr (10, [.int 0, .int 0, .int 0, .long 0, .ref xt, .int 0, .int 0, .ref tw])), (xt, aB g 1600 z0)] H := hP
  have hD : va_D A [(h, .inr (10, [.int 0, .int 0, .int 0, .long 0, .ref xt, .int 0, .int 0, .ref tw])), (xt, aB g 1600 z0)] := hD
  refine lv_aload_n hx hb dX10_open_5 rfl (lv_at hl 0 rfl) ?_
  refine lv_aload_n hx hb dX10_open_6 rfl (lv_at hl 1 rfl) ?_
  refine lv_ifnonnull (tgt := 14) hx hb dX10_open_7 (by decide) ?_
  refine lv_iload_n hx hb dX10_open_14 rfl (lv_at hl 2 rfl) ?_
  refine lv_aload_n hx hb dX10_open_15 rfl (lv_at hl 1 rfl) ?_
  refine va_alen (v := 1600) hx hb hK.1 hP 1 0 rfl rfl (by decide) dX10_open_16 ?_
  refine va_mmin hx hb (hml.trans hl.1.symm) hown (hT _ bw_135) (hT _ bw_137) (hT _ bw_138) (hT _ bw_136) (Nat.le_of_ble_eq_true rfl) (Nat.le_of_ble_eq_true rfl) (Nat.le_of_ble_eq_true rfl) (Nat.le_of_ble_eq_true rfl) dX10_open_17 ?_
  refine p_ti (v := 0) (by decide +kernel) ?_
  refine va_put (D := g.1) (ci := 10) (v := .int 0) (ty := .int) (C := RX10) (T := TX10) (N := 8) hx hb hT inF_X10 tyX10 tyX10_ok nmX10 hown hK.1 hP hD hS 0 rfl rfl 5 (by decide) (hT _ bw_128) (fun _ h9 => h9) rfl (by decide +kernel) rfl rfl (Nat.le_of_ble_eq_true rfl) dX10_open_20 (fun H locs hP hD hS => ?_)
  have hP : va_P g.1 vwCl [(h, .inr (10, [.int 0, .int 0, .int 0, .long 0, .ref xt, .int 0, .int 0, .ref tw])), (xt, aB g 1600 z0)] H := hP
  have hD : va_D A [(h, .inr (10, [.int 0, .int 0, .int 0, .long 0, .ref xt, .int 0, .int 0, .ref tw])), (xt, aB g 1600 z0)] := hD
  refine lv_aload_n hx hb dX10_open_23 rfl (lv_at hl 0 rfl) ?_
  refine lv_iconst (v := 0) hx hb dX10_open_24 (by decide) ?_
  refine va_put (D := g.1) (ci := 10) (v := .int 0) (ty := .int) (C := RX10) (T := TX10) (N := 8) hx hb hT inF_X10 tyX10 tyX10_ok nmX10 hown hK.1 hP hD hS 0 rfl rfl 6 (by decide) (hT _ bw_127) (fun _ h9 => h9) rfl (by decide +kernel) rfl rfl (Nat.le_of_ble_eq_true rfl) dX10_open_25 (fun H locs hP hD hS => ?_)
  have hP : va_P g.1 vwCl [(h, .inr (10, [.int 0, .int 0, .int 0, .long 0, .ref xt, .int 0, .int 0, .ref tw])), (xt, aB g 1600 z0)] H := hP
  have hD : va_D A [(h, .inr (10, [.int 0, .int 0, .int 0, .long 0, .ref xt, .int 0, .int 0, .ref tw])), (xt, aB g 1600 z0)] := hD
  refine lv_aload_n hx hb dX10_open_28 rfl (lv_at hl 0 rfl) ?_
  refine k_v (wr := [(xt, aB g 1600 z0)]) (k_V (n := 0) ⟨hx, hb, hml, hown, hT⟩ hK hP hD [0] rfl (by decide) (c_X10_advance l g H.size h tw xt) (gV bw_139 bw_140 bw_141 bw_142 bw_133) rfl rfl (by decide +kernel) ⟨by decide, by decide⟩ (ci := 10) (q0 := 0) rfl rfl (fun _ _ _ _ _ => trivial) (fun _ _ _ => trivial) rfl rfl hl.1 (Nat.le_of_ble_eq_true rfl) dX10_open_29 ⟨by decide, by decide⟩) hP hD hS hA [0] [1] rfl rfl (by decide) (by decide) (fun u H locs hw hP hD hS => ?_)
  have hP : va_P g.1 vwCl [(xt, aB g 1600 z0), (h, .inr (10, [.int 0, .int 0, .int 0, .long 0, .ref xt, .int 0, .int 0, .ref tw]))] H := hP
  have hD : va_D A [(xt, aB g 1600 z0), (h, .inr (10, [.int 0, .int 0, .int 0, .long 0, .ref xt, .int 0, .int 0, .ref tw]))] := hD
  have hP9 : va_P g.1 vwCl [(xt, aB g 1600 z0), (h, .inr (10, [.int 0, .int 0, .int 0, .long 0, .ref xt, .int 0, .int 0, .ref tw]))] H := hP.sub [0, 1] rfl
  have hD9 : va_D A [(xt, aB g 1600 z0), (h, .inr (10, [.int 0, .int 0, .int 0, .long 0, .ref xt, .int 0, .int 0, .ref tw]))] := hD.sub [0, 1] (by decide) rfl
  exact W.vret hx hb hr (fun t ht hW => ⟨⟨(), rfl, trivial, by rw [ht]; exact hP9, by rw [hAe]; exact hD9⟩, hS.F ht⟩) hS.2.2 dX10_open_32

set_option maxHeartbeats 4000000 in
set_option maxRecDepth 100000 in
theorem c_X5_read (l : Launch) (g : GG) (sz : Nat) (xr : Nat) (tk : Nat) (tw : Nat) (xt : Nat) (la : Nat) (mea : Nat) (foa : Nat) (rea : Nat) (d1a : Nat) (d2a : Nat) (d3a : Nat) (m1a : Nat) (m2a : Nat) (m3a : Nat) (m4a : Nat) (f1a : Nat) (f2a : Nat) (f3a : Nat) (f4a : Nat) (r1a : Nat) (r2a : Nat) (r3a : Nat) (r4a : Nat) (r5a : Nat) (r6a : Nat) (r7a : Nat) : Met l yX5_read (.code yX5_read cX5_read 6 (some .boolean) :: gT) ({ frames := 2, cells := 0, slots := 0, locals := 82 }) (va_Pc [.ref xr, .ref xt, .int 0, .ref la] (Pst g sz [(xr, .inr (5, [.int 0, .int (-1), .ref tk, .null, .int 0, .int 0, .int 0])), (tk, .inr (10, [.int 0, .int 0, .int 0, .long 0, .null, .int 0, .int 0, .ref tw])), (xt, aB g 1600 z0), (la, .inr (2, [.ref mea, .ref foa, .ref rea, .int 0, .ref d1a, .ref d2a, .int 9, .int 0, .ref d3a])), (mea, .inr (3, [.int 0, .ref m1a, .ref m2a, .ref m3a, .ref m4a])), (foa, .inr (0, [.int 0, .int 0, .ref f1a, .int 0, .int 0, .ref f2a, .ref f3a, .ref f4a])), (rea, .inr (6, [.int 0, .ref r1a, .ref r2a, .ref r3a, .ref r4a, .ref r5a, .ref r6a, .ref r7a])), (d3a, aI g 4 z0)] nX)) (va_Qi (fun (r : Int32) (_ : Unit) => r = 1) (Qst g [(xr, .inr (5, [.int 0, .int (-1), .ref tk, .null, .int 0, .int 0, .int 0])), (tk, .inr (10, [.int 0, .int 0, .int 0, .long 0, .null, .int 0, .int 0, .ref tw])), (xt, aB g 1600 z0), (la, .inr (2, [.ref mea, .ref foa, .ref rea, .int 0, .ref d1a, .ref d2a, .int 9, .int 0, .ref d3a])), (mea, .inr (3, [.int 0, .ref m1a, .ref m2a, .ref m3a, .ref m4a])), (foa, .inr (0, [.int 0, .int 0, .ref f1a, .int 0, .int 0, .ref f2a, .ref f3a, .ref f4a])), (rea, .inr (6, [.int 0, .ref r1a, .ref r2a, .ref r3a, .ref r4a, .ref r5a, .ref r6a, .ref r7a])), (d3a, aI g 4 z0)] sz (fun _ => [(xr, .inr (5, [.int 0, .int (-1), .ref tk, .ref la, .int 0, .int 0, .int 0])), (la, .inr (2, [.ref mea, .ref foa, .ref rea, .int 0, .ref d1a, .ref d2a, .int 9, .int 0, .ref d3a])), (mea, .inr (3, [.int 0, .ref m1a, .ref m2a, .ref m3a, .ref m4a])), (rea, .inr (6, [.int 0, .ref r1a, .ref r2a, .ref r3a, .ref r4a, .ref r5a, .ref r6a, .ref r7a])), (foa, .inr (0, [.int 0, .int 0, .ref f1a, .int 0, .int 0, .ref f2a, .ref f3a, .ref f4a])), (d3a, aI g 4 z0), (xt, aB g 1600 z0), (tk, .inr (10, [.int 0, .int 0, .int 0, .long 0, .ref xt, .int 0, .int 0, .ref tw]))])) (va_A [(xr, .inr (5, [.int 0, .int (-1), .ref tk, .null, .int 0, .int 0, .int 0])), (tk, .inr (10, [.int 0, .int 0, .int 0, .long 0, .null, .int 0, .int 0, .ref tw])), (xt, aB g 1600 z0), (la, .inr (2, [.ref mea, .ref foa, .ref rea, .int 0, .ref d1a, .ref d2a, .int 9, .int 0, .ref d3a])), (mea, .inr (3, [.int 0, .ref m1a, .ref m2a, .ref m3a, .ref m4a])), (foa, .inr (0, [.int 0, .int 0, .ref f1a, .int 0, .int 0, .ref f2a, .ref f3a, .ref f4a])), (rea, .inr (6, [.int 0, .ref r1a, .ref r2a, .ref r3a, .ref r4a, .ref r5a, .ref r6a, .ref r7a])), (d3a, aI g 4 z0)] sz)) 0 0 (va_A [(xr, .inr (5, [.int 0, .int (-1), .ref tk, .null, .int 0, .int 0, .int 0])), (tk, .inr (10, [.int 0, .int 0, .int 0, .long 0, .null, .int 0, .int 0, .ref tw])), (xt, aB g 1600 z0), (la, .inr (2, [.ref mea, .ref foa, .ref rea, .int 0, .ref d1a, .ref d2a, .int 9, .int 0, .ref d3a])), (mea, .inr (3, [.int 0, .ref m1a, .ref m2a, .ref m3a, .ref m4a])), (foa, .inr (0, [.int 0, .int 0, .ref f1a, .int 0, .int 0, .ref f2a, .ref f3a, .ref f4a])), (rea, .inr (6, [.int 0, .ref r1a, .ref r2a, .ref r3a, .ref r4a, .ref r5a, .ref r6a, .ref r7a])), (d3a, aI g 4 z0)] sz) := by
  refine Met.ofW (cc := cX5_read) (maxL := 6) (ret := (some .boolean)) (by decide) rfl ?_
  intro p e s m args below meth c s₁ B hml hv
  obtain ⟨rfl, hsz, hP, hK, hD0, hX⟩ := hv
  have hx := B.exec
  have hb := B.bytes
  have hr := B.returns
  have hT : ∀ w ∈ gT, w.before _ s = true := fun w h => atoms_spec (ws := .code yX5_read cX5_read 6 (some .boolean) :: gT) B.pre w (List.mem_cons_of_mem _ h)
  have hown : s.vm.findClass RX5 = some m.cls := findClass_of_methodNamed B.named
  have hlocks := B.notSynchronized
  subst hsz
  have hD := hD0.self (sz := s.heap.size)
  generalize hAe : va_A [(xr, .inr (5, [.int 0, .int (-1), .ref tk, .null, .int 0, .int 0, .int 0])), (tk, .inr (10, [.int 0, .int 0, .int 0, .long 0, .null, .int 0, .int 0, .ref tw])), (xt, aB g 1600 z0), (la, .inr (2, [.ref mea, .ref foa, .ref rea, .int 0, .ref d1a, .ref d2a, .int 9, .int 0, .ref d3a])), (mea, .inr (3, [.int 0, .ref m1a, .ref m2a, .ref m3a, .ref m4a])), (foa, .inr (0, [.int 0, .int 0, .ref f1a, .int 0, .int 0, .ref f2a, .ref f3a, .ref f4a])), (rea, .inr (6, [.int 0, .ref r1a, .ref r2a, .ref r3a, .ref r4a, .ref r5a, .ref r6a, .ref r7a])), (d3a, aI g 4 z0)] s.heap.size = A at hD ⊢
  have hA : ∀ q : Nat, s.heap.size ≤ q → A q := fun q h => by rw [← hAe]; exact Or.inr h
  have hS : va_S A s.heap s.heap [] := va_S.rf
  have hl := lv_entry ([.ref xr, .ref xt, .int 0, .ref la]) (n := 6) (Nat.le_of_ble_eq_true rfl)
  rw [lg_entry_eq]
  generalize (lg_sl ([.ref xr, .ref xt, .int 0, .ref la]) ++ List.replicate (6 - (lg_sl ([.ref xr, .ref xt, .int 0, .ref la])).length) Slot.unset).toArray = ls at hl ⊢
  have hl : lv_has ls 6 [(0, .ref xr), (1, .ref xt), (2, .int 0), (3, .ref la)] := hl
  refine p_nH (fun H hH => ?_)
  have hP : va_P g.1 vwCl [(xr, .inr (5, [.int 0, .int (-1), .ref tk, .null, .int 0, .int 0, .int 0])), (tk, .inr (10, [.int 0, .int 0, .int 0, .long 0, .null, .int 0, .int 0, .ref tw])), (xt, aB g 1600 z0), (la, .inr (2, [.ref mea, .ref foa, .ref rea, .int 0, .ref d1a, .ref d2a, .int 9, .int 0, .ref d3a])), (mea, .inr (3, [.int 0, .ref m1a, .ref m2a, .ref m3a, .ref m4a])), (foa, .inr (0, [.int 0, .int 0, .ref f1a, .int 0, .int 0, .ref f2a, .ref f3a, .ref f4a])), (rea, .inr (6, [.int 0, .ref r1a, .ref r2a, .ref r3a, .ref r4a, .ref r5a, .ref r6a, .ref r7a])), (d3a, aI g 4 z0)] H := by rw [hH]; exact hP
  have hS : va_S A s.heap H [] := by rw [hH]; exact hS
  refine lv_aload_n hx hb dX5_read_0 rfl (lv_at hl 0 rfl) ?_
  refine lv_iconst (v := 0) hx hb dX5_read_1 (by decide) ?_
  refine va_put (D := g.1) (ci := 5) (v := .int 0) (ty := .int) (C := RX5) (T := TX5) (N := 7) hx hb hT inF_X5 tyX5 tyX5_ok nmX5 hown hK.1 hP hD hS 0 rfl rfl 0 (by decide) (hT _ bw_144) (fun _ h9 => h9) rfl (by decide +kernel) rfl rfl (Nat.le_of_ble_eq_true rfl) dX5_read_2 (fun H locs hP hD hS => ?_)
  have hP : va_P g.1 vwCl [(xr, .inr (5, [.int 0, .int (-1), .ref tk, .null, .int 0, .int 0, .int 0])), (tk, .inr (10, [.int 0, .int 0, .int 0, .long 0, .null, .int 0, .int 0, .ref tw])), (xt, aB g 1600 z0), (la, .inr (2, [.ref mea, .ref foa, .ref rea, .int 0, .ref d1a, .ref d2a, .int 9, .int 0, .ref d3a])), (mea, .inr (3, [.int 0, .ref m1a, .ref m2a, .ref m3a, .ref m4a])), (foa, .inr (0, [.int 0, .int 0, .ref f1a, .int 0, .int 0, .ref f2a, .ref f3a, .ref f4a])), (rea, .inr (6, [.int 0, .ref r1a, .ref r2a, .ref r3a, .ref r4a, .ref r5a, .ref r6a, .ref r7a])), (d3a, aI g 4 z0)] H := hP
  have hD : va_D A [(xr, .inr (5, [.int 0, .int (-1), .ref tk, .null, .int 0, .int 0, .int 0])), (tk, .inr (10, [.int 0, .int 0, .int 0, .long 0, .null, .int 0, .int 0, .ref tw])), (xt, aB g 1600 z0), (la, .inr (2, [.ref mea, .ref foa, .ref rea, .int 0, .ref d1a, .ref d2a, .int 9, .int 0, .ref d3a])), (mea, .inr (3, [.int 0, .ref m1a, .ref m2a, .ref m3a, .ref m4a])), (foa, .inr (0, [.int 0, .int 0, .ref f1a, .int 0, .int 0, .ref f2a, .ref f3a, .ref f4a])), (rea, .inr (6, [.int 0, .ref r1a, .ref r2a, .ref r3a, .ref r4a, .ref r5a, .ref r6a, .ref r7a])), (d3a, aI g 4 z0)] := hD
  refine lv_aload_n hx hb dX5_read_5 rfl (lv_at hl 0 rfl) ?_
  refine lv_iconst (v := (-1)) hx hb dX5_read_6 (by decide) ?_
  refine va_put (D := g.1) (ci := 5) (v := .int (-1)) (ty := .int) (C := RX5) (T := TX5) (N := 7) hx hb hT inF_X5 tyX5 tyX5_ok nmX5 hown hK.1 hP hD hS 0 rfl rfl 1 (by decide) (hT _ bw_145) (fun _ h9 => h9) rfl (by decide +kernel) rfl rfl (Nat.le_of_ble_eq_true rfl) dX5_read_7 (fun H locs hP hD hS => ?_)
  have hP : va_P g.1 vwCl [(xr, .inr (5, [.int 0, .int (-1), .ref tk, .null, .int 0, .int 0, .int 0])), (tk, .inr (10, [.int 0, .int 0, .int 0, .long 0, .null, .int 0, .int 0, .ref tw])), (xt, aB g 1600 z0), (la, .inr (2, [.ref mea, .ref foa, .ref rea, .int 0, .ref d1a, .ref d2a, .int 9, .int 0, .ref d3a])), (mea, .inr (3, [.int 0, .ref m1a, .ref m2a, .ref m3a, .ref m4a])), (foa, .inr (0, [.int 0, .int 0, .ref f1a, .int 0, .int 0, .ref f2a, .ref f3a, .ref f4a])), (rea, .inr (6, [.int 0, .ref r1a, .ref r2a, .ref r3a, .ref r4a, .ref r5a, .ref r6a, .ref r7a])), (d3a, aI g 4 z0)] H := hP
  have hD : va_D A [(xr, .inr (5, [.int 0, .int (-1), .ref tk, .null, .int 0, .int 0, .int 0])), (tk, .inr (10, [.int 0, .int 0, .int 0, .long 0, .null, .int 0, .int 0, .ref tw])), (xt, aB g 1600 z0), (la, .inr (2, [.ref mea, .ref foa, .ref rea, .int 0, .ref d1a, .ref d2a, .int 9, .int 0, .ref d3a])), (mea, .inr (3, [.int 0, .ref m1a, .ref m2a, .ref m3a, .ref m4a])), (foa, .inr (0, [.int 0, .int 0, .ref f1a, .int 0, .int 0, .ref f2a, .ref f3a, .ref f4a])), (rea, .inr (6, [.int 0, .ref r1a, .ref r2a, .ref r3a, .ref r4a, .ref r5a, .ref r6a, .ref r7a])), (d3a, aI g 4 z0)] := hD
  refine lv_aload_n hx hb dX5_read_10 rfl (lv_at hl 0 rfl) ?_
  refine lv_aload_n hx hb dX5_read_11 rfl (lv_at hl 3 rfl) ?_
  refine va_put (D := g.1) (ci := 5) (v := .ref la) (ty := .object "DuelDelays$Land") (C := RX5) (T := TX5) (N := 7) hx hb hT inF_X5 tyX5 tyX5_ok nmX5 hown hK.1 hP hD hS 0 rfl rfl 3 (by decide) (hT _ bw_146) (fun _ h9 => h9) rfl (by decide +kernel) rfl rfl (Nat.le_of_ble_eq_true rfl) dX5_read_12 (fun H locs hP hD hS => ?_)
  have hP : va_P g.1 vwCl [(xr, .inr (5, [.int 0, .int (-1), .ref tk, .ref la, .int 0, .int 0, .int 0])), (tk, .inr (10, [.int 0, .int 0, .int 0, .long 0, .null, .int 0, .int 0, .ref tw])), (xt, aB g 1600 z0), (la, .inr (2, [.ref mea, .ref foa, .ref rea, .int 0, .ref d1a, .ref d2a, .int 9, .int 0, .ref d3a])), (mea, .inr (3, [.int 0, .ref m1a, .ref m2a, .ref m3a, .ref m4a])), (foa, .inr (0, [.int 0, .int 0, .ref f1a, .int 0, .int 0, .ref f2a, .ref f3a, .ref f4a])), (rea, .inr (6, [.int 0, .ref r1a, .ref r2a, .ref r3a, .ref r4a, .ref r5a, .ref r6a, .ref r7a])), (d3a, aI g 4 z0)] H := hP
  have hD : va_D A [(xr, .inr (5, [.int 0, .int (-1), .ref tk, .ref la, .int 0, .int 0, .int 0])), (tk, .inr (10, [.int 0, .int 0, .int 0, .long 0, .null, .int 0, .int 0, .ref tw])), (xt, aB g 1600 z0), (la, .inr (2, [.ref mea, .ref foa, .ref rea, .int 0, .ref d1a, .ref d2a, .int 9, .int 0, .ref d3a])), (mea, .inr (3, [.int 0, .ref m1a, .ref m2a, .ref m3a, .ref m4a])), (foa, .inr (0, [.int 0, .int 0, .ref f1a, .int 0, .int 0, .ref f2a, .ref f3a, .ref f4a])), (rea, .inr (6, [.int 0, .ref r1a, .ref r2a, .ref r3a, .ref r4a, .ref r5a, .ref r6a, .ref r7a])), (d3a, aI g 4 z0)] := hD
  refine lv_aload_n hx hb dX5_read_15 rfl (lv_at hl 0 rfl) ?_
  refine va_get (D := g.1) (ci := 5) (v := .ref la) (C := RX5) (T := TX5) (N := 7) hx hb hT inF_X5 hown hK.1 hP 0 rfl rfl 3 (by decide) (hT _ bw_146) (fun _ h9 => h9) rfl dX5_read_16 ?_
  refine k_v (wr := [(xr, .inr (5, [.int 0, .int (-1), .ref tk, .ref la, .int 0, .int 0, .int 0])), (tk, .inr (10, [.int 0, .int 0, .int 0, .long 0, .null, .int 0, .int 0, .ref tw])), (xt, aB g 1600 z0)]) (k_V (n := 0) ⟨hx, hb, hml, hown, hT⟩ hK hP hD [3, 4, 5, 6, 7] rfl (by decide) (c_X2_clear l g H.size la mea foa rea d1a d2a d3a m1a m2a m3a m4a f1a f2a f3a f4a r1a r2a r3a r4a r5a r6a r7a) (gV bw_147 bw_148 bw_149 bw_150 bw_100) rfl rfl (by decide +kernel) ⟨by decide, by decide⟩ (ci := 2) (q0 := 0) rfl rfl (fun _ _ _ _ _ => trivial) (fun _ _ _ => trivial) rfl rfl hl.1 (Nat.le_of_ble_eq_true rfl) dX5_read_19 ⟨by decide, by decide⟩) hP hD hS hA [3, 4, 5, 6, 7] [0, 1, 2] rfl rfl (by decide) (by decide) (fun u H locs hw hP hD hS => ?_)
  have hP : va_P g.1 vwCl [(xr, .inr (5, [.int 0, .int (-1), .ref tk, .ref la, .int 0, .int 0, .int 0])), (tk, .inr (10, [.int 0, .int 0, .int 0, .long 0, .null, .int 0, .int 0, .ref tw])), (xt, aB g 1600 z0), (la, .inr (2, [.ref mea, .ref foa, .ref rea, .int 0, .ref d1a, .ref d2a, .int 9, .int 0, .ref d3a])), (mea, .inr (3, [.int 0, .ref m1a, .ref m2a, .ref m3a, .ref m4a])), (rea, .inr (6, [.int 0, .ref r1a, .ref r2a, .ref r3a, .ref r4a, .ref r5a, .ref r6a, .ref r7a])), (foa, .inr (0, [.int 0, .int 0, .ref f1a, .int 0, .int 0, .ref f2a, .ref f3a, .ref f4a])), (d3a, aI g 4 z0)] H := hP
  have hD : va_D A [(xr, .inr (5, [.int 0, .int (-1), .ref tk, .ref la, .int 0, .int 0, .int 0])), (tk, .inr (10, [.int 0, .int 0, .int 0, .long 0, .null, .int 0, .int 0, .ref tw])), (xt, aB g 1600 z0), (la, .inr (2, [.ref mea, .ref foa, .ref rea, .int 0, .ref d1a, .ref d2a, .int 9, .int 0, .ref d3a])), (mea, .inr (3, [.int 0, .ref m1a, .ref m2a, .ref m3a, .ref m4a])), (rea, .inr (6, [.int 0, .ref r1a, .ref r2a, .ref r3a, .ref r4a, .ref r5a, .ref r6a, .ref r7a])), (foa, .inr (0, [.int 0, .int 0, .ref f1a, .int 0, .int 0, .ref f2a, .ref f3a, .ref f4a])), (d3a, aI g 4 z0)] := hD
  refine lv_aload_n hx hb dX5_read_22 rfl (lv_at hl 0 rfl) ?_
  refine lv_iconst (v := 0) hx hb dX5_read_23 (by decide) ?_
  refine va_put (D := g.1) (ci := 5) (v := .int 0) (ty := .boolean) (C := RX5) (T := TX5) (N := 7) hx hb hT inF_X5 tyX5 tyX5_ok nmX5 hown hK.1 hP hD hS 0 rfl rfl 4 (by decide) (hT _ bw_151) (fun _ h9 => h9) rfl (by decide +kernel) rfl rfl (Nat.le_of_ble_eq_true rfl) dX5_read_24 (fun H locs hP hD hS => ?_)
  have hP : va_P g.1 vwCl [(xr, .inr (5, [.int 0, .int (-1), .ref tk, .ref la, .int 0, .int 0, .int 0])), (tk, .inr (10, [.int 0, .int 0, .int 0, .long 0, .null, .int 0, .int 0, .ref tw])), (xt, aB g 1600 z0), (la, .inr (2, [.ref mea, .ref foa, .ref rea, .int 0, .ref d1a, .ref d2a, .int 9, .int 0, .ref d3a])), (mea, .inr (3, [.int 0, .ref m1a, .ref m2a, .ref m3a, .ref m4a])), (rea, .inr (6, [.int 0, .ref r1a, .ref r2a, .ref r3a, .ref r4a, .ref r5a, .ref r6a, .ref r7a])), (foa, .inr (0, [.int 0, .int 0, .ref f1a, .int 0, .int 0, .ref f2a, .ref f3a, .ref f4a])), (d3a, aI g 4 z0)] H := hP
  have hD : va_D A [(xr, .inr (5, [.int 0, .int (-1), .ref tk, .ref la, .int 0, .int 0, .int 0])), (tk, .inr (10, [.int 0, .int 0, .int 0, .long 0, .null, .int 0, .int 0, .ref tw])), (xt, aB g 1600 z0), (la, .inr (2, [.ref mea, .ref foa, .ref rea, .int 0, .ref d1a, .ref d2a, .int 9, .int 0, .ref d3a])), (mea, .inr (3, [.int 0, .ref m1a, .ref m2a, .ref m3a, .ref m4a])), (rea, .inr (6, [.int 0, .ref r1a, .ref r2a, .ref r3a, .ref r4a, .ref r5a, .ref r6a, .ref r7a])), (foa, .inr (0, [.int 0, .int 0, .ref f1a, .int 0, .int 0, .ref f2a, .ref f3a, .ref f4a])), (d3a, aI g 4 z0)] := hD
  refine lv_aload_n hx hb dX5_read_27 rfl (lv_at hl 0 rfl) ?_
  refine lv_iconst (v := 0) hx hb dX5_read_28 (by decide) ?_
  refine va_put (D := g.1) (ci := 5) (v := .int 0) (ty := .boolean) (C := RX5) (T := TX5) (N := 7) hx hb hT inF_X5 tyX5 tyX5_ok nmX5 hown hK.1 hP hD hS 0 rfl rfl 5 (by decide) (hT _ bw_152) (fun _ h9 => h9) rfl (by decide +kernel) rfl rfl (Nat.le_of_ble_eq_true rfl) dX5_read_29 (fun H locs hP hD hS => ?_)
  have hP : va_P g.1 vwCl [(xr, .inr (5, [.int 0, .int (-1), .ref tk, .ref la, .int 0, .int 0, .int 0])), (tk, .inr (10, [.int 0, .int 0, .int 0, .long 0, .null, .int 0, .int 0, .ref tw])), (xt, aB g 1600 z0), (la, .inr (2, [.ref mea, .ref foa, .ref rea, .int 0, .ref d1a, .ref d2a, .int 9, .int 0, .ref d3a])), (mea, .inr (3, [.int 0, .ref m1a, .ref m2a, .ref m3a, .ref m4a])), (rea, .inr (6, [.int 0, .ref r1a, .ref r2a, .ref r3a, .ref r4a, .ref r5a, .ref r6a, .ref r7a])), (foa, .inr (0, [.int 0, .int 0, .ref f1a, .int 0, .int 0, .ref f2a, .ref f3a, .ref f4a])), (d3a, aI g 4 z0)] H := hP
  have hD : va_D A [(xr, .inr (5, [.int 0, .int (-1), .ref tk, .ref la, .int 0, .int 0, .int 0])), (tk, .inr (10, [.int 0, .int 0, .int 0, .long 0, .null, .int 0, .int 0, .ref tw])), (xt, aB g 1600 z0), (la, .inr (2, [.ref mea, .ref foa, .ref rea, .int 0, .ref d1a, .ref d2a, .int 9, .int 0, .ref d3a])), (mea, .inr (3, [.int 0, .ref m1a, .ref m2a, .ref m3a, .ref m4a])), (rea, .inr (6, [.int 0, .ref r1a, .ref r2a, .ref r3a, .ref r4a, .ref r5a, .ref r6a, .ref r7a])), (foa, .inr (0, [.int 0, .int 0, .ref f1a, .int 0, .int 0, .ref f2a, .ref f3a, .ref f4a])), (d3a, aI g 4 z0)] := hD
  refine lv_aload_n hx hb dX5_read_32 rfl (lv_at hl 0 rfl) ?_
  refine va_get (D := g.1) (ci := 5) (v := .ref tk) (C := RX5) (T := TX5) (N := 7) hx hb hT inF_X5 hown hK.1 hP 0 rfl rfl 2 (by decide) (hT _ bw_153) (fun _ h9 => h9) rfl dX5_read_33 ?_
  refine lv_aload_n hx hb dX5_read_36 rfl (lv_at hl 1 rfl) ?_
  refine lv_iload_n hx hb dX5_read_37 rfl (lv_at hl 2 rfl) ?_
  refine k_v (wr := [(xr, .inr (5, [.int 0, .int (-1), .ref tk, .ref la, .int 0, .int 0, .int 0])), (la, .inr (2, [.ref mea, .ref foa, .ref rea, .int 0, .ref d1a, .ref d2a, .int 9, .int 0, .ref d3a])), (mea, .inr (3, [.int 0, .ref m1a, .ref m2a, .ref m3a, .ref m4a])), (rea, .inr (6, [.int 0, .ref r1a, .ref r2a, .ref r3a, .ref r4a, .ref r5a, .ref r6a, .ref r7a])), (foa, .inr (0, [.int 0, .int 0, .ref f1a, .int 0, .int 0, .ref f2a, .ref f3a, .ref f4a])), (d3a, aI g 4 z0)]) (k_V (n := 2) ⟨hx, hb, hml, hown, hT⟩ hK hP hD [1, 2] rfl (by decide) (c_X10_open l g H.size tk tw xt) (gV bw_154 bw_155 bw_156 bw_142 bw_143) rfl rfl (by decide +kernel) ⟨by decide, by decide⟩ (ci := 10) (q0 := 0) rfl rfl (fun _ _ _ _ _ => trivial) (fun _ _ _ => trivial) rfl rfl hl.1 (Nat.le_of_ble_eq_true rfl) dX5_read_38 ⟨by decide, by decide⟩) hP hD hS hA [1, 2] [0, 3, 4, 5, 6, 7] rfl rfl (by decide) (by decide) (fun u H locs hw hP hD hS => ?_)
  have hP : va_P g.1 vwCl [(xr, .inr (5, [.int 0, .int (-1), .ref tk, .ref la, .int 0, .int 0, .int 0])), (la, .inr (2, [.ref mea, .ref foa, .ref rea, .int 0, .ref d1a, .ref d2a, .int 9, .int 0, .ref d3a])), (mea, .inr (3, [.int 0, .ref m1a, .ref m2a, .ref m3a, .ref m4a])), (rea, .inr (6, [.int 0, .ref r1a, .ref r2a, .ref r3a, .ref r4a, .ref r5a, .ref r6a, .ref r7a])), (foa, .inr (0, [.int 0, .int 0, .ref f1a, .int 0, .int 0, .ref f2a, .ref f3a, .ref f4a])), (d3a, aI g 4 z0), (xt, aB g 1600 z0), (tk, .inr (10, [.int 0, .int 0, .int 0, .long 0, .ref xt, .int 0, .int 0, .ref tw]))] H := hP
  have hD : va_D A [(xr, .inr (5, [.int 0, .int (-1), .ref tk, .ref la, .int 0, .int 0, .int 0])), (la, .inr (2, [.ref mea, .ref foa, .ref rea, .int 0, .ref d1a, .ref d2a, .int 9, .int 0, .ref d3a])), (mea, .inr (3, [.int 0, .ref m1a, .ref m2a, .ref m3a, .ref m4a])), (rea, .inr (6, [.int 0, .ref r1a, .ref r2a, .ref r3a, .ref r4a, .ref r5a, .ref r6a, .ref r7a])), (foa, .inr (0, [.int 0, .int 0, .ref f1a, .int 0, .int 0, .ref f2a, .ref f3a, .ref f4a])), (d3a, aI g 4 z0), (xt, aB g 1600 z0), (tk, .inr (10, [.int 0, .int 0, .int 0, .long 0, .ref xt, .int 0, .int 0, .ref tw]))] := hD
  refine lv_iconst (v := 0) hx hb dX5_read_41 (by decide) ?_
  refine lv_istore (lv' := [(4, .int 0), (0, .ref xr), (1, .ref xt), (2, .int 0), (3, .ref la)]) hx hb dX5_read_42 hl (by decide) rfl (fun ls hl => ?_)
  refine lv_iload hx hb dX5_read_44 (lv_at hl 0 rfl) ?_
  refine lv_sipush (v := 1600) hx hb dX5_read_46 (by decide) ?_
  refine lv_icmp_gt (tgt := 246) hx hb dX5_read_49 (by decide) (fun c9 => absurd c9 (by decide)) (fun _ => ?_)
  refine lv_aload_n hx hb dX5_read_52 rfl (lv_at hl 1 rfl) ?_
  refine va_get (D := g.1) (ci := 5) (v := .ref tk) (C := RX5) (T := TX5) (N := 7) hx hb hT inF_X5 hown hK.1 hP 0 rfl rfl 2 (by decide) (hT _ bw_153) (fun _ h9 => h9) rfl dX5_read_53 ?_
  refine va_get (D := g.1) (ci := 10) (v := .int 0) (C := RX10) (T := TX10) (N := 8) hx hb hT inF_X10 hown hK.1 hP 7 rfl rfl 0 (by decide) (hT _ bw_157) (fun _ h9 => h9) rfl dX5_read_56 ?_
  refine lv_if_eq (tgt := 246) hx hb dX5_read_59 (by decide) (fun _ => ?_) (fun c9 => absurd (by decide) c9)
  refine lv_iconst (v := 1) hx hb dX5_read_246 (by decide) ?_
  have hP9 : va_P g.1 vwCl [(xr, .inr (5, [.int 0, .int (-1), .ref tk, .ref la, .int 0, .int 0, .int 0])), (la, .inr (2, [.ref mea, .ref foa, .ref rea, .int 0, .ref d1a, .ref d2a, .int 9, .int 0, .ref d3a])), (mea, .inr (3, [.int 0, .ref m1a, .ref m2a, .ref m3a, .ref m4a])), (rea, .inr (6, [.int 0, .ref r1a, .ref r2a, .ref r3a, .ref r4a, .ref r5a, .ref r6a, .ref r7a])), (foa, .inr (0, [.int 0, .int 0, .ref f1a, .int 0, .int 0, .ref f2a, .ref f3a, .ref f4a])), (d3a, aI g 4 z0), (xt, aB g 1600 z0), (tk, .inr (10, [.int 0, .int 0, .int 0, .long 0, .ref xt, .int 0, .int 0, .ref tw]))] H := hP.sub [0, 1, 2, 3, 4, 5, 6, 7] rfl
  have hD9 : va_D A [(xr, .inr (5, [.int 0, .int (-1), .ref tk, .ref la, .int 0, .int 0, .int 0])), (la, .inr (2, [.ref mea, .ref foa, .ref rea, .int 0, .ref d1a, .ref d2a, .int 9, .int 0, .ref d3a])), (mea, .inr (3, [.int 0, .ref m1a, .ref m2a, .ref m3a, .ref m4a])), (rea, .inr (6, [.int 0, .ref r1a, .ref r2a, .ref r3a, .ref r4a, .ref r5a, .ref r6a, .ref r7a])), (foa, .inr (0, [.int 0, .int 0, .ref f1a, .int 0, .int 0, .ref f2a, .ref f3a, .ref f4a])), (d3a, aI g 4 z0), (xt, aB g 1600 z0), (tk, .inr (10, [.int 0, .int 0, .int 0, .long 0, .ref xt, .int 0, .int 0, .ref tw]))] := hD.sub [0, 1, 2, 3, 4, 5, 6, 7] (by decide) rfl
  exact W.zret (v := 1) (ty := .boolean) hx hb hr rfl (fun t ht hW => ⟨⟨1, (), rfl, rfl, by rw [ht]; exact hP9, by rw [hAe]; exact hD9⟩, hS.F ht⟩) hS.2.2 dX5_read_247
end
section
set_option maxHeartbeats 4000000 in
set_option maxRecDepth 100000 in
theorem c_X11_code (l : Launch) (g : GG) (sz : Nat) (x : Nat) (xt : Nat) (xr : Nat) (la : Nat) (lb : Nat) (sa : Nat) (ba : Nat) (se : Nat) (si : Nat) (pa : Nat) (he : Nat) (tk : Nat) (tw : Nat) (meb : Nat) (fob : Nat) (reb : Nat) (d1b : Nat) (d2b : Nat) (d3b : Nat) (m1b : Nat) (m2b : Nat) (m3b : Nat) (m4b : Nat) (f1b : Nat) (f2b : Nat) (f3b : Nat) (f4b : Nat) (r1b : Nat) (r2b : Nat) (r3b : Nat) (r4b : Nat) (r5b : Nat) (r6b : Nat) (r7b : Nat) (s1 : Nat) (s0 : Nat) (t1u : Nat) (t2u : Nat) (t3u : Nat) (t4u : Nat) (t5u : Nat) (t6u : Nat) (t7u : Nat) (i1 : Nat) (i2 : Nat) (i3 : Nat) (i4 : Nat) (k3 : Nat) (fs : Nat → Option Nat) : Met l yX11_code (.code yX11_code cX11_code 2 (some .int) :: gT) ({ frames := 3, cells := 0, slots := 0, locals := 107 }) (va_Pc [.ref x] (Pst g sz [(x, .inr (11, [.ref xt, .int 0, .ref xr, .ref la, .ref lb, .ref sa, .int 0, .int 0, .ref ba, .int 0, .ref se, .ref si, .ref pa, .ref he])), (xt, aB g 1600 z0), (xr, .inr (5, [.int 0, .int (-1), .ref tk, .null, .int 0, .int 0, .int 0])), (tk, .inr (10, [.int 0, .int 0, .int 0, .long 0, .null, .int 0, .int 0, .ref tw])), (lb, .inr (2, [.ref meb, .ref fob, .ref reb, .int 0, .ref d1b, .ref d2b, .int 9, .int 0, .ref d3b])), (meb, .inr (3, [.int 0, .ref m1b, .ref m2b, .ref m3b, .ref m4b])), (m3b, aI g 6 z0), (fob, .inr (0, [.int 0, .int 0, .ref f1b, .int 0, .int 0, .ref f2b, .ref f3b, .ref f4b])), (reb, .inr (6, [.int 0, .ref r1b, .ref r2b, .ref r3b, .ref r4b, .ref r5b, .ref r6b, .ref r7b])), (d3b, aI g 4 z0), (sa, aO g 41 (va_up (va_up fs 0 (some s0)) 1 (some s1))), (s0, .inr (9, [.int 0, .int 0, .int 0, .int 0, .int 0, .int 0, .int 0, .ref t1u, .ref t2u, .ref t3u, .ref t4u, .ref t5u, .ref t6u, .ref t7u])), (t1u, aI g 6 z0), (t2u, aI g 6 z0), (si, .inr (8, [.int 0, .int 0, .ref i1, .ref i2, .ref i3, .ref i4])), (he, .inr (1, [.int 0, .ref k3]))] nX)) (va_Qi (fun (r : Int32) (_ : Unit) => r = 0) (Qst g [(x, .inr (11, [.ref xt, .int 0, .ref xr, .ref la, .ref lb, .ref sa, .int 0, .int 0, .ref ba, .int 0, .ref se, .ref si, .ref pa, .ref he])), (xt, aB g 1600 z0), (xr, .inr (5, [.int 0, .int (-1), .ref tk, .null, .int 0, .int 0, .int 0])), (tk, .inr (10, [.int 0, .int 0, .int 0, .long 0, .null, .int 0, .int 0, .ref tw])), (lb, .inr (2, [.ref meb, .ref fob, .ref reb, .int 0, .ref d1b, .ref d2b, .int 9, .int 0, .ref d3b])), (meb, .inr (3, [.int 0, .ref m1b, .ref m2b, .ref m3b, .ref m4b])), (m3b, aI g 6 z0), (fob, .inr (0, [.int 0, .int 0, .ref f1b, .int 0, .int 0, .ref f2b, .ref f3b, .ref f4b])), (reb, .inr (6, [.int 0, .ref r1b, .ref r2b, .ref r3b, .ref r4b, .ref r5b, .ref r6b, .ref r7b])), (d3b, aI g 4 z0), (sa, aO g 41 (va_up (va_up fs 0 (some s0)) 1 (some s1))), (s0, .inr (9, [.int 0, .int 0, .int 0, .int 0, .int 0, .int 0, .int 0, .ref t1u, .ref t2u, .ref t3u, .ref t4u, .ref t5u, .ref t6u, .ref t7u])), (t1u, aI g 6 z0), (t2u, aI g 6 z0), (si, .inr (8, [.int 0, .int 0, .ref i1, .ref i2, .ref i3, .ref i4])), (he, .inr (1, [.int 0, .ref k3]))] sz (fun _ => [])) (va_A [(x, .inr (11, [.ref xt, .int 0, .ref xr, .ref la, .ref lb, .ref sa, .int 0, .int 0, .ref ba, .int 0, .ref se, .ref si, .ref pa, .ref he])), (xt, aB g 1600 z0), (xr, .inr (5, [.int 0, .int (-1), .ref tk, .null, .int 0, .int 0, .int 0])), (tk, .inr (10, [.int 0, .int 0, .int 0, .long 0, .null, .int 0, .int 0, .ref tw])), (lb, .inr (2, [.ref meb, .ref fob, .ref reb, .int 0, .ref d1b, .ref d2b, .int 9, .int 0, .ref d3b])), (meb, .inr (3, [.int 0, .ref m1b, .ref m2b, .ref m3b, .ref m4b])), (m3b, aI g 6 z0), (fob, .inr (0, [.int 0, .int 0, .ref f1b, .int 0, .int 0, .ref f2b, .ref f3b, .ref f4b])), (reb, .inr (6, [.int 0, .ref r1b, .ref r2b, .ref r3b, .ref r4b, .ref r5b, .ref r6b, .ref r7b])), (d3b, aI g 4 z0), (sa, aO g 41 (va_up (va_up fs 0 (some s0)) 1 (some s1))), (s0, .inr (9, [.int 0, .int 0, .int 0, .int 0, .int 0, .int 0, .int 0, .ref t1u, .ref t2u, .ref t3u, .ref t4u, .ref t5u, .ref t6u, .ref t7u])), (t1u, aI g 6 z0), (t2u, aI g 6 z0), (si, .inr (8, [.int 0, .int 0, .ref i1, .ref i2, .ref i3, .ref i4])), (he, .inr (1, [.int 0, .ref k3]))] sz)) 0 0 (va_A [(x, .inr (11, [.ref xt, .int 0, .ref xr, .ref la, .ref lb, .ref sa, .int 0, .int 0, .ref ba, .int 0, .ref se, .ref si, .ref pa, .ref he])), (xt, aB g 1600 z0), (xr, .inr (5, [.int 0, .int (-1), .ref tk, .null, .int 0, .int 0, .int 0])), (tk, .inr (10, [.int 0, .int 0, .int 0, .long 0, .null, .int 0, .int 0, .ref tw])), (lb, .inr (2, [.ref meb, .ref fob, .ref reb, .int 0, .ref d1b, .ref d2b, .int 9, .int 0, .ref d3b])), (meb, .inr (3, [.int 0, .ref m1b, .ref m2b, .ref m3b, .ref m4b])), (m3b, aI g 6 z0), (fob, .inr (0, [.int 0, .int 0, .ref f1b, .int 0, .int 0, .ref f2b, .ref f3b, .ref f4b])), (reb, .inr (6, [.int 0, .ref r1b, .ref r2b, .ref r3b, .ref r4b, .ref r5b, .ref r6b, .ref r7b])), (d3b, aI g 4 z0), (sa, aO g 41 (va_up (va_up fs 0 (some s0)) 1 (some s1))), (s0, .inr (9, [.int 0, .int 0, .int 0, .int 0, .int 0, .int 0, .int 0, .ref t1u, .ref t2u, .ref t3u, .ref t4u, .ref t5u, .ref t6u, .ref t7u])), (t1u, aI g 6 z0), (t2u, aI g 6 z0), (si, .inr (8, [.int 0, .int 0, .ref i1, .ref i2, .ref i3, .ref i4])), (he, .inr (1, [.int 0, .ref k3]))] sz) := by
  refine Met.ofW (cc := cX11_code) (maxL := 2) (ret := (some .int)) (by decide) rfl ?_
  intro p e s m args below meth c s₁ B hml hv
  obtain ⟨rfl, hsz, hP, hK, hD0, hX⟩ := hv
  have hx := B.exec
  have hb := B.bytes
  have hr := B.returns
  have hT : ∀ w ∈ gT, w.before _ s = true := fun w h => atoms_spec (ws := .code yX11_code cX11_code 2 (some .int) :: gT) B.pre w (List.mem_cons_of_mem _ h)
  have hown : s.vm.findClass RX11 = some m.cls := findClass_of_methodNamed B.named
  have hlocks := B.notSynchronized
  subst hsz
  have hD := hD0.self (sz := s.heap.size)
  generalize hAe : va_A [(x, .inr (11, [.ref xt, .int 0, .ref xr, .ref la, .ref lb, .ref sa, .int 0, .int 0, .ref ba, .int 0, .ref se, .ref si, .ref pa, .ref he])), (xt, aB g 1600 z0), (xr, .inr (5, [.int 0, .int (-1), .ref tk, .null, .int 0, .int 0, .int 0])), (tk, .inr (10, [.int 0, .int 0, .int 0, .long 0, .null, .int 0, .int 0, .ref tw])), (lb, .inr (2, [.ref meb, .ref fob, .ref reb, .int 0, .ref d1b, .ref d2b, .int 9, .int 0, .ref d3b])), (meb, .inr (3, [.int 0, .ref m1b, .ref m2b, .ref m3b, .ref m4b])), (m3b, aI g 6 z0), (fob, .inr (0, [.int 0, .int 0, .ref f1b, .int 0, .int 0, .ref f2b, .ref f3b, .ref f4b])), (reb, .inr (6, [.int 0, .ref r1b, .ref r2b, .ref r3b, .ref r4b, .ref r5b, .ref r6b, .ref r7b])), (d3b, aI g 4 z0), (sa, aO g 41 (va_up (va_up fs 0 (some s0)) 1 (some s1))), (s0, .inr (9, [.int 0, .int 0, .int 0, .int 0, .int 0, .int 0, .int 0, .ref t1u, .ref t2u, .ref t3u, .ref t4u, .ref t5u, .ref t6u, .ref t7u])), (t1u, aI g 6 z0), (t2u, aI g 6 z0), (si, .inr (8, [.int 0, .int 0, .ref i1, .ref i2, .ref i3, .ref i4])), (he, .inr (1, [.int 0, .ref k3]))] s.heap.size = A at hD ⊢
  have hA : ∀ q : Nat, s.heap.size ≤ q → A q := fun q h => by rw [← hAe]; exact Or.inr h
  have hS : va_S A s.heap s.heap [] := va_S.rf
  have hl := lv_entry ([.ref x]) (n := 2) (Nat.le_of_ble_eq_true rfl)
  rw [lg_entry_eq]
  generalize (lg_sl ([.ref x]) ++ List.replicate (2 - (lg_sl ([.ref x])).length) Slot.unset).toArray = ls at hl ⊢
  have hl : lv_has ls 2 [(0, .ref x)] := hl
  refine p_nH (fun H hH => ?_)
  have hP : va_P g.1 vwCl [(x, .inr (11, [.ref xt, .int 0, .ref xr, .ref la, .ref lb, .ref sa, .int 0, .int 0, .ref ba, .int 0, .ref se, .ref si, .ref pa, .ref he])), (xt, aB g 1600 z0), (xr, .inr (5, [.int 0, .int (-1), .ref tk, .null, .int 0, .int 0, .int 0])), (tk, .inr (10, [.int 0, .int 0, .int 0, .long 0, .null, .int 0, .int 0, .ref tw])), (lb, .inr (2, [.ref meb, .ref fob, .ref reb, .int 0, .ref d1b, .ref d2b, .int 9, .int 0, .ref d3b])), (meb, .inr (3, [.int 0, .ref m1b, .ref m2b, .ref m3b, .ref m4b])), (m3b, aI g 6 z0), (fob, .inr (0, [.int 0, .int 0, .ref f1b, .int 0, .int 0, .ref f2b, .ref f3b, .ref f4b])), (reb, .inr (6, [.int 0, .ref r1b, .ref r2b, .ref r3b, .ref r4b, .ref r5b, .ref r6b, .ref r7b])), (d3b, aI g 4 z0), (sa, aO g 41 (va_up (va_up fs 0 (some s0)) 1 (some s1))), (s0, .inr (9, [.int 0, .int 0, .int 0, .int 0, .int 0, .int 0, .int 0, .ref t1u, .ref t2u, .ref t3u, .ref t4u, .ref t5u, .ref t6u, .ref t7u])), (t1u, aI g 6 z0), (t2u, aI g 6 z0), (si, .inr (8, [.int 0, .int 0, .ref i1, .ref i2, .ref i3, .ref i4])), (he, .inr (1, [.int 0, .ref k3]))] H := by rw [hH]; exact hP
  have hS : va_S A s.heap H [] := by rw [hH]; exact hS
  refine lv_aload_n hx hb dX11_code_0 rfl (lv_at hl 0 rfl) ?_
  refine va_get (D := g.1) (ci := 11) (v := .ref xr) (C := RX11) (T := TX11) (N := 14) hx hb hT inF_X11 hown hK.1 hP 0 rfl rfl 2 (by decide) (hT _ bw_159) (fun _ h9 => h9) rfl dX11_code_1 ?_
  refine lv_aload_n hx hb dX11_code_4 rfl (lv_at hl 0 rfl) ?_
  refine va_get (D := g.1) (ci := 11) (v := .ref xt) (C := RX11) (T := TX11) (N := 14) hx hb hT inF_X11 hown hK.1 hP 0 rfl rfl 0 (by decide) (hT _ bw_160) (fun _ h9 => h9) rfl dX11_code_5 ?_
  refine lv_aload_n hx hb dX11_code_8 rfl (lv_at hl 0 rfl) ?_
  refine va_get (D := g.1) (ci := 11) (v := .int 0) (C := RX11) (T := TX11) (N := 14) hx hb hT inF_X11 hown hK.1 hP 0 rfl rfl 1 (by decide) (hT _ bw_161) (fun _ h9 => h9) rfl dX11_code_9 ?_
  refine lv_aload_n hx hb dX11_code_12 rfl (lv_at hl 0 rfl) ?_
  refine va_get (D := g.1) (ci := 11) (v := .ref lb) (C := RX11) (T := TX11) (N := 14) hx hb hT inF_X11 hown hK.1 hP 0 rfl rfl 4 (by decide) (hT _ bw_162) (fun _ h9 => h9) rfl dX11_code_13 ?_
  refine k_i (wr := [(x, .inr (11, [.ref xt, .int 0, .ref xr, .ref la, .ref lb, .ref sa, .int 0, .int 0, .ref ba, .int 0, .ref se, .ref si, .ref pa, .ref he])), (m3b, aI g 6 z0), (sa, aO g 41 (va_up (va_up fs 0 (some s0)) 1 (some s1))), (s0, .inr (9, [.int 0, .int 0, .int 0, .int 0, .int 0, .int 0, .int 0, .ref t1u, .ref t2u, .ref t3u, .ref t4u, .ref t5u, .ref t6u, .ref t7u])), (t1u, aI g 6 z0), (t2u, aI g 6 z0), (si, .inr (8, [.int 0, .int 0, .ref i1, .ref i2, .ref i3, .ref i4])), (he, .inr (1, [.int 0, .ref k3]))]) (k_V (n := 3) ⟨hx, hb, hml, hown, hT⟩ hK hP hD [2, 3, 1, 4, 5, 7, 8, 9] rfl (by decide) (c_X5_read l g H.size xr tk tw xt lb meb fob reb d1b d2b d3b m1b m2b m3b m4b f1b f2b f3b f4b r1b r2b r3b r4b r5b r6b r7b) (gV bw_163 bw_164 bw_165 bw_166 bw_158) rfl rfl (by decide +kernel) ⟨by decide, by decide⟩ (ci := 5) (q0 := 0) rfl rfl (fun _ _ _ _ _ => trivial) (fun _ _ _ => trivial) rfl rfl hl.1 (Nat.le_of_ble_eq_true rfl) dX11_code_16 ⟨by decide, by decide⟩) hP hD hS hA [2, 3, 1, 4, 5, 7, 8, 9] [0, 6, 10, 11, 12, 13, 14, 15] rfl rfl (by decide) (by decide) (fun r_1 u H locs hw hP hD hS => ?_)
  have hP : va_P g.1 vwCl [(x, .inr (11, [.ref xt, .int 0, .ref xr, .ref la, .ref lb, .ref sa, .int 0, .int 0, .ref ba, .int 0, .ref se, .ref si, .ref pa, .ref he])), (m3b, aI g 6 z0), (sa, aO g 41 (va_up (va_up fs 0 (some s0)) 1 (some s1))), (s0, .inr (9, [.int 0, .int 0, .int 0, .int 0, .int 0, .int 0, .int 0, .ref t1u, .ref t2u, .ref t3u, .ref t4u, .ref t5u, .ref t6u, .ref t7u])), (t1u, aI g 6 z0), (t2u, aI g 6 z0), (si, .inr (8, [.int 0, .int 0, .ref i1, .ref i2, .ref i3, .ref i4])), (he, .inr (1, [.int 0, .ref k3])), (xr, .inr (5, [.int 0, .int (-1), .ref tk, .ref lb, .int 0, .int 0, .int 0])), (lb, .inr (2, [.ref meb, .ref fob, .ref reb, .int 0, .ref d1b, .ref d2b, .int 9, .int 0, .ref d3b])), (meb, .inr (3, [.int 0, .ref m1b, .ref m2b, .ref m3b, .ref m4b])), (reb, .inr (6, [.int 0, .ref r1b, .ref r2b, .ref r3b, .ref r4b, .ref r5b, .ref r6b, .ref r7b])), (fob, .inr (0, [.int 0, .int 0, .ref f1b, .int 0, .int 0, .ref f2b, .ref f3b, .ref f4b])), (d3b, aI g 4 z0), (xt, aB g 1600 z0), (tk, .inr (10, [.int 0, .int 0, .int 0, .long 0, .ref xt, .int 0, .int 0, .ref tw]))] H := hP
  have hD : va_D A [(x, .inr (11, [.ref xt, .int 0, .ref xr, .ref la, .ref lb, .ref sa, .int 0, .int 0, .ref ba, .int 0, .ref se, .ref si, .ref pa, .ref he])), (m3b, aI g 6 z0), (sa, aO g 41 (va_up (va_up fs 0 (some s0)) 1 (some s1))), (s0, .inr (9, [.int 0, .int 0, .int 0, .int 0, .int 0, .int 0, .int 0, .ref t1u, .ref t2u, .ref t3u, .ref t4u, .ref t5u, .ref t6u, .ref t7u])), (t1u, aI g 6 z0), (t2u, aI g 6 z0), (si, .inr (8, [.int 0, .int 0, .ref i1, .ref i2, .ref i3, .ref i4])), (he, .inr (1, [.int 0, .ref k3])), (xr, .inr (5, [.int 0, .int (-1), .ref tk, .ref lb, .int 0, .int 0, .int 0])), (lb, .inr (2, [.ref meb, .ref fob, .ref reb, .int 0, .ref d1b, .ref d2b, .int 9, .int 0, .ref d3b])), (meb, .inr (3, [.int 0, .ref m1b, .ref m2b, .ref m3b, .ref m4b])), (reb, .inr (6, [.int 0, .ref r1b, .ref r2b, .ref r3b, .ref r4b, .ref r5b, .ref r6b, .ref r7b])), (fob, .inr (0, [.int 0, .int 0, .ref f1b, .int 0, .int 0, .ref f2b, .ref f3b, .ref f4b])), (d3b, aI g 4 z0), (xt, aB g 1600 z0), (tk, .inr (10, [.int 0, .int 0, .int 0, .long 0, .ref xt, .int 0, .int 0, .ref tw]))] := hD
  have hw : r_1 = 1 := hw
  subst hw
  refine lv_if_ne (tgt := 24) hx hb dX11_code_19 (by decide) (fun _ => ?_) (fun c9 => absurd c9 (by decide))
  refine lv_aload_n hx hb dX11_code_24 rfl (lv_at hl 0 rfl) ?_
  refine va_get (D := g.1) (ci := 11) (v := .ref lb) (C := RX11) (T := TX11) (N := 14) hx hb hT inF_X11 hown hK.1 hP 0 rfl rfl 4 (by decide) (hT _ bw_162) (fun _ h9 => h9) rfl dX11_code_25 ?_
  refine lv_astore_n (lv' := [(1, .ref lb), (0, .ref x)]) hx hb dX11_code_28 rfl hl (by decide) rfl (fun ls hl => ?_)
  refine lv_aload_n hx hb dX11_code_29 rfl (lv_at hl 1 rfl) ?_
  refine lv_aload_n hx hb dX11_code_30 rfl (lv_at hl 1 rfl) ?_
  refine va_get (D := g.1) (ci := 11) (v := .ref la) (C := RX11) (T := TX11) (N := 14) hx hb hT inF_X11 hown hK.1 hP 0 rfl rfl 3 (by decide) (hT _ bw_13) (fun _ h9 => h9) rfl dX11_code_31 ?_
  refine va_put (D := g.1) (ci := 11) (v := .ref la) (ty := .object "DuelDelays$Land") (C := RX11) (T := TX11) (N := 14) hx hb hT inF_X11 tyX11 tyX11_ok nmX11 hown hK.1 hP hD hS 0 rfl rfl 4 (by decide) (hT _ bw_162) (fun _ h9 => h9) rfl (by decide +kernel) rfl rfl (Nat.le_of_ble_eq_true rfl) dX11_code_34 (fun H locs hP hD hS => ?_)
  have hP : va_P g.1 vwCl [(x, .inr (11, [.ref xt, .int 0, .ref xr, .ref la, .ref la, .ref sa, .int 0, .int 0, .ref ba, .int 0, .ref se, .ref si, .ref pa, .ref he])), (m3b, aI g 6 z0), (sa, aO g 41 (va_up (va_up fs 0 (some s0)) 1 (some s1))), (s0, .inr (9, [.int 0, .int 0, .int 0, .int 0, .int 0, .int 0, .int 0, .ref t1u, .ref t2u, .ref t3u, .ref t4u, .ref t5u, .ref t6u, .ref t7u])), (t1u, aI g 6 z0), (t2u, aI g 6 z0), (si, .inr (8, [.int 0, .int 0, .ref i1, .ref i2, .ref i3, .ref i4])), (he, .inr (1, [.int 0, .ref k3])), (xr, .inr (5, [.int 0, .int (-1), .ref tk, .ref lb, .int 0, .int 0, .int 0])), (lb, .inr (2, [.ref meb, .ref fob, .ref reb, .int 0, .ref d1b, .ref d2b, .int 9, .int 0, .ref d3b])), (meb, .inr (3, [.int 0, .ref m1b, .ref m2b, .ref m3b, .ref m4b])), (reb, .inr (6, [.int 0, .ref r1b, .ref r2b, .ref r3b, .ref r4b, .ref r5b, .ref r6b, .ref r7b])), (fob, .inr (0, [.int 0, .int 0, .ref f1b, .int 0, .int 0, .ref f2b, .ref f3b, .ref f4b])), (d3b, aI g 4 z0), (xt, aB g 1600 z0), (tk, .inr (10, [.int 0, .int 0, .int 0, .long 0, .ref xt, .int 0, .int 0, .ref tw]))] H := hP
  have hD : va_D A [(x, .inr (11, [.ref xt, .int 0, .ref xr, .ref la, .ref la, .ref sa, .int 0, .int 0, .ref ba, .int 0, .ref se, .ref si, .ref pa, .ref he])), (m3b, aI g 6 z0), (sa, aO g 41 (va_up (va_up fs 0 (some s0)) 1 (some s1))), (s0, .inr (9, [.int 0, .int 0, .int 0, .int 0, .int 0, .int 0, .int 0, .ref t1u, .ref t2u, .ref t3u, .ref t4u, .ref t5u, .ref t6u, .ref t7u])), (t1u, aI g 6 z0), (t2u, aI g 6 z0), (si, .inr (8, [.int 0, .int 0, .ref i1, .ref i2, .ref i3, .ref i4])), (he, .inr (1, [.int 0, .ref k3])), (xr, .inr (5, [.int 0, .int (-1), .ref tk, .ref lb, .int 0, .int 0, .int 0])), (lb, .inr (2, [.ref meb, .ref fob, .ref reb, .int 0, .ref d1b, .ref d2b, .int 9, .int 0, .ref d3b])), (meb, .inr (3, [.int 0, .ref m1b, .ref m2b, .ref m3b, .ref m4b])), (reb, .inr (6, [.int 0, .ref r1b, .ref r2b, .ref r3b, .ref r4b, .ref r5b, .ref r6b, .ref r7b])), (fob, .inr (0, [.int 0, .int 0, .ref f1b, .int 0, .int 0, .ref f2b, .ref f3b, .ref f4b])), (d3b, aI g 4 z0), (xt, aB g 1600 z0), (tk, .inr (10, [.int 0, .int 0, .int 0, .long 0, .ref xt, .int 0, .int 0, .ref tw]))] := hD
  refine lv_aload_n hx hb dX11_code_37 rfl (lv_at hl 1 rfl) ?_
  refine lv_aload_n hx hb dX11_code_38 rfl (lv_at hl 0 rfl) ?_
  refine va_put (D := g.1) (ci := 11) (v := .ref lb) (ty := .object "DuelDelays$Land") (C := RX11) (T := TX11) (N := 14) hx hb hT inF_X11 tyX11 tyX11_ok nmX11 hown hK.1 hP hD hS 0 rfl rfl 3 (by decide) (hT _ bw_13) (fun _ h9 => h9) rfl (by decide +kernel) rfl rfl (Nat.le_of_ble_eq_true rfl) dX11_code_39 (fun H locs hP hD hS => ?_)
  have hP : va_P g.1 vwCl [(x, .inr (11, [.ref xt, .int 0, .ref xr, .ref lb, .ref la, .ref sa, .int 0, .int 0, .ref ba, .int 0, .ref se, .ref si, .ref pa, .ref he])), (m3b, aI g 6 z0), (sa, aO g 41 (va_up (va_up fs 0 (some s0)) 1 (some s1))), (s0, .inr (9, [.int 0, .int 0, .int 0, .int 0, .int 0, .int 0, .int 0, .ref t1u, .ref t2u, .ref t3u, .ref t4u, .ref t5u, .ref t6u, .ref t7u])), (t1u, aI g 6 z0), (t2u, aI g 6 z0), (si, .inr (8, [.int 0, .int 0, .ref i1, .ref i2, .ref i3, .ref i4])), (he, .inr (1, [.int 0, .ref k3])), (xr, .inr (5, [.int 0, .int (-1), .ref tk, .ref lb, .int 0, .int 0, .int 0])), (lb, .inr (2, [.ref meb, .ref fob, .ref reb, .int 0, .ref d1b, .ref d2b, .int 9, .int 0, .ref d3b])), (meb, .inr (3, [.int 0, .ref m1b, .ref m2b, .ref m3b, .ref m4b])), (reb, .inr (6, [.int 0, .ref r1b, .ref r2b, .ref r3b, .ref r4b, .ref r5b, .ref r6b, .ref r7b])), (fob, .inr (0, [.int 0, .int 0, .ref f1b, .int 0, .int 0, .ref f2b, .ref f3b, .ref f4b])), (d3b, aI g 4 z0), (xt, aB g 1600 z0), (tk, .inr (10, [.int 0, .int 0, .int 0, .long 0, .ref xt, .int 0, .int 0, .ref tw]))] H := hP
  have hD : va_D A [(x, .inr (11, [.ref xt, .int 0, .ref xr, .ref lb, .ref la, .ref sa, .int 0, .int 0, .ref ba, .int 0, .ref se, .ref si, .ref pa, .ref he])), (m3b, aI g 6 z0), (sa, aO g 41 (va_up (va_up fs 0 (some s0)) 1 (some s1))), (s0, .inr (9, [.int 0, .int 0, .int 0, .int 0, .int 0, .int 0, .int 0, .ref t1u, .ref t2u, .ref t3u, .ref t4u, .ref t5u, .ref t6u, .ref t7u])), (t1u, aI g 6 z0), (t2u, aI g 6 z0), (si, .inr (8, [.int 0, .int 0, .ref i1, .ref i2, .ref i3, .ref i4])), (he, .inr (1, [.int 0, .ref k3])), (xr, .inr (5, [.int 0, .int (-1), .ref tk, .ref lb, .int 0, .int 0, .int 0])), (lb, .inr (2, [.ref meb, .ref fob, .ref reb, .int 0, .ref d1b, .ref d2b, .int 9, .int 0, .ref d3b])), (meb, .inr (3, [.int 0, .ref m1b, .ref m2b, .ref m3b, .ref m4b])), (reb, .inr (6, [.int 0, .ref r1b, .ref r2b, .ref r3b, .ref r4b, .ref r5b, .ref r6b, .ref r7b])), (fob, .inr (0, [.int 0, .int 0, .ref f1b, .int 0, .int 0, .ref f2b, .ref f3b, .ref f4b])), (d3b, aI g 4 z0), (xt, aB g 1600 z0), (tk, .inr (10, [.int 0, .int 0, .int 0, .long 0, .ref xt, .int 0, .int 0, .ref tw]))] := hD
  refine lv_aload_n hx hb dX11_code_42 rfl (lv_at hl 1 rfl) ?_
  refine lv_iconst (v := 0) hx hb dX11_code_43 (by decide) ?_
  refine va_put (D := g.1) (ci := 11) (v := .int 0) (ty := .int) (C := RX11) (T := TX11) (N := 14) hx hb hT inF_X11 tyX11 tyX11_ok nmX11 hown hK.1 hP hD hS 0 rfl rfl 1 (by decide) (hT _ bw_161) (fun _ h9 => h9) rfl (by decide +kernel) rfl rfl (Nat.le_of_ble_eq_true rfl) dX11_code_44 (fun H locs hP hD hS => ?_)
  have hP : va_P g.1 vwCl [(x, .inr (11, [.ref xt, .int 0, .ref xr, .ref lb, .ref la, .ref sa, .int 0, .int 0, .ref ba, .int 0, .ref se, .ref si, .ref pa, .ref he])), (m3b, aI g 6 z0), (sa, aO g 41 (va_up (va_up fs 0 (some s0)) 1 (some s1))), (s0, .inr (9, [.int 0, .int 0, .int 0, .int 0, .int 0, .int 0, .int 0, .ref t1u, .ref t2u, .ref t3u, .ref t4u, .ref t5u, .ref t6u, .ref t7u])), (t1u, aI g 6 z0), (t2u, aI g 6 z0), (si, .inr (8, [.int 0, .int 0, .ref i1, .ref i2, .ref i3, .ref i4])), (he, .inr (1, [.int 0, .ref k3])), (xr, .inr (5, [.int 0, .int (-1), .ref tk, .ref lb, .int 0, .int 0, .int 0])), (lb, .inr (2, [.ref meb, .ref fob, .ref reb, .int 0, .ref d1b, .ref d2b, .int 9, .int 0, .ref d3b])), (meb, .inr (3, [.int 0, .ref m1b, .ref m2b, .ref m3b, .ref m4b])), (reb, .inr (6, [.int 0, .ref r1b, .ref r2b, .ref r3b, .ref r4b, .ref r5b, .ref r6b, .ref r7b])), (fob, .inr (0, [.int 0, .int 0, .ref f1b, .int 0, .int 0, .ref f2b, .ref f3b, .ref f4b])), (d3b, aI g 4 z0), (xt, aB g 1600 z0), (tk, .inr (10, [.int 0, .int 0, .int 0, .long 0, .ref xt, .int 0, .int 0, .ref tw]))] H := hP
  have hD : va_D A [(x, .inr (11, [.ref xt, .int 0, .ref xr, .ref lb, .ref la, .ref sa, .int 0, .int 0, .ref ba, .int 0, .ref se, .ref si, .ref pa, .ref he])), (m3b, aI g 6 z0), (sa, aO g 41 (va_up (va_up fs 0 (some s0)) 1 (some s1))), (s0, .inr (9, [.int 0, .int 0, .int 0, .int 0, .int 0, .int 0, .int 0, .ref t1u, .ref t2u, .ref t3u, .ref t4u, .ref t5u, .ref t6u, .ref t7u])), (t1u, aI g 6 z0), (t2u, aI g 6 z0), (si, .inr (8, [.int 0, .int 0, .ref i1, .ref i2, .ref i3, .ref i4])), (he, .inr (1, [.int 0, .ref k3])), (xr, .inr (5, [.int 0, .int (-1), .ref tk, .ref lb, .int 0, .int 0, .int 0])), (lb, .inr (2, [.ref meb, .ref fob, .ref reb, .int 0, .ref d1b, .ref d2b, .int 9, .int 0, .ref d3b])), (meb, .inr (3, [.int 0, .ref m1b, .ref m2b, .ref m3b, .ref m4b])), (reb, .inr (6, [.int 0, .ref r1b, .ref r2b, .ref r3b, .ref r4b, .ref r5b, .ref r6b, .ref r7b])), (fob, .inr (0, [.int 0, .int 0, .ref f1b, .int 0, .int 0, .ref f2b, .ref f3b, .ref f4b])), (d3b, aI g 4 z0), (xt, aB g 1600 z0), (tk, .inr (10, [.int 0, .int 0, .int 0, .long 0, .ref xt, .int 0, .int 0, .ref tw]))] := hD
  refine lv_aload_n hx hb dX11_code_47 rfl (lv_at hl 1 rfl) ?_
  refine lv_iconst (v := 0) hx hb dX11_code_48 (by decide) ?_
  refine va_put (D := g.1) (ci := 11) (v := .int 0) (ty := .int) (C := RX11) (T := TX11) (N := 14) hx hb hT inF_X11 tyX11 tyX11_ok nmX11 hown hK.1 hP hD hS 0 rfl rfl 6 (by decide) (hT _ bw_21) (fun _ h9 => h9) rfl (by decide +kernel) rfl rfl (Nat.le_of_ble_eq_true rfl) dX11_code_49 (fun H locs hP hD hS => ?_)
  have hP : va_P g.1 vwCl [(x, .inr (11, [.ref xt, .int 0, .ref xr, .ref lb, .ref la, .ref sa, .int 0, .int 0, .ref ba, .int 0, .ref se, .ref si, .ref pa, .ref he])), (m3b, aI g 6 z0), (sa, aO g 41 (va_up (va_up fs 0 (some s0)) 1 (some s1))), (s0, .inr (9, [.int 0, .int 0, .int 0, .int 0, .int 0, .int 0, .int 0, .ref t1u, .ref t2u, .ref t3u, .ref t4u, .ref t5u, .ref t6u, .ref t7u])), (t1u, aI g 6 z0), (t2u, aI g 6 z0), (si, .inr (8, [.int 0, .int 0, .ref i1, .ref i2, .ref i3, .ref i4])), (he, .inr (1, [.int 0, .ref k3])), (xr, .inr (5, [.int 0, .int (-1), .ref tk, .ref lb, .int 0, .int 0, .int 0])), (lb, .inr (2, [.ref meb, .ref fob, .ref reb, .int 0, .ref d1b, .ref d2b, .int 9, .int 0, .ref d3b])), (meb, .inr (3, [.int 0, .ref m1b, .ref m2b, .ref m3b, .ref m4b])), (reb, .inr (6, [.int 0, .ref r1b, .ref r2b, .ref r3b, .ref r4b, .ref r5b, .ref r6b, .ref r7b])), (fob, .inr (0, [.int 0, .int 0, .ref f1b, .int 0, .int 0, .ref f2b, .ref f3b, .ref f4b])), (d3b, aI g 4 z0), (xt, aB g 1600 z0), (tk, .inr (10, [.int 0, .int 0, .int 0, .long 0, .ref xt, .int 0, .int 0, .ref tw]))] H := hP
  have hD : va_D A [(x, .inr (11, [.ref xt, .int 0, .ref xr, .ref lb, .ref la, .ref sa, .int 0, .int 0, .ref ba, .int 0, .ref se, .ref si, .ref pa, .ref he])), (m3b, aI g 6 z0), (sa, aO g 41 (va_up (va_up fs 0 (some s0)) 1 (some s1))), (s0, .inr (9, [.int 0, .int 0, .int 0, .int 0, .int 0, .int 0, .int 0, .ref t1u, .ref t2u, .ref t3u, .ref t4u, .ref t5u, .ref t6u, .ref t7u])), (t1u, aI g 6 z0), (t2u, aI g 6 z0), (si, .inr (8, [.int 0, .int 0, .ref i1, .ref i2, .ref i3, .ref i4])), (he, .inr (1, [.int 0, .ref k3])), (xr, .inr (5, [.int 0, .int (-1), .ref tk, .ref lb, .int 0, .int 0, .int 0])), (lb, .inr (2, [.ref meb, .ref fob, .ref reb, .int 0, .ref d1b, .ref d2b, .int 9, .int 0, .ref d3b])), (meb, .inr (3, [.int 0, .ref m1b, .ref m2b, .ref m3b, .ref m4b])), (reb, .inr (6, [.int 0, .ref r1b, .ref r2b, .ref r3b, .ref r4b, .ref r5b, .ref r6b, .ref r7b])), (fob, .inr (0, [.int 0, .int 0, .ref f1b, .int 0, .int 0, .ref f2b, .ref f3b, .ref f4b])), (d3b, aI g 4 z0), (xt, aB g 1600 z0), (tk, .inr (10, [.int 0, .int 0, .int 0, .long 0, .ref xt, .int 0, .int 0, .ref tw]))] := hD
  refine lv_aload_n hx hb dX11_code_52 rfl (lv_at hl 1 rfl) ?_
  refine lv_iconst (v := 0) hx hb dX11_code_53 (by decide) ?_
  refine va_put (D := g.1) (ci := 11) (v := .int 0) (ty := .int) (C := RX11) (T := TX11) (N := 14) hx hb hT inF_X11 tyX11 tyX11_ok nmX11 hown hK.1 hP hD hS 0 rfl rfl 7 (by decide) (hT _ bw_47) (fun _ h9 => h9) rfl (by decide +kernel) rfl rfl (Nat.le_of_ble_eq_true rfl) dX11_code_54 (fun H locs hP hD hS => ?_)
  have hP : va_P g.1 vwCl [(x, .inr (11, [.ref xt, .int 0, .ref xr, .ref lb, .ref la, .ref sa, .int 0, .int 0, .ref ba, .int 0, .ref se, .ref si, .ref pa, .ref he])), (m3b, aI g 6 z0), (sa, aO g 41 (va_up (va_up fs 0 (some s0)) 1 (some s1))), (s0, .inr (9, [.int 0, .int 0, .int 0, .int 0, .int 0, .int 0, .int 0, .ref t1u, .ref t2u, .ref t3u, .ref t4u, .ref t5u, .ref t6u, .ref t7u])), (t1u, aI g 6 z0), (t2u, aI g 6 z0), (si, .inr (8, [.int 0, .int 0, .ref i1, .ref i2, .ref i3, .ref i4])), (he, .inr (1, [.int 0, .ref k3])), (xr, .inr (5, [.int 0, .int (-1), .ref tk, .ref lb, .int 0, .int 0, .int 0])), (lb, .inr (2, [.ref meb, .ref fob, .ref reb, .int 0, .ref d1b, .ref d2b, .int 9, .int 0, .ref d3b])), (meb, .inr (3, [.int 0, .ref m1b, .ref m2b, .ref m3b, .ref m4b])), (reb, .inr (6, [.int 0, .ref r1b, .ref r2b, .ref r3b, .ref r4b, .ref r5b, .ref r6b, .ref r7b])), (fob, .inr (0, [.int 0, .int 0, .ref f1b, .int 0, .int 0, .ref f2b, .ref f3b, .ref f4b])), (d3b, aI g 4 z0), (xt, aB g 1600 z0), (tk, .inr (10, [.int 0, .int 0, .int 0, .long 0, .ref xt, .int 0, .int 0, .ref tw]))] H := hP
  have hD : va_D A [(x, .inr (11, [.ref xt, .int 0, .ref xr, .ref lb, .ref la, .ref sa, .int 0, .int 0, .ref ba, .int 0, .ref se, .ref si, .ref pa, .ref he])), (m3b, aI g 6 z0), (sa, aO g 41 (va_up (va_up fs 0 (some s0)) 1 (some s1))), (s0, .inr (9, [.int 0, .int 0, .int 0, .int 0, .int 0, .int 0, .int 0, .ref t1u, .ref t2u, .ref t3u, .ref t4u, .ref t5u, .ref t6u, .ref t7u])), (t1u, aI g 6 z0), (t2u, aI g 6 z0), (si, .inr (8, [.int 0, .int 0, .ref i1, .ref i2, .ref i3, .ref i4])), (he, .inr (1, [.int 0, .ref k3])), (xr, .inr (5, [.int 0, .int (-1), .ref tk, .ref lb, .int 0, .int 0, .int 0])), (lb, .inr (2, [.ref meb, .ref fob, .ref reb, .int 0, .ref d1b, .ref d2b, .int 9, .int 0, .ref d3b])), (meb, .inr (3, [.int 0, .ref m1b, .ref m2b, .ref m3b, .ref m4b])), (reb, .inr (6, [.int 0, .ref r1b, .ref r2b, .ref r3b, .ref r4b, .ref r5b, .ref r6b, .ref r7b])), (fob, .inr (0, [.int 0, .int 0, .ref f1b, .int 0, .int 0, .ref f2b, .ref f3b, .ref f4b])), (d3b, aI g 4 z0), (xt, aB g 1600 z0), (tk, .inr (10, [.int 0, .int 0, .int 0, .long 0, .ref xt, .int 0, .int 0, .ref tw]))] := hD
  refine lv_aload_n hx hb dX11_code_57 rfl (lv_at hl 1 rfl) ?_
  refine va_get (D := g.1) (ci := 11) (v := .ref sa) (C := RX11) (T := TX11) (N := 14) hx hb hT inF_X11 hown hK.1 hP 0 rfl rfl 5 (by decide) (hT _ bw_20) (fun _ h9 => h9) rfl dX11_code_58 ?_
  refine lv_iconst (v := 0) hx hb dX11_code_61 (by decide) ?_
  refine va_aldq hx hb hK.1 hP 2 4 rfl rfl (i := 0) (by unfold vp_in; decide) dX11_code_62 ?_
  refine p_tr (x := s0) (rfl) ?_
  refine lv_aload_n hx hb dX11_code_63 rfl (lv_at hl 1 rfl) ?_
  refine va_get (D := g.1) (ci := 11) (v := .ref lb) (C := RX11) (T := TX11) (N := 14) hx hb hT inF_X11 hown hK.1 hP 0 rfl rfl 3 (by decide) (hT _ bw_13) (fun _ h9 => h9) rfl dX11_code_64 ?_
  refine k_v (wr := [(x, .inr (11, [.ref xt, .int 0, .ref xr, .ref lb, .ref la, .ref sa, .int 0, .int 0, .ref ba, .int 0, .ref se, .ref si, .ref pa, .ref he])), (sa, aO g 41 (va_up (va_up fs 0 (some s0)) 1 (some s1))), (si, .inr (8, [.int 0, .int 0, .ref i1, .ref i2, .ref i3, .ref i4])), (he, .inr (1, [.int 0, .ref k3])), (xr, .inr (5, [.int 0, .int (-1), .ref tk, .ref lb, .int 0, .int 0, .int 0])), (reb, .inr (6, [.int 0, .ref r1b, .ref r2b, .ref r3b, .ref r4b, .ref r5b, .ref r6b, .ref r7b])), (fob, .inr (0, [.int 0, .int 0, .ref f1b, .int 0, .int 0, .ref f2b, .ref f3b, .ref f4b])), (d3b, aI g 4 z0), (xt, aB g 1600 z0), (tk, .inr (10, [.int 0, .int 0, .int 0, .long 0, .ref xt, .int 0, .int 0, .ref tw]))]) (k_V (n := 1) ⟨hx, hb, hml, hown, hT⟩ hK hP hD [3, 4, 5, 9, 10, 1] rfl (by decide) (c_X9_begin l g H.size s0 t1u t2u t3u t4u t5u t6u t7u lb meb fob reb d1b d2b d3b m1b m2b m3b m4b) (gV bw_167 bw_168 bw_169 bw_25 bw_119) rfl rfl (by decide +kernel) ⟨by decide, by decide⟩ (ci := 9) (q0 := 0) rfl rfl (fun _ _ _ _ _ => trivial) (fun _ _ _ => trivial) rfl rfl hl.1 (Nat.le_of_ble_eq_true rfl) dX11_code_67 ⟨by decide, by decide⟩) hP hD hS hA [3, 4, 5, 9, 10, 1] [0, 2, 6, 7, 8, 11, 12, 13, 14, 15] rfl rfl (by decide) (by decide) (fun u H locs hw hP hD hS => ?_)
  have hP : va_P g.1 vwCl [(x, .inr (11, [.ref xt, .int 0, .ref xr, .ref lb, .ref la, .ref sa, .int 0, .int 0, .ref ba, .int 0, .ref se, .ref si, .ref pa, .ref he])), (sa, aO g 41 (va_up (va_up fs 0 (some s0)) 1 (some s1))), (si, .inr (8, [.int 0, .int 0, .ref i1, .ref i2, .ref i3, .ref i4])), (he, .inr (1, [.int 0, .ref k3])), (xr, .inr (5, [.int 0, .int (-1), .ref tk, .ref lb, .int 0, .int 0, .int 0])), (reb, .inr (6, [.int 0, .ref r1b, .ref r2b, .ref r3b, .ref r4b, .ref r5b, .ref r6b, .ref r7b])), (fob, .inr (0, [.int 0, .int 0, .ref f1b, .int 0, .int 0, .ref f2b, .ref f3b, .ref f4b])), (d3b, aI g 4 z0), (xt, aB g 1600 z0), (tk, .inr (10, [.int 0, .int 0, .int 0, .long 0, .ref xt, .int 0, .int 0, .ref tw])), (s0, .inr (9, [.int 0, .int 0, .int 0, .int 0, .int 0, .int 0, .int 0, .ref t1u, .ref t2u, .ref t3u, .ref t4u, .ref t5u, .ref t6u, .ref t7u])), (t1u, aI g 6 z0), (lb, .inr (2, [.ref meb, .ref fob, .ref reb, .int 0, .ref d1b, .ref d2b, .int 9, .int 0, .ref d3b])), (meb, .inr (3, [.int 0, .ref m1b, .ref m2b, .ref m3b, .ref m4b])), (m3b, aI g 6 z0), (t2u, aI g 6 z0)] H := hP
  have hD : va_D A [(x, .inr (11, [.ref xt, .int 0, .ref xr, .ref lb, .ref la, .ref sa, .int 0, .int 0, .ref ba, .int 0, .ref se, .ref si, .ref pa, .ref he])), (sa, aO g 41 (va_up (va_up fs 0 (some s0)) 1 (some s1))), (si, .inr (8, [.int 0, .int 0, .ref i1, .ref i2, .ref i3, .ref i4])), (he, .inr (1, [.int 0, .ref k3])), (xr, .inr (5, [.int 0, .int (-1), .ref tk, .ref lb, .int 0, .int 0, .int 0])), (reb, .inr (6, [.int 0, .ref r1b, .ref r2b, .ref r3b, .ref r4b, .ref r5b, .ref r6b, .ref r7b])), (fob, .inr (0, [.int 0, .int 0, .ref f1b, .int 0, .int 0, .ref f2b, .ref f3b, .ref f4b])), (d3b, aI g 4 z0), (xt, aB g 1600 z0), (tk, .inr (10, [.int 0, .int 0, .int 0, .long 0, .ref xt, .int 0, .int 0, .ref tw])), (s0, .inr (9, [.int 0, .int 0, .int 0, .int 0, .int 0, .int 0, .int 0, .ref t1u, .ref t2u, .ref t3u, .ref t4u, .ref t5u, .ref t6u, .ref t7u])), (t1u, aI g 6 z0), (lb, .inr (2, [.ref meb, .ref fob, .ref reb, .int 0, .ref d1b, .ref d2b, .int 9, .int 0, .ref d3b])), (meb, .inr (3, [.int 0, .ref m1b, .ref m2b, .ref m3b, .ref m4b])), (m3b, aI g 6 z0), (t2u, aI g 6 z0)] := hD
  refine lv_aload_n hx hb dX11_code_70 rfl (lv_at hl 1 rfl) ?_
  refine va_get (D := g.1) (ci := 11) (v := .ref si) (C := RX11) (T := TX11) (N := 14) hx hb hT inF_X11 hown hK.1 hP 0 rfl rfl 11 (by decide) (hT _ bw_63) (fun _ h9 => h9) rfl dX11_code_71 ?_
  refine k_v (wr := [(x, .inr (11, [.ref xt, .int 0, .ref xr, .ref lb, .ref la, .ref sa, .int 0, .int 0, .ref ba, .int 0, .ref se, .ref si, .ref pa, .ref he])), (sa, aO g 41 (va_up (va_up fs 0 (some s0)) 1 (some s1))), (he, .inr (1, [.int 0, .ref k3])), (xr, .inr (5, [.int 0, .int (-1), .ref tk, .ref lb, .int 0, .int 0, .int 0])), (reb, .inr (6, [.int 0, .ref r1b, .ref r2b, .ref r3b, .ref r4b, .ref r5b, .ref r6b, .ref r7b])), (fob, .inr (0, [.int 0, .int 0, .ref f1b, .int 0, .int 0, .ref f2b, .ref f3b, .ref f4b])), (d3b, aI g 4 z0), (xt, aB g 1600 z0), (tk, .inr (10, [.int 0, .int 0, .int 0, .long 0, .ref xt, .int 0, .int 0, .ref tw])), (s0, .inr (9, [.int 0, .int 0, .int 0, .int 0, .int 0, .int 0, .int 0, .ref t1u, .ref t2u, .ref t3u, .ref t4u, .ref t5u, .ref t6u, .ref t7u])), (t1u, aI g 6 z0), (lb, .inr (2, [.ref meb, .ref fob, .ref reb, .int 0, .ref d1b, .ref d2b, .int 9, .int 0, .ref d3b])), (meb, .inr (3, [.int 0, .ref m1b, .ref m2b, .ref m3b, .ref m4b])), (m3b, aI g 6 z0), (t2u, aI g 6 z0)]) (k_V (n := 0) ⟨hx, hb, hml, hown, hT⟩ hK hP hD [2] rfl (by decide) (c_X8_clear l g H.size si i1 i2 i3 i4) (gV bw_170 bw_171 bw_172 bw_67 bw_11) rfl rfl (by decide +kernel) ⟨by decide, by decide⟩ (ci := 8) (q0 := 0) rfl rfl (fun _ _ _ _ _ => trivial) (fun _ _ _ => trivial) rfl rfl hl.1 (Nat.le_of_ble_eq_true rfl) dX11_code_74 ⟨by decide, by decide⟩) hP hD hS hA [2] [0, 1, 3, 4, 5, 6, 7, 8, 9, 10, 11, 12, 13, 14, 15] rfl rfl (by decide) (by decide) (fun u H locs hw hP hD hS => ?_)
  have hP : va_P g.1 vwCl [(x, .inr (11, [.ref xt, .int 0, .ref xr, .ref lb, .ref la, .ref sa, .int 0, .int 0, .ref ba, .int 0, .ref se, .ref si, .ref pa, .ref he])), (sa, aO g 41 (va_up (va_up fs 0 (some s0)) 1 (some s1))), (he, .inr (1, [.int 0, .ref k3])), (xr, .inr (5, [.int 0, .int (-1), .ref tk, .ref lb, .int 0, .int 0, .int 0])), (reb, .inr (6, [.int 0, .ref r1b, .ref r2b, .ref r3b, .ref r4b, .ref r5b, .ref r6b, .ref r7b])), (fob, .inr (0, [.int 0, .int 0, .ref f1b, .int 0, .int 0, .ref f2b, .ref f3b, .ref f4b])), (d3b, aI g 4 z0), (xt, aB g 1600 z0), (tk, .inr (10, [.int 0, .int 0, .int 0, .long 0, .ref xt, .int 0, .int 0, .ref tw])), (s0, .inr (9, [.int 0, .int 0, .int 0, .int 0, .int 0, .int 0, .int 0, .ref t1u, .ref t2u, .ref t3u, .ref t4u, .ref t5u, .ref t6u, .ref t7u])), (t1u, aI g 6 z0), (lb, .inr (2, [.ref meb, .ref fob, .ref reb, .int 0, .ref d1b, .ref d2b, .int 9, .int 0, .ref d3b])), (meb, .inr (3, [.int 0, .ref m1b, .ref m2b, .ref m3b, .ref m4b])), (m3b, aI g 6 z0), (t2u, aI g 6 z0), (si, .inr (8, [.int 0, .int 0, .ref i1, .ref i2, .ref i3, .ref i4]))] H := hP
  have hD : va_D A [(x, .inr (11, [.ref xt, .int 0, .ref xr, .ref lb, .ref la, .ref sa, .int 0, .int 0, .ref ba, .int 0, .ref se, .ref si, .ref pa, .ref he])), (sa, aO g 41 (va_up (va_up fs 0 (some s0)) 1 (some s1))), (he, .inr (1, [.int 0, .ref k3])), (xr, .inr (5, [.int 0, .int (-1), .ref tk, .ref lb, .int 0, .int 0, .int 0])), (reb, .inr (6, [.int 0, .ref r1b, .ref r2b, .ref r3b, .ref r4b, .ref r5b, .ref r6b, .ref r7b])), (fob, .inr (0, [.int 0, .int 0, .ref f1b, .int 0, .int 0, .ref f2b, .ref f3b, .ref f4b])), (d3b, aI g 4 z0), (xt, aB g 1600 z0), (tk, .inr (10, [.int 0, .int 0, .int 0, .long 0, .ref xt, .int 0, .int 0, .ref tw])), (s0, .inr (9, [.int 0, .int 0, .int 0, .int 0, .int 0, .int 0, .int 0, .ref t1u, .ref t2u, .ref t3u, .ref t4u, .ref t5u, .ref t6u, .ref t7u])), (t1u, aI g 6 z0), (lb, .inr (2, [.ref meb, .ref fob, .ref reb, .int 0, .ref d1b, .ref d2b, .int 9, .int 0, .ref d3b])), (meb, .inr (3, [.int 0, .ref m1b, .ref m2b, .ref m3b, .ref m4b])), (m3b, aI g 6 z0), (t2u, aI g 6 z0), (si, .inr (8, [.int 0, .int 0, .ref i1, .ref i2, .ref i3, .ref i4]))] := hD
  refine lv_aload_n hx hb dX11_code_77 rfl (lv_at hl 1 rfl) ?_
  refine va_get (D := g.1) (ci := 11) (v := .ref he) (C := RX11) (T := TX11) (N := 14) hx hb hT inF_X11 hown hK.1 hP 0 rfl rfl 13 (by decide) (hT _ bw_56) (fun _ h9 => h9) rfl dX11_code_78 ?_
  refine k_v (wr := [(x, .inr (11, [.ref xt, .int 0, .ref xr, .ref lb, .ref la, .ref sa, .int 0, .int 0, .ref ba, .int 0, .ref se, .ref si, .ref pa, .ref he])), (sa, aO g 41 (va_up (va_up fs 0 (some s0)) 1 (some s1))), (xr, .inr (5, [.int 0, .int (-1), .ref tk, .ref lb, .int 0, .int 0, .int 0])), (reb, .inr (6, [.int 0, .ref r1b, .ref r2b, .ref r3b, .ref r4b, .ref r5b, .ref r6b, .ref r7b])), (fob, .inr (0, [.int 0, .int 0, .ref f1b, .int 0, .int 0, .ref f2b, .ref f3b, .ref f4b])), (d3b, aI g 4 z0), (xt, aB g 1600 z0), (tk, .inr (10, [.int 0, .int 0, .int 0, .long 0, .ref xt, .int 0, .int 0, .ref tw])), (s0, .inr (9, [.int 0, .int 0, .int 0, .int 0, .int 0, .int 0, .int 0, .ref t1u, .ref t2u, .ref t3u, .ref t4u, .ref t5u, .ref t6u, .ref t7u])), (t1u, aI g 6 z0), (lb, .inr (2, [.ref meb, .ref fob, .ref reb, .int 0, .ref d1b, .ref d2b, .int 9, .int 0, .ref d3b])), (meb, .inr (3, [.int 0, .ref m1b, .ref m2b, .ref m3b, .ref m4b])), (m3b, aI g 6 z0), (t2u, aI g 6 z0), (si, .inr (8, [.int 0, .int 0, .ref i1, .ref i2, .ref i3, .ref i4]))]) (k_V (n := 0) ⟨hx, hb, hml, hown, hT⟩ hK hP hD [2] rfl (by decide) (c_X1_clear l g H.size he k3) (gV bw_71 bw_72 bw_73 bw_74 bw_10) rfl rfl (by decide +kernel) ⟨by decide, by decide⟩ (ci := 1) (q0 := 0) rfl rfl (fun _ _ _ _ _ => trivial) (fun _ _ _ => trivial) rfl rfl hl.1 (Nat.le_of_ble_eq_true rfl) dX11_code_81 ⟨by decide, by decide⟩) hP hD hS hA [2] [0, 1, 3, 4, 5, 6, 7, 8, 9, 10, 11, 12, 13, 14, 15] rfl rfl (by decide) (by decide) (fun u H locs hw hP hD hS => ?_)
  have hP : va_P g.1 vwCl [(x, .inr (11, [.ref xt, .int 0, .ref xr, .ref lb, .ref la, .ref sa, .int 0, .int 0, .ref ba, .int 0, .ref se, .ref si, .ref pa, .ref he])), (sa, aO g 41 (va_up (va_up fs 0 (some s0)) 1 (some s1))), (xr, .inr (5, [.int 0, .int (-1), .ref tk, .ref lb, .int 0, .int 0, .int 0])), (reb, .inr (6, [.int 0, .ref r1b, .ref r2b, .ref r3b, .ref r4b, .ref r5b, .ref r6b, .ref r7b])), (fob, .inr (0, [.int 0, .int 0, .ref f1b, .int 0, .int 0, .ref f2b, .ref f3b, .ref f4b])), (d3b, aI g 4 z0), (xt, aB g 1600 z0), (tk, .inr (10, [.int 0, .int 0, .int 0, .long 0, .ref xt, .int 0, .int 0, .ref tw])), (s0, .inr (9, [.int 0, .int 0, .int 0, .int 0, .int 0, .int 0, .int 0, .ref t1u, .ref t2u, .ref t3u, .ref t4u, .ref t5u, .ref t6u, .ref t7u])), (t1u, aI g 6 z0), (lb, .inr (2, [.ref meb, .ref fob, .ref reb, .int 0, .ref d1b, .ref d2b, .int 9, .int 0, .ref d3b])), (meb, .inr (3, [.int 0, .ref m1b, .ref m2b, .ref m3b, .ref m4b])), (m3b, aI g 6 z0), (t2u, aI g 6 z0), (si, .inr (8, [.int 0, .int 0, .ref i1, .ref i2, .ref i3, .ref i4])), (he, .inr (1, [.int 0, .ref k3]))] H := hP
  have hD : va_D A [(x, .inr (11, [.ref xt, .int 0, .ref xr, .ref lb, .ref la, .ref sa, .int 0, .int 0, .ref ba, .int 0, .ref se, .ref si, .ref pa, .ref he])), (sa, aO g 41 (va_up (va_up fs 0 (some s0)) 1 (some s1))), (xr, .inr (5, [.int 0, .int (-1), .ref tk, .ref lb, .int 0, .int 0, .int 0])), (reb, .inr (6, [.int 0, .ref r1b, .ref r2b, .ref r3b, .ref r4b, .ref r5b, .ref r6b, .ref r7b])), (fob, .inr (0, [.int 0, .int 0, .ref f1b, .int 0, .int 0, .ref f2b, .ref f3b, .ref f4b])), (d3b, aI g 4 z0), (xt, aB g 1600 z0), (tk, .inr (10, [.int 0, .int 0, .int 0, .long 0, .ref xt, .int 0, .int 0, .ref tw])), (s0, .inr (9, [.int 0, .int 0, .int 0, .int 0, .int 0, .int 0, .int 0, .ref t1u, .ref t2u, .ref t3u, .ref t4u, .ref t5u, .ref t6u, .ref t7u])), (t1u, aI g 6 z0), (lb, .inr (2, [.ref meb, .ref fob, .ref reb, .int 0, .ref d1b, .ref d2b, .int 9, .int 0, .ref d3b])), (meb, .inr (3, [.int 0, .ref m1b, .ref m2b, .ref m3b, .ref m4b])), (m3b, aI g 6 z0), (t2u, aI g 6 z0), (si, .inr (8, [.int 0, .int 0, .ref i1, .ref i2, .ref i3, .ref i4])), (he, .inr (1, [.int 0, .ref k3]))] := hD
  refine lv_aload_n hx hb dX11_code_84 rfl (lv_at hl 1 rfl) ?_
  refine lv_iconst (v := 0) hx hb dX11_code_85 (by decide) ?_
  refine va_put (D := g.1) (ci := 11) (v := .int 0) (ty := .int) (C := RX11) (T := TX11) (N := 14) hx hb hT inF_X11 tyX11 tyX11_ok nmX11 hown hK.1 hP hD hS 0 rfl rfl 9 (by decide) (hT _ bw_69) (fun _ h9 => h9) rfl (by decide +kernel) rfl rfl (Nat.le_of_ble_eq_true rfl) dX11_code_86 (fun H locs hP hD hS => ?_)
  have hP : va_P g.1 vwCl [(x, .inr (11, [.ref xt, .int 0, .ref xr, .ref lb, .ref la, .ref sa, .int 0, .int 0, .ref ba, .int 0, .ref se, .ref si, .ref pa, .ref he])), (sa, aO g 41 (va_up (va_up fs 0 (some s0)) 1 (some s1))), (xr, .inr (5, [.int 0, .int (-1), .ref tk, .ref lb, .int 0, .int 0, .int 0])), (reb, .inr (6, [.int 0, .ref r1b, .ref r2b, .ref r3b, .ref r4b, .ref r5b, .ref r6b, .ref r7b])), (fob, .inr (0, [.int 0, .int 0, .ref f1b, .int 0, .int 0, .ref f2b, .ref f3b, .ref f4b])), (d3b, aI g 4 z0), (xt, aB g 1600 z0), (tk, .inr (10, [.int 0, .int 0, .int 0, .long 0, .ref xt, .int 0, .int 0, .ref tw])), (s0, .inr (9, [.int 0, .int 0, .int 0, .int 0, .int 0, .int 0, .int 0, .ref t1u, .ref t2u, .ref t3u, .ref t4u, .ref t5u, .ref t6u, .ref t7u])), (t1u, aI g 6 z0), (lb, .inr (2, [.ref meb, .ref fob, .ref reb, .int 0, .ref d1b, .ref d2b, .int 9, .int 0, .ref d3b])), (meb, .inr (3, [.int 0, .ref m1b, .ref m2b, .ref m3b, .ref m4b])), (m3b, aI g 6 z0), (t2u, aI g 6 z0), (si, .inr (8, [.int 0, .int 0, .ref i1, .ref i2, .ref i3, .ref i4])), (he, .inr (1, [.int 0, .ref k3]))] H := hP
  have hD : va_D A [(x, .inr (11, [.ref xt, .int 0, .ref xr, .ref lb, .ref la, .ref sa, .int 0, .int 0, .ref ba, .int 0, .ref se, .ref si, .ref pa, .ref he])), (sa, aO g 41 (va_up (va_up fs 0 (some s0)) 1 (some s1))), (xr, .inr (5, [.int 0, .int (-1), .ref tk, .ref lb, .int 0, .int 0, .int 0])), (reb, .inr (6, [.int 0, .ref r1b, .ref r2b, .ref r3b, .ref r4b, .ref r5b, .ref r6b, .ref r7b])), (fob, .inr (0, [.int 0, .int 0, .ref f1b, .int 0, .int 0, .ref f2b, .ref f3b, .ref f4b])), (d3b, aI g 4 z0), (xt, aB g 1600 z0), (tk, .inr (10, [.int 0, .int 0, .int 0, .long 0, .ref xt, .int 0, .int 0, .ref tw])), (s0, .inr (9, [.int 0, .int 0, .int 0, .int 0, .int 0, .int 0, .int 0, .ref t1u, .ref t2u, .ref t3u, .ref t4u, .ref t5u, .ref t6u, .ref t7u])), (t1u, aI g 6 z0), (lb, .inr (2, [.ref meb, .ref fob, .ref reb, .int 0, .ref d1b, .ref d2b, .int 9, .int 0, .ref d3b])), (meb, .inr (3, [.int 0, .ref m1b, .ref m2b, .ref m3b, .ref m4b])), (m3b, aI g 6 z0), (t2u, aI g 6 z0), (si, .inr (8, [.int 0, .int 0, .ref i1, .ref i2, .ref i3, .ref i4])), (he, .inr (1, [.int 0, .ref k3]))] := hD
  refine lv_aload_n hx hb dX11_code_89 rfl (lv_at hl 1 rfl) ?_
  refine va_get (D := g.1) (ci := 11) (v := .ref lb) (C := RX11) (T := TX11) (N := 14) hx hb hT inF_X11 hown hK.1 hP 0 rfl rfl 3 (by decide) (hT _ bw_13) (fun _ h9 => h9) rfl dX11_code_90 ?_
  refine va_get (D := g.1) (ci := 2) (v := .ref meb) (C := RX2) (T := TX2) (N := 9) hx hb hT inF_X2 hown hK.1 hP 10 rfl rfl 0 (by decide) (hT _ bw_14) (fun _ h9 => h9) rfl dX11_code_93 ?_
  refine va_get (D := g.1) (ci := 3) (v := .int 0) (C := RX3) (T := TX3) (N := 5) hx hb hT inF_X3 hown hK.1 hP 11 rfl rfl 0 (by decide) (hT _ bw_173) (fun _ h9 => h9) rfl dX11_code_96 ?_
  have hP9 : va_P g.1 vwCl [] H := hP.sub [] rfl
  have hD9 : va_D A [] := ⟨fun i j p q h => by simp at h, fun k q h => by simp at h⟩
  exact W.iret (v := 0) hx hb hr (fun t ht hW => ⟨⟨0, (), rfl, rfl, by rw [ht]; exact hP9, by rw [hAe]; exact hD9⟩, hS.F ht⟩) hS.2.2 dX11_code_99

set_option maxHeartbeats 4000000 in
set_option maxRecDepth 100000 in
theorem c_X11_end (l : Launch) (g : GG) (sz : Nat) (x : Nat) (xt : Nat) (xr : Nat) (la : Nat) (lb : Nat) (sa : Nat) (ba : Nat) (se : Nat) (si : Nat) (pa : Nat) (he : Nat) (p0 : Int32) : Met l yX11_end (.code yX11_end cX11_end 2 (some .int) :: gT) ({ frames := 0, cells := 0, slots := 0, locals := 0 }) (va_Pc [.ref x, .int p0] (Pst g sz [(x, .inr (11, [.ref xt, .int 0, .ref xr, .ref la, .ref lb, .ref sa, .int 0, .int 0, .ref ba, .int 0, .ref se, .ref si, .ref pa, .ref he]))] nX)) (va_Qi (fun (r : Int32) (_ : Unit) => r = Fr 0 p0) (Qst g [(x, .inr (11, [.ref xt, .int 0, .ref xr, .ref la, .ref lb, .ref sa, .int 0, .int 0, .ref ba, .int 0, .ref se, .ref si, .ref pa, .ref he]))] sz (fun _ => [])) (va_A [(x, .inr (11, [.ref xt, .int 0, .ref xr, .ref la, .ref lb, .ref sa, .int 0, .int 0, .ref ba, .int 0, .ref se, .ref si, .ref pa, .ref he]))] sz)) 0 0 (va_A [(x, .inr (11, [.ref xt, .int 0, .ref xr, .ref la, .ref lb, .ref sa, .int 0, .int 0, .ref ba, .int 0, .ref se, .ref si, .ref pa, .ref he]))] sz) := by
  refine Met.ofW (cc := cX11_end) (maxL := 2) (ret := (some .int)) (by decide) rfl ?_
  intro p e s m args below meth c s₁ B hml hv
  obtain ⟨rfl, hsz, hP, hK, hD0, hX⟩ := hv
  have hx := B.exec
  have hb := B.bytes
  have hr := B.returns
  have hT : ∀ w ∈ gT, w.before _ s = true := fun w h => atoms_spec (ws := .code yX11_end cX11_end 2 (some .int) :: gT) B.pre w (List.mem_cons_of_mem _ h)
  have hown : s.vm.findClass RX11 = some m.cls := findClass_of_methodNamed B.named
  have hlocks := B.notSynchronized
  subst hsz
  have hD := hD0.self (sz := s.heap.size)
  generalize hAe : va_A [(x, .inr (11, [.ref xt, .int 0, .ref xr, .ref la, .ref lb, .ref sa, .int 0, .int 0, .ref ba, .int 0, .ref se, .ref si, .ref pa, .ref he]))] s.heap.size = A at hD ⊢
  have hA : ∀ q : Nat, s.heap.size ≤ q → A q := fun q h => by rw [← hAe]; exact Or.inr h
  have hS : va_S A s.heap s.heap [] := va_S.rf
  have hl := lv_entry ([.ref x, .int p0]) (n := 2) (Nat.le_of_ble_eq_true rfl)
  rw [lg_entry_eq]
  generalize (lg_sl ([.ref x, .int p0]) ++ List.replicate (2 - (lg_sl ([.ref x, .int p0])).length) Slot.unset).toArray = ls at hl ⊢
  have hl : lv_has ls 2 [(0, .ref x), (1, .int p0)] := hl
  refine p_nH (fun H hH => ?_)
  have hP : va_P g.1 vwCl [(x, .inr (11, [.ref xt, .int 0, .ref xr, .ref la, .ref lb, .ref sa, .int 0, .int 0, .ref ba, .int 0, .ref se, .ref si, .ref pa, .ref he]))] H := by rw [hH]; exact hP
  have hS : va_S A s.heap H [] := by rw [hH]; exact hS
  refine lv_iload_n hx hb dX11_end_0 rfl (lv_at hl 1 rfl) ?_
  refine lv_if_lt (tgt := 12) hx hb dX11_end_1 (by decide) (fun c_1 => ?_) (fun c_1 => ?_)
  · refine lv_iconst (v := (-1)) hx hb dX11_end_12 (by decide) ?_
    have hP9 : va_P g.1 vwCl [] H := hP.sub [] rfl
    have hD9 : va_D A [] := ⟨fun i j p q h => by simp at h, fun k q h => by simp at h⟩
    exact W.iret (v := (-1)) hx hb hr (fun t ht hW => ⟨⟨(-1), (), rfl, (by rw [Fr, if_neg (by have e0 : (0 : Int32).toInt = 0 := (by decide); simp only [Int32.lt_iff_toInt_lt, Int32.le_iff_toInt_le, ← Int32.toInt_inj, e0] at c_1 ⊢; omega)]), by rw [ht]; exact hP9, by rw [hAe]; exact hD9⟩, hS.F ht⟩) hS.2.2 dX11_end_13
  · refine lv_iload_n hx hb dX11_end_4 rfl (lv_at hl 1 rfl) ?_
    refine lv_aload_n hx hb dX11_end_5 rfl (lv_at hl 0 rfl) ?_
    refine va_get (D := g.1) (ci := 11) (v := .int 0) (C := RX11) (T := TX11) (N := 14) hx hb hT inF_X11 hown hK.1 hP 0 rfl rfl 1 (by decide) (hT _ bw_161) (fun _ h9 => h9) rfl dX11_end_6 ?_
    refine lv_icmp_le (tgt := 14) hx hb dX11_end_9 (by decide) (fun c_2 => ?_) (fun c_2 => ?_)
    · refine lv_aload_n hx hb dX11_end_14 rfl (lv_at hl 0 rfl) ?_
      refine lv_iload_n hx hb dX11_end_15 rfl (lv_at hl 1 rfl) ?_
      refine va_put (D := g.1) (ci := 11) (v := .int p0) (ty := .int) (C := RX11) (T := TX11) (N := 14) hx hb hT inF_X11 tyX11 tyX11_ok nmX11 hown hK.1 hP hD hS 0 rfl rfl 1 (by decide) (hT _ bw_161) (fun _ h9 => h9) rfl (by decide +kernel) rfl rfl (Nat.le_of_ble_eq_true rfl) dX11_end_16 (fun H locs hP hD hS => ?_)
      have hP : va_P g.1 vwCl [(x, .inr (11, [.ref xt, .int p0, .ref xr, .ref la, .ref lb, .ref sa, .int 0, .int 0, .ref ba, .int 0, .ref se, .ref si, .ref pa, .ref he]))] H := hP
      have hD : va_D A [(x, .inr (11, [.ref xt, .int p0, .ref xr, .ref la, .ref lb, .ref sa, .int 0, .int 0, .ref ba, .int 0, .ref se, .ref si, .ref pa, .ref he]))] := hD
      refine lv_iload_n hx hb dX11_end_19 rfl (lv_at hl 1 rfl) ?_
      have hP9 : va_P g.1 vwCl [] H := hP.sub [] rfl
      have hD9 : va_D A [] := ⟨fun i j p q h => by simp at h, fun k q h => by simp at h⟩
      exact W.iret (v := p0) hx hb hr (fun t ht hW => ⟨⟨p0, (), rfl, (by rw [Fr, if_pos (by have e0 : (0 : Int32).toInt = 0 := (by decide); simp only [Int32.lt_iff_toInt_lt, Int32.le_iff_toInt_le, ← Int32.toInt_inj, e0] at c_1 c_2 ⊢; omega)]), by rw [ht]; exact hP9, by rw [hAe]; exact hD9⟩, hS.F ht⟩) hS.2.2 dX11_end_20
    · refine lv_iconst (v := (-1)) hx hb dX11_end_12 (by decide) ?_
      have hP9 : va_P g.1 vwCl [] H := hP.sub [] rfl
      have hD9 : va_D A [] := ⟨fun i j p q h => by simp at h, fun k q h => by simp at h⟩
      exact W.iret (v := (-1)) hx hb hr (fun t ht hW => ⟨⟨(-1), (), rfl, (by rw [Fr, if_neg (by have e0 : (0 : Int32).toInt = 0 := (by decide); simp only [Int32.lt_iff_toInt_lt, Int32.le_iff_toInt_le, ← Int32.toInt_inj, e0] at c_1 c_2 ⊢; omega)]), by rw [ht]; exact hP9, by rw [hAe]; exact hD9⟩, hS.F ht⟩) hS.2.2 dX11_end_13

set_option maxHeartbeats 4000000 in
set_option maxRecDepth 100000 in
theorem c_X11_fault (l : Launch) (g : GG) (sz : Nat) (x : Nat) (xt : Nat) (xr : Nat) (la : Nat) (lb : Nat) (sa : Nat) (ba : Nat) (se : Nat) (si : Nat) (pa : Nat) (he : Nat) (tk : Nat) (p0 : Int32) : Met l yX11_fault (.code yX11_fault cX11_fault 2 (some .int) :: gT) ({ frames := 0, cells := 0, slots := 0, locals := 0 }) (va_Pc [.ref x, .int p0] (Pst g sz [(x, .inr (11, [.ref xt, .int 0, .ref xr, .ref la, .ref lb, .ref sa, .int 0, .int 0, .ref ba, .int 0, .ref se, .ref si, .ref pa, .ref he])), (xr, .inr (5, [.int 0, .int (-1), .ref tk, .null, .int 0, .int 0, .int 0]))] nX)) (va_Qi (fun (r : Int32) (_ : Unit) => r = Fz 0 p0) (Qst g [] sz (fun _ => [])) (va_A [] sz)) 0 0 (va_A [] sz) := by
  refine Met.ofW (cc := cX11_fault) (maxL := 2) (ret := (some .int)) (by decide) rfl ?_
  intro p e s m args below meth c s₁ B hml hv
  obtain ⟨rfl, hsz, hP, hK, hD0, hX⟩ := hv
  have hx := B.exec
  have hb := B.bytes
  have hr := B.returns
  have hT : ∀ w ∈ gT, w.before _ s = true := fun w h => atoms_spec (ws := .code yX11_fault cX11_fault 2 (some .int) :: gT) B.pre w (List.mem_cons_of_mem _ h)
  have hown : s.vm.findClass RX11 = some m.cls := findClass_of_methodNamed B.named
  have hlocks := B.notSynchronized
  subst hsz
  have hD := hD0
  generalize hAe : va_A [] s.heap.size = A at ⊢
  have hA : ∀ q : Nat, s.heap.size ≤ q → A q := fun q h => by rw [← hAe]; exact Or.inr h
  have hS : va_S A s.heap s.heap [] := va_S.rf
  have hl := lv_entry ([.ref x, .int p0]) (n := 2) (Nat.le_of_ble_eq_true rfl)
  rw [lg_entry_eq]
  generalize (lg_sl ([.ref x, .int p0]) ++ List.replicate (2 - (lg_sl ([.ref x, .int p0])).length) Slot.unset).toArray = ls at hl ⊢
  have hl : lv_has ls 2 [(0, .ref x), (1, .int p0)] := hl
  refine p_nH (fun H hH => ?_)
  have hP : va_P g.1 vwCl [(x, .inr (11, [.ref xt, .int 0, .ref xr, .ref la, .ref lb, .ref sa, .int 0, .int 0, .ref ba, .int 0, .ref se, .ref si, .ref pa, .ref he])), (xr, .inr (5, [.int 0, .int (-1), .ref tk, .null, .int 0, .int 0, .int 0]))] H := by rw [hH]; exact hP
  have hS : va_S A s.heap H [] := by rw [hH]; exact hS
  refine lv_iload_n hx hb dX11_fault_0 rfl (lv_at hl 1 rfl) ?_
  rcases tsplit p0 2 (by decide) with h_1 | ⟨j, hj, eh_1⟩
  · refine lv_lookup (tgt := 44) hx hb dX11_fault_1 (by decide) (off := 43) (by have k0 : ¬ (0 : Int) = p0.toInt := (by omega); have k1 : ¬ (1 : Int) = p0.toInt := (by omega); simp [Op.lookupswitch.offset, k0, k1]) (by decide) ?_
    refine lv_iconst (v := (-1)) hx hb dX11_fault_44 (by decide) ?_
    have hP9 : va_P g.1 vwCl [] H := hP.sub [] rfl
    have hD9 : va_D A [] := ⟨fun i j p q h => by simp at h, fun k q h => by simp at h⟩
    exact W.iret (v := (-1)) hx hb hr (fun t ht hW => ⟨⟨(-1), (), rfl, (by rw [Fz, if_neg (by have e0 : (0 : Int32).toInt = 0 := (by decide); simp only [Int32.lt_iff_toInt_lt, Int32.le_iff_toInt_le, ← Int32.toInt_inj, e0] at h_1 ⊢; omega)]), by rw [ht]; exact hP9, by rw [hAe]; exact hD9⟩, hS.F ht⟩) hS.2.2 dX11_fault_45
  · rcases (show j = 0 ∨ j = 1 by omega) with rfl | rfl
    · obtain rfl : p0 = 0 := eh_1
      refine lv_lookup (tgt := 28) hx hb dX11_fault_1 (by decide) (off := 27) (by decide) (by decide) ?_
      refine lv_aload_n hx hb dX11_fault_28 rfl (lv_at hl 0 rfl) ?_
      refine va_get (D := g.1) (ci := 11) (v := .ref xr) (C := RX11) (T := TX11) (N := 14) hx hb hT inF_X11 hown hK.1 hP 0 rfl rfl 2 (by decide) (hT _ bw_159) (fun _ h9 => h9) rfl dX11_fault_29 ?_
      refine va_get (D := g.1) (ci := 5) (v := .int 0) (C := RX5) (T := TX5) (N := 7) hx hb hT inF_X5 hown hK.1 hP 1 rfl rfl 0 (by decide) (hT _ bw_176) (fun _ h9 => h9) rfl dX11_fault_32 ?_
      have hP9 : va_P g.1 vwCl [] H := hP.sub [] rfl
      have hD9 : va_D A [] := ⟨fun i j p q h => by simp at h, fun k q h => by simp at h⟩
      exact W.iret (v := 0) hx hb hr (fun t ht hW => ⟨⟨0, (), rfl, by decide, by rw [ht]; exact hP9, by rw [hAe]; exact hD9⟩, hS.F ht⟩) hS.2.2 dX11_fault_35
    · obtain rfl : p0 = 1 := eh_1
      refine lv_lookup (tgt := 36) hx hb dX11_fault_1 (by decide) (off := 35) (by decide) (by decide) ?_
      refine lv_aload_n hx hb dX11_fault_36 rfl (lv_at hl 0 rfl) ?_
      refine va_get (D := g.1) (ci := 11) (v := .ref xr) (C := RX11) (T := TX11) (N := 14) hx hb hT inF_X11 hown hK.1 hP 0 rfl rfl 2 (by decide) (hT _ bw_159) (fun _ h9 => h9) rfl dX11_fault_37 ?_
      refine va_get (D := g.1) (ci := 5) (v := .int (-1)) (C := RX5) (T := TX5) (N := 7) hx hb hT inF_X5 hown hK.1 hP 1 rfl rfl 1 (by decide) (hT _ bw_177) (fun _ h9 => h9) rfl dX11_fault_40 ?_
      have hP9 : va_P g.1 vwCl [] H := hP.sub [] rfl
      have hD9 : va_D A [] := ⟨fun i j p q h => by simp at h, fun k q h => by simp at h⟩
      exact W.iret (v := (-1)) hx hb hr (fun t ht hW => ⟨⟨(-1), (), rfl, by decide, by rw [ht]; exact hP9, by rw [hAe]; exact hD9⟩, hS.F ht⟩) hS.2.2 dX11_fault_43

set_option maxHeartbeats 4000000 in
set_option maxRecDepth 100000 in
theorem c_X11_later (l : Launch) (g : GG) (sz : Nat) (x : Nat) (xt : Nat) (xr : Nat) (la : Nat) (lb : Nat) (sa : Nat) (ba : Nat) (se : Nat) (si : Nat) (pa : Nat) (he : Nat) (i1 : Nat) (i2 : Nat) (i3 : Nat) (i4 : Nat) (p0 : Int32) : Met l yX11_later (.code yX11_later cX11_later 2 (some .int) :: gT) ({ frames := 0, cells := 0, slots := 0, locals := 0 }) (va_Pc [.ref x, .int p0] (Pst g sz [(x, .inr (11, [.ref xt, .int 0, .ref xr, .ref la, .ref lb, .ref sa, .int 0, .int 0, .ref ba, .int 0, .ref se, .ref si, .ref pa, .ref he])), (si, .inr (8, [.int 0, .int 0, .ref i1, .ref i2, .ref i3, .ref i4]))] nX)) (va_Qi (fun (r : Int32) (_ : Unit) => r = Fr 1000 p0) (Qst g [(x, .inr (11, [.ref xt, .int 0, .ref xr, .ref la, .ref lb, .ref sa, .int 0, .int 0, .ref ba, .int 0, .ref se, .ref si, .ref pa, .ref he])), (si, .inr (8, [.int 0, .int 0, .ref i1, .ref i2, .ref i3, .ref i4]))] sz (fun _ => [])) (va_A [(x, .inr (11, [.ref xt, .int 0, .ref xr, .ref la, .ref lb, .ref sa, .int 0, .int 0, .ref ba, .int 0, .ref se, .ref si, .ref pa, .ref he])), (si, .inr (8, [.int 0, .int 0, .ref i1, .ref i2, .ref i3, .ref i4]))] sz)) 0 0 (va_A [(x, .inr (11, [.ref xt, .int 0, .ref xr, .ref la, .ref lb, .ref sa, .int 0, .int 0, .ref ba, .int 0, .ref se, .ref si, .ref pa, .ref he])), (si, .inr (8, [.int 0, .int 0, .ref i1, .ref i2, .ref i3, .ref i4]))] sz) := by
  refine Met.ofW (cc := cX11_later) (maxL := 2) (ret := (some .int)) (by decide) rfl ?_
  intro p e s m args below meth c s₁ B hml hv
  obtain ⟨rfl, hsz, hP, hK, hD0, hX⟩ := hv
  have hx := B.exec
  have hb := B.bytes
  have hr := B.returns
  have hT : ∀ w ∈ gT, w.before _ s = true := fun w h => atoms_spec (ws := .code yX11_later cX11_later 2 (some .int) :: gT) B.pre w (List.mem_cons_of_mem _ h)
  have hown : s.vm.findClass RX11 = some m.cls := findClass_of_methodNamed B.named
  have hlocks := B.notSynchronized
  subst hsz
  have hD := hD0.self (sz := s.heap.size)
  generalize hAe : va_A [(x, .inr (11, [.ref xt, .int 0, .ref xr, .ref la, .ref lb, .ref sa, .int 0, .int 0, .ref ba, .int 0, .ref se, .ref si, .ref pa, .ref he])), (si, .inr (8, [.int 0, .int 0, .ref i1, .ref i2, .ref i3, .ref i4]))] s.heap.size = A at hD ⊢
  have hA : ∀ q : Nat, s.heap.size ≤ q → A q := fun q h => by rw [← hAe]; exact Or.inr h
  have hS : va_S A s.heap s.heap [] := va_S.rf
  have hl := lv_entry ([.ref x, .int p0]) (n := 2) (Nat.le_of_ble_eq_true rfl)
  rw [lg_entry_eq]
  generalize (lg_sl ([.ref x, .int p0]) ++ List.replicate (2 - (lg_sl ([.ref x, .int p0])).length) Slot.unset).toArray = ls at hl ⊢
  have hl : lv_has ls 2 [(0, .ref x), (1, .int p0)] := hl
  refine p_nH (fun H hH => ?_)
  have hP : va_P g.1 vwCl [(x, .inr (11, [.ref xt, .int 0, .ref xr, .ref la, .ref lb, .ref sa, .int 0, .int 0, .ref ba, .int 0, .ref se, .ref si, .ref pa, .ref he])), (si, .inr (8, [.int 0, .int 0, .ref i1, .ref i2, .ref i3, .ref i4]))] H := by rw [hH]; exact hP
  have hS : va_S A s.heap H [] := by rw [hH]; exact hS
  refine lv_iload_n hx hb dX11_later_0 rfl (lv_at hl 1 rfl) ?_
  refine lv_if_lt (tgt := 26) hx hb dX11_later_1 (by decide) (fun c_1 => ?_) (fun c_1 => ?_)
  · refine lv_iconst (v := (-1)) hx hb dX11_later_26 (by decide) ?_
    have hP9 : va_P g.1 vwCl [] H := hP.sub [] rfl
    have hD9 : va_D A [] := ⟨fun i j p q h => by simp at h, fun k q h => by simp at h⟩
    exact W.iret (v := (-1)) hx hb hr (fun t ht hW => ⟨⟨(-1), (), rfl, (by rw [Fr, if_neg (by have e0 : (0 : Int32).toInt = 0 := (by decide); have e1 : (1000 : Int32).toInt = 1000 := (by decide); simp only [Int32.lt_iff_toInt_lt, Int32.le_iff_toInt_le, ← Int32.toInt_inj, e0, e1] at c_1 ⊢; omega)]), by rw [ht]; exact hP9, by rw [hAe]; exact hD9⟩, hS.F ht⟩) hS.2.2 dX11_later_27
  · refine lv_iload_n hx hb dX11_later_4 rfl (lv_at hl 1 rfl) ?_
    refine lv_sipush (v := 1000) hx hb dX11_later_5 (by decide) ?_
    refine lv_icmp_gt (tgt := 26) hx hb dX11_later_8 (by decide) (fun c_2 => ?_) (fun c_2 => ?_)
    · refine lv_iconst (v := (-1)) hx hb dX11_later_26 (by decide) ?_
      have hP9 : va_P g.1 vwCl [] H := hP.sub [] rfl
      have hD9 : va_D A [] := ⟨fun i j p q h => by simp at h, fun k q h => by simp at h⟩
      exact W.iret (v := (-1)) hx hb hr (fun t ht hW => ⟨⟨(-1), (), rfl, (by rw [Fr, if_neg (by have e0 : (0 : Int32).toInt = 0 := (by decide); have e1 : (1000 : Int32).toInt = 1000 := (by decide); simp only [Int32.lt_iff_toInt_lt, Int32.le_iff_toInt_le, ← Int32.toInt_inj, e0, e1] at c_1 c_2 ⊢; omega)]), by rw [ht]; exact hP9, by rw [hAe]; exact hD9⟩, hS.F ht⟩) hS.2.2 dX11_later_27
    · refine lv_aload_n hx hb dX11_later_11 rfl (lv_at hl 0 rfl) ?_
      refine va_get (D := g.1) (ci := 11) (v := .ref si) (C := RX11) (T := TX11) (N := 14) hx hb hT inF_X11 hown hK.1 hP 0 rfl rfl 11 (by decide) (hT _ bw_63) (fun _ h9 => h9) rfl dX11_later_12 ?_
      refine va_get (D := g.1) (ci := 8) (v := .int 0) (C := RX8) (T := TX8) (N := 6) hx hb hT inF_X8 hown hK.1 hP 1 rfl rfl 0 (by decide) (hT _ bw_179) (fun _ h9 => h9) rfl dX11_later_15 ?_
      refine lv_iload_n hx hb dX11_later_18 rfl (lv_at hl 1 rfl) ?_
      refine lv_iadd hx hb dX11_later_19 ?_
      refine p_ti (v := p0) (Int32.zero_add _) ?_
      refine lv_ldcw (v := 100000) hx hb hown (hT _ bw_180) dX11_later_20 ?_
      refine lv_icmp_le (tgt := 28) hx hb dX11_later_23 (by decide) (fun _ => ?_) (fun c9 => absurd (by have e0 : (0 : Int32).toInt = 0 := (by decide); have e1 : (1000 : Int32).toInt = 1000 := (by decide); have e2 : (100000 : Int32).toInt = 100000 := (by decide); simp only [Int32.lt_iff_toInt_lt, Int32.le_iff_toInt_le, ← Int32.toInt_inj, e0, e1, e2] at c_1 c_2 ⊢; omega) c9)
      refine lv_aload_n hx hb dX11_later_28 rfl (lv_at hl 0 rfl) ?_
      refine va_get (D := g.1) (ci := 11) (v := .ref si) (C := RX11) (T := TX11) (N := 14) hx hb hT inF_X11 hown hK.1 hP 0 rfl rfl 11 (by decide) (hT _ bw_63) (fun _ h9 => h9) rfl dX11_later_29 ?_
      refine lv_dup hx hb dX11_later_32 rfl ?_
      refine va_get (D := g.1) (ci := 8) (v := .int 0) (C := RX8) (T := TX8) (N := 6) hx hb hT inF_X8 hown hK.1 hP 1 rfl rfl 0 (by decide) (hT _ bw_179) (fun _ h9 => h9) rfl dX11_later_33 ?_
      refine lv_iload_n hx hb dX11_later_36 rfl (lv_at hl 1 rfl) ?_
      refine lv_iadd hx hb dX11_later_37 ?_
      refine p_ti (v := p0) (Int32.zero_add _) ?_
      refine va_put (D := g.1) (ci := 8) (v := .int p0) (ty := .int) (C := RX8) (T := TX8) (N := 6) hx hb hT inF_X8 tyX8 tyX8_ok nmX8 hown hK.1 hP hD hS 1 rfl rfl 0 (by decide) (hT _ bw_179) (fun _ h9 => h9) rfl (by decide +kernel) rfl rfl (Nat.le_of_ble_eq_true rfl) dX11_later_38 (fun H locs hP hD hS => ?_)
      have hP : va_P g.1 vwCl [(x, .inr (11, [.ref xt, .int 0, .ref xr, .ref la, .ref lb, .ref sa, .int 0, .int 0, .ref ba, .int 0, .ref se, .ref si, .ref pa, .ref he])), (si, .inr (8, [.int p0, .int 0, .ref i1, .ref i2, .ref i3, .ref i4]))] H := hP
      have hD : va_D A [(x, .inr (11, [.ref xt, .int 0, .ref xr, .ref la, .ref lb, .ref sa, .int 0, .int 0, .ref ba, .int 0, .ref se, .ref si, .ref pa, .ref he])), (si, .inr (8, [.int p0, .int 0, .ref i1, .ref i2, .ref i3, .ref i4]))] := hD
      refine lv_aload_n hx hb dX11_later_41 rfl (lv_at hl 0 rfl) ?_
      refine va_get (D := g.1) (ci := 11) (v := .ref si) (C := RX11) (T := TX11) (N := 14) hx hb hT inF_X11 hown hK.1 hP 0 rfl rfl 11 (by decide) (hT _ bw_63) (fun _ h9 => h9) rfl dX11_later_42 ?_
      refine va_get (D := g.1) (ci := 8) (v := .int p0) (C := RX8) (T := TX8) (N := 6) hx hb hT inF_X8 hown hK.1 hP 1 rfl rfl 0 (by decide) (hT _ bw_179) (fun _ h9 => h9) rfl dX11_later_45 ?_
      have hP9 : va_P g.1 vwCl [] H := hP.sub [] rfl
      have hD9 : va_D A [] := ⟨fun i j p q h => by simp at h, fun k q h => by simp at h⟩
      exact W.iret (v := p0) hx hb hr (fun t ht hW => ⟨⟨p0, (), rfl, (by rw [Fr, if_pos (by have e0 : (0 : Int32).toInt = 0 := (by decide); have e1 : (1000 : Int32).toInt = 1000 := (by decide); simp only [Int32.lt_iff_toInt_lt, Int32.le_iff_toInt_le, ← Int32.toInt_inj, e0, e1] at c_1 c_2 ⊢; omega)]), by rw [ht]; exact hP9, by rw [hAe]; exact hD9⟩, hS.F ht⟩) hS.2.2 dX11_later_48

set_option maxHeartbeats 4000000 in
set_option maxRecDepth 100000 in
theorem c_J6_bitCount_0f7a4 (l : Launch) (g : GG) (sz : Nat) : Met l yJ6_bitCount_0f7a4 (.code yJ6_bitCount_0f7a4 cJ6_bitCount_0f7a4 1 (some .int) :: gT) ({ frames := 0, cells := 0, slots := 0, locals := 0 }) (va_Pc [.int 0] (Pst g sz [] nX)) (va_Qi (fun (r : Int32) (_ : Unit) => r = 0) (Qst g [] sz (fun _ => [])) (va_A [] sz)) 0 0 (va_A [] sz) := by
  refine Met.ofW (cc := cJ6_bitCount_0f7a4) (maxL := 1) (ret := (some .int)) (by decide) rfl ?_
  intro p e s m args below meth c s₁ B hml hv
  obtain ⟨rfl, hsz, hP, hK, hD0, hX⟩ := hv
  have hx := B.exec
  have hb := B.bytes
  have hr := B.returns
  have hT : ∀ w ∈ gT, w.before _ s = true := fun w h => atoms_spec (ws := .code yJ6_bitCount_0f7a4 cJ6_bitCount_0f7a4 1 (some .int) :: gT) B.pre w (List.mem_cons_of_mem _ h)
  have hown : s.vm.findClass RJ6 = some m.cls := findClass_of_methodNamed B.named
  have hlocks := B.notSynchronized
  subst hsz
  have hD := hD0
  generalize hAe : va_A [] s.heap.size = A at ⊢
  have hA : ∀ q : Nat, s.heap.size ≤ q → A q := fun q h => by rw [← hAe]; exact Or.inr h
  have hS : va_S A s.heap s.heap [] := va_S.rf
  have hl := lv_entry ([.int 0]) (n := 1) (Nat.le_of_ble_eq_true rfl)
  rw [lg_entry_eq]
  generalize (lg_sl ([.int 0]) ++ List.replicate (1 - (lg_sl ([.int 0])).length) Slot.unset).toArray = ls at hl ⊢
  have hl : lv_has ls 1 [(0, .int 0)] := hl
  refine p_nH (fun H hH => ?_)
  have hP : va_P g.1 vwCl [] H := by rw [hH]; exact hP
  have hS : va_S A s.heap H [] := by rw [hH]; exact hS
  refine lv_iload_n hx hb dJ6_bitCount_0f7a4_0 rfl (lv_at hl 0 rfl) ?_
  refine lv_iload_n hx hb dJ6_bitCount_0f7a4_1 rfl (lv_at hl 0 rfl) ?_
  refine lv_iconst (v := 1) hx hb dJ6_bitCount_0f7a4_2 (by decide) ?_
  refine lv_iushr (v := 0) hx hb dJ6_bitCount_0f7a4_3 (by decide +kernel) ?_
  refine lv_ldcw (v := 1431655765) hx hb hown (hT _ bw_182) dJ6_bitCount_0f7a4_4 ?_
  refine lv_iand hx hb dJ6_bitCount_0f7a4_7 ?_
  refine p_ti (v := 0) (by decide +kernel) ?_
  refine lv_isub hx hb dJ6_bitCount_0f7a4_8 ?_
  refine p_ti (v := 0) (by decide +kernel) ?_
  refine lv_istore_n (lv' := [(0, .int 0)]) hx hb dJ6_bitCount_0f7a4_9 rfl hl (by decide) rfl (fun ls hl => ?_)
  refine lv_iload_n hx hb dJ6_bitCount_0f7a4_10 rfl (lv_at hl 0 rfl) ?_
  refine lv_ldcw (v := 858993459) hx hb hown (hT _ bw_183) dJ6_bitCount_0f7a4_11 ?_
  refine lv_iand hx hb dJ6_bitCount_0f7a4_14 ?_
  refine p_ti (v := 0) (by decide +kernel) ?_
  refine lv_iload_n hx hb dJ6_bitCount_0f7a4_15 rfl (lv_at hl 0 rfl) ?_
  refine lv_iconst (v := 2) hx hb dJ6_bitCount_0f7a4_16 (by decide) ?_
  refine lv_iushr (v := 0) hx hb dJ6_bitCount_0f7a4_17 (by decide +kernel) ?_
  refine lv_ldcw (v := 858993459) hx hb hown (hT _ bw_183) dJ6_bitCount_0f7a4_18 ?_
  refine lv_iand hx hb dJ6_bitCount_0f7a4_21 ?_
  refine p_ti (v := 0) (by decide +kernel) ?_
  refine lv_iadd hx hb dJ6_bitCount_0f7a4_22 ?_
  refine p_ti (v := 0) (by decide +kernel) ?_
  refine lv_istore_n (lv' := [(0, .int 0)]) hx hb dJ6_bitCount_0f7a4_23 rfl hl (by decide) rfl (fun ls hl => ?_)
  refine lv_iload_n hx hb dJ6_bitCount_0f7a4_24 rfl (lv_at hl 0 rfl) ?_
  refine lv_iload_n hx hb dJ6_bitCount_0f7a4_25 rfl (lv_at hl 0 rfl) ?_
  refine lv_iconst (v := 4) hx hb dJ6_bitCount_0f7a4_26 (by decide) ?_
  refine lv_iushr (v := 0) hx hb dJ6_bitCount_0f7a4_27 (by decide +kernel) ?_
  refine lv_iadd hx hb dJ6_bitCount_0f7a4_28 ?_
  refine p_ti (v := 0) (by decide +kernel) ?_
  refine lv_ldcw (v := 252645135) hx hb hown (hT _ bw_184) dJ6_bitCount_0f7a4_29 ?_
  refine lv_iand hx hb dJ6_bitCount_0f7a4_32 ?_
  refine p_ti (v := 0) (by decide +kernel) ?_
  refine lv_istore_n (lv' := [(0, .int 0)]) hx hb dJ6_bitCount_0f7a4_33 rfl hl (by decide) rfl (fun ls hl => ?_)
  refine lv_iload_n hx hb dJ6_bitCount_0f7a4_34 rfl (lv_at hl 0 rfl) ?_
  refine lv_iload_n hx hb dJ6_bitCount_0f7a4_35 rfl (lv_at hl 0 rfl) ?_
  refine lv_bipush (v := 8) hx hb dJ6_bitCount_0f7a4_36 (by decide) ?_
  refine lv_iushr (v := 0) hx hb dJ6_bitCount_0f7a4_38 (by decide +kernel) ?_
  refine lv_iadd hx hb dJ6_bitCount_0f7a4_39 ?_
  refine p_ti (v := 0) (by decide +kernel) ?_
  refine lv_istore_n (lv' := [(0, .int 0)]) hx hb dJ6_bitCount_0f7a4_40 rfl hl (by decide) rfl (fun ls hl => ?_)
  refine lv_iload_n hx hb dJ6_bitCount_0f7a4_41 rfl (lv_at hl 0 rfl) ?_
  refine lv_iload_n hx hb dJ6_bitCount_0f7a4_42 rfl (lv_at hl 0 rfl) ?_
  refine lv_bipush (v := 16) hx hb dJ6_bitCount_0f7a4_43 (by decide) ?_
  refine lv_iushr (v := 0) hx hb dJ6_bitCount_0f7a4_45 (by decide +kernel) ?_
  refine lv_iadd hx hb dJ6_bitCount_0f7a4_46 ?_
  refine p_ti (v := 0) (by decide +kernel) ?_
  refine lv_istore_n (lv' := [(0, .int 0)]) hx hb dJ6_bitCount_0f7a4_47 rfl hl (by decide) rfl (fun ls hl => ?_)
  refine lv_iload_n hx hb dJ6_bitCount_0f7a4_48 rfl (lv_at hl 0 rfl) ?_
  refine lv_bipush (v := 63) hx hb dJ6_bitCount_0f7a4_49 (by decide) ?_
  refine lv_iand hx hb dJ6_bitCount_0f7a4_51 ?_
  refine p_ti (v := 0) (by decide +kernel) ?_
  have hP9 : va_P g.1 vwCl [] H := hP.sub [] rfl
  have hD9 : va_D A [] := ⟨fun i j p q h => by simp at h, fun k q h => by simp at h⟩
  exact W.iret (v := 0) hx hb hr (fun t ht hW => ⟨⟨0, (), rfl, rfl, by rw [ht]; exact hP9, by rw [hAe]; exact hD9⟩, hS.F ht⟩) hS.2.2 dJ6_bitCount_0f7a4_52

set_option maxHeartbeats 4000000 in
set_option maxRecDepth 100000 in
theorem c_X11_about (l : Launch) (g : GG) (sz : Nat) (x : Nat) (xt : Nat) (xr : Nat) (la : Nat) (lb : Nat) (sa : Nat) (ba : Nat) (se : Nat) (si : Nat) (pa : Nat) (he : Nat) (mea : Nat) (foa : Nat) (rea : Nat) (d1a : Nat) (d2a : Nat) (d3a : Nat) (m1a : Nat) (m2a : Nat) (m3a : Nat) (m4a : Nat) (f1a : Nat) (f2a : Nat) (f3a : Nat) (f4a : Nat) (r1a : Nat) (r2a : Nat) (r3a : Nat) (r4a : Nat) (r5a : Nat) (r6a : Nat) (r7a : Nat) (s1 : Nat) (s0 : Nat) (t1u : Nat) (t2u : Nat) (t3u : Nat) (t4u : Nat) (t5u : Nat) (t6u : Nat) (t7u : Nat) (i1 : Nat) (i2 : Nat) (i3 : Nat) (i4 : Nat) (k3 : Nat) (fs : Nat → Option Nat) (p0 : Int32) : Met l yX11_about (.code yX11_about cX11_about 3 (some .int) :: gT) ({ frames := 1, cells := 0, slots := 0, locals := 20 }) (va_Pc [.ref x, .int p0] (Pst g sz [(x, .inr (11, [.ref xt, .int 0, .ref xr, .ref la, .ref lb, .ref sa, .int 0, .int 0, .ref ba, .int 0, .ref se, .ref si, .ref pa, .ref he])), (la, .inr (2, [.ref mea, .ref foa, .ref rea, .int 0, .ref d1a, .ref d2a, .int 9, .int 0, .ref d3a])), (mea, .inr (3, [.int 0, .ref m1a, .ref m2a, .ref m3a, .ref m4a])), (foa, .inr (0, [.int 0, .int 0, .ref f1a, .int 0, .int 0, .ref f2a, .ref f3a, .ref f4a])), (rea, .inr (6, [.int 0, .ref r1a, .ref r2a, .ref r3a, .ref r4a, .ref r5a, .ref r6a, .ref r7a])), (sa, aO g 41 (va_up (va_up fs 0 (some s0)) 1 (some s1))), (s0, .inr (9, [.int 0, .int 0, .int 0, .int 0, .int 0, .int 0, .int 0, .ref t1u, .ref t2u, .ref t3u, .ref t4u, .ref t5u, .ref t6u, .ref t7u])), (si, .inr (8, [.int 0, .int 0, .ref i1, .ref i2, .ref i3, .ref i4])), (he, .inr (1, [.int 0, .ref k3]))] nX)) (va_Qi (fun (r : Int32) (_ : Unit) => r = Fz 15 p0) (Qst g [] sz (fun _ => [])) (va_A [] sz)) 0 0 (va_A [] sz) := by
  refine Met.ofW (cc := cX11_about) (maxL := 3) (ret := (some .int)) (by decide) rfl ?_
  intro p e s m args below meth c s₁ B hml hv
  obtain ⟨rfl, hsz, hP, hK, hD0, hX⟩ := hv
  have hx := B.exec
  have hb := B.bytes
  have hr := B.returns
  have hT : ∀ w ∈ gT, w.before _ s = true := fun w h => atoms_spec (ws := .code yX11_about cX11_about 3 (some .int) :: gT) B.pre w (List.mem_cons_of_mem _ h)
  have hown : s.vm.findClass RX11 = some m.cls := findClass_of_methodNamed B.named
  have hlocks := B.notSynchronized
  subst hsz
  have hD := hD0
  generalize hAe : va_A [] s.heap.size = A at ⊢
  have hA : ∀ q : Nat, s.heap.size ≤ q → A q := fun q h => by rw [← hAe]; exact Or.inr h
  have hS : va_S A s.heap s.heap [] := va_S.rf
  have hl := lv_entry ([.ref x, .int p0]) (n := 3) (Nat.le_of_ble_eq_true rfl)
  rw [lg_entry_eq]
  generalize (lg_sl ([.ref x, .int p0]) ++ List.replicate (3 - (lg_sl ([.ref x, .int p0])).length) Slot.unset).toArray = ls at hl ⊢
  have hl : lv_has ls 3 [(0, .ref x), (1, .int p0)] := hl
  refine p_nH (fun H hH => ?_)
  have hP : va_P g.1 vwCl [(x, .inr (11, [.ref xt, .int 0, .ref xr, .ref la, .ref lb, .ref sa, .int 0, .int 0, .ref ba, .int 0, .ref se, .ref si, .ref pa, .ref he])), (la, .inr (2, [.ref mea, .ref foa, .ref rea, .int 0, .ref d1a, .ref d2a, .int 9, .int 0, .ref d3a])), (mea, .inr (3, [.int 0, .ref m1a, .ref m2a, .ref m3a, .ref m4a])), (foa, .inr (0, [.int 0, .int 0, .ref f1a, .int 0, .int 0, .ref f2a, .ref f3a, .ref f4a])), (rea, .inr (6, [.int 0, .ref r1a, .ref r2a, .ref r3a, .ref r4a, .ref r5a, .ref r6a, .ref r7a])), (sa, aO g 41 (va_up (va_up fs 0 (some s0)) 1 (some s1))), (s0, .inr (9, [.int 0, .int 0, .int 0, .int 0, .int 0, .int 0, .int 0, .ref t1u, .ref t2u, .ref t3u, .ref t4u, .ref t5u, .ref t6u, .ref t7u])), (si, .inr (8, [.int 0, .int 0, .ref i1, .ref i2, .ref i3, .ref i4])), (he, .inr (1, [.int 0, .ref k3]))] H := by rw [hH]; exact hP
  have hS : va_S A s.heap H [] := by rw [hH]; exact hS
  refine lv_aload_n hx hb dX11_about_0 rfl (lv_at hl 0 rfl) ?_
  refine va_get (D := g.1) (ci := 11) (v := .ref sa) (C := RX11) (T := TX11) (N := 14) hx hb hT inF_X11 hown hK.1 hP 0 rfl rfl 5 (by decide) (hT _ bw_20) (fun _ h9 => h9) rfl dX11_about_1 ?_
  refine lv_aload_n hx hb dX11_about_4 rfl (lv_at hl 0 rfl) ?_
  refine va_get (D := g.1) (ci := 11) (v := .int 0) (C := RX11) (T := TX11) (N := 14) hx hb hT inF_X11 hown hK.1 hP 0 rfl rfl 6 (by decide) (hT _ bw_21) (fun _ h9 => h9) rfl dX11_about_5 ?_
  refine va_aldq hx hb hK.1 hP 5 4 rfl rfl (i := 0) (by unfold vp_in; decide) dX11_about_8 ?_
  refine p_tr (x := s0) (rfl) ?_
  refine lv_astore_n (lv' := [(2, .ref s0), (0, .ref x), (1, .int p0)]) hx hb dX11_about_9 rfl hl (by decide) rfl (fun ls hl => ?_)
  refine lv_iload_n hx hb dX11_about_10 rfl (lv_at hl 2 rfl) ?_
  rcases tsplit p0 16 (by decide) with h_1 | ⟨j, hj, eh_1⟩
  · refine lv_tableOut (tgt := 209) hx hb dX11_about_11 (by omega) (by decide) ?_
    refine lv_iconst (v := (-1)) hx hb dX11_about_209 (by decide) ?_
    have hP9 : va_P g.1 vwCl [] H := hP.sub [] rfl
    have hD9 : va_D A [] := ⟨fun i j p q h => by simp at h, fun k q h => by simp at h⟩
    exact W.iret (v := (-1)) hx hb hr (fun t ht hW => ⟨⟨(-1), (), rfl, (by rw [Fz, if_neg (by have e0 : (0 : Int32).toInt = 0 := (by decide); have e1 : (15 : Int32).toInt = 15 := (by decide); simp only [Int32.lt_iff_toInt_lt, Int32.le_iff_toInt_le, ← Int32.toInt_inj, e0, e1] at h_1 ⊢; omega)]), by rw [ht]; exact hP9, by rw [hAe]; exact hD9⟩, hS.F ht⟩) hS.2.2 dX11_about_210
  · rcases (show j = 0 ∨ j = 1 ∨ j = 2 ∨ j = 3 ∨ j = 4 ∨ j = 5 ∨ j = 6 ∨ j = 7 ∨ j = 8 ∨ j = 9 ∨ j = 10 ∨ j = 11 ∨ j = 12 ∨ j = 13 ∨ j = 14 ∨ j = 15 by omega) with rfl | rfl | rfl | rfl | rfl | rfl | rfl | rfl | rfl | rfl | rfl | rfl | rfl | rfl | rfl | rfl
    · obtain rfl : p0 = 0 := eh_1
      refine lv_tableIn (tgt := 88) hx hb dX11_about_11 (by decide) (by decide) (off := 77) (by decide) (by decide) ?_
      refine lv_aload_n hx hb dX11_about_88 rfl (lv_at hl 1 rfl) ?_
      refine va_get (D := g.1) (ci := 11) (v := .ref la) (C := RX11) (T := TX11) (N := 14) hx hb hT inF_X11 hown hK.1 hP 0 rfl rfl 3 (by decide) (hT _ bw_13) (fun _ h9 => h9) rfl dX11_about_89 ?_
      refine va_get (D := g.1) (ci := 2) (v := .ref mea) (C := RX2) (T := TX2) (N := 9) hx hb hT inF_X2 hown hK.1 hP 1 rfl rfl 0 (by decide) (hT _ bw_14) (fun _ h9 => h9) rfl dX11_about_92 ?_
      refine va_get (D := g.1) (ci := 3) (v := .int 0) (C := RX3) (T := TX3) (N := 5) hx hb hT inF_X3 hown hK.1 hP 2 rfl rfl 0 (by decide) (hT _ bw_173) (fun _ h9 => h9) rfl dX11_about_95 ?_
      have hP9 : va_P g.1 vwCl [] H := hP.sub [] rfl
      have hD9 : va_D A [] := ⟨fun i j p q h => by simp at h, fun k q h => by simp at h⟩
      exact W.iret (v := 0) hx hb hr (fun t ht hW => ⟨⟨0, (), rfl, by decide, by rw [ht]; exact hP9, by rw [hAe]; exact hD9⟩, hS.F ht⟩) hS.2.2 dX11_about_98
    · obtain rfl : p0 = 1 := eh_1
      refine lv_tableIn (tgt := 99) hx hb dX11_about_11 (by decide) (by decide) (off := 88) (by decide) (by decide) ?_
      refine lv_aload_n hx hb dX11_about_99 rfl (lv_at hl 1 rfl) ?_
      refine va_get (D := g.1) (ci := 11) (v := .ref la) (C := RX11) (T := TX11) (N := 14) hx hb hT inF_X11 hown hK.1 hP 0 rfl rfl 3 (by decide) (hT _ bw_13) (fun _ h9 => h9) rfl dX11_about_100 ?_
      refine va_get (D := g.1) (ci := 2) (v := .ref foa) (C := RX2) (T := TX2) (N := 9) hx hb hT inF_X2 hown hK.1 hP 1 rfl rfl 1 (by decide) (hT _ bw_186) (fun _ h9 => h9) rfl dX11_about_103 ?_
      refine va_get (D := g.1) (ci := 0) (v := .int 0) (C := RX0) (T := TX0) (N := 8) hx hb hT inF_X0 hown hK.1 hP 3 rfl rfl 0 (by decide) (hT _ bw_187) (fun _ h9 => h9) rfl dX11_about_106 ?_
      have hP9 : va_P g.1 vwCl [] H := hP.sub [] rfl
      have hD9 : va_D A [] := ⟨fun i j p q h => by simp at h, fun k q h => by simp at h⟩
      exact W.iret (v := 0) hx hb hr (fun t ht hW => ⟨⟨0, (), rfl, by decide, by rw [ht]; exact hP9, by rw [hAe]; exact hD9⟩, hS.F ht⟩) hS.2.2 dX11_about_109
    · obtain rfl : p0 = 2 := eh_1
      refine lv_tableIn (tgt := 110) hx hb dX11_about_11 (by decide) (by decide) (off := 99) (by decide) (by decide) ?_
      refine lv_aload_n hx hb dX11_about_110 rfl (lv_at hl 1 rfl) ?_
      refine va_get (D := g.1) (ci := 11) (v := .ref la) (C := RX11) (T := TX11) (N := 14) hx hb hT inF_X11 hown hK.1 hP 0 rfl rfl 3 (by decide) (hT _ bw_13) (fun _ h9 => h9) rfl dX11_about_111 ?_
      refine va_get (D := g.1) (ci := 2) (v := .ref rea) (C := RX2) (T := TX2) (N := 9) hx hb hT inF_X2 hown hK.1 hP 1 rfl rfl 2 (by decide) (hT _ bw_27) (fun _ h9 => h9) rfl dX11_about_114 ?_
      refine va_get (D := g.1) (ci := 6) (v := .int 0) (C := RX6) (T := TX6) (N := 8) hx hb hT inF_X6 hown hK.1 hP 4 rfl rfl 0 (by decide) (hT _ bw_188) (fun _ h9 => h9) rfl dX11_about_117 ?_
      have hP9 : va_P g.1 vwCl [] H := hP.sub [] rfl
      have hD9 : va_D A [] := ⟨fun i j p q h => by simp at h, fun k q h => by simp at h⟩
      exact W.iret (v := 0) hx hb hr (fun t ht hW => ⟨⟨0, (), rfl, by decide, by rw [ht]; exact hP9, by rw [hAe]; exact hD9⟩, hS.F ht⟩) hS.2.2 dX11_about_120
    · obtain rfl : p0 = 3 := eh_1
      refine lv_tableIn (tgt := 121) hx hb dX11_about_11 (by decide) (by decide) (off := 110) (by decide) (by decide) ?_
      refine lv_aload_n hx hb dX11_about_121 rfl (lv_at hl 0 rfl) ?_
      refine va_get (D := g.1) (ci := 9) (v := .int 0) (C := RX9) (T := TX9) (N := 14) hx hb hT inF_X9 hown hK.1 hP 6 rfl rfl 5 (by decide) (hT _ bw_189) (fun _ h9 => h9) rfl dX11_about_122 ?_
      have hP9 : va_P g.1 vwCl [] H := hP.sub [] rfl
      have hD9 : va_D A [] := ⟨fun i j p q h => by simp at h, fun k q h => by simp at h⟩
      exact W.iret (v := 0) hx hb hr (fun t ht hW => ⟨⟨0, (), rfl, by decide, by rw [ht]; exact hP9, by rw [hAe]; exact hD9⟩, hS.F ht⟩) hS.2.2 dX11_about_125
    · obtain rfl : p0 = 4 := eh_1
      refine lv_tableIn (tgt := 126) hx hb dX11_about_11 (by decide) (by decide) (off := 115) (by decide) (by decide) ?_
      refine lv_aload_n hx hb dX11_about_126 rfl (lv_at hl 0 rfl) ?_
      refine va_get (D := g.1) (ci := 9) (v := .int 0) (C := RX9) (T := TX9) (N := 14) hx hb hT inF_X9 hown hK.1 hP 6 rfl rfl 0 (by decide) (hT _ bw_190) (fun _ h9 => h9) rfl dX11_about_127 ?_
      have hP9 : va_P g.1 vwCl [] H := hP.sub [] rfl
      have hD9 : va_D A [] := ⟨fun i j p q h => by simp at h, fun k q h => by simp at h⟩
      exact W.iret (v := 0) hx hb hr (fun t ht hW => ⟨⟨0, (), rfl, by decide, by rw [ht]; exact hP9, by rw [hAe]; exact hD9⟩, hS.F ht⟩) hS.2.2 dX11_about_130
    · obtain rfl : p0 = 5 := eh_1
      refine lv_tableIn (tgt := 131) hx hb dX11_about_11 (by decide) (by decide) (off := 120) (by decide) (by decide) ?_
      refine lv_aload_n hx hb dX11_about_131 rfl (lv_at hl 0 rfl) ?_
      refine va_get (D := g.1) (ci := 9) (v := .int 0) (C := RX9) (T := TX9) (N := 14) hx hb hT inF_X9 hown hK.1 hP 6 rfl rfl 1 (by decide) (hT _ bw_191) (fun _ h9 => h9) rfl dX11_about_132 ?_
      have hP9 : va_P g.1 vwCl [] H := hP.sub [] rfl
      have hD9 : va_D A [] := ⟨fun i j p q h => by simp at h, fun k q h => by simp at h⟩
      exact W.iret (v := 0) hx hb hr (fun t ht hW => ⟨⟨0, (), rfl, by decide, by rw [ht]; exact hP9, by rw [hAe]; exact hD9⟩, hS.F ht⟩) hS.2.2 dX11_about_135
    · obtain rfl : p0 = 6 := eh_1
      refine lv_tableIn (tgt := 136) hx hb dX11_about_11 (by decide) (by decide) (off := 125) (by decide) (by decide) ?_
      refine lv_aload_n hx hb dX11_about_136 rfl (lv_at hl 0 rfl) ?_
      refine va_get (D := g.1) (ci := 9) (v := .int 0) (C := RX9) (T := TX9) (N := 14) hx hb hT inF_X9 hown hK.1 hP 6 rfl rfl 2 (by decide) (hT _ bw_192) (fun _ h9 => h9) rfl dX11_about_137 ?_
      have hP9 : va_P g.1 vwCl [] H := hP.sub [] rfl
      have hD9 : va_D A [] := ⟨fun i j p q h => by simp at h, fun k q h => by simp at h⟩
      exact W.iret (v := 0) hx hb hr (fun t ht hW => ⟨⟨0, (), rfl, by decide, by rw [ht]; exact hP9, by rw [hAe]; exact hD9⟩, hS.F ht⟩) hS.2.2 dX11_about_140
    · obtain rfl : p0 = 7 := eh_1
      refine lv_tableIn (tgt := 141) hx hb dX11_about_11 (by decide) (by decide) (off := 130) (by decide) (by decide) ?_
      refine lv_aload_n hx hb dX11_about_141 rfl (lv_at hl 0 rfl) ?_
      refine va_get (D := g.1) (ci := 9) (v := .int 0) (C := RX9) (T := TX9) (N := 14) hx hb hT inF_X9 hown hK.1 hP 6 rfl rfl 4 (by decide) (hT _ bw_193) (fun _ h9 => h9) rfl dX11_about_142 ?_
      refine k_iR (k_S (n := 1) ⟨hx, hb, hml, hown, hT⟩ hK hP hD [] rfl (by decide) (c_J6_bitCount_0f7a4 l g H.size) (gS bw_194 bw_195 bw_196 bw_185) rfl rfl (by decide +kernel) ⟨by decide, by decide⟩ (fun _ _ _ _ _ => trivial) (fun _ _ _ => trivial) rfl rfl hl.1 (Nat.le_of_ble_eq_true rfl) dX11_about_145 ⟨by decide, by decide⟩) hP hS hA (fun r_2 _ H locs hw hP hS => ?_)
      have hw : r_2 = 0 := hw
      subst hw
      have hP9 : va_P g.1 vwCl [] H := hP.sub [] rfl
      have hD9 : va_D A [] := ⟨fun i j p q h => by simp at h, fun k q h => by simp at h⟩
      exact W.iret (v := 0) hx hb hr (fun t ht hW => ⟨⟨0, (), rfl, by decide, by rw [ht]; exact hP9, by rw [hAe]; exact hD9⟩, hS.F ht⟩) hS.2.2 dX11_about_148
    · obtain rfl : p0 = 8 := eh_1
      refine lv_tableIn (tgt := 149) hx hb dX11_about_11 (by decide) (by decide) (off := 138) (by decide) (by decide) ?_
      refine lv_aload_n hx hb dX11_about_149 rfl (lv_at hl 0 rfl) ?_
      refine va_get (D := g.1) (ci := 9) (v := .int 0) (C := RX9) (T := TX9) (N := 14) hx hb hT inF_X9 hown hK.1 hP 6 rfl rfl 6 (by decide) (hT _ bw_59) (fun _ h9 => h9) rfl dX11_about_150 ?_
      have hP9 : va_P g.1 vwCl [] H := hP.sub [] rfl
      have hD9 : va_D A [] := ⟨fun i j p q h => by simp at h, fun k q h => by simp at h⟩
      exact W.iret (v := 0) hx hb hr (fun t ht hW => ⟨⟨0, (), rfl, by decide, by rw [ht]; exact hP9, by rw [hAe]; exact hD9⟩, hS.F ht⟩) hS.2.2 dX11_about_153
    · obtain rfl : p0 = 9 := eh_1
      refine lv_tableIn (tgt := 154) hx hb dX11_about_11 (by decide) (by decide) (off := 143) (by decide) (by decide) ?_
      refine lv_aload_n hx hb dX11_about_154 rfl (lv_at hl 1 rfl) ?_
      refine va_get (D := g.1) (ci := 11) (v := .int 0) (C := RX11) (T := TX11) (N := 14) hx hb hT inF_X11 hown hK.1 hP 0 rfl rfl 6 (by decide) (hT _ bw_21) (fun _ h9 => h9) rfl dX11_about_155 ?_
      have hP9 : va_P g.1 vwCl [] H := hP.sub [] rfl
      have hD9 : va_D A [] := ⟨fun i j p q h => by simp at h, fun k q h => by simp at h⟩
      exact W.iret (v := 0) hx hb hr (fun t ht hW => ⟨⟨0, (), rfl, by decide, by rw [ht]; exact hP9, by rw [hAe]; exact hD9⟩, hS.F ht⟩) hS.2.2 dX11_about_158
    · obtain rfl : p0 = 10 := eh_1
      refine lv_tableIn (tgt := 159) hx hb dX11_about_11 (by decide) (by decide) (off := 148) (by decide) (by decide) ?_
      refine lv_aload_n hx hb dX11_about_159 rfl (lv_at hl 1 rfl) ?_
      refine va_get (D := g.1) (ci := 11) (v := .int 0) (C := RX11) (T := TX11) (N := 14) hx hb hT inF_X11 hown hK.1 hP 0 rfl rfl 7 (by decide) (hT _ bw_47) (fun _ h9 => h9) rfl dX11_about_160 ?_
      refine lv_aload_n hx hb dX11_about_163 rfl (lv_at hl 1 rfl) ?_
      refine va_get (D := g.1) (ci := 11) (v := .int 0) (C := RX11) (T := TX11) (N := 14) hx hb hT inF_X11 hown hK.1 hP 0 rfl rfl 6 (by decide) (hT _ bw_21) (fun _ h9 => h9) rfl dX11_about_164 ?_
      refine lv_isub hx hb dX11_about_167 ?_
      refine p_ti (v := 0) (by decide +kernel) ?_
      have hP9 : va_P g.1 vwCl [] H := hP.sub [] rfl
      have hD9 : va_D A [] := ⟨fun i j p q h => by simp at h, fun k q h => by simp at h⟩
      exact W.iret (v := 0) hx hb hr (fun t ht hW => ⟨⟨0, (), rfl, by decide, by rw [ht]; exact hP9, by rw [hAe]; exact hD9⟩, hS.F ht⟩) hS.2.2 dX11_about_168
    · obtain rfl : p0 = 11 := eh_1
      refine lv_tableIn (tgt := 169) hx hb dX11_about_11 (by decide) (by decide) (off := 158) (by decide) (by decide) ?_
      refine lv_aload_n hx hb dX11_about_169 rfl (lv_at hl 1 rfl) ?_
      refine va_get (D := g.1) (ci := 11) (v := .ref si) (C := RX11) (T := TX11) (N := 14) hx hb hT inF_X11 hown hK.1 hP 0 rfl rfl 11 (by decide) (hT _ bw_63) (fun _ h9 => h9) rfl dX11_about_170 ?_
      refine va_get (D := g.1) (ci := 8) (v := .int 0) (C := RX8) (T := TX8) (N := 6) hx hb hT inF_X8 hown hK.1 hP 7 rfl rfl 1 (by decide) (hT _ bw_197) (fun _ h9 => h9) rfl dX11_about_173 ?_
      have hP9 : va_P g.1 vwCl [] H := hP.sub [] rfl
      have hD9 : va_D A [] := ⟨fun i j p q h => by simp at h, fun k q h => by simp at h⟩
      exact W.iret (v := 0) hx hb hr (fun t ht hW => ⟨⟨0, (), rfl, by decide, by rw [ht]; exact hP9, by rw [hAe]; exact hD9⟩, hS.F ht⟩) hS.2.2 dX11_about_176
    · obtain rfl : p0 = 12 := eh_1
      refine lv_tableIn (tgt := 177) hx hb dX11_about_11 (by decide) (by decide) (off := 166) (by decide) (by decide) ?_
      refine lv_aload_n hx hb dX11_about_177 rfl (lv_at hl 1 rfl) ?_
      refine va_get (D := g.1) (ci := 11) (v := .ref si) (C := RX11) (T := TX11) (N := 14) hx hb hT inF_X11 hown hK.1 hP 0 rfl rfl 11 (by decide) (hT _ bw_63) (fun _ h9 => h9) rfl dX11_about_178 ?_
      refine va_get (D := g.1) (ci := 8) (v := .int 0) (C := RX8) (T := TX8) (N := 6) hx hb hT inF_X8 hown hK.1 hP 7 rfl rfl 0 (by decide) (hT _ bw_179) (fun _ h9 => h9) rfl dX11_about_181 ?_
      have hP9 : va_P g.1 vwCl [] H := hP.sub [] rfl
      have hD9 : va_D A [] := ⟨fun i j p q h => by simp at h, fun k q h => by simp at h⟩
      exact W.iret (v := 0) hx hb hr (fun t ht hW => ⟨⟨0, (), rfl, by decide, by rw [ht]; exact hP9, by rw [hAe]; exact hD9⟩, hS.F ht⟩) hS.2.2 dX11_about_184
    · obtain rfl : p0 = 13 := eh_1
      refine lv_tableIn (tgt := 185) hx hb dX11_about_11 (by decide) (by decide) (off := 174) (by decide) (by decide) ?_
      refine lv_aload_n hx hb dX11_about_185 rfl (lv_at hl 1 rfl) ?_
      refine va_get (D := g.1) (ci := 11) (v := .int 0) (C := RX11) (T := TX11) (N := 14) hx hb hT inF_X11 hown hK.1 hP 0 rfl rfl 1 (by decide) (hT _ bw_161) (fun _ h9 => h9) rfl dX11_about_186 ?_
      have hP9 : va_P g.1 vwCl [] H := hP.sub [] rfl
      have hD9 : va_D A [] := ⟨fun i j p q h => by simp at h, fun k q h => by simp at h⟩
      exact W.iret (v := 0) hx hb hr (fun t ht hW => ⟨⟨0, (), rfl, by decide, by rw [ht]; exact hP9, by rw [hAe]; exact hD9⟩, hS.F ht⟩) hS.2.2 dX11_about_189
    · obtain rfl : p0 = 14 := eh_1
      refine lv_tableIn (tgt := 190) hx hb dX11_about_11 (by decide) (by decide) (off := 179) (by decide) (by decide) ?_
      refine lv_aload_n hx hb dX11_about_190 rfl (lv_at hl 1 rfl) ?_
      refine va_get (D := g.1) (ci := 11) (v := .ref la) (C := RX11) (T := TX11) (N := 14) hx hb hT inF_X11 hown hK.1 hP 0 rfl rfl 3 (by decide) (hT _ bw_13) (fun _ h9 => h9) rfl dX11_about_191 ?_
      refine va_get (D := g.1) (ci := 2) (v := .ref foa) (C := RX2) (T := TX2) (N := 9) hx hb hT inF_X2 hown hK.1 hP 1 rfl rfl 1 (by decide) (hT _ bw_186) (fun _ h9 => h9) rfl dX11_about_194 ?_
      refine va_get (D := g.1) (ci := 0) (v := .int 0) (C := RX0) (T := TX0) (N := 8) hx hb hT inF_X0 hown hK.1 hP 3 rfl rfl 1 (by decide) (hT _ bw_198) (fun _ h9 => h9) rfl dX11_about_197 ?_
      have hP9 : va_P g.1 vwCl [] H := hP.sub [] rfl
      have hD9 : va_D A [] := ⟨fun i j p q h => by simp at h, fun k q h => by simp at h⟩
      exact W.iret (v := 0) hx hb hr (fun t ht hW => ⟨⟨0, (), rfl, by decide, by rw [ht]; exact hP9, by rw [hAe]; exact hD9⟩, hS.F ht⟩) hS.2.2 dX11_about_200
    · obtain rfl : p0 = 15 := eh_1
      refine lv_tableIn (tgt := 201) hx hb dX11_about_11 (by decide) (by decide) (off := 190) (by decide) (by decide) ?_
      refine lv_aload_n hx hb dX11_about_201 rfl (lv_at hl 1 rfl) ?_
      refine va_get (D := g.1) (ci := 11) (v := .ref he) (C := RX11) (T := TX11) (N := 14) hx hb hT inF_X11 hown hK.1 hP 0 rfl rfl 13 (by decide) (hT _ bw_56) (fun _ h9 => h9) rfl dX11_about_202 ?_
      refine va_get (D := g.1) (ci := 1) (v := .int 0) (C := RX1) (T := TX1) (N := 2) hx hb hT inF_X1 hown hK.1 hP 8 rfl rfl 0 (by decide) (hT _ bw_57) (fun _ h9 => h9) rfl dX11_about_205 ?_
      have hP9 : va_P g.1 vwCl [] H := hP.sub [] rfl
      have hD9 : va_D A [] := ⟨fun i j p q h => by simp at h, fun k q h => by simp at h⟩
      exact W.iret (v := 0) hx hb hr (fun t ht hW => ⟨⟨0, (), rfl, by decide, by rw [ht]; exact hP9, by rw [hAe]; exact hD9⟩, hS.F ht⟩) hS.2.2 dX11_about_208
end
section
set_option maxHeartbeats 4000000 in
set_option maxRecDepth 100000 in
theorem c_X11_nextState (l : Launch) (g : GG) (sz : Nat) (x : Nat) (xt : Nat) (xr : Nat) (la : Nat) (lb : Nat) (sa : Nat) (ba : Nat) (se : Nat) (si : Nat) (pa : Nat) (he : Nat) (s1 : Nat) (s0 : Nat) (t1u : Nat) (t2u : Nat) (t3u : Nat) (t4u : Nat) (t5u : Nat) (t6u : Nat) (t7u : Nat) (t1v : Nat) (t2v : Nat) (t3v : Nat) (t4v : Nat) (t5v : Nat) (t6v : Nat) (t7v : Nat) (fs : Nat → Option Nat) : Met l yX11_nextState (.code yX11_nextState cX11_nextState 3 (some (.object "DuelDelays$State")) :: gT) ({ frames := 2, cells := 0, slots := 0, locals := 81 }) (va_Pc [.ref x] (Pst g sz [(x, .inr (11, [.ref xt, .int 0, .ref xr, .ref la, .ref lb, .ref sa, .int 0, .int 0, .ref ba, .int 0, .ref se, .ref si, .ref pa, .ref he])), (sa, aO g 41 (va_up (va_up fs 0 (some s0)) 1 (some s1))), (s0, .inr (9, [.int 0, .int 0, .int 0, .int 0, .int 0, .int 0, .int 0, .ref t1u, .ref t2u, .ref t3u, .ref t4u, .ref t5u, .ref t6u, .ref t7u])), (t1u, aI g 6 z0), (t2u, aI g 6 z0), (t3u, aI g 8 z0), (t4u, aI g 8 z0), (t5u, aI g 8 z0), (t6u, aI g 16 z0), (t7u, aI g 60 z0), (s1, .inr (9, [.int 0, .int 0, .int 0, .int 0, .int 0, .int 0, .int 0, .ref t1v, .ref t2v, .ref t3v, .ref t4v, .ref t5v, .ref t6v, .ref t7v])), (t1v, aI g 6 z0), (t2v, aI g 6 z0), (t3v, aI g 8 z0), (t4v, aI g 8 z0), (t5v, aI g 8 z0), (t6v, aI g 16 z0), (t7v, aI g 60 z0)] nX)) (va_Qr (fun (_ : Unit) => True) (Qsr g [(x, .inr (11, [.ref xt, .int 0, .ref xr, .ref la, .ref lb, .ref sa, .int 0, .int 0, .ref ba, .int 0, .ref se, .ref si, .ref pa, .ref he])), (sa, aO g 41 (va_up (va_up fs 0 (some s0)) 1 (some s1))), (s0, .inr (9, [.int 0, .int 0, .int 0, .int 0, .int 0, .int 0, .int 0, .ref t1u, .ref t2u, .ref t3u, .ref t4u, .ref t5u, .ref t6u, .ref t7u])), (t1u, aI g 6 z0), (t2u, aI g 6 z0), (t3u, aI g 8 z0), (t4u, aI g 8 z0), (t5u, aI g 8 z0), (t6u, aI g 16 z0), (t7u, aI g 60 z0), (s1, .inr (9, [.int 0, .int 0, .int 0, .int 0, .int 0, .int 0, .int 0, .ref t1v, .ref t2v, .ref t3v, .ref t4v, .ref t5v, .ref t6v, .ref t7v])), (t1v, aI g 6 z0), (t2v, aI g 6 z0), (t3v, aI g 8 z0), (t4v, aI g 8 z0), (t5v, aI g 8 z0), (t6v, aI g 16 z0), (t7v, aI g 60 z0)] sz (fun _ => s1) (fun _ => [(x, .inr (11, [.ref xt, .int 0, .ref xr, .ref la, .ref lb, .ref sa, .int 1, .int 1, .ref ba, .int 0, .ref se, .ref si, .ref pa, .ref he])), (sa, aO g 41 (va_up (va_up fs 0 (some s0)) 1 (some s1))), (s1, .inr (9, [.int 0, .int 0, .int 0, .int 0, .int 0, .int 0, .int 0, .ref t1v, .ref t2v, .ref t3v, .ref t4v, .ref t5v, .ref t6v, .ref t7v])), (t1v, aI g 6 z0), (t2v, aI g 6 z0), (t3v, aI g 8 z0), (t4v, aI g 8 z0), (t5v, aI g 8 z0), (t6v, aI g 16 z0), (t7v, aI g 60 z0), (s0, .inr (9, [.int 0, .int 0, .int 0, .int 0, .int 0, .int 0, .int 0, .ref t1u, .ref t2u, .ref t3u, .ref t4u, .ref t5u, .ref t6u, .ref t7u])), (t1u, aI g 6 z0), (t2u, aI g 6 z0), (t3u, aI g 8 z0), (t4u, aI g 8 z0), (t5u, aI g 8 z0), (t6u, aI g 16 z0), (t7u, aI g 60 z0)])) (va_A [(x, .inr (11, [.ref xt, .int 0, .ref xr, .ref la, .ref lb, .ref sa, .int 0, .int 0, .ref ba, .int 0, .ref se, .ref si, .ref pa, .ref he])), (sa, aO g 41 (va_up (va_up fs 0 (some s0)) 1 (some s1))), (s0, .inr (9, [.int 0, .int 0, .int 0, .int 0, .int 0, .int 0, .int 0, .ref t1u, .ref t2u, .ref t3u, .ref t4u, .ref t5u, .ref t6u, .ref t7u])), (t1u, aI g 6 z0), (t2u, aI g 6 z0), (t3u, aI g 8 z0), (t4u, aI g 8 z0), (t5u, aI g 8 z0), (t6u, aI g 16 z0), (t7u, aI g 60 z0), (s1, .inr (9, [.int 0, .int 0, .int 0, .int 0, .int 0, .int 0, .int 0, .ref t1v, .ref t2v, .ref t3v, .ref t4v, .ref t5v, .ref t6v, .ref t7v])), (t1v, aI g 6 z0), (t2v, aI g 6 z0), (t3v, aI g 8 z0), (t4v, aI g 8 z0), (t5v, aI g 8 z0), (t6v, aI g 16 z0), (t7v, aI g 60 z0)] sz)) 0 0 (va_A [(x, .inr (11, [.ref xt, .int 0, .ref xr, .ref la, .ref lb, .ref sa, .int 0, .int 0, .ref ba, .int 0, .ref se, .ref si, .ref pa, .ref he])), (sa, aO g 41 (va_up (va_up fs 0 (some s0)) 1 (some s1))), (s0, .inr (9, [.int 0, .int 0, .int 0, .int 0, .int 0, .int 0, .int 0, .ref t1u, .ref t2u, .ref t3u, .ref t4u, .ref t5u, .ref t6u, .ref t7u])), (t1u, aI g 6 z0), (t2u, aI g 6 z0), (t3u, aI g 8 z0), (t4u, aI g 8 z0), (t5u, aI g 8 z0), (t6u, aI g 16 z0), (t7u, aI g 60 z0), (s1, .inr (9, [.int 0, .int 0, .int 0, .int 0, .int 0, .int 0, .int 0, .ref t1v, .ref t2v, .ref t3v, .ref t4v, .ref t5v, .ref t6v, .ref t7v])), (t1v, aI g 6 z0), (t2v, aI g 6 z0), (t3v, aI g 8 z0), (t4v, aI g 8 z0), (t5v, aI g 8 z0), (t6v, aI g 16 z0), (t7v, aI g 60 z0)] sz) := by
  refine Met.ofW (cc := cX11_nextState) (maxL := 3) (ret := (some (.object "DuelDelays$State"))) (by decide) rfl ?_
  intro p e s m args below meth c s₁ B hml hv
  obtain ⟨rfl, hsz, hP, hK, hD0, hX⟩ := hv
  have hx := B.exec
  have hb := B.bytes
  have hr := B.returns
  have hT : ∀ w ∈ gT, w.before _ s = true := fun w h => atoms_spec (ws := .code yX11_nextState cX11_nextState 3 (some (.object "DuelDelays$State")) :: gT) B.pre w (List.mem_cons_of_mem _ h)
  have hown : s.vm.findClass RX11 = some m.cls := findClass_of_methodNamed B.named
  have hlocks := B.notSynchronized
  subst hsz
  have hD := hD0.self (sz := s.heap.size)
  generalize hAe : va_A [(x, .inr (11, [.ref xt, .int 0, .ref xr, .ref la, .ref lb, .ref sa, .int 0, .int 0, .ref ba, .int 0, .ref se, .ref si, .ref pa, .ref he])), (sa, aO g 41 (va_up (va_up fs 0 (some s0)) 1 (some s1))), (s0, .inr (9, [.int 0, .int 0, .int 0, .int 0, .int 0, .int 0, .int 0, .ref t1u, .ref t2u, .ref t3u, .ref t4u, .ref t5u, .ref t6u, .ref t7u])), (t1u, aI g 6 z0), (t2u, aI g 6 z0), (t3u, aI g 8 z0), (t4u, aI g 8 z0), (t5u, aI g 8 z0), (t6u, aI g 16 z0), (t7u, aI g 60 z0), (s1, .inr (9, [.int 0, .int 0, .int 0, .int 0, .int 0, .int 0, .int 0, .ref t1v, .ref t2v, .ref t3v, .ref t4v, .ref t5v, .ref t6v, .ref t7v])), (t1v, aI g 6 z0), (t2v, aI g 6 z0), (t3v, aI g 8 z0), (t4v, aI g 8 z0), (t5v, aI g 8 z0), (t6v, aI g 16 z0), (t7v, aI g 60 z0)] s.heap.size = A at hD ⊢
  have hA : ∀ q : Nat, s.heap.size ≤ q → A q := fun q h => by rw [← hAe]; exact Or.inr h
  have hS : va_S A s.heap s.heap [] := va_S.rf
  have hl := lv_entry ([.ref x]) (n := 3) (Nat.le_of_ble_eq_true rfl)
  rw [lg_entry_eq]
  generalize (lg_sl ([.ref x]) ++ List.replicate (3 - (lg_sl ([.ref x])).length) Slot.unset).toArray = ls at hl ⊢
  have hl : lv_has ls 3 [(0, .ref x)] := hl
  refine p_nH (fun H hH => ?_)
  have hP : va_P g.1 vwCl [(x, .inr (11, [.ref xt, .int 0, .ref xr, .ref la, .ref lb, .ref sa, .int 0, .int 0, .ref ba, .int 0, .ref se, .ref si, .ref pa, .ref he])), (sa, aO g 41 (va_up (va_up fs 0 (some s0)) 1 (some s1))), (s0, .inr (9, [.int 0, .int 0, .int 0, .int 0, .int 0, .int 0, .int 0, .ref t1u, .ref t2u, .ref t3u, .ref t4u, .ref t5u, .ref t6u, .ref t7u])), (t1u, aI g 6 z0), (t2u, aI g 6 z0), (t3u, aI g 8 z0), (t4u, aI g 8 z0), (t5u, aI g 8 z0), (t6u, aI g 16 z0), (t7u, aI g 60 z0), (s1, .inr (9, [.int 0, .int 0, .int 0, .int 0, .int 0, .int 0, .int 0, .ref t1v, .ref t2v, .ref t3v, .ref t4v, .ref t5v, .ref t6v, .ref t7v])), (t1v, aI g 6 z0), (t2v, aI g 6 z0), (t3v, aI g 8 z0), (t4v, aI g 8 z0), (t5v, aI g 8 z0), (t6v, aI g 16 z0), (t7v, aI g 60 z0)] H := by rw [hH]; exact hP
  have hS : va_S A s.heap H [] := by rw [hH]; exact hS
  refine lv_aload_n hx hb dX11_nextState_0 rfl (lv_at hl 0 rfl) ?_
  refine va_get (D := g.1) (ci := 11) (v := .int 0) (C := RX11) (T := TX11) (N := 14) hx hb hT inF_X11 hown hK.1 hP 0 rfl rfl 6 (by decide) (hT _ bw_21) (fun _ h9 => h9) rfl dX11_nextState_1 ?_
  refine lv_bipush (v := 40) hx hb dX11_nextState_4 (by decide) ?_
  refine lv_icmp_ne (tgt := 62) hx hb dX11_nextState_6 (by decide) (fun _ => ?_) (fun c9 => absurd c9 (by decide))
  refine lv_aload_n hx hb dX11_nextState_62 rfl (lv_at hl 0 rfl) ?_
  refine va_get (D := g.1) (ci := 11) (v := .ref sa) (C := RX11) (T := TX11) (N := 14) hx hb hT inF_X11 hown hK.1 hP 0 rfl rfl 5 (by decide) (hT _ bw_20) (fun _ h9 => h9) rfl dX11_nextState_63 ?_
  refine lv_aload_n hx hb dX11_nextState_66 rfl (lv_at hl 0 rfl) ?_
  refine va_get (D := g.1) (ci := 11) (v := .int 0) (C := RX11) (T := TX11) (N := 14) hx hb hT inF_X11 hown hK.1 hP 0 rfl rfl 6 (by decide) (hT _ bw_21) (fun _ h9 => h9) rfl dX11_nextState_67 ?_
  refine lv_iconst (v := 1) hx hb dX11_nextState_70 (by decide) ?_
  refine lv_iadd hx hb dX11_nextState_71 ?_
  refine p_ti (v := 1) (by decide +kernel) ?_
  refine va_aldq hx hb hK.1 hP 1 4 rfl rfl (i := 1) (by unfold vp_in; decide) dX11_nextState_72 ?_
  refine p_tr (x := s1) (rfl) ?_
  refine lv_aload_n hx hb dX11_nextState_73 rfl (lv_at hl 0 rfl) ?_
  refine va_get (D := g.1) (ci := 11) (v := .ref sa) (C := RX11) (T := TX11) (N := 14) hx hb hT inF_X11 hown hK.1 hP 0 rfl rfl 5 (by decide) (hT _ bw_20) (fun _ h9 => h9) rfl dX11_nextState_74 ?_
  refine lv_aload_n hx hb dX11_nextState_77 rfl (lv_at hl 0 rfl) ?_
  refine va_get (D := g.1) (ci := 11) (v := .int 0) (C := RX11) (T := TX11) (N := 14) hx hb hT inF_X11 hown hK.1 hP 0 rfl rfl 6 (by decide) (hT _ bw_21) (fun _ h9 => h9) rfl dX11_nextState_78 ?_
  refine va_aldq hx hb hK.1 hP 1 4 rfl rfl (i := 0) (by unfold vp_in; decide) dX11_nextState_81 ?_
  refine p_tr (x := s0) (rfl) ?_
  refine k_v (wr := [(x, .inr (11, [.ref xt, .int 0, .ref xr, .ref la, .ref lb, .ref sa, .int 0, .int 0, .ref ba, .int 0, .ref se, .ref si, .ref pa, .ref he])), (sa, aO g 41 (va_up (va_up fs 0 (some s0)) 1 (some s1)))]) (k_V (n := 1) ⟨hx, hb, hml, hown, hT⟩ hK hP hD [10, 11, 12, 13, 14, 15, 16, 17, 2, 3, 4, 5, 6, 7, 8, 9] rfl (by decide) (c_X9_copy l g H.size s1 t1v t2v t3v t4v t5v t6v t7v s0 t1u t2u t3u t4u t5u t6u t7u) (gV bw_200 bw_201 bw_202 bw_25 bw_125) rfl rfl (by decide +kernel) ⟨by decide, by decide⟩ (ci := 9) (q0 := 0) rfl rfl (fun _ _ _ _ _ => trivial) (fun _ _ _ => trivial) rfl rfl hl.1 (Nat.le_of_ble_eq_true rfl) dX11_nextState_82 ⟨by decide, by decide⟩) hP hD hS hA [10, 11, 12, 13, 14, 15, 16, 17, 2, 3, 4, 5, 6, 7, 8, 9] [0, 1] rfl rfl (by decide) (by decide) (fun u H locs hw hP hD hS => ?_)
  have hP : va_P g.1 vwCl [(x, .inr (11, [.ref xt, .int 0, .ref xr, .ref la, .ref lb, .ref sa, .int 0, .int 0, .ref ba, .int 0, .ref se, .ref si, .ref pa, .ref he])), (sa, aO g 41 (va_up (va_up fs 0 (some s0)) 1 (some s1))), (s1, .inr (9, [.int 0, .int 0, .int 0, .int 0, .int 0, .int 0, .int 0, .ref t1v, .ref t2v, .ref t3v, .ref t4v, .ref t5v, .ref t6v, .ref t7v])), (t1v, aI g 6 z0), (t2v, aI g 6 z0), (t3v, aI g 8 z0), (t4v, aI g 8 z0), (t5v, aI g 8 z0), (t6v, aI g 16 z0), (t7v, aI g 60 z0), (s0, .inr (9, [.int 0, .int 0, .int 0, .int 0, .int 0, .int 0, .int 0, .ref t1u, .ref t2u, .ref t3u, .ref t4u, .ref t5u, .ref t6u, .ref t7u])), (t1u, aI g 6 z0), (t2u, aI g 6 z0), (t3u, aI g 8 z0), (t4u, aI g 8 z0), (t5u, aI g 8 z0), (t6u, aI g 16 z0), (t7u, aI g 60 z0)] H := hP
  have hD : va_D A [(x, .inr (11, [.ref xt, .int 0, .ref xr, .ref la, .ref lb, .ref sa, .int 0, .int 0, .ref ba, .int 0, .ref se, .ref si, .ref pa, .ref he])), (sa, aO g 41 (va_up (va_up fs 0 (some s0)) 1 (some s1))), (s1, .inr (9, [.int 0, .int 0, .int 0, .int 0, .int 0, .int 0, .int 0, .ref t1v, .ref t2v, .ref t3v, .ref t4v, .ref t5v, .ref t6v, .ref t7v])), (t1v, aI g 6 z0), (t2v, aI g 6 z0), (t3v, aI g 8 z0), (t4v, aI g 8 z0), (t5v, aI g 8 z0), (t6v, aI g 16 z0), (t7v, aI g 60 z0), (s0, .inr (9, [.int 0, .int 0, .int 0, .int 0, .int 0, .int 0, .int 0, .ref t1u, .ref t2u, .ref t3u, .ref t4u, .ref t5u, .ref t6u, .ref t7u])), (t1u, aI g 6 z0), (t2u, aI g 6 z0), (t3u, aI g 8 z0), (t4u, aI g 8 z0), (t5u, aI g 8 z0), (t6u, aI g 16 z0), (t7u, aI g 60 z0)] := hD
  refine lv_aload_n hx hb dX11_nextState_85 rfl (lv_at hl 0 rfl) ?_
  refine lv_dup hx hb dX11_nextState_86 rfl ?_
  refine va_get (D := g.1) (ci := 11) (v := .int 0) (C := RX11) (T := TX11) (N := 14) hx hb hT inF_X11 hown hK.1 hP 0 rfl rfl 6 (by decide) (hT _ bw_21) (fun _ h9 => h9) rfl dX11_nextState_87 ?_
  refine lv_iconst (v := 1) hx hb dX11_nextState_90 (by decide) ?_
  refine lv_iadd hx hb dX11_nextState_91 ?_
  refine p_ti (v := 1) (by decide +kernel) ?_
  refine va_put (D := g.1) (ci := 11) (v := .int 1) (ty := .int) (C := RX11) (T := TX11) (N := 14) hx hb hT inF_X11 tyX11 tyX11_ok nmX11 hown hK.1 hP hD hS 0 rfl rfl 6 (by decide) (hT _ bw_21) (fun _ h9 => h9) rfl (by decide +kernel) rfl rfl (Nat.le_of_ble_eq_true rfl) dX11_nextState_92 (fun H locs hP hD hS => ?_)
  have hP : va_P g.1 vwCl [(x, .inr (11, [.ref xt, .int 0, .ref xr, .ref la, .ref lb, .ref sa, .int 1, .int 0, .ref ba, .int 0, .ref se, .ref si, .ref pa, .ref he])), (sa, aO g 41 (va_up (va_up fs 0 (some s0)) 1 (some s1))), (s1, .inr (9, [.int 0, .int 0, .int 0, .int 0, .int 0, .int 0, .int 0, .ref t1v, .ref t2v, .ref t3v, .ref t4v, .ref t5v, .ref t6v, .ref t7v])), (t1v, aI g 6 z0), (t2v, aI g 6 z0), (t3v, aI g 8 z0), (t4v, aI g 8 z0), (t5v, aI g 8 z0), (t6v, aI g 16 z0), (t7v, aI g 60 z0), (s0, .inr (9, [.int 0, .int 0, .int 0, .int 0, .int 0, .int 0, .int 0, .ref t1u, .ref t2u, .ref t3u, .ref t4u, .ref t5u, .ref t6u, .ref t7u])), (t1u, aI g 6 z0), (t2u, aI g 6 z0), (t3u, aI g 8 z0), (t4u, aI g 8 z0), (t5u, aI g 8 z0), (t6u, aI g 16 z0), (t7u, aI g 60 z0)] H := hP
  have hD : va_D A [(x, .inr (11, [.ref xt, .int 0, .ref xr, .ref la, .ref lb, .ref sa, .int 1, .int 0, .ref ba, .int 0, .ref se, .ref si, .ref pa, .ref he])), (sa, aO g 41 (va_up (va_up fs 0 (some s0)) 1 (some s1))), (s1, .inr (9, [.int 0, .int 0, .int 0, .int 0, .int 0, .int 0, .int 0, .ref t1v, .ref t2v, .ref t3v, .ref t4v, .ref t5v, .ref t6v, .ref t7v])), (t1v, aI g 6 z0), (t2v, aI g 6 z0), (t3v, aI g 8 z0), (t4v, aI g 8 z0), (t5v, aI g 8 z0), (t6v, aI g 16 z0), (t7v, aI g 60 z0), (s0, .inr (9, [.int 0, .int 0, .int 0, .int 0, .int 0, .int 0, .int 0, .ref t1u, .ref t2u, .ref t3u, .ref t4u, .ref t5u, .ref t6u, .ref t7u])), (t1u, aI g 6 z0), (t2u, aI g 6 z0), (t3u, aI g 8 z0), (t4u, aI g 8 z0), (t5u, aI g 8 z0), (t6u, aI g 16 z0), (t7u, aI g 60 z0)] := hD
  refine lv_aload_n hx hb dX11_nextState_95 rfl (lv_at hl 0 rfl) ?_
  refine lv_aload_n hx hb dX11_nextState_96 rfl (lv_at hl 0 rfl) ?_
  refine va_get (D := g.1) (ci := 11) (v := .int 1) (C := RX11) (T := TX11) (N := 14) hx hb hT inF_X11 hown hK.1 hP 0 rfl rfl 6 (by decide) (hT _ bw_21) (fun _ h9 => h9) rfl dX11_nextState_97 ?_
  refine va_put (D := g.1) (ci := 11) (v := .int 1) (ty := .int) (C := RX11) (T := TX11) (N := 14) hx hb hT inF_X11 tyX11 tyX11_ok nmX11 hown hK.1 hP hD hS 0 rfl rfl 7 (by decide) (hT _ bw_47) (fun _ h9 => h9) rfl (by decide +kernel) rfl rfl (Nat.le_of_ble_eq_true rfl) dX11_nextState_100 (fun H locs hP hD hS => ?_)
  have hP : va_P g.1 vwCl [(x, .inr (11, [.ref xt, .int 0, .ref xr, .ref la, .ref lb, .ref sa, .int 1, .int 1, .ref ba, .int 0, .ref se, .ref si, .ref pa, .ref he])), (sa, aO g 41 (va_up (va_up fs 0 (some s0)) 1 (some s1))), (s1, .inr (9, [.int 0, .int 0, .int 0, .int 0, .int 0, .int 0, .int 0, .ref t1v, .ref t2v, .ref t3v, .ref t4v, .ref t5v, .ref t6v, .ref t7v])), (t1v, aI g 6 z0), (t2v, aI g 6 z0), (t3v, aI g 8 z0), (t4v, aI g 8 z0), (t5v, aI g 8 z0), (t6v, aI g 16 z0), (t7v, aI g 60 z0), (s0, .inr (9, [.int 0, .int 0, .int 0, .int 0, .int 0, .int 0, .int 0, .ref t1u, .ref t2u, .ref t3u, .ref t4u, .ref t5u, .ref t6u, .ref t7u])), (t1u, aI g 6 z0), (t2u, aI g 6 z0), (t3u, aI g 8 z0), (t4u, aI g 8 z0), (t5u, aI g 8 z0), (t6u, aI g 16 z0), (t7u, aI g 60 z0)] H := hP
  have hD : va_D A [(x, .inr (11, [.ref xt, .int 0, .ref xr, .ref la, .ref lb, .ref sa, .int 1, .int 1, .ref ba, .int 0, .ref se, .ref si, .ref pa, .ref he])), (sa, aO g 41 (va_up (va_up fs 0 (some s0)) 1 (some s1))), (s1, .inr (9, [.int 0, .int 0, .int 0, .int 0, .int 0, .int 0, .int 0, .ref t1v, .ref t2v, .ref t3v, .ref t4v, .ref t5v, .ref t6v, .ref t7v])), (t1v, aI g 6 z0), (t2v, aI g 6 z0), (t3v, aI g 8 z0), (t4v, aI g 8 z0), (t5v, aI g 8 z0), (t6v, aI g 16 z0), (t7v, aI g 60 z0), (s0, .inr (9, [.int 0, .int 0, .int 0, .int 0, .int 0, .int 0, .int 0, .ref t1u, .ref t2u, .ref t3u, .ref t4u, .ref t5u, .ref t6u, .ref t7u])), (t1u, aI g 6 z0), (t2u, aI g 6 z0), (t3u, aI g 8 z0), (t4u, aI g 8 z0), (t5u, aI g 8 z0), (t6u, aI g 16 z0), (t7u, aI g 60 z0)] := hD
  refine lv_aload_n hx hb dX11_nextState_103 rfl (lv_at hl 0 rfl) ?_
  refine va_get (D := g.1) (ci := 11) (v := .ref sa) (C := RX11) (T := TX11) (N := 14) hx hb hT inF_X11 hown hK.1 hP 0 rfl rfl 5 (by decide) (hT _ bw_20) (fun _ h9 => h9) rfl dX11_nextState_104 ?_
  refine lv_aload_n hx hb dX11_nextState_107 rfl (lv_at hl 0 rfl) ?_
  refine va_get (D := g.1) (ci := 11) (v := .int 1) (C := RX11) (T := TX11) (N := 14) hx hb hT inF_X11 hown hK.1 hP 0 rfl rfl 6 (by decide) (hT _ bw_21) (fun _ h9 => h9) rfl dX11_nextState_108 ?_
  refine va_aldq hx hb hK.1 hP 1 4 rfl rfl (i := 1) (by unfold vp_in; decide) dX11_nextState_111 ?_
  refine p_tr (x := s1) (rfl) ?_
  have hP9 : va_P g.1 vwCl [(x, .inr (11, [.ref xt, .int 0, .ref xr, .ref la, .ref lb, .ref sa, .int 1, .int 1, .ref ba, .int 0, .ref se, .ref si, .ref pa, .ref he])), (sa, aO g 41 (va_up (va_up fs 0 (some s0)) 1 (some s1))), (s1, .inr (9, [.int 0, .int 0, .int 0, .int 0, .int 0, .int 0, .int 0, .ref t1v, .ref t2v, .ref t3v, .ref t4v, .ref t5v, .ref t6v, .ref t7v])), (t1v, aI g 6 z0), (t2v, aI g 6 z0), (t3v, aI g 8 z0), (t4v, aI g 8 z0), (t5v, aI g 8 z0), (t6v, aI g 16 z0), (t7v, aI g 60 z0), (s0, .inr (9, [.int 0, .int 0, .int 0, .int 0, .int 0, .int 0, .int 0, .ref t1u, .ref t2u, .ref t3u, .ref t4u, .ref t5u, .ref t6u, .ref t7u])), (t1u, aI g 6 z0), (t2u, aI g 6 z0), (t3u, aI g 8 z0), (t4u, aI g 8 z0), (t5u, aI g 8 z0), (t6u, aI g 16 z0), (t7u, aI g 60 z0)] H := hP.sub [0, 1, 2, 3, 4, 5, 6, 7, 8, 9, 10, 11, 12, 13, 14, 15, 16, 17] rfl
  have hD9 : va_D A [(x, .inr (11, [.ref xt, .int 0, .ref xr, .ref la, .ref lb, .ref sa, .int 1, .int 1, .ref ba, .int 0, .ref se, .ref si, .ref pa, .ref he])), (sa, aO g 41 (va_up (va_up fs 0 (some s0)) 1 (some s1))), (s1, .inr (9, [.int 0, .int 0, .int 0, .int 0, .int 0, .int 0, .int 0, .ref t1v, .ref t2v, .ref t3v, .ref t4v, .ref t5v, .ref t6v, .ref t7v])), (t1v, aI g 6 z0), (t2v, aI g 6 z0), (t3v, aI g 8 z0), (t4v, aI g 8 z0), (t5v, aI g 8 z0), (t6v, aI g 16 z0), (t7v, aI g 60 z0), (s0, .inr (9, [.int 0, .int 0, .int 0, .int 0, .int 0, .int 0, .int 0, .ref t1u, .ref t2u, .ref t3u, .ref t4u, .ref t5u, .ref t6u, .ref t7u])), (t1u, aI g 6 z0), (t2u, aI g 6 z0), (t3u, aI g 8 z0), (t4u, aI g 8 z0), (t5u, aI g 8 z0), (t6u, aI g 16 z0), (t7u, aI g 60 z0)] := hD.sub [0, 1, 2, 3, 4, 5, 6, 7, 8, 9, 10, 11, 12, 13, 14, 15, 16, 17] (by decide) rfl
  exact W.aret (v := .ref s1) hx hb hr (Or.inl ⟨_, rfl⟩) (Or.inr ⟨_, rfl⟩) (fun t ht hW => ⟨⟨(), s1, rfl, trivial, rfl, by rw [ht]; exact hP9, by rw [hAe]; exact hD9⟩, hS.F ht⟩) hS.2.2 dX11_nextState_112

set_option maxHeartbeats 4000000 in
set_option maxRecDepth 100000 in
theorem c_X11_days (l : Launch) (g : GG) (sz : Nat) (x : Nat) (xt : Nat) (xr : Nat) (la : Nat) (lb : Nat) (sa : Nat) (ba : Nat) (se : Nat) (si : Nat) (pa : Nat) (he : Nat) (mea : Nat) (foa : Nat) (rea : Nat) (d1a : Nat) (d2a : Nat) (d3a : Nat) (m1a : Nat) (m2a : Nat) (m3a : Nat) (m4a : Nat) (s1 : Nat) (s0 : Nat) (t1u : Nat) (t2u : Nat) (t3u : Nat) (t4u : Nat) (t5u : Nat) (t6u : Nat) (t7u : Nat) (t1v : Nat) (t2v : Nat) (t3v : Nat) (t4v : Nat) (t5v : Nat) (t6v : Nat) (t7v : Nat) (fs : Nat → Option Nat) (p0 : Int32) : Met l yX11_days (.code yX11_days cX11_days 4 (some .int) :: gT) ({ frames := 3, cells := 0, slots := 0, locals := 103 }) (va_Pc [.ref x, .int p0] (Pst g sz [(x, .inr (11, [.ref xt, .int 0, .ref xr, .ref la, .ref lb, .ref sa, .int 0, .int 0, .ref ba, .int 0, .ref se, .ref si, .ref pa, .ref he])), (la, .inr (2, [.ref mea, .ref foa, .ref rea, .int 0, .ref d1a, .ref d2a, .int 9, .int 0, .ref d3a])), (mea, .inr (3, [.int 0, .ref m1a, .ref m2a, .ref m3a, .ref m4a])), (sa, aO g 41 (va_up (va_up fs 0 (some s0)) 1 (some s1))), (s0, .inr (9, [.int 0, .int 0, .int 0, .int 0, .int 0, .int 0, .int 0, .ref t1u, .ref t2u, .ref t3u, .ref t4u, .ref t5u, .ref t6u, .ref t7u])), (t1u, aI g 6 z0), (t2u, aI g 6 z0), (t3u, aI g 8 z0), (t4u, aI g 8 z0), (t5u, aI g 8 z0), (t6u, aI g 16 z0), (t7u, aI g 60 z0), (s1, .inr (9, [.int 0, .int 0, .int 0, .int 0, .int 0, .int 0, .int 0, .ref t1v, .ref t2v, .ref t3v, .ref t4v, .ref t5v, .ref t6v, .ref t7v])), (t1v, aI g 6 z0), (t2v, aI g 6 z0), (t3v, aI g 8 z0), (t4v, aI g 8 z0), (t5v, aI g 8 z0), (t6v, aI g 16 z0), (t7v, aI g 60 z0)] nX)) (va_Qi (fun (r : Int32) (_ : Unit) => r = Fr 400 p0) (Qst g [(x, .inr (11, [.ref xt, .int 0, .ref xr, .ref la, .ref lb, .ref sa, .int 0, .int 0, .ref ba, .int 0, .ref se, .ref si, .ref pa, .ref he])), (la, .inr (2, [.ref mea, .ref foa, .ref rea, .int 0, .ref d1a, .ref d2a, .int 9, .int 0, .ref d3a])), (mea, .inr (3, [.int 0, .ref m1a, .ref m2a, .ref m3a, .ref m4a])), (sa, aO g 41 (va_up (va_up fs 0 (some s0)) 1 (some s1))), (s0, .inr (9, [.int 0, .int 0, .int 0, .int 0, .int 0, .int 0, .int 0, .ref t1u, .ref t2u, .ref t3u, .ref t4u, .ref t5u, .ref t6u, .ref t7u])), (t1u, aI g 6 z0), (t2u, aI g 6 z0), (t3u, aI g 8 z0), (t4u, aI g 8 z0), (t5u, aI g 8 z0), (t6u, aI g 16 z0), (t7u, aI g 60 z0), (s1, .inr (9, [.int 0, .int 0, .int 0, .int 0, .int 0, .int 0, .int 0, .ref t1v, .ref t2v, .ref t3v, .ref t4v, .ref t5v, .ref t6v, .ref t7v])), (t1v, aI g 6 z0), (t2v, aI g 6 z0), (t3v, aI g 8 z0), (t4v, aI g 8 z0), (t5v, aI g 8 z0), (t6v, aI g 16 z0), (t7v, aI g 60 z0)] sz (fun _ => [])) (va_A [(x, .inr (11, [.ref xt, .int 0, .ref xr, .ref la, .ref lb, .ref sa, .int 0, .int 0, .ref ba, .int 0, .ref se, .ref si, .ref pa, .ref he])), (la, .inr (2, [.ref mea, .ref foa, .ref rea, .int 0, .ref d1a, .ref d2a, .int 9, .int 0, .ref d3a])), (mea, .inr (3, [.int 0, .ref m1a, .ref m2a, .ref m3a, .ref m4a])), (sa, aO g 41 (va_up (va_up fs 0 (some s0)) 1 (some s1))), (s0, .inr (9, [.int 0, .int 0, .int 0, .int 0, .int 0, .int 0, .int 0, .ref t1u, .ref t2u, .ref t3u, .ref t4u, .ref t5u, .ref t6u, .ref t7u])), (t1u, aI g 6 z0), (t2u, aI g 6 z0), (t3u, aI g 8 z0), (t4u, aI g 8 z0), (t5u, aI g 8 z0), (t6u, aI g 16 z0), (t7u, aI g 60 z0), (s1, .inr (9, [.int 0, .int 0, .int 0, .int 0, .int 0, .int 0, .int 0, .ref t1v, .ref t2v, .ref t3v, .ref t4v, .ref t5v, .ref t6v, .ref t7v])), (t1v, aI g 6 z0), (t2v, aI g 6 z0), (t3v, aI g 8 z0), (t4v, aI g 8 z0), (t5v, aI g 8 z0), (t6v, aI g 16 z0), (t7v, aI g 60 z0)] sz)) 0 0 (va_A [(x, .inr (11, [.ref xt, .int 0, .ref xr, .ref la, .ref lb, .ref sa, .int 0, .int 0, .ref ba, .int 0, .ref se, .ref si, .ref pa, .ref he])), (la, .inr (2, [.ref mea, .ref foa, .ref rea, .int 0, .ref d1a, .ref d2a, .int 9, .int 0, .ref d3a])), (mea, .inr (3, [.int 0, .ref m1a, .ref m2a, .ref m3a, .ref m4a])), (sa, aO g 41 (va_up (va_up fs 0 (some s0)) 1 (some s1))), (s0, .inr (9, [.int 0, .int 0, .int 0, .int 0, .int 0, .int 0, .int 0, .ref t1u, .ref t2u, .ref t3u, .ref t4u, .ref t5u, .ref t6u, .ref t7u])), (t1u, aI g 6 z0), (t2u, aI g 6 z0), (t3u, aI g 8 z0), (t4u, aI g 8 z0), (t5u, aI g 8 z0), (t6u, aI g 16 z0), (t7u, aI g 60 z0), (s1, .inr (9, [.int 0, .int 0, .int 0, .int 0, .int 0, .int 0, .int 0, .ref t1v, .ref t2v, .ref t3v, .ref t4v, .ref t5v, .ref t6v, .ref t7v])), (t1v, aI g 6 z0), (t2v, aI g 6 z0), (t3v, aI g 8 z0), (t4v, aI g 8 z0), (t5v, aI g 8 z0), (t6v, aI g 16 z0), (t7v, aI g 60 z0)] sz) := by
  refine Met.ofW (cc := cX11_days) (maxL := 4) (ret := (some .int)) (by decide) rfl ?_
  intro p e s m args below meth c s₁ B hml hv
  obtain ⟨rfl, hsz, hP, hK, hD0, hX⟩ := hv
  have hx := B.exec
  have hb := B.bytes
  have hr := B.returns
  have hT : ∀ w ∈ gT, w.before _ s = true := fun w h => atoms_spec (ws := .code yX11_days cX11_days 4 (some .int) :: gT) B.pre w (List.mem_cons_of_mem _ h)
  have hown : s.vm.findClass RX11 = some m.cls := findClass_of_methodNamed B.named
  have hlocks := B.notSynchronized
  subst hsz
  have hD := hD0.self (sz := s.heap.size)
  generalize hAe : va_A [(x, .inr (11, [.ref xt, .int 0, .ref xr, .ref la, .ref lb, .ref sa, .int 0, .int 0, .ref ba, .int 0, .ref se, .ref si, .ref pa, .ref he])), (la, .inr (2, [.ref mea, .ref foa, .ref rea, .int 0, .ref d1a, .ref d2a, .int 9, .int 0, .ref d3a])), (mea, .inr (3, [.int 0, .ref m1a, .ref m2a, .ref m3a, .ref m4a])), (sa, aO g 41 (va_up (va_up fs 0 (some s0)) 1 (some s1))), (s0, .inr (9, [.int 0, .int 0, .int 0, .int 0, .int 0, .int 0, .int 0, .ref t1u, .ref t2u, .ref t3u, .ref t4u, .ref t5u, .ref t6u, .ref t7u])), (t1u, aI g 6 z0), (t2u, aI g 6 z0), (t3u, aI g 8 z0), (t4u, aI g 8 z0), (t5u, aI g 8 z0), (t6u, aI g 16 z0), (t7u, aI g 60 z0), (s1, .inr (9, [.int 0, .int 0, .int 0, .int 0, .int 0, .int 0, .int 0, .ref t1v, .ref t2v, .ref t3v, .ref t4v, .ref t5v, .ref t6v, .ref t7v])), (t1v, aI g 6 z0), (t2v, aI g 6 z0), (t3v, aI g 8 z0), (t4v, aI g 8 z0), (t5v, aI g 8 z0), (t6v, aI g 16 z0), (t7v, aI g 60 z0)] s.heap.size = A at hD ⊢
  have hA : ∀ q : Nat, s.heap.size ≤ q → A q := fun q h => by rw [← hAe]; exact Or.inr h
  have hS : va_S A s.heap s.heap [] := va_S.rf
  have hl := lv_entry ([.ref x, .int p0]) (n := 4) (Nat.le_of_ble_eq_true rfl)
  rw [lg_entry_eq]
  generalize (lg_sl ([.ref x, .int p0]) ++ List.replicate (4 - (lg_sl ([.ref x, .int p0])).length) Slot.unset).toArray = ls at hl ⊢
  have hl : lv_has ls 4 [(0, .ref x), (1, .int p0)] := hl
  refine p_nH (fun H hH => ?_)
  have hP : va_P g.1 vwCl [(x, .inr (11, [.ref xt, .int 0, .ref xr, .ref la, .ref lb, .ref sa, .int 0, .int 0, .ref ba, .int 0, .ref se, .ref si, .ref pa, .ref he])), (la, .inr (2, [.ref mea, .ref foa, .ref rea, .int 0, .ref d1a, .ref d2a, .int 9, .int 0, .ref d3a])), (mea, .inr (3, [.int 0, .ref m1a, .ref m2a, .ref m3a, .ref m4a])), (sa, aO g 41 (va_up (va_up fs 0 (some s0)) 1 (some s1))), (s0, .inr (9, [.int 0, .int 0, .int 0, .int 0, .int 0, .int 0, .int 0, .ref t1u, .ref t2u, .ref t3u, .ref t4u, .ref t5u, .ref t6u, .ref t7u])), (t1u, aI g 6 z0), (t2u, aI g 6 z0), (t3u, aI g 8 z0), (t4u, aI g 8 z0), (t5u, aI g 8 z0), (t6u, aI g 16 z0), (t7u, aI g 60 z0), (s1, .inr (9, [.int 0, .int 0, .int 0, .int 0, .int 0, .int 0, .int 0, .ref t1v, .ref t2v, .ref t3v, .ref t4v, .ref t5v, .ref t6v, .ref t7v])), (t1v, aI g 6 z0), (t2v, aI g 6 z0), (t3v, aI g 8 z0), (t4v, aI g 8 z0), (t5v, aI g 8 z0), (t6v, aI g 16 z0), (t7v, aI g 60 z0)] H := by rw [hH]; exact hP
  have hS : va_S A s.heap H [] := by rw [hH]; exact hS
  refine lv_iload_n hx hb dX11_days_0 rfl (lv_at hl 1 rfl) ?_
  refine lv_if_lt (tgt := 31) hx hb dX11_days_1 (by decide) (fun c_1 => ?_) (fun c_1 => ?_)
  · refine lv_iconst (v := (-1)) hx hb dX11_days_31 (by decide) ?_
    have hP9 : va_P g.1 vwCl [] H := hP.sub [] rfl
    have hD9 : va_D A [] := ⟨fun i j p q h => by simp at h, fun k q h => by simp at h⟩
    exact W.iret (v := (-1)) hx hb hr (fun t ht hW => ⟨⟨(-1), (), rfl, (by rw [Fr, if_neg (by have e0 : (0 : Int32).toInt = 0 := (by decide); have e1 : (400 : Int32).toInt = 400 := (by decide); simp only [Int32.lt_iff_toInt_lt, Int32.le_iff_toInt_le, ← Int32.toInt_inj, e0, e1] at c_1 ⊢; omega)]), by rw [ht]; exact hP9, by rw [hAe]; exact hD9⟩, hS.F ht⟩) hS.2.2 dX11_days_32
  · refine lv_iload_n hx hb dX11_days_4 rfl (lv_at hl 1 rfl) ?_
    refine lv_sipush (v := 400) hx hb dX11_days_5 (by decide) ?_
    refine lv_icmp_gt (tgt := 31) hx hb dX11_days_8 (by decide) (fun c_2 => ?_) (fun c_2 => ?_)
    · refine lv_iconst (v := (-1)) hx hb dX11_days_31 (by decide) ?_
      have hP9 : va_P g.1 vwCl [] H := hP.sub [] rfl
      have hD9 : va_D A [] := ⟨fun i j p q h => by simp at h, fun k q h => by simp at h⟩
      exact W.iret (v := (-1)) hx hb hr (fun t ht hW => ⟨⟨(-1), (), rfl, (by rw [Fr, if_neg (by have e0 : (0 : Int32).toInt = 0 := (by decide); have e1 : (400 : Int32).toInt = 400 := (by decide); simp only [Int32.lt_iff_toInt_lt, Int32.le_iff_toInt_le, ← Int32.toInt_inj, e0, e1] at c_1 c_2 ⊢; omega)]), by rw [ht]; exact hP9, by rw [hAe]; exact hD9⟩, hS.F ht⟩) hS.2.2 dX11_days_32
    · refine lv_aload_n hx hb dX11_days_11 rfl (lv_at hl 0 rfl) ?_
      refine va_get (D := g.1) (ci := 11) (v := .ref sa) (C := RX11) (T := TX11) (N := 14) hx hb hT inF_X11 hown hK.1 hP 0 rfl rfl 5 (by decide) (hT _ bw_20) (fun _ h9 => h9) rfl dX11_days_12 ?_
      refine lv_aload_n hx hb dX11_days_15 rfl (lv_at hl 0 rfl) ?_
      refine va_get (D := g.1) (ci := 11) (v := .int 0) (C := RX11) (T := TX11) (N := 14) hx hb hT inF_X11 hown hK.1 hP 0 rfl rfl 6 (by decide) (hT _ bw_21) (fun _ h9 => h9) rfl dX11_days_16 ?_
      refine va_aldq hx hb hK.1 hP 3 4 rfl rfl (i := 0) (by unfold vp_in; decide) dX11_days_19 ?_
      refine p_tr (x := s0) (rfl) ?_
      refine va_get (D := g.1) (ci := 9) (v := .int 0) (C := RX9) (T := TX9) (N := 14) hx hb hT inF_X9 hown hK.1 hP 4 rfl rfl 0 (by decide) (hT _ bw_190) (fun _ h9 => h9) rfl dX11_days_20 ?_
      refine lv_iload_n hx hb dX11_days_23 rfl (lv_at hl 1 rfl) ?_
      refine lv_iadd hx hb dX11_days_24 ?_
      refine p_ti (v := p0) (Int32.zero_add _) ?_
      refine lv_sipush (v := 9000) hx hb dX11_days_25 (by decide) ?_
      refine lv_icmp_le (tgt := 33) hx hb dX11_days_28 (by decide) (fun _ => ?_) (fun c9 => absurd (by have e0 : (0 : Int32).toInt = 0 := (by decide); have e1 : (400 : Int32).toInt = 400 := (by decide); have e2 : (9000 : Int32).toInt = 9000 := (by decide); simp only [Int32.lt_iff_toInt_lt, Int32.le_iff_toInt_le, ← Int32.toInt_inj, e0, e1, e2] at c_1 c_2 ⊢; omega) c9)
      refine lv_aload_n hx hb dX11_days_33 rfl (lv_at hl 0 rfl) ?_
      refine k_r (wr := [(la, .inr (2, [.ref mea, .ref foa, .ref rea, .int 0, .ref d1a, .ref d2a, .int 9, .int 0, .ref d3a])), (mea, .inr (3, [.int 0, .ref m1a, .ref m2a, .ref m3a, .ref m4a]))]) (k_V (n := 0) ⟨hx, hb, hml, hown, hT⟩ hK hP hD [0, 3, 4, 5, 6, 7, 8, 9, 10, 11, 12, 13, 14, 15, 16, 17, 18, 19] rfl (by decide) (c_X11_nextState l g H.size x xt xr la lb sa ba se si pa he s1 s0 t1u t2u t3u t4u t5u t6u t7u t1v t2v t3v t4v t5v t6v t7v fs) (gV bw_204 bw_205 bw_206 bw_207 bw_203) rfl rfl (by decide +kernel) ⟨by decide, by decide⟩ (ci := 11) (q0 := 0) rfl rfl (fun _ _ _ _ _ => trivial) (fun _ _ _ => trivial) rfl rfl hl.1 (Nat.le_of_ble_eq_true rfl) dX11_days_34 ⟨by decide, by decide⟩) hP hD hS hA [0, 3, 4, 5, 6, 7, 8, 9, 10, 11, 12, 13, 14, 15, 16, 17, 18, 19] [1, 2] rfl rfl (by decide) (by decide) (fun u H locs hw hP hD hS => ?_)
      have hP : va_P g.1 vwCl [(la, .inr (2, [.ref mea, .ref foa, .ref rea, .int 0, .ref d1a, .ref d2a, .int 9, .int 0, .ref d3a])), (mea, .inr (3, [.int 0, .ref m1a, .ref m2a, .ref m3a, .ref m4a])), (x, .inr (11, [.ref xt, .int 0, .ref xr, .ref la, .ref lb, .ref sa, .int 1, .int 1, .ref ba, .int 0, .ref se, .ref si, .ref pa, .ref he])), (sa, aO g 41 (va_up (va_up fs 0 (some s0)) 1 (some s1))), (s1, .inr (9, [.int 0, .int 0, .int 0, .int 0, .int 0, .int 0, .int 0, .ref t1v, .ref t2v, .ref t3v, .ref t4v, .ref t5v, .ref t6v, .ref t7v])), (t1v, aI g 6 z0), (t2v, aI g 6 z0), (t3v, aI g 8 z0), (t4v, aI g 8 z0), (t5v, aI g 8 z0), (t6v, aI g 16 z0), (t7v, aI g 60 z0), (s0, .inr (9, [.int 0, .int 0, .int 0, .int 0, .int 0, .int 0, .int 0, .ref t1u, .ref t2u, .ref t3u, .ref t4u, .ref t5u, .ref t6u, .ref t7u])), (t1u, aI g 6 z0), (t2u, aI g 6 z0), (t3u, aI g 8 z0), (t4u, aI g 8 z0), (t5u, aI g 8 z0), (t6u, aI g 16 z0), (t7u, aI g 60 z0)] H := hP
      have hD : va_D A [(la, .inr (2, [.ref mea, .ref foa, .ref rea, .int 0, .ref d1a, .ref d2a, .int 9, .int 0, .ref d3a])), (mea, .inr (3, [.int 0, .ref m1a, .ref m2a, .ref m3a, .ref m4a])), (x, .inr (11, [.ref xt, .int 0, .ref xr, .ref la, .ref lb, .ref sa, .int 1, .int 1, .ref ba, .int 0, .ref se, .ref si, .ref pa, .ref he])), (sa, aO g 41 (va_up (va_up fs 0 (some s0)) 1 (some s1))), (s1, .inr (9, [.int 0, .int 0, .int 0, .int 0, .int 0, .int 0, .int 0, .ref t1v, .ref t2v, .ref t3v, .ref t4v, .ref t5v, .ref t6v, .ref t7v])), (t1v, aI g 6 z0), (t2v, aI g 6 z0), (t3v, aI g 8 z0), (t4v, aI g 8 z0), (t5v, aI g 8 z0), (t6v, aI g 16 z0), (t7v, aI g 60 z0), (s0, .inr (9, [.int 0, .int 0, .int 0, .int 0, .int 0, .int 0, .int 0, .ref t1u, .ref t2u, .ref t3u, .ref t4u, .ref t5u, .ref t6u, .ref t7u])), (t1u, aI g 6 z0), (t2u, aI g 6 z0), (t3u, aI g 8 z0), (t4u, aI g 8 z0), (t5u, aI g 8 z0), (t6u, aI g 16 z0), (t7u, aI g 60 z0)] := hD
      refine lv_astore_n (lv' := [(2, .ref s1), (0, .ref x), (1, .int p0)]) hx hb dX11_days_37 rfl hl (by decide) rfl (fun ls hl => ?_)
      refine lv_iconst (v := 0) hx hb dX11_days_38 (by decide) ?_
      refine lv_istore_n (lv' := [(3, .int 0), (2, .ref s1), (0, .ref x), (1, .int p0)]) hx hb dX11_days_39 rfl hl (by decide) rfl (fun ls hl => ?_)
      have hp4 : p0 ≤ 400 := by have e0 : (0 : Int32).toInt = 0 := (by decide); have e1 : (400 : Int32).toInt = 400 := (by decide); simp only [Int32.lt_iff_toInt_lt, Int32.le_iff_toInt_le, ← Int32.toInt_inj, e0, e1] at c_1 c_2 ⊢; omega
      have hp0 : ¬ p0 < 0 := by have e0 : (0 : Int32).toInt = 0 := (by decide); have e1 : (400 : Int32).toInt = 400 := (by decide); simp only [Int32.lt_iff_toInt_lt, Int32.le_iff_toInt_le, ← Int32.toInt_inj, e0, e1] at c_1 c_2 ⊢; omega
      obtain ⟨n, hn, rfl⟩ : ∃ n : Nat, n ≤ 400 ∧ p0 = nI n := nI_of2 (M := 400) (by decide) hp0 hp4
      refine k_loop n 40 (fun i H locs ls => va_P g.1 vwCl [(la, .inr (2, [.ref mea, .ref foa, .ref rea, .int 0, .ref d1a, .ref d2a, .int 9, .int 0, .ref d3a])), (mea, .inr (3, [.int 0, .ref m1a, .ref m2a, .ref m3a, .ref m4a])), (x, .inr (11, [.ref xt, .int 0, .ref xr, .ref la, .ref lb, .ref sa, .int 1, .int 1, .ref ba, .int 0, .ref se, .ref si, .ref pa, .ref he])), (sa, aO g 41 (va_up (va_up fs 0 (some s0)) 1 (some s1))), (s1, .inr (9, [.int (nI i), .int 0, .int 0, .int 0, .int 0, .int 0, .int 0, .ref t1v, .ref t2v, .ref t3v, .ref t4v, .ref t5v, .ref t6v, .ref t7v])), (t1v, aI g 6 z0), (t2v, aI g 6 z0), (t3v, aI g 8 z0), (t4v, aI g 8 z0), (t5v, aI g 8 z0), (t6v, aI g 16 z0), (t7v, aI g 60 z0), (s0, .inr (9, [.int 0, .int 0, .int 0, .int 0, .int 0, .int 0, .int 0, .ref t1u, .ref t2u, .ref t3u, .ref t4u, .ref t5u, .ref t6u, .ref t7u])), (t1u, aI g 6 z0), (t2u, aI g 6 z0), (t3u, aI g 8 z0), (t4u, aI g 8 z0), (t5u, aI g 8 z0), (t6u, aI g 16 z0), (t7u, aI g 60 z0)] H ∧ va_D A [(la, .inr (2, [.ref mea, .ref foa, .ref rea, .int 0, .ref d1a, .ref d2a, .int 9, .int 0, .ref d3a])), (mea, .inr (3, [.int 0, .ref m1a, .ref m2a, .ref m3a, .ref m4a])), (x, .inr (11, [.ref xt, .int 0, .ref xr, .ref la, .ref lb, .ref sa, .int 1, .int 1, .ref ba, .int 0, .ref se, .ref si, .ref pa, .ref he])), (sa, aO g 41 (va_up (va_up fs 0 (some s0)) 1 (some s1))), (s1, .inr (9, [.int (nI i), .int 0, .int 0, .int 0, .int 0, .int 0, .int 0, .ref t1v, .ref t2v, .ref t3v, .ref t4v, .ref t5v, .ref t6v, .ref t7v])), (t1v, aI g 6 z0), (t2v, aI g 6 z0), (t3v, aI g 8 z0), (t4v, aI g 8 z0), (t5v, aI g 8 z0), (t6v, aI g 16 z0), (t7v, aI g 60 z0), (s0, .inr (9, [.int 0, .int 0, .int 0, .int 0, .int 0, .int 0, .int 0, .ref t1u, .ref t2u, .ref t3u, .ref t4u, .ref t5u, .ref t6u, .ref t7u])), (t1u, aI g 6 z0), (t2u, aI g 6 z0), (t3u, aI g 8 z0), (t4u, aI g 8 z0), (t5u, aI g 8 z0), (t6u, aI g 16 z0), (t7u, aI g 60 z0)] ∧ va_S A s.heap H locs ∧ lv_has ls 4 [(3, .int (nI i)), (2, .ref s1), (0, .ref x), (1, .int (nI n))]) (fun _ => 0) (fun _ => 0) (fun i hi H locs ls hI ih => ?_) (fun H locs ls hI => ?_) 0 (Nat.zero_le _) ⟨hP, hD, hS, hl⟩
      · obtain ⟨hP, hD, hS, hl⟩ := hI
        refine lv_iload_n hx hb dX11_days_40 rfl (lv_at hl 0 rfl) ?_
        refine lv_iload_n hx hb dX11_days_41 rfl (lv_at hl 3 rfl) ?_
        refine lv_icmp_ge (tgt := 59) hx hb dX11_days_42 (by decide) (fun c9 => absurd c9 (nI_ge (b := n) hi (by omega))) (fun _ => ?_)
        refine lv_aload_n hx hb dX11_days_45 rfl (lv_at hl 1 rfl) ?_
        refine lv_aload_n hx hb dX11_days_46 rfl (lv_at hl 2 rfl) ?_
        refine va_get (D := g.1) (ci := 11) (v := .ref la) (C := RX11) (T := TX11) (N := 14) hx hb hT inF_X11 hown hK.1 hP 2 rfl rfl 3 (by decide) (hT _ bw_13) (fun _ h9 => h9) rfl dX11_days_47 ?_
        refine k_v (wr := [(x, .inr (11, [.ref xt, .int 0, .ref xr, .ref la, .ref lb, .ref sa, .int 1, .int 1, .ref ba, .int 0, .ref se, .ref si, .ref pa, .ref he])), (sa, aO g 41 (va_up (va_up fs 0 (some s0)) 1 (some s1))), (t1v, aI g 6 z0), (t2v, aI g 6 z0), (t3v, aI g 8 z0), (t4v, aI g 8 z0), (t5v, aI g 8 z0), (t6v, aI g 16 z0), (t7v, aI g 60 z0), (s0, .inr (9, [.int 0, .int 0, .int 0, .int 0, .int 0, .int 0, .int 0, .ref t1u, .ref t2u, .ref t3u, .ref t4u, .ref t5u, .ref t6u, .ref t7u])), (t1u, aI g 6 z0), (t2u, aI g 6 z0), (t3u, aI g 8 z0), (t4u, aI g 8 z0), (t5u, aI g 8 z0), (t6u, aI g 16 z0), (t7u, aI g 60 z0)]) (k_V (n := 1) ⟨hx, hb, hml, hown, hT⟩ hK hP hD [4, 0, 1] rfl (by decide) (c_X9_passDay l g H.size s1 t1v t2v t3v t4v t5v t6v t7v la mea foa rea d1a d2a d3a m1a m2a m3a m4a (nI i)) (gV bw_208 bw_209 bw_210 bw_25 bw_126) rfl rfl (by decide +kernel) ⟨by decide, by decide⟩ (ci := 9) (q0 := 0) rfl rfl (fun _ _ _ _ _ => trivial) (fun _ _ _ => trivial) rfl rfl hl.1 (Nat.le_of_ble_eq_true rfl) dX11_days_50 ⟨by decide, by decide⟩) hP hD hS hA [4, 0, 1] [2, 3, 5, 6, 7, 8, 9, 10, 11, 12, 13, 14, 15, 16, 17, 18, 19] rfl rfl (by decide) (by decide) (fun u H locs hw hP hD hS => ?_)
        have hP : va_P g.1 vwCl [(x, .inr (11, [.ref xt, .int 0, .ref xr, .ref la, .ref lb, .ref sa, .int 1, .int 1, .ref ba, .int 0, .ref se, .ref si, .ref pa, .ref he])), (sa, aO g 41 (va_up (va_up fs 0 (some s0)) 1 (some s1))), (t1v, aI g 6 z0), (t2v, aI g 6 z0), (t3v, aI g 8 z0), (t4v, aI g 8 z0), (t5v, aI g 8 z0), (t6v, aI g 16 z0), (t7v, aI g 60 z0), (s0, .inr (9, [.int 0, .int 0, .int 0, .int 0, .int 0, .int 0, .int 0, .ref t1u, .ref t2u, .ref t3u, .ref t4u, .ref t5u, .ref t6u, .ref t7u])), (t1u, aI g 6 z0), (t2u, aI g 6 z0), (t3u, aI g 8 z0), (t4u, aI g 8 z0), (t5u, aI g 8 z0), (t6u, aI g 16 z0), (t7u, aI g 60 z0), (s1, .inr (9, [.int ((nI i) + 1), .int 0, .int 0, .int 0, .int 0, .int 0, .int 0, .ref t1v, .ref t2v, .ref t3v, .ref t4v, .ref t5v, .ref t6v, .ref t7v])), (la, .inr (2, [.ref mea, .ref foa, .ref rea, .int 0, .ref d1a, .ref d2a, .int 9, .int 0, .ref d3a])), (mea, .inr (3, [.int 0, .ref m1a, .ref m2a, .ref m3a, .ref m4a]))] H := hP
        have hD : va_D A [(x, .inr (11, [.ref xt, .int 0, .ref xr, .ref la, .ref lb, .ref sa, .int 1, .int 1, .ref ba, .int 0, .ref se, .ref si, .ref pa, .ref he])), (sa, aO g 41 (va_up (va_up fs 0 (some s0)) 1 (some s1))), (t1v, aI g 6 z0), (t2v, aI g 6 z0), (t3v, aI g 8 z0), (t4v, aI g 8 z0), (t5v, aI g 8 z0), (t6v, aI g 16 z0), (t7v, aI g 60 z0), (s0, .inr (9, [.int 0, .int 0, .int 0, .int 0, .int 0, .int 0, .int 0, .ref t1u, .ref t2u, .ref t3u, .ref t4u, .ref t5u, .ref t6u, .ref t7u])), (t1u, aI g 6 z0), (t2u, aI g 6 z0), (t3u, aI g 8 z0), (t4u, aI g 8 z0), (t5u, aI g 8 z0), (t6u, aI g 16 z0), (t7u, aI g 60 z0), (s1, .inr (9, [.int ((nI i) + 1), .int 0, .int 0, .int 0, .int 0, .int 0, .int 0, .ref t1v, .ref t2v, .ref t3v, .ref t4v, .ref t5v, .ref t6v, .ref t7v])), (la, .inr (2, [.ref mea, .ref foa, .ref rea, .int 0, .ref d1a, .ref d2a, .int 9, .int 0, .ref d3a])), (mea, .inr (3, [.int 0, .ref m1a, .ref m2a, .ref m3a, .ref m4a]))] := hD
        refine lv_iinc (v := nI (i + 1)) (lv' := [(3, .int (nI (i + 1))), (2, .ref s1), (0, .ref x), (1, .int (nI n))]) hx hb dX11_days_53 hl (k := 0) rfl (nI_1 i) (by decide) rfl (fun ls hl => ?_)
        refine lv_goto (tgt := 40) hx hb dX11_days_56 (by decide) ?_
        simp only [nI_1] at hP hD
        exact ih H locs ls ⟨hP.sub [18, 19, 0, 1, 17, 2, 3, 4, 5, 6, 7, 8, 9, 10, 11, 12, 13, 14, 15, 16] rfl, hD.sub [18, 19, 0, 1, 17, 2, 3, 4, 5, 6, 7, 8, 9, 10, 11, 12, 13, 14, 15, 16] (by decide) rfl, hS, lv_sub hl [0, 1, 2, 3] rfl⟩
      · obtain ⟨hP, hD, hS, hl⟩ := hI
        have hl : lv_has ls 4 [(3, .int (nI n)), (2, .ref s1), (0, .ref x), (1, .int (nI n))] := hl
        have hP : va_P g.1 vwCl [(la, .inr (2, [.ref mea, .ref foa, .ref rea, .int 0, .ref d1a, .ref d2a, .int 9, .int 0, .ref d3a])), (mea, .inr (3, [.int 0, .ref m1a, .ref m2a, .ref m3a, .ref m4a])), (x, .inr (11, [.ref xt, .int 0, .ref xr, .ref la, .ref lb, .ref sa, .int 1, .int 1, .ref ba, .int 0, .ref se, .ref si, .ref pa, .ref he])), (sa, aO g 41 (va_up (va_up fs 0 (some s0)) 1 (some s1))), (s1, .inr (9, [.int (nI n), .int 0, .int 0, .int 0, .int 0, .int 0, .int 0, .ref t1v, .ref t2v, .ref t3v, .ref t4v, .ref t5v, .ref t6v, .ref t7v])), (t1v, aI g 6 z0), (t2v, aI g 6 z0), (t3v, aI g 8 z0), (t4v, aI g 8 z0), (t5v, aI g 8 z0), (t6v, aI g 16 z0), (t7v, aI g 60 z0), (s0, .inr (9, [.int 0, .int 0, .int 0, .int 0, .int 0, .int 0, .int 0, .ref t1u, .ref t2u, .ref t3u, .ref t4u, .ref t5u, .ref t6u, .ref t7u])), (t1u, aI g 6 z0), (t2u, aI g 6 z0), (t3u, aI g 8 z0), (t4u, aI g 8 z0), (t5u, aI g 8 z0), (t6u, aI g 16 z0), (t7u, aI g 60 z0)] H := hP
        have hD : va_D A [(la, .inr (2, [.ref mea, .ref foa, .ref rea, .int 0, .ref d1a, .ref d2a, .int 9, .int 0, .ref d3a])), (mea, .inr (3, [.int 0, .ref m1a, .ref m2a, .ref m3a, .ref m4a])), (x, .inr (11, [.ref xt, .int 0, .ref xr, .ref la, .ref lb, .ref sa, .int 1, .int 1, .ref ba, .int 0, .ref se, .ref si, .ref pa, .ref he])), (sa, aO g 41 (va_up (va_up fs 0 (some s0)) 1 (some s1))), (s1, .inr (9, [.int (nI n), .int 0, .int 0, .int 0, .int 0, .int 0, .int 0, .ref t1v, .ref t2v, .ref t3v, .ref t4v, .ref t5v, .ref t6v, .ref t7v])), (t1v, aI g 6 z0), (t2v, aI g 6 z0), (t3v, aI g 8 z0), (t4v, aI g 8 z0), (t5v, aI g 8 z0), (t6v, aI g 16 z0), (t7v, aI g 60 z0), (s0, .inr (9, [.int 0, .int 0, .int 0, .int 0, .int 0, .int 0, .int 0, .ref t1u, .ref t2u, .ref t3u, .ref t4u, .ref t5u, .ref t6u, .ref t7u])), (t1u, aI g 6 z0), (t2u, aI g 6 z0), (t3u, aI g 8 z0), (t4u, aI g 8 z0), (t5u, aI g 8 z0), (t6u, aI g 16 z0), (t7u, aI g 60 z0)] := hD
        refine lv_iload_n hx hb dX11_days_40 rfl (lv_at hl 0 rfl) ?_
        refine lv_iload_n hx hb dX11_days_41 rfl (lv_at hl 3 rfl) ?_
        refine lv_icmp_ge (tgt := 59) hx hb dX11_days_42 (by decide) (fun _ => ?_) (fun c9 => absurd (Int32.le_refl _) c9)
        refine lv_aload_n hx hb dX11_days_59 rfl (lv_at hl 1 rfl) ?_
        refine va_get (D := g.1) (ci := 9) (v := .int (nI n)) (C := RX9) (T := TX9) (N := 14) hx hb hT inF_X9 hown hK.1 hP 4 rfl rfl 0 (by decide) (hT _ bw_190) (fun _ h9 => h9) rfl dX11_days_60 ?_
        have hP9 : va_P g.1 vwCl [] H := hP.sub [] rfl
        have hD9 : va_D A [] := ⟨fun i j p q h => by simp at h, fun k q h => by simp at h⟩
        exact W.iret (v := (nI n)) hx hb hr (fun t ht hW => ⟨⟨(nI n), (), rfl, (by rw [Fr, if_pos ⟨nI_pos' (by omega), nI_le (b := 400) hn (by decide)⟩]), by rw [ht]; exact hP9, by rw [hAe]; exact hD9⟩, hS.F ht⟩) hS.2.2 dX11_days_63

set_option maxHeartbeats 4000000 in
set_option maxRecDepth 100000 in
theorem c_X11_image (l : Launch) (g : GG) (sz : Nat) (x : Nat) (xt : Nat) (xr : Nat) (la : Nat) (lb : Nat) (sa : Nat) (ba : Nat) (se : Nat) (si : Nat) (pa : Nat) (he : Nat) (s1 : Nat) (s0 : Nat) (t1u : Nat) (t2u : Nat) (t3u : Nat) (t4u : Nat) (t5u : Nat) (t6u : Nat) (t7u : Nat) (b2 : Nat) (b1 : Nat) (b0 : Nat) (t1w : Nat) (t2w : Nat) (t3w : Nat) (t4w : Nat) (t5w : Nat) (t6w : Nat) (t7w : Nat) (t1y : Nat) (t2y : Nat) (t3y : Nat) (t4y : Nat) (t5y : Nat) (t6y : Nat) (t7y : Nat) (t1z : Nat) (t2z : Nat) (t3z : Nat) (t4z : Nat) (t5z : Nat) (t6z : Nat) (t7z : Nat) (fs : Nat → Option Nat) (p0 : Int32) : Met l yX11_image (.code yX11_image cX11_image 2 (some .int) :: gT) ({ frames := 2, cells := 0, slots := 0, locals := 81 }) (va_Pc [.ref x, .int p0] (Pst g sz [(x, .inr (11, [.ref xt, .int 0, .ref xr, .ref la, .ref lb, .ref sa, .int 0, .int 0, .ref ba, .int 0, .ref se, .ref si, .ref pa, .ref he])), (sa, aO g 41 (va_up (va_up fs 0 (some s0)) 1 (some s1))), (s0, .inr (9, [.int 0, .int 0, .int 0, .int 0, .int 0, .int 0, .int 0, .ref t1u, .ref t2u, .ref t3u, .ref t4u, .ref t5u, .ref t6u, .ref t7u])), (t1u, aI g 6 z0), (t2u, aI g 6 z0), (t3u, aI g 8 z0), (t4u, aI g 8 z0), (t5u, aI g 8 z0), (t6u, aI g 16 z0), (t7u, aI g 60 z0), (ba, aO g 3 (va_up (va_up (va_up zR 0 (some b0)) 1 (some b1)) 2 (some b2))), (b0, .inr (9, [.int 0, .int 0, .int 0, .int 0, .int 0, .int 0, .int 0, .ref t1w, .ref t2w, .ref t3w, .ref t4w, .ref t5w, .ref t6w, .ref t7w])), (t1w, aI g 6 z0), (t2w, aI g 6 z0), (t3w, aI g 8 z0), (t4w, aI g 8 z0), (t5w, aI g 8 z0), (t6w, aI g 16 z0), (t7w, aI g 60 z0), (b1, .inr (9, [.int 0, .int 0, .int 0, .int 0, .int 0, .int 0, .int 0, .ref t1y, .ref t2y, .ref t3y, .ref t4y, .ref t5y, .ref t6y, .ref t7y])), (t1y, aI g 6 z0), (t2y, aI g 6 z0), (t3y, aI g 8 z0), (t4y, aI g 8 z0), (t5y, aI g 8 z0), (t6y, aI g 16 z0), (t7y, aI g 60 z0), (b2, .inr (9, [.int 0, .int 0, .int 0, .int 0, .int 0, .int 0, .int 0, .ref t1z, .ref t2z, .ref t3z, .ref t4z, .ref t5z, .ref t6z, .ref t7z])), (t1z, aI g 6 z0), (t2z, aI g 6 z0), (t3z, aI g 8 z0), (t4z, aI g 8 z0), (t5z, aI g 8 z0), (t6z, aI g 16 z0), (t7z, aI g 60 z0)] nX)) (va_Qi (fun (r : Int32) (_ : Unit) => r = Fz 2 p0) (Qst g [(x, .inr (11, [.ref xt, .int 0, .ref xr, .ref la, .ref lb, .ref sa, .int 0, .int 0, .ref ba, .int 0, .ref se, .ref si, .ref pa, .ref he])), (sa, aO g 41 (va_up (va_up fs 0 (some s0)) 1 (some s1))), (s0, .inr (9, [.int 0, .int 0, .int 0, .int 0, .int 0, .int 0, .int 0, .ref t1u, .ref t2u, .ref t3u, .ref t4u, .ref t5u, .ref t6u, .ref t7u])), (t1u, aI g 6 z0), (t2u, aI g 6 z0), (t3u, aI g 8 z0), (t4u, aI g 8 z0), (t5u, aI g 8 z0), (t6u, aI g 16 z0), (t7u, aI g 60 z0), (ba, aO g 3 (va_up (va_up (va_up zR 0 (some b0)) 1 (some b1)) 2 (some b2))), (b0, .inr (9, [.int 0, .int 0, .int 0, .int 0, .int 0, .int 0, .int 0, .ref t1w, .ref t2w, .ref t3w, .ref t4w, .ref t5w, .ref t6w, .ref t7w])), (t1w, aI g 6 z0), (t2w, aI g 6 z0), (t3w, aI g 8 z0), (t4w, aI g 8 z0), (t5w, aI g 8 z0), (t6w, aI g 16 z0), (t7w, aI g 60 z0), (b1, .inr (9, [.int 0, .int 0, .int 0, .int 0, .int 0, .int 0, .int 0, .ref t1y, .ref t2y, .ref t3y, .ref t4y, .ref t5y, .ref t6y, .ref t7y])), (t1y, aI g 6 z0), (t2y, aI g 6 z0), (t3y, aI g 8 z0), (t4y, aI g 8 z0), (t5y, aI g 8 z0), (t6y, aI g 16 z0), (t7y, aI g 60 z0), (b2, .inr (9, [.int 0, .int 0, .int 0, .int 0, .int 0, .int 0, .int 0, .ref t1z, .ref t2z, .ref t3z, .ref t4z, .ref t5z, .ref t6z, .ref t7z])), (t1z, aI g 6 z0), (t2z, aI g 6 z0), (t3z, aI g 8 z0), (t4z, aI g 8 z0), (t5z, aI g 8 z0), (t6z, aI g 16 z0), (t7z, aI g 60 z0)] sz (fun _ => [])) (va_A [(x, .inr (11, [.ref xt, .int 0, .ref xr, .ref la, .ref lb, .ref sa, .int 0, .int 0, .ref ba, .int 0, .ref se, .ref si, .ref pa, .ref he])), (sa, aO g 41 (va_up (va_up fs 0 (some s0)) 1 (some s1))), (s0, .inr (9, [.int 0, .int 0, .int 0, .int 0, .int 0, .int 0, .int 0, .ref t1u, .ref t2u, .ref t3u, .ref t4u, .ref t5u, .ref t6u, .ref t7u])), (t1u, aI g 6 z0), (t2u, aI g 6 z0), (t3u, aI g 8 z0), (t4u, aI g 8 z0), (t5u, aI g 8 z0), (t6u, aI g 16 z0), (t7u, aI g 60 z0), (ba, aO g 3 (va_up (va_up (va_up zR 0 (some b0)) 1 (some b1)) 2 (some b2))), (b0, .inr (9, [.int 0, .int 0, .int 0, .int 0, .int 0, .int 0, .int 0, .ref t1w, .ref t2w, .ref t3w, .ref t4w, .ref t5w, .ref t6w, .ref t7w])), (t1w, aI g 6 z0), (t2w, aI g 6 z0), (t3w, aI g 8 z0), (t4w, aI g 8 z0), (t5w, aI g 8 z0), (t6w, aI g 16 z0), (t7w, aI g 60 z0), (b1, .inr (9, [.int 0, .int 0, .int 0, .int 0, .int 0, .int 0, .int 0, .ref t1y, .ref t2y, .ref t3y, .ref t4y, .ref t5y, .ref t6y, .ref t7y])), (t1y, aI g 6 z0), (t2y, aI g 6 z0), (t3y, aI g 8 z0), (t4y, aI g 8 z0), (t5y, aI g 8 z0), (t6y, aI g 16 z0), (t7y, aI g 60 z0), (b2, .inr (9, [.int 0, .int 0, .int 0, .int 0, .int 0, .int 0, .int 0, .ref t1z, .ref t2z, .ref t3z, .ref t4z, .ref t5z, .ref t6z, .ref t7z])), (t1z, aI g 6 z0), (t2z, aI g 6 z0), (t3z, aI g 8 z0), (t4z, aI g 8 z0), (t5z, aI g 8 z0), (t6z, aI g 16 z0), (t7z, aI g 60 z0)] sz)) 0 0 (va_A [(x, .inr (11, [.ref xt, .int 0, .ref xr, .ref la, .ref lb, .ref sa, .int 0, .int 0, .ref ba, .int 0, .ref se, .ref si, .ref pa, .ref he])), (sa, aO g 41 (va_up (va_up fs 0 (some s0)) 1 (some s1))), (s0, .inr (9, [.int 0, .int 0, .int 0, .int 0, .int 0, .int 0, .int 0, .ref t1u, .ref t2u, .ref t3u, .ref t4u, .ref t5u, .ref t6u, .ref t7u])), (t1u, aI g 6 z0), (t2u, aI g 6 z0), (t3u, aI g 8 z0), (t4u, aI g 8 z0), (t5u, aI g 8 z0), (t6u, aI g 16 z0), (t7u, aI g 60 z0), (ba, aO g 3 (va_up (va_up (va_up zR 0 (some b0)) 1 (some b1)) 2 (some b2))), (b0, .inr (9, [.int 0, .int 0, .int 0, .int 0, .int 0, .int 0, .int 0, .ref t1w, .ref t2w, .ref t3w, .ref t4w, .ref t5w, .ref t6w, .ref t7w])), (t1w, aI g 6 z0), (t2w, aI g 6 z0), (t3w, aI g 8 z0), (t4w, aI g 8 z0), (t5w, aI g 8 z0), (t6w, aI g 16 z0), (t7w, aI g 60 z0), (b1, .inr (9, [.int 0, .int 0, .int 0, .int 0, .int 0, .int 0, .int 0, .ref t1y, .ref t2y, .ref t3y, .ref t4y, .ref t5y, .ref t6y, .ref t7y])), (t1y, aI g 6 z0), (t2y, aI g 6 z0), (t3y, aI g 8 z0), (t4y, aI g 8 z0), (t5y, aI g 8 z0), (t6y, aI g 16 z0), (t7y, aI g 60 z0), (b2, .inr (9, [.int 0, .int 0, .int 0, .int 0, .int 0, .int 0, .int 0, .ref t1z, .ref t2z, .ref t3z, .ref t4z, .ref t5z, .ref t6z, .ref t7z])), (t1z, aI g 6 z0), (t2z, aI g 6 z0), (t3z, aI g 8 z0), (t4z, aI g 8 z0), (t5z, aI g 8 z0), (t6z, aI g 16 z0), (t7z, aI g 60 z0)] sz) := by
  refine Met.ofW (cc := cX11_image) (maxL := 2) (ret := (some .int)) (by decide) rfl ?_
  intro p e s m args below meth c s₁ B hml hv
  obtain ⟨rfl, hsz, hP, hK, hD0, hX⟩ := hv
  have hx := B.exec
  have hb := B.bytes
  have hr := B.returns
  have hT : ∀ w ∈ gT, w.before _ s = true := fun w h => atoms_spec (ws := .code yX11_image cX11_image 2 (some .int) :: gT) B.pre w (List.mem_cons_of_mem _ h)
  have hown : s.vm.findClass RX11 = some m.cls := findClass_of_methodNamed B.named
  have hlocks := B.notSynchronized
  subst hsz
  have hD := hD0.self (sz := s.heap.size)
  generalize hAe : va_A [(x, .inr (11, [.ref xt, .int 0, .ref xr, .ref la, .ref lb, .ref sa, .int 0, .int 0, .ref ba, .int 0, .ref se, .ref si, .ref pa, .ref he])), (sa, aO g 41 (va_up (va_up fs 0 (some s0)) 1 (some s1))), (s0, .inr (9, [.int 0, .int 0, .int 0, .int 0, .int 0, .int 0, .int 0, .ref t1u, .ref t2u, .ref t3u, .ref t4u, .ref t5u, .ref t6u, .ref t7u])), (t1u, aI g 6 z0), (t2u, aI g 6 z0), (t3u, aI g 8 z0), (t4u, aI g 8 z0), (t5u, aI g 8 z0), (t6u, aI g 16 z0), (t7u, aI g 60 z0), (ba, aO g 3 (va_up (va_up (va_up zR 0 (some b0)) 1 (some b1)) 2 (some b2))), (b0, .inr (9, [.int 0, .int 0, .int 0, .int 0, .int 0, .int 0, .int 0, .ref t1w, .ref t2w, .ref t3w, .ref t4w, .ref t5w, .ref t6w, .ref t7w])), (t1w, aI g 6 z0), (t2w, aI g 6 z0), (t3w, aI g 8 z0), (t4w, aI g 8 z0), (t5w, aI g 8 z0), (t6w, aI g 16 z0), (t7w, aI g 60 z0), (b1, .inr (9, [.int 0, .int 0, .int 0, .int 0, .int 0, .int 0, .int 0, .ref t1y, .ref t2y, .ref t3y, .ref t4y, .ref t5y, .ref t6y, .ref t7y])), (t1y, aI g 6 z0), (t2y, aI g 6 z0), (t3y, aI g 8 z0), (t4y, aI g 8 z0), (t5y, aI g 8 z0), (t6y, aI g 16 z0), (t7y, aI g 60 z0), (b2, .inr (9, [.int 0, .int 0, .int 0, .int 0, .int 0, .int 0, .int 0, .ref t1z, .ref t2z, .ref t3z, .ref t4z, .ref t5z, .ref t6z, .ref t7z])), (t1z, aI g 6 z0), (t2z, aI g 6 z0), (t3z, aI g 8 z0), (t4z, aI g 8 z0), (t5z, aI g 8 z0), (t6z, aI g 16 z0), (t7z, aI g 60 z0)] s.heap.size = A at hD ⊢
  have hA : ∀ q : Nat, s.heap.size ≤ q → A q := fun q h => by rw [← hAe]; exact Or.inr h
  have hS : va_S A s.heap s.heap [] := va_S.rf
  have hl := lv_entry ([.ref x, .int p0]) (n := 2) (Nat.le_of_ble_eq_true rfl)
  rw [lg_entry_eq]
  generalize (lg_sl ([.ref x, .int p0]) ++ List.replicate (2 - (lg_sl ([.ref x, .int p0])).length) Slot.unset).toArray = ls at hl ⊢
  have hl : lv_has ls 2 [(0, .ref x), (1, .int p0)] := hl
  refine p_nH (fun H hH => ?_)
  have hP : va_P g.1 vwCl [(x, .inr (11, [.ref xt, .int 0, .ref xr, .ref la, .ref lb, .ref sa, .int 0, .int 0, .ref ba, .int 0, .ref se, .ref si, .ref pa, .ref he])), (sa, aO g 41 (va_up (va_up fs 0 (some s0)) 1 (some s1))), (s0, .inr (9, [.int 0, .int 0, .int 0, .int 0, .int 0, .int 0, .int 0, .ref t1u, .ref t2u, .ref t3u, .ref t4u, .ref t5u, .ref t6u, .ref t7u])), (t1u, aI g 6 z0), (t2u, aI g 6 z0), (t3u, aI g 8 z0), (t4u, aI g 8 z0), (t5u, aI g 8 z0), (t6u, aI g 16 z0), (t7u, aI g 60 z0), (ba, aO g 3 (va_up (va_up (va_up zR 0 (some b0)) 1 (some b1)) 2 (some b2))), (b0, .inr (9, [.int 0, .int 0, .int 0, .int 0, .int 0, .int 0, .int 0, .ref t1w, .ref t2w, .ref t3w, .ref t4w, .ref t5w, .ref t6w, .ref t7w])), (t1w, aI g 6 z0), (t2w, aI g 6 z0), (t3w, aI g 8 z0), (t4w, aI g 8 z0), (t5w, aI g 8 z0), (t6w, aI g 16 z0), (t7w, aI g 60 z0), (b1, .inr (9, [.int 0, .int 0, .int 0, .int 0, .int 0, .int 0, .int 0, .ref t1y, .ref t2y, .ref t3y, .ref t4y, .ref t5y, .ref t6y, .ref t7y])), (t1y, aI g 6 z0), (t2y, aI g 6 z0), (t3y, aI g 8 z0), (t4y, aI g 8 z0), (t5y, aI g 8 z0), (t6y, aI g 16 z0), (t7y, aI g 60 z0), (b2, .inr (9, [.int 0, .int 0, .int 0, .int 0, .int 0, .int 0, .int 0, .ref t1z, .ref t2z, .ref t3z, .ref t4z, .ref t5z, .ref t6z, .ref t7z])), (t1z, aI g 6 z0), (t2z, aI g 6 z0), (t3z, aI g 8 z0), (t4z, aI g 8 z0), (t5z, aI g 8 z0), (t6z, aI g 16 z0), (t7z, aI g 60 z0)] H := by rw [hH]; exact hP
  have hS : va_S A s.heap H [] := by rw [hH]; exact hS
  refine lv_iload_n hx hb dX11_image_0 rfl (lv_at hl 1 rfl) ?_
  refine lv_if_lt (tgt := 9) hx hb dX11_image_1 (by decide) (fun c_1 => ?_) (fun c_1 => ?_)
  · refine lv_iconst (v := (-1)) hx hb dX11_image_9 (by decide) ?_
    have hP9 : va_P g.1 vwCl [] H := hP.sub [] rfl
    have hD9 : va_D A [] := ⟨fun i j p q h => by simp at h, fun k q h => by simp at h⟩
    exact W.iret (v := (-1)) hx hb hr (fun t ht hW => ⟨⟨(-1), (), rfl, (by rw [Fz, if_neg (by have e0 : (0 : Int32).toInt = 0 := (by decide); have e1 : (2 : Int32).toInt = 2 := (by decide); simp only [Int32.lt_iff_toInt_lt, Int32.le_iff_toInt_le, ← Int32.toInt_inj, e0, e1] at c_1 ⊢; omega)]), by rw [ht]; exact hP9, by rw [hAe]; exact hD9⟩, hS.F ht⟩) hS.2.2 dX11_image_10
  · refine lv_iload_n hx hb dX11_image_4 rfl (lv_at hl 1 rfl) ?_
    refine lv_iconst (v := 3) hx hb dX11_image_5 (by decide) ?_
    refine lv_icmp_lt (tgt := 11) hx hb dX11_image_6 (by decide) (fun c_2 => ?_) (fun c_2 => ?_)
    · have hcs : p0 = 0 ∨ p0 = 1 ∨ p0 = 2 := by have e0 : (0 : Int32).toInt = 0 := (by decide); have e1 : (1 : Int32).toInt = 1 := (by decide); have e2 : (2 : Int32).toInt = 2 := (by decide); have e3 : (3 : Int32).toInt = 3 := (by decide); simp only [Int32.lt_iff_toInt_lt, Int32.le_iff_toInt_le, ← Int32.toInt_inj, e0, e1, e2, e3] at c_1 c_2 ⊢; omega
      rcases hcs with rfl | rfl | rfl
      · refine lv_aload_n hx hb dX11_image_11 rfl (lv_at hl 0 rfl) ?_
        refine va_get (D := g.1) (ci := 11) (v := .ref ba) (C := RX11) (T := TX11) (N := 14) hx hb hT inF_X11 hown hK.1 hP 0 rfl rfl 8 (by decide) (hT _ bw_212) (fun _ h9 => h9) rfl dX11_image_12 ?_
        refine lv_iload_n hx hb dX11_image_15 rfl (lv_at hl 1 rfl) ?_
        refine va_aldq hx hb hK.1 hP 10 4 rfl rfl (i := 0) (by unfold vp_in; decide) dX11_image_16 ?_
        refine p_tr (x := b0) (rfl) ?_
        refine lv_aload_n hx hb dX11_image_17 rfl (lv_at hl 0 rfl) ?_
        refine va_get (D := g.1) (ci := 11) (v := .ref sa) (C := RX11) (T := TX11) (N := 14) hx hb hT inF_X11 hown hK.1 hP 0 rfl rfl 5 (by decide) (hT _ bw_20) (fun _ h9 => h9) rfl dX11_image_18 ?_
        refine lv_aload_n hx hb dX11_image_21 rfl (lv_at hl 0 rfl) ?_
        refine va_get (D := g.1) (ci := 11) (v := .int 0) (C := RX11) (T := TX11) (N := 14) hx hb hT inF_X11 hown hK.1 hP 0 rfl rfl 6 (by decide) (hT _ bw_21) (fun _ h9 => h9) rfl dX11_image_22 ?_
        refine va_aldq hx hb hK.1 hP 1 4 rfl rfl (i := 0) (by unfold vp_in; decide) dX11_image_25 ?_
        refine p_tr (x := s0) (rfl) ?_
        refine k_v (wr := [(x, .inr (11, [.ref xt, .int 0, .ref xr, .ref la, .ref lb, .ref sa, .int 0, .int 0, .ref ba, .int 0, .ref se, .ref si, .ref pa, .ref he])), (sa, aO g 41 (va_up (va_up fs 0 (some s0)) 1 (some s1))), (ba, aO g 3 (va_up (va_up (va_up zR 0 (some b0)) 1 (some b1)) 2 (some b2))), (b1, .inr (9, [.int 0, .int 0, .int 0, .int 0, .int 0, .int 0, .int 0, .ref t1y, .ref t2y, .ref t3y, .ref t4y, .ref t5y, .ref t6y, .ref t7y])), (t1y, aI g 6 z0), (t2y, aI g 6 z0), (t3y, aI g 8 z0), (t4y, aI g 8 z0), (t5y, aI g 8 z0), (t6y, aI g 16 z0), (t7y, aI g 60 z0), (b2, .inr (9, [.int 0, .int 0, .int 0, .int 0, .int 0, .int 0, .int 0, .ref t1z, .ref t2z, .ref t3z, .ref t4z, .ref t5z, .ref t6z, .ref t7z])), (t1z, aI g 6 z0), (t2z, aI g 6 z0), (t3z, aI g 8 z0), (t4z, aI g 8 z0), (t5z, aI g 8 z0), (t6z, aI g 16 z0), (t7z, aI g 60 z0)]) (k_V (n := 1) ⟨hx, hb, hml, hown, hT⟩ hK hP hD [11, 12, 13, 14, 15, 16, 17, 18, 2, 3, 4, 5, 6, 7, 8, 9] rfl (by decide) (c_X9_copy l g H.size b0 t1w t2w t3w t4w t5w t6w t7w s0 t1u t2u t3u t4u t5u t6u t7u) (gV bw_200 bw_201 bw_202 bw_25 bw_125) rfl rfl (by decide +kernel) ⟨by decide, by decide⟩ (ci := 9) (q0 := 0) rfl rfl (fun _ _ _ _ _ => trivial) (fun _ _ _ => trivial) rfl rfl hl.1 (Nat.le_of_ble_eq_true rfl) dX11_image_26 ⟨by decide, by decide⟩) hP hD hS hA [11, 12, 13, 14, 15, 16, 17, 18, 2, 3, 4, 5, 6, 7, 8, 9] [0, 1, 10, 19, 20, 21, 22, 23, 24, 25, 26, 27, 28, 29, 30, 31, 32, 33, 34] rfl rfl (by decide) (by decide) (fun u H locs hw hP hD hS => ?_)
        have hP : va_P g.1 vwCl [(x, .inr (11, [.ref xt, .int 0, .ref xr, .ref la, .ref lb, .ref sa, .int 0, .int 0, .ref ba, .int 0, .ref se, .ref si, .ref pa, .ref he])), (sa, aO g 41 (va_up (va_up fs 0 (some s0)) 1 (some s1))), (ba, aO g 3 (va_up (va_up (va_up zR 0 (some b0)) 1 (some b1)) 2 (some b2))), (b1, .inr (9, [.int 0, .int 0, .int 0, .int 0, .int 0, .int 0, .int 0, .ref t1y, .ref t2y, .ref t3y, .ref t4y, .ref t5y, .ref t6y, .ref t7y])), (t1y, aI g 6 z0), (t2y, aI g 6 z0), (t3y, aI g 8 z0), (t4y, aI g 8 z0), (t5y, aI g 8 z0), (t6y, aI g 16 z0), (t7y, aI g 60 z0), (b2, .inr (9, [.int 0, .int 0, .int 0, .int 0, .int 0, .int 0, .int 0, .ref t1z, .ref t2z, .ref t3z, .ref t4z, .ref t5z, .ref t6z, .ref t7z])), (t1z, aI g 6 z0), (t2z, aI g 6 z0), (t3z, aI g 8 z0), (t4z, aI g 8 z0), (t5z, aI g 8 z0), (t6z, aI g 16 z0), (t7z, aI g 60 z0), (b0, .inr (9, [.int 0, .int 0, .int 0, .int 0, .int 0, .int 0, .int 0, .ref t1w, .ref t2w, .ref t3w, .ref t4w, .ref t5w, .ref t6w, .ref t7w])), (t1w, aI g 6 z0), (t2w, aI g 6 z0), (t3w, aI g 8 z0), (t4w, aI g 8 z0), (t5w, aI g 8 z0), (t6w, aI g 16 z0), (t7w, aI g 60 z0), (s0, .inr (9, [.int 0, .int 0, .int 0, .int 0, .int 0, .int 0, .int 0, .ref t1u, .ref t2u, .ref t3u, .ref t4u, .ref t5u, .ref t6u, .ref t7u])), (t1u, aI g 6 z0), (t2u, aI g 6 z0), (t3u, aI g 8 z0), (t4u, aI g 8 z0), (t5u, aI g 8 z0), (t6u, aI g 16 z0), (t7u, aI g 60 z0)] H := hP
        have hD : va_D A [(x, .inr (11, [.ref xt, .int 0, .ref xr, .ref la, .ref lb, .ref sa, .int 0, .int 0, .ref ba, .int 0, .ref se, .ref si, .ref pa, .ref he])), (sa, aO g 41 (va_up (va_up fs 0 (some s0)) 1 (some s1))), (ba, aO g 3 (va_up (va_up (va_up zR 0 (some b0)) 1 (some b1)) 2 (some b2))), (b1, .inr (9, [.int 0, .int 0, .int 0, .int 0, .int 0, .int 0, .int 0, .ref t1y, .ref t2y, .ref t3y, .ref t4y, .ref t5y, .ref t6y, .ref t7y])), (t1y, aI g 6 z0), (t2y, aI g 6 z0), (t3y, aI g 8 z0), (t4y, aI g 8 z0), (t5y, aI g 8 z0), (t6y, aI g 16 z0), (t7y, aI g 60 z0), (b2, .inr (9, [.int 0, .int 0, .int 0, .int 0, .int 0, .int 0, .int 0, .ref t1z, .ref t2z, .ref t3z, .ref t4z, .ref t5z, .ref t6z, .ref t7z])), (t1z, aI g 6 z0), (t2z, aI g 6 z0), (t3z, aI g 8 z0), (t4z, aI g 8 z0), (t5z, aI g 8 z0), (t6z, aI g 16 z0), (t7z, aI g 60 z0), (b0, .inr (9, [.int 0, .int 0, .int 0, .int 0, .int 0, .int 0, .int 0, .ref t1w, .ref t2w, .ref t3w, .ref t4w, .ref t5w, .ref t6w, .ref t7w])), (t1w, aI g 6 z0), (t2w, aI g 6 z0), (t3w, aI g 8 z0), (t4w, aI g 8 z0), (t5w, aI g 8 z0), (t6w, aI g 16 z0), (t7w, aI g 60 z0), (s0, .inr (9, [.int 0, .int 0, .int 0, .int 0, .int 0, .int 0, .int 0, .ref t1u, .ref t2u, .ref t3u, .ref t4u, .ref t5u, .ref t6u, .ref t7u])), (t1u, aI g 6 z0), (t2u, aI g 6 z0), (t3u, aI g 8 z0), (t4u, aI g 8 z0), (t5u, aI g 8 z0), (t6u, aI g 16 z0), (t7u, aI g 60 z0)] := hD
        refine lv_aload_n hx hb dX11_image_29 rfl (lv_at hl 0 rfl) ?_
        refine lv_dup hx hb dX11_image_30 rfl ?_
        refine va_get (D := g.1) (ci := 11) (v := .int 0) (C := RX11) (T := TX11) (N := 14) hx hb hT inF_X11 hown hK.1 hP 0 rfl rfl 9 (by decide) (hT _ bw_69) (fun _ h9 => h9) rfl dX11_image_31 ?_
        refine lv_iconst (v := 1) hx hb dX11_image_34 (by decide) ?_
        refine lv_iload_n hx hb dX11_image_35 rfl (lv_at hl 1 rfl) ?_
        refine lv_ishl hx hb dX11_image_36 ?_
        refine p_ti (v := 1) (by decide +kernel) ?_
        refine lv_ior hx hb dX11_image_37 ?_
        refine p_ti (v := 1) (by decide +kernel) ?_
        refine va_put (D := g.1) (ci := 11) (v := .int 1) (ty := .int) (C := RX11) (T := TX11) (N := 14) hx hb hT inF_X11 tyX11 tyX11_ok nmX11 hown hK.1 hP hD hS 0 rfl rfl 9 (by decide) (hT _ bw_69) (fun _ h9 => h9) rfl (by decide +kernel) rfl rfl (Nat.le_of_ble_eq_true rfl) dX11_image_38 (fun H locs hP hD hS => ?_)
        have hP : va_P g.1 vwCl [(x, .inr (11, [.ref xt, .int 0, .ref xr, .ref la, .ref lb, .ref sa, .int 0, .int 0, .ref ba, .int 1, .ref se, .ref si, .ref pa, .ref he])), (sa, aO g 41 (va_up (va_up fs 0 (some s0)) 1 (some s1))), (ba, aO g 3 (va_up (va_up (va_up zR 0 (some b0)) 1 (some b1)) 2 (some b2))), (b1, .inr (9, [.int 0, .int 0, .int 0, .int 0, .int 0, .int 0, .int 0, .ref t1y, .ref t2y, .ref t3y, .ref t4y, .ref t5y, .ref t6y, .ref t7y])), (t1y, aI g 6 z0), (t2y, aI g 6 z0), (t3y, aI g 8 z0), (t4y, aI g 8 z0), (t5y, aI g 8 z0), (t6y, aI g 16 z0), (t7y, aI g 60 z0), (b2, .inr (9, [.int 0, .int 0, .int 0, .int 0, .int 0, .int 0, .int 0, .ref t1z, .ref t2z, .ref t3z, .ref t4z, .ref t5z, .ref t6z, .ref t7z])), (t1z, aI g 6 z0), (t2z, aI g 6 z0), (t3z, aI g 8 z0), (t4z, aI g 8 z0), (t5z, aI g 8 z0), (t6z, aI g 16 z0), (t7z, aI g 60 z0), (b0, .inr (9, [.int 0, .int 0, .int 0, .int 0, .int 0, .int 0, .int 0, .ref t1w, .ref t2w, .ref t3w, .ref t4w, .ref t5w, .ref t6w, .ref t7w])), (t1w, aI g 6 z0), (t2w, aI g 6 z0), (t3w, aI g 8 z0), (t4w, aI g 8 z0), (t5w, aI g 8 z0), (t6w, aI g 16 z0), (t7w, aI g 60 z0), (s0, .inr (9, [.int 0, .int 0, .int 0, .int 0, .int 0, .int 0, .int 0, .ref t1u, .ref t2u, .ref t3u, .ref t4u, .ref t5u, .ref t6u, .ref t7u])), (t1u, aI g 6 z0), (t2u, aI g 6 z0), (t3u, aI g 8 z0), (t4u, aI g 8 z0), (t5u, aI g 8 z0), (t6u, aI g 16 z0), (t7u, aI g 60 z0)] H := hP
        have hD : va_D A [(x, .inr (11, [.ref xt, .int 0, .ref xr, .ref la, .ref lb, .ref sa, .int 0, .int 0, .ref ba, .int 1, .ref se, .ref si, .ref pa, .ref he])), (sa, aO g 41 (va_up (va_up fs 0 (some s0)) 1 (some s1))), (ba, aO g 3 (va_up (va_up (va_up zR 0 (some b0)) 1 (some b1)) 2 (some b2))), (b1, .inr (9, [.int 0, .int 0, .int 0, .int 0, .int 0, .int 0, .int 0, .ref t1y, .ref t2y, .ref t3y, .ref t4y, .ref t5y, .ref t6y, .ref t7y])), (t1y, aI g 6 z0), (t2y, aI g 6 z0), (t3y, aI g 8 z0), (t4y, aI g 8 z0), (t5y, aI g 8 z0), (t6y, aI g 16 z0), (t7y, aI g 60 z0), (b2, .inr (9, [.int 0, .int 0, .int 0, .int 0, .int 0, .int 0, .int 0, .ref t1z, .ref t2z, .ref t3z, .ref t4z, .ref t5z, .ref t6z, .ref t7z])), (t1z, aI g 6 z0), (t2z, aI g 6 z0), (t3z, aI g 8 z0), (t4z, aI g 8 z0), (t5z, aI g 8 z0), (t6z, aI g 16 z0), (t7z, aI g 60 z0), (b0, .inr (9, [.int 0, .int 0, .int 0, .int 0, .int 0, .int 0, .int 0, .ref t1w, .ref t2w, .ref t3w, .ref t4w, .ref t5w, .ref t6w, .ref t7w])), (t1w, aI g 6 z0), (t2w, aI g 6 z0), (t3w, aI g 8 z0), (t4w, aI g 8 z0), (t5w, aI g 8 z0), (t6w, aI g 16 z0), (t7w, aI g 60 z0), (s0, .inr (9, [.int 0, .int 0, .int 0, .int 0, .int 0, .int 0, .int 0, .ref t1u, .ref t2u, .ref t3u, .ref t4u, .ref t5u, .ref t6u, .ref t7u])), (t1u, aI g 6 z0), (t2u, aI g 6 z0), (t3u, aI g 8 z0), (t4u, aI g 8 z0), (t5u, aI g 8 z0), (t6u, aI g 16 z0), (t7u, aI g 60 z0)] := hD
        refine lv_aload_n hx hb dX11_image_41 rfl (lv_at hl 0 rfl) ?_
        refine va_get (D := g.1) (ci := 11) (v := .ref sa) (C := RX11) (T := TX11) (N := 14) hx hb hT inF_X11 hown hK.1 hP 0 rfl rfl 5 (by decide) (hT _ bw_20) (fun _ h9 => h9) rfl dX11_image_42 ?_
        refine lv_aload_n hx hb dX11_image_45 rfl (lv_at hl 0 rfl) ?_
        refine va_get (D := g.1) (ci := 11) (v := .int 0) (C := RX11) (T := TX11) (N := 14) hx hb hT inF_X11 hown hK.1 hP 0 rfl rfl 6 (by decide) (hT _ bw_21) (fun _ h9 => h9) rfl dX11_image_46 ?_
        refine va_aldq hx hb hK.1 hP 1 4 rfl rfl (i := 0) (by unfold vp_in; decide) dX11_image_49 ?_
        refine p_tr (x := s0) (rfl) ?_
        refine va_get (D := g.1) (ci := 9) (v := .int 0) (C := RX9) (T := TX9) (N := 14) hx hb hT inF_X9 hown hK.1 hP 27 rfl rfl 0 (by decide) (hT _ bw_190) (fun _ h9 => h9) rfl dX11_image_50 ?_
        have hP9 : va_P g.1 vwCl [] H := hP.sub [] rfl
        have hD9 : va_D A [] := ⟨fun i j p q h => by simp at h, fun k q h => by simp at h⟩
        exact W.iret (v := 0) hx hb hr (fun t ht hW => ⟨⟨0, (), rfl, by decide, by rw [ht]; exact hP9, by rw [hAe]; exact hD9⟩, hS.F ht⟩) hS.2.2 dX11_image_53
      · refine lv_aload_n hx hb dX11_image_11 rfl (lv_at hl 0 rfl) ?_
        refine va_get (D := g.1) (ci := 11) (v := .ref ba) (C := RX11) (T := TX11) (N := 14) hx hb hT inF_X11 hown hK.1 hP 0 rfl rfl 8 (by decide) (hT _ bw_212) (fun _ h9 => h9) rfl dX11_image_12 ?_
        refine lv_iload_n hx hb dX11_image_15 rfl (lv_at hl 1 rfl) ?_
        refine va_aldq hx hb hK.1 hP 10 4 rfl rfl (i := 1) (by unfold vp_in; decide) dX11_image_16 ?_
        refine p_tr (x := b1) (rfl) ?_
        refine lv_aload_n hx hb dX11_image_17 rfl (lv_at hl 0 rfl) ?_
        refine va_get (D := g.1) (ci := 11) (v := .ref sa) (C := RX11) (T := TX11) (N := 14) hx hb hT inF_X11 hown hK.1 hP 0 rfl rfl 5 (by decide) (hT _ bw_20) (fun _ h9 => h9) rfl dX11_image_18 ?_
        refine lv_aload_n hx hb dX11_image_21 rfl (lv_at hl 0 rfl) ?_
        refine va_get (D := g.1) (ci := 11) (v := .int 0) (C := RX11) (T := TX11) (N := 14) hx hb hT inF_X11 hown hK.1 hP 0 rfl rfl 6 (by decide) (hT _ bw_21) (fun _ h9 => h9) rfl dX11_image_22 ?_
        refine va_aldq hx hb hK.1 hP 1 4 rfl rfl (i := 0) (by unfold vp_in; decide) dX11_image_25 ?_
        refine p_tr (x := s0) (rfl) ?_
        refine k_v (wr := [(x, .inr (11, [.ref xt, .int 0, .ref xr, .ref la, .ref lb, .ref sa, .int 0, .int 0, .ref ba, .int 0, .ref se, .ref si, .ref pa, .ref he])), (sa, aO g 41 (va_up (va_up fs 0 (some s0)) 1 (some s1))), (ba, aO g 3 (va_up (va_up (va_up zR 0 (some b0)) 1 (some b1)) 2 (some b2))), (b0, .inr (9, [.int 0, .int 0, .int 0, .int 0, .int 0, .int 0, .int 0, .ref t1w, .ref t2w, .ref t3w, .ref t4w, .ref t5w, .ref t6w, .ref t7w])), (t1w, aI g 6 z0), (t2w, aI g 6 z0), (t3w, aI g 8 z0), (t4w, aI g 8 z0), (t5w, aI g 8 z0), (t6w, aI g 16 z0), (t7w, aI g 60 z0), (b2, .inr (9, [.int 0, .int 0, .int 0, .int 0, .int 0, .int 0, .int 0, .ref t1z, .ref t2z, .ref t3z, .ref t4z, .ref t5z, .ref t6z, .ref t7z])), (t1z, aI g 6 z0), (t2z, aI g 6 z0), (t3z, aI g 8 z0), (t4z, aI g 8 z0), (t5z, aI g 8 z0), (t6z, aI g 16 z0), (t7z, aI g 60 z0)]) (k_V (n := 1) ⟨hx, hb, hml, hown, hT⟩ hK hP hD [19, 20, 21, 22, 23, 24, 25, 26, 2, 3, 4, 5, 6, 7, 8, 9] rfl (by decide) (c_X9_copy l g H.size b1 t1y t2y t3y t4y t5y t6y t7y s0 t1u t2u t3u t4u t5u t6u t7u) (gV bw_200 bw_201 bw_202 bw_25 bw_125) rfl rfl (by decide +kernel) ⟨by decide, by decide⟩ (ci := 9) (q0 := 0) rfl rfl (fun _ _ _ _ _ => trivial) (fun _ _ _ => trivial) rfl rfl hl.1 (Nat.le_of_ble_eq_true rfl) dX11_image_26 ⟨by decide, by decide⟩) hP hD hS hA [19, 20, 21, 22, 23, 24, 25, 26, 2, 3, 4, 5, 6, 7, 8, 9] [0, 1, 10, 11, 12, 13, 14, 15, 16, 17, 18, 27, 28, 29, 30, 31, 32, 33, 34] rfl rfl (by decide) (by decide) (fun u H locs hw hP hD hS => ?_)
        have hP : va_P g.1 vwCl [(x, .inr (11, [.ref xt, .int 0, .ref xr, .ref la, .ref lb, .ref sa, .int 0, .int 0, .ref ba, .int 0, .ref se, .ref si, .ref pa, .ref he])), (sa, aO g 41 (va_up (va_up fs 0 (some s0)) 1 (some s1))), (ba, aO g 3 (va_up (va_up (va_up zR 0 (some b0)) 1 (some b1)) 2 (some b2))), (b0, .inr (9, [.int 0, .int 0, .int 0, .int 0, .int 0, .int 0, .int 0, .ref t1w, .ref t2w, .ref t3w, .ref t4w, .ref t5w, .ref t6w, .ref t7w])), (t1w, aI g 6 z0), (t2w, aI g 6 z0), (t3w, aI g 8 z0), (t4w, aI g 8 z0), (t5w, aI g 8 z0), (t6w, aI g 16 z0), (t7w, aI g 60 z0), (b2, .inr (9, [.int 0, .int 0, .int 0, .int 0, .int 0, .int 0, .int 0, .ref t1z, .ref t2z, .ref t3z, .ref t4z, .ref t5z, .ref t6z, .ref t7z])), (t1z, aI g 6 z0), (t2z, aI g 6 z0), (t3z, aI g 8 z0), (t4z, aI g 8 z0), (t5z, aI g 8 z0), (t6z, aI g 16 z0), (t7z, aI g 60 z0), (b1, .inr (9, [.int 0, .int 0, .int 0, .int 0, .int 0, .int 0, .int 0, .ref t1y, .ref t2y, .ref t3y, .ref t4y, .ref t5y, .ref t6y, .ref t7y])), (t1y, aI g 6 z0), (t2y, aI g 6 z0), (t3y, aI g 8 z0), (t4y, aI g 8 z0), (t5y, aI g 8 z0), (t6y, aI g 16 z0), (t7y, aI g 60 z0), (s0, .inr (9, [.int 0, .int 0, .int 0, .int 0, .int 0, .int 0, .int 0, .ref t1u, .ref t2u, .ref t3u, .ref t4u, .ref t5u, .ref t6u, .ref t7u])), (t1u, aI g 6 z0), (t2u, aI g 6 z0), (t3u, aI g 8 z0), (t4u, aI g 8 z0), (t5u, aI g 8 z0), (t6u, aI g 16 z0), (t7u, aI g 60 z0)] H := hP
        have hD : va_D A [(x, .inr (11, [.ref xt, .int 0, .ref xr, .ref la, .ref lb, .ref sa, .int 0, .int 0, .ref ba, .int 0, .ref se, .ref si, .ref pa, .ref he])), (sa, aO g 41 (va_up (va_up fs 0 (some s0)) 1 (some s1))), (ba, aO g 3 (va_up (va_up (va_up zR 0 (some b0)) 1 (some b1)) 2 (some b2))), (b0, .inr (9, [.int 0, .int 0, .int 0, .int 0, .int 0, .int 0, .int 0, .ref t1w, .ref t2w, .ref t3w, .ref t4w, .ref t5w, .ref t6w, .ref t7w])), (t1w, aI g 6 z0), (t2w, aI g 6 z0), (t3w, aI g 8 z0), (t4w, aI g 8 z0), (t5w, aI g 8 z0), (t6w, aI g 16 z0), (t7w, aI g 60 z0), (b2, .inr (9, [.int 0, .int 0, .int 0, .int 0, .int 0, .int 0, .int 0, .ref t1z, .ref t2z, .ref t3z, .ref t4z, .ref t5z, .ref t6z, .ref t7z])), (t1z, aI g 6 z0), (t2z, aI g 6 z0), (t3z, aI g 8 z0), (t4z, aI g 8 z0), (t5z, aI g 8 z0), (t6z, aI g 16 z0), (t7z, aI g 60 z0), (b1, .inr (9, [.int 0, .int 0, .int 0, .int 0, .int 0, .int 0, .int 0, .ref t1y, .ref t2y, .ref t3y, .ref t4y, .ref t5y, .ref t6y, .ref t7y])), (t1y, aI g 6 z0), (t2y, aI g 6 z0), (t3y, aI g 8 z0), (t4y, aI g 8 z0), (t5y, aI g 8 z0), (t6y, aI g 16 z0), (t7y, aI g 60 z0), (s0, .inr (9, [.int 0, .int 0, .int 0, .int 0, .int 0, .int 0, .int 0, .ref t1u, .ref t2u, .ref t3u, .ref t4u, .ref t5u, .ref t6u, .ref t7u])), (t1u, aI g 6 z0), (t2u, aI g 6 z0), (t3u, aI g 8 z0), (t4u, aI g 8 z0), (t5u, aI g 8 z0), (t6u, aI g 16 z0), (t7u, aI g 60 z0)] := hD
        refine lv_aload_n hx hb dX11_image_29 rfl (lv_at hl 0 rfl) ?_
        refine lv_dup hx hb dX11_image_30 rfl ?_
        refine va_get (D := g.1) (ci := 11) (v := .int 0) (C := RX11) (T := TX11) (N := 14) hx hb hT inF_X11 hown hK.1 hP 0 rfl rfl 9 (by decide) (hT _ bw_69) (fun _ h9 => h9) rfl dX11_image_31 ?_
        refine lv_iconst (v := 1) hx hb dX11_image_34 (by decide) ?_
        refine lv_iload_n hx hb dX11_image_35 rfl (lv_at hl 1 rfl) ?_
        refine lv_ishl hx hb dX11_image_36 ?_
        refine p_ti (v := 2) (by decide +kernel) ?_
        refine lv_ior hx hb dX11_image_37 ?_
        refine p_ti (v := 2) (by decide +kernel) ?_
        refine va_put (D := g.1) (ci := 11) (v := .int 2) (ty := .int) (C := RX11) (T := TX11) (N := 14) hx hb hT inF_X11 tyX11 tyX11_ok nmX11 hown hK.1 hP hD hS 0 rfl rfl 9 (by decide) (hT _ bw_69) (fun _ h9 => h9) rfl (by decide +kernel) rfl rfl (Nat.le_of_ble_eq_true rfl) dX11_image_38 (fun H locs hP hD hS => ?_)
        have hP : va_P g.1 vwCl [(x, .inr (11, [.ref xt, .int 0, .ref xr, .ref la, .ref lb, .ref sa, .int 0, .int 0, .ref ba, .int 2, .ref se, .ref si, .ref pa, .ref he])), (sa, aO g 41 (va_up (va_up fs 0 (some s0)) 1 (some s1))), (ba, aO g 3 (va_up (va_up (va_up zR 0 (some b0)) 1 (some b1)) 2 (some b2))), (b0, .inr (9, [.int 0, .int 0, .int 0, .int 0, .int 0, .int 0, .int 0, .ref t1w, .ref t2w, .ref t3w, .ref t4w, .ref t5w, .ref t6w, .ref t7w])), (t1w, aI g 6 z0), (t2w, aI g 6 z0), (t3w, aI g 8 z0), (t4w, aI g 8 z0), (t5w, aI g 8 z0), (t6w, aI g 16 z0), (t7w, aI g 60 z0), (b2, .inr (9, [.int 0, .int 0, .int 0, .int 0, .int 0, .int 0, .int 0, .ref t1z, .ref t2z, .ref t3z, .ref t4z, .ref t5z, .ref t6z, .ref t7z])), (t1z, aI g 6 z0), (t2z, aI g 6 z0), (t3z, aI g 8 z0), (t4z, aI g 8 z0), (t5z, aI g 8 z0), (t6z, aI g 16 z0), (t7z, aI g 60 z0), (b1, .inr (9, [.int 0, .int 0, .int 0, .int 0, .int 0, .int 0, .int 0, .ref t1y, .ref t2y, .ref t3y, .ref t4y, .ref t5y, .ref t6y, .ref t7y])), (t1y, aI g 6 z0), (t2y, aI g 6 z0), (t3y, aI g 8 z0), (t4y, aI g 8 z0), (t5y, aI g 8 z0), (t6y, aI g 16 z0), (t7y, aI g 60 z0), (s0, .inr (9, [.int 0, .int 0, .int 0, .int 0, .int 0, .int 0, .int 0, .ref t1u, .ref t2u, .ref t3u, .ref t4u, .ref t5u, .ref t6u, .ref t7u])), (t1u, aI g 6 z0), (t2u, aI g 6 z0), (t3u, aI g 8 z0), (t4u, aI g 8 z0), (t5u, aI g 8 z0), (t6u, aI g 16 z0), (t7u, aI g 60 z0)] H := hP
        have hD : va_D A [(x, .inr (11, [.ref xt, .int 0, .ref xr, .ref la, .ref lb, .ref sa, .int 0, .int 0, .ref ba, .int 2, .ref se, .ref si, .ref pa, .ref he])), (sa, aO g 41 (va_up (va_up fs 0 (some s0)) 1 (some s1))), (ba, aO g 3 (va_up (va_up (va_up zR 0 (some b0)) 1 (some b1)) 2 (some b2))), (b0, .inr (9, [.int 0, .int 0, .int 0, .int 0, .int 0, .int 0, .int 0, .ref t1w, .ref t2w, .ref t3w, .ref t4w, .ref t5w, .ref t6w, .ref t7w])), (t1w, aI g 6 z0), (t2w, aI g 6 z0), (t3w, aI g 8 z0), (t4w, aI g 8 z0), (t5w, aI g 8 z0), (t6w, aI g 16 z0), (t7w, aI g 60 z0), (b2, .inr (9, [.int 0, .int 0, .int 0, .int 0, .int 0, .int 0, .int 0, .ref t1z, .ref t2z, .ref t3z, .ref t4z, .ref t5z, .ref t6z, .ref t7z])), (t1z, aI g 6 z0), (t2z, aI g 6 z0), (t3z, aI g 8 z0), (t4z, aI g 8 z0), (t5z, aI g 8 z0), (t6z, aI g 16 z0), (t7z, aI g 60 z0), (b1, .inr (9, [.int 0, .int 0, .int 0, .int 0, .int 0, .int 0, .int 0, .ref t1y, .ref t2y, .ref t3y, .ref t4y, .ref t5y, .ref t6y, .ref t7y])), (t1y, aI g 6 z0), (t2y, aI g 6 z0), (t3y, aI g 8 z0), (t4y, aI g 8 z0), (t5y, aI g 8 z0), (t6y, aI g 16 z0), (t7y, aI g 60 z0), (s0, .inr (9, [.int 0, .int 0, .int 0, .int 0, .int 0, .int 0, .int 0, .ref t1u, .ref t2u, .ref t3u, .ref t4u, .ref t5u, .ref t6u, .ref t7u])), (t1u, aI g 6 z0), (t2u, aI g 6 z0), (t3u, aI g 8 z0), (t4u, aI g 8 z0), (t5u, aI g 8 z0), (t6u, aI g 16 z0), (t7u, aI g 60 z0)] := hD
        refine lv_aload_n hx hb dX11_image_41 rfl (lv_at hl 0 rfl) ?_
        refine va_get (D := g.1) (ci := 11) (v := .ref sa) (C := RX11) (T := TX11) (N := 14) hx hb hT inF_X11 hown hK.1 hP 0 rfl rfl 5 (by decide) (hT _ bw_20) (fun _ h9 => h9) rfl dX11_image_42 ?_
        refine lv_aload_n hx hb dX11_image_45 rfl (lv_at hl 0 rfl) ?_
        refine va_get (D := g.1) (ci := 11) (v := .int 0) (C := RX11) (T := TX11) (N := 14) hx hb hT inF_X11 hown hK.1 hP 0 rfl rfl 6 (by decide) (hT _ bw_21) (fun _ h9 => h9) rfl dX11_image_46 ?_
        refine va_aldq hx hb hK.1 hP 1 4 rfl rfl (i := 0) (by unfold vp_in; decide) dX11_image_49 ?_
        refine p_tr (x := s0) (rfl) ?_
        refine va_get (D := g.1) (ci := 9) (v := .int 0) (C := RX9) (T := TX9) (N := 14) hx hb hT inF_X9 hown hK.1 hP 27 rfl rfl 0 (by decide) (hT _ bw_190) (fun _ h9 => h9) rfl dX11_image_50 ?_
        have hP9 : va_P g.1 vwCl [] H := hP.sub [] rfl
        have hD9 : va_D A [] := ⟨fun i j p q h => by simp at h, fun k q h => by simp at h⟩
        exact W.iret (v := 0) hx hb hr (fun t ht hW => ⟨⟨0, (), rfl, by decide, by rw [ht]; exact hP9, by rw [hAe]; exact hD9⟩, hS.F ht⟩) hS.2.2 dX11_image_53
      · refine lv_aload_n hx hb dX11_image_11 rfl (lv_at hl 0 rfl) ?_
        refine va_get (D := g.1) (ci := 11) (v := .ref ba) (C := RX11) (T := TX11) (N := 14) hx hb hT inF_X11 hown hK.1 hP 0 rfl rfl 8 (by decide) (hT _ bw_212) (fun _ h9 => h9) rfl dX11_image_12 ?_
        refine lv_iload_n hx hb dX11_image_15 rfl (lv_at hl 1 rfl) ?_
        refine va_aldq hx hb hK.1 hP 10 4 rfl rfl (i := 2) (by unfold vp_in; decide) dX11_image_16 ?_
        refine p_tr (x := b2) (rfl) ?_
        refine lv_aload_n hx hb dX11_image_17 rfl (lv_at hl 0 rfl) ?_
        refine va_get (D := g.1) (ci := 11) (v := .ref sa) (C := RX11) (T := TX11) (N := 14) hx hb hT inF_X11 hown hK.1 hP 0 rfl rfl 5 (by decide) (hT _ bw_20) (fun _ h9 => h9) rfl dX11_image_18 ?_
        refine lv_aload_n hx hb dX11_image_21 rfl (lv_at hl 0 rfl) ?_
        refine va_get (D := g.1) (ci := 11) (v := .int 0) (C := RX11) (T := TX11) (N := 14) hx hb hT inF_X11 hown hK.1 hP 0 rfl rfl 6 (by decide) (hT _ bw_21) (fun _ h9 => h9) rfl dX11_image_22 ?_
        refine va_aldq hx hb hK.1 hP 1 4 rfl rfl (i := 0) (by unfold vp_in; decide) dX11_image_25 ?_
        refine p_tr (x := s0) (rfl) ?_
        refine k_v (wr := [(x, .inr (11, [.ref xt, .int 0, .ref xr, .ref la, .ref lb, .ref sa, .int 0, .int 0, .ref ba, .int 0, .ref se, .ref si, .ref pa, .ref he])), (sa, aO g 41 (va_up (va_up fs 0 (some s0)) 1 (some s1))), (ba, aO g 3 (va_up (va_up (va_up zR 0 (some b0)) 1 (some b1)) 2 (some b2))), (b0, .inr (9, [.int 0, .int 0, .int 0, .int 0, .int 0, .int 0, .int 0, .ref t1w, .ref t2w, .ref t3w, .ref t4w, .ref t5w, .ref t6w, .ref t7w])), (t1w, aI g 6 z0), (t2w, aI g 6 z0), (t3w, aI g 8 z0), (t4w, aI g 8 z0), (t5w, aI g 8 z0), (t6w, aI g 16 z0), (t7w, aI g 60 z0), (b1, .inr (9, [.int 0, .int 0, .int 0, .int 0, .int 0, .int 0, .int 0, .ref t1y, .ref t2y, .ref t3y, .ref t4y, .ref t5y, .ref t6y, .ref t7y])), (t1y, aI g 6 z0), (t2y, aI g 6 z0), (t3y, aI g 8 z0), (t4y, aI g 8 z0), (t5y, aI g 8 z0), (t6y, aI g 16 z0), (t7y, aI g 60 z0)]) (k_V (n := 1) ⟨hx, hb, hml, hown, hT⟩ hK hP hD [27, 28, 29, 30, 31, 32, 33, 34, 2, 3, 4, 5, 6, 7, 8, 9] rfl (by decide) (c_X9_copy l g H.size b2 t1z t2z t3z t4z t5z t6z t7z s0 t1u t2u t3u t4u t5u t6u t7u) (gV bw_200 bw_201 bw_202 bw_25 bw_125) rfl rfl (by decide +kernel) ⟨by decide, by decide⟩ (ci := 9) (q0 := 0) rfl rfl (fun _ _ _ _ _ => trivial) (fun _ _ _ => trivial) rfl rfl hl.1 (Nat.le_of_ble_eq_true rfl) dX11_image_26 ⟨by decide, by decide⟩) hP hD hS hA [27, 28, 29, 30, 31, 32, 33, 34, 2, 3, 4, 5, 6, 7, 8, 9] [0, 1, 10, 11, 12, 13, 14, 15, 16, 17, 18, 19, 20, 21, 22, 23, 24, 25, 26] rfl rfl (by decide) (by decide) (fun u H locs hw hP hD hS => ?_)
        have hP : va_P g.1 vwCl [(x, .inr (11, [.ref xt, .int 0, .ref xr, .ref la, .ref lb, .ref sa, .int 0, .int 0, .ref ba, .int 0, .ref se, .ref si, .ref pa, .ref he])), (sa, aO g 41 (va_up (va_up fs 0 (some s0)) 1 (some s1))), (ba, aO g 3 (va_up (va_up (va_up zR 0 (some b0)) 1 (some b1)) 2 (some b2))), (b0, .inr (9, [.int 0, .int 0, .int 0, .int 0, .int 0, .int 0, .int 0, .ref t1w, .ref t2w, .ref t3w, .ref t4w, .ref t5w, .ref t6w, .ref t7w])), (t1w, aI g 6 z0), (t2w, aI g 6 z0), (t3w, aI g 8 z0), (t4w, aI g 8 z0), (t5w, aI g 8 z0), (t6w, aI g 16 z0), (t7w, aI g 60 z0), (b1, .inr (9, [.int 0, .int 0, .int 0, .int 0, .int 0, .int 0, .int 0, .ref t1y, .ref t2y, .ref t3y, .ref t4y, .ref t5y, .ref t6y, .ref t7y])), (t1y, aI g 6 z0), (t2y, aI g 6 z0), (t3y, aI g 8 z0), (t4y, aI g 8 z0), (t5y, aI g 8 z0), (t6y, aI g 16 z0), (t7y, aI g 60 z0), (b2, .inr (9, [.int 0, .int 0, .int 0, .int 0, .int 0, .int 0, .int 0, .ref t1z, .ref t2z, .ref t3z, .ref t4z, .ref t5z, .ref t6z, .ref t7z])), (t1z, aI g 6 z0), (t2z, aI g 6 z0), (t3z, aI g 8 z0), (t4z, aI g 8 z0), (t5z, aI g 8 z0), (t6z, aI g 16 z0), (t7z, aI g 60 z0), (s0, .inr (9, [.int 0, .int 0, .int 0, .int 0, .int 0, .int 0, .int 0, .ref t1u, .ref t2u, .ref t3u, .ref t4u, .ref t5u, .ref t6u, .ref t7u])), (t1u, aI g 6 z0), (t2u, aI g 6 z0), (t3u, aI g 8 z0), (t4u, aI g 8 z0), (t5u, aI g 8 z0), (t6u, aI g 16 z0), (t7u, aI g 60 z0)] H := hP
        have hD : va_D A [(x, .inr (11, [.ref xt, .int 0, .ref xr, .ref la, .ref lb, .ref sa, .int 0, .int 0, .ref ba, .int 0, .ref se, .ref si, .ref pa, .ref he])), (sa, aO g 41 (va_up (va_up fs 0 (some s0)) 1 (some s1))), (ba, aO g 3 (va_up (va_up (va_up zR 0 (some b0)) 1 (some b1)) 2 (some b2))), (b0, .inr (9, [.int 0, .int 0, .int 0, .int 0, .int 0, .int 0, .int 0, .ref t1w, .ref t2w, .ref t3w, .ref t4w, .ref t5w, .ref t6w, .ref t7w])), (t1w, aI g 6 z0), (t2w, aI g 6 z0), (t3w, aI g 8 z0), (t4w, aI g 8 z0), (t5w, aI g 8 z0), (t6w, aI g 16 z0), (t7w, aI g 60 z0), (b1, .inr (9, [.int 0, .int 0, .int 0, .int 0, .int 0, .int 0, .int 0, .ref t1y, .ref t2y, .ref t3y, .ref t4y, .ref t5y, .ref t6y, .ref t7y])), (t1y, aI g 6 z0), (t2y, aI g 6 z0), (t3y, aI g 8 z0), (t4y, aI g 8 z0), (t5y, aI g 8 z0), (t6y, aI g 16 z0), (t7y, aI g 60 z0), (b2, .inr (9, [.int 0, .int 0, .int 0, .int 0, .int 0, .int 0, .int 0, .ref t1z, .ref t2z, .ref t3z, .ref t4z, .ref t5z, .ref t6z, .ref t7z])), (t1z, aI g 6 z0), (t2z, aI g 6 z0), (t3z, aI g 8 z0), (t4z, aI g 8 z0), (t5z, aI g 8 z0), (t6z, aI g 16 z0), (t7z, aI g 60 z0), (s0, .inr (9, [.int 0, .int 0, .int 0, .int 0, .int 0, .int 0, .int 0, .ref t1u, .ref t2u, .ref t3u, .ref t4u, .ref t5u, .ref t6u, .ref t7u])), (t1u, aI g 6 z0), (t2u, aI g 6 z0), (t3u, aI g 8 z0), (t4u, aI g 8 z0), (t5u, aI g 8 z0), (t6u, aI g 16 z0), (t7u, aI g 60 z0)] := hD
        refine lv_aload_n hx hb dX11_image_29 rfl (lv_at hl 0 rfl) ?_
        refine lv_dup hx hb dX11_image_30 rfl ?_
        refine va_get (D := g.1) (ci := 11) (v := .int 0) (C := RX11) (T := TX11) (N := 14) hx hb hT inF_X11 hown hK.1 hP 0 rfl rfl 9 (by decide) (hT _ bw_69) (fun _ h9 => h9) rfl dX11_image_31 ?_
        refine lv_iconst (v := 1) hx hb dX11_image_34 (by decide) ?_
        refine lv_iload_n hx hb dX11_image_35 rfl (lv_at hl 1 rfl) ?_
        refine lv_ishl hx hb dX11_image_36 ?_
        refine p_ti (v := 4) (by decide +kernel) ?_
        refine lv_ior hx hb dX11_image_37 ?_
        refine p_ti (v := 4) (by decide +kernel) ?_
        refine va_put (D := g.1) (ci := 11) (v := .int 4) (ty := .int) (C := RX11) (T := TX11) (N := 14) hx hb hT inF_X11 tyX11 tyX11_ok nmX11 hown hK.1 hP hD hS 0 rfl rfl 9 (by decide) (hT _ bw_69) (fun _ h9 => h9) rfl (by decide +kernel) rfl rfl (Nat.le_of_ble_eq_true rfl) dX11_image_38 (fun H locs hP hD hS => ?_)
        have hP : va_P g.1 vwCl [(x, .inr (11, [.ref xt, .int 0, .ref xr, .ref la, .ref lb, .ref sa, .int 0, .int 0, .ref ba, .int 4, .ref se, .ref si, .ref pa, .ref he])), (sa, aO g 41 (va_up (va_up fs 0 (some s0)) 1 (some s1))), (ba, aO g 3 (va_up (va_up (va_up zR 0 (some b0)) 1 (some b1)) 2 (some b2))), (b0, .inr (9, [.int 0, .int 0, .int 0, .int 0, .int 0, .int 0, .int 0, .ref t1w, .ref t2w, .ref t3w, .ref t4w, .ref t5w, .ref t6w, .ref t7w])), (t1w, aI g 6 z0), (t2w, aI g 6 z0), (t3w, aI g 8 z0), (t4w, aI g 8 z0), (t5w, aI g 8 z0), (t6w, aI g 16 z0), (t7w, aI g 60 z0), (b1, .inr (9, [.int 0, .int 0, .int 0, .int 0, .int 0, .int 0, .int 0, .ref t1y, .ref t2y, .ref t3y, .ref t4y, .ref t5y, .ref t6y, .ref t7y])), (t1y, aI g 6 z0), (t2y, aI g 6 z0), (t3y, aI g 8 z0), (t4y, aI g 8 z0), (t5y, aI g 8 z0), (t6y, aI g 16 z0), (t7y, aI g 60 z0), (b2, .inr (9, [.int 0, .int 0, .int 0, .int 0, .int 0, .int 0, .int 0, .ref t1z, .ref t2z, .ref t3z, .ref t4z, .ref t5z, .ref t6z, .ref t7z])), (t1z, aI g 6 z0), (t2z, aI g 6 z0), (t3z, aI g 8 z0), (t4z, aI g 8 z0), (t5z, aI g 8 z0), (t6z, aI g 16 z0), (t7z, aI g 60 z0), (s0, .inr (9, [.int 0, .int 0, .int 0, .int 0, .int 0, .int 0, .int 0, .ref t1u, .ref t2u, .ref t3u, .ref t4u, .ref t5u, .ref t6u, .ref t7u])), (t1u, aI g 6 z0), (t2u, aI g 6 z0), (t3u, aI g 8 z0), (t4u, aI g 8 z0), (t5u, aI g 8 z0), (t6u, aI g 16 z0), (t7u, aI g 60 z0)] H := hP
        have hD : va_D A [(x, .inr (11, [.ref xt, .int 0, .ref xr, .ref la, .ref lb, .ref sa, .int 0, .int 0, .ref ba, .int 4, .ref se, .ref si, .ref pa, .ref he])), (sa, aO g 41 (va_up (va_up fs 0 (some s0)) 1 (some s1))), (ba, aO g 3 (va_up (va_up (va_up zR 0 (some b0)) 1 (some b1)) 2 (some b2))), (b0, .inr (9, [.int 0, .int 0, .int 0, .int 0, .int 0, .int 0, .int 0, .ref t1w, .ref t2w, .ref t3w, .ref t4w, .ref t5w, .ref t6w, .ref t7w])), (t1w, aI g 6 z0), (t2w, aI g 6 z0), (t3w, aI g 8 z0), (t4w, aI g 8 z0), (t5w, aI g 8 z0), (t6w, aI g 16 z0), (t7w, aI g 60 z0), (b1, .inr (9, [.int 0, .int 0, .int 0, .int 0, .int 0, .int 0, .int 0, .ref t1y, .ref t2y, .ref t3y, .ref t4y, .ref t5y, .ref t6y, .ref t7y])), (t1y, aI g 6 z0), (t2y, aI g 6 z0), (t3y, aI g 8 z0), (t4y, aI g 8 z0), (t5y, aI g 8 z0), (t6y, aI g 16 z0), (t7y, aI g 60 z0), (b2, .inr (9, [.int 0, .int 0, .int 0, .int 0, .int 0, .int 0, .int 0, .ref t1z, .ref t2z, .ref t3z, .ref t4z, .ref t5z, .ref t6z, .ref t7z])), (t1z, aI g 6 z0), (t2z, aI g 6 z0), (t3z, aI g 8 z0), (t4z, aI g 8 z0), (t5z, aI g 8 z0), (t6z, aI g 16 z0), (t7z, aI g 60 z0), (s0, .inr (9, [.int 0, .int 0, .int 0, .int 0, .int 0, .int 0, .int 0, .ref t1u, .ref t2u, .ref t3u, .ref t4u, .ref t5u, .ref t6u, .ref t7u])), (t1u, aI g 6 z0), (t2u, aI g 6 z0), (t3u, aI g 8 z0), (t4u, aI g 8 z0), (t5u, aI g 8 z0), (t6u, aI g 16 z0), (t7u, aI g 60 z0)] := hD
        refine lv_aload_n hx hb dX11_image_41 rfl (lv_at hl 0 rfl) ?_
        refine va_get (D := g.1) (ci := 11) (v := .ref sa) (C := RX11) (T := TX11) (N := 14) hx hb hT inF_X11 hown hK.1 hP 0 rfl rfl 5 (by decide) (hT _ bw_20) (fun _ h9 => h9) rfl dX11_image_42 ?_
        refine lv_aload_n hx hb dX11_image_45 rfl (lv_at hl 0 rfl) ?_
        refine va_get (D := g.1) (ci := 11) (v := .int 0) (C := RX11) (T := TX11) (N := 14) hx hb hT inF_X11 hown hK.1 hP 0 rfl rfl 6 (by decide) (hT _ bw_21) (fun _ h9 => h9) rfl dX11_image_46 ?_
        refine va_aldq hx hb hK.1 hP 1 4 rfl rfl (i := 0) (by unfold vp_in; decide) dX11_image_49 ?_
        refine p_tr (x := s0) (rfl) ?_
        refine va_get (D := g.1) (ci := 9) (v := .int 0) (C := RX9) (T := TX9) (N := 14) hx hb hT inF_X9 hown hK.1 hP 27 rfl rfl 0 (by decide) (hT _ bw_190) (fun _ h9 => h9) rfl dX11_image_50 ?_
        have hP9 : va_P g.1 vwCl [] H := hP.sub [] rfl
        have hD9 : va_D A [] := ⟨fun i j p q h => by simp at h, fun k q h => by simp at h⟩
        exact W.iret (v := 0) hx hb hr (fun t ht hW => ⟨⟨0, (), rfl, by decide, by rw [ht]; exact hP9, by rw [hAe]; exact hD9⟩, hS.F ht⟩) hS.2.2 dX11_image_53
    · refine lv_iconst (v := (-1)) hx hb dX11_image_9 (by decide) ?_
      have hP9 : va_P g.1 vwCl [] H := hP.sub [] rfl
      have hD9 : va_D A [] := ⟨fun i j p q h => by simp at h, fun k q h => by simp at h⟩
      exact W.iret (v := (-1)) hx hb hr (fun t ht hW => ⟨⟨(-1), (), rfl, (by rw [Fz, if_neg (by have e0 : (0 : Int32).toInt = 0 := (by decide); have e1 : (2 : Int32).toInt = 2 := (by decide); have e2 : (3 : Int32).toInt = 3 := (by decide); simp only [Int32.lt_iff_toInt_lt, Int32.le_iff_toInt_le, ← Int32.toInt_inj, e0, e1, e2] at c_1 c_2 ⊢; omega)]), by rw [ht]; exact hP9, by rw [hAe]; exact hD9⟩, hS.F ht⟩) hS.2.2 dX11_image_10
end
section
set_option maxHeartbeats 4000000 in
set_option maxRecDepth 100000 in
theorem c_X11_feedNumber_0 (l : Launch) (g : GG) (sz : Nat) (x : Nat) (xt : Nat) (xr : Nat) (la : Nat) (lb : Nat) (sa : Nat) (ba : Nat) (se : Nat) (si : Nat) (pa : Nat) (he : Nat) (ff : Nat → Int32) (p0 : Int32) : Met l yX11_feedNumber (.code yX11_feedNumber cX11_feedNumber 3 none :: gT) ({ frames := 0, cells := 0, slots := 0, locals := 0 }) (va_Pc [.ref x, .int p0] (Pst g sz [(x, .inr (11, [.ref xt, .int 0, .ref xr, .ref la, .ref lb, .ref sa, .int 0, .int 0, .ref ba, .int 0, .ref se, .ref si, .ref pa, .ref he])), (xt, aB g 1600 ff)] nX)) (va_Qv (fun (_ : (Nat → Int32)) => True) (Qst g [(x, .inr (11, [.ref xt, .int 0, .ref xr, .ref la, .ref lb, .ref sa, .int 0, .int 0, .ref ba, .int 0, .ref se, .ref si, .ref pa, .ref he])), (xt, aB g 1600 ff)] sz (fun (f_12 : Nat → Int32) => [(x, .inr (11, [.ref xt, .int 4, .ref xr, .ref la, .ref lb, .ref sa, .int 0, .int 0, .ref ba, .int 0, .ref se, .ref si, .ref pa, .ref he])), (xt, aB g 1600 f_12)])) (va_A [(x, .inr (11, [.ref xt, .int 0, .ref xr, .ref la, .ref lb, .ref sa, .int 0, .int 0, .ref ba, .int 0, .ref se, .ref si, .ref pa, .ref he])), (xt, aB g 1600 ff)] sz)) 0 0 (va_A [(x, .inr (11, [.ref xt, .int 0, .ref xr, .ref la, .ref lb, .ref sa, .int 0, .int 0, .ref ba, .int 0, .ref se, .ref si, .ref pa, .ref he])), (xt, aB g 1600 ff)] sz) := by
  refine Met.ofW (cc := cX11_feedNumber) (maxL := 3) (ret := none) (by decide) rfl ?_
  intro p e s m args below meth c s₁ B hml hv
  obtain ⟨rfl, hsz, hP, hK, hD0, hX⟩ := hv
  have hx := B.exec
  have hb := B.bytes
  have hr := B.returns
  have hT : ∀ w ∈ gT, w.before _ s = true := fun w h => atoms_spec (ws := .code yX11_feedNumber cX11_feedNumber 3 none :: gT) B.pre w (List.mem_cons_of_mem _ h)
  have hown : s.vm.findClass RX11 = some m.cls := findClass_of_methodNamed B.named
  have hlocks := B.notSynchronized
  subst hsz
  have hD := hD0.self (sz := s.heap.size)
  generalize hAe : va_A [(x, .inr (11, [.ref xt, .int 0, .ref xr, .ref la, .ref lb, .ref sa, .int 0, .int 0, .ref ba, .int 0, .ref se, .ref si, .ref pa, .ref he])), (xt, aB g 1600 ff)] s.heap.size = A at hD ⊢
  have hA : ∀ q : Nat, s.heap.size ≤ q → A q := fun q h => by rw [← hAe]; exact Or.inr h
  have hS : va_S A s.heap s.heap [] := va_S.rf
  have hl := lv_entry ([.ref x, .int p0]) (n := 3) (Nat.le_of_ble_eq_true rfl)
  rw [lg_entry_eq]
  generalize (lg_sl ([.ref x, .int p0]) ++ List.replicate (3 - (lg_sl ([.ref x, .int p0])).length) Slot.unset).toArray = ls at hl ⊢
  have hl : lv_has ls 3 [(0, .ref x), (1, .int p0)] := hl
  refine p_nH (fun H hH => ?_)
  have hP : va_P g.1 vwCl [(x, .inr (11, [.ref xt, .int 0, .ref xr, .ref la, .ref lb, .ref sa, .int 0, .int 0, .ref ba, .int 0, .ref se, .ref si, .ref pa, .ref he])), (xt, aB g 1600 ff)] H := by rw [hH]; exact hP
  have hS : va_S A s.heap H [] := by rw [hH]; exact hS
  refine lv_bipush (v := 24) hx hb dX11_feedNumber_0 (by decide) ?_
  refine lv_istore_n (lv' := [(2, .int 24), (0, .ref x), (1, .int p0)]) hx hb dX11_feedNumber_2 rfl hl (by decide) rfl (fun ls hl => ?_)
  refine lv_iload_n hx hb dX11_feedNumber_3 rfl (lv_at hl 0 rfl) ?_
  refine lv_if_lt (tgt := 36) hx hb dX11_feedNumber_4 (by decide) (fun c9 => absurd c9 (by decide)) (fun _ => ?_)
  refine lv_aload_n hx hb dX11_feedNumber_7 rfl (lv_at hl 1 rfl) ?_
  refine va_get (D := g.1) (ci := 11) (v := .ref xt) (C := RX11) (T := TX11) (N := 14) hx hb hT inF_X11 hown hK.1 hP 0 rfl rfl 0 (by decide) (hT _ bw_160) (fun _ h9 => h9) rfl dX11_feedNumber_8 ?_
  refine lv_aload_n hx hb dX11_feedNumber_11 rfl (lv_at hl 1 rfl) ?_
  refine va_get (D := g.1) (ci := 11) (v := .int 0) (C := RX11) (T := TX11) (N := 14) hx hb hT inF_X11 hown hK.1 hP 0 rfl rfl 1 (by decide) (hT _ bw_161) (fun _ h9 => h9) rfl dX11_feedNumber_12 ?_
  refine lv_iload_n hx hb dX11_feedNumber_15 rfl (lv_at hl 2 rfl) ?_
  refine lv_iload_n hx hb dX11_feedNumber_16 rfl (lv_at hl 0 rfl) ?_
  refine lv_ishr hx hb dX11_feedNumber_17 ?_
  refine lv_topi (fun x_1 ex_1 => ?_)
  obtain ⟨x_2, ex_2⟩ : ∃ y : Int32, x_1.toInt8.toInt32 = y := ⟨_, rfl⟩
  refine lv_i2b (v := x_2) hx hb dX11_feedNumber_18 ex_2 ?_
  refine va_bast hx hb hK.1 hP hD hS 1 0 rfl rfl (i := 0) (x := x_2) (by unfold vp_in; decide) dX11_feedNumber_19 (fun H locs hP hD hS => ?_)
  generalize upd ff (0 : Int32).toNatClampNeg (vp_nar .byte x_2) = f_3 at hP hD
  have hP : va_P g.1 vwCl [(x, .inr (11, [.ref xt, .int 0, .ref xr, .ref la, .ref lb, .ref sa, .int 0, .int 0, .ref ba, .int 0, .ref se, .ref si, .ref pa, .ref he])), (xt, aB g 1600 f_3)] H := hP
  have hD : va_D A [(x, .inr (11, [.ref xt, .int 0, .ref xr, .ref la, .ref lb, .ref sa, .int 0, .int 0, .ref ba, .int 0, .ref se, .ref si, .ref pa, .ref he])), (xt, aB g 1600 f_3)] := hD
  refine lv_aload_n hx hb dX11_feedNumber_20 rfl (lv_at hl 1 rfl) ?_
  refine lv_dup hx hb dX11_feedNumber_21 rfl ?_
  refine va_get (D := g.1) (ci := 11) (v := .int 0) (C := RX11) (T := TX11) (N := 14) hx hb hT inF_X11 hown hK.1 hP 0 rfl rfl 1 (by decide) (hT _ bw_161) (fun _ h9 => h9) rfl dX11_feedNumber_22 ?_
  refine lv_iconst (v := 1) hx hb dX11_feedNumber_25 (by decide) ?_
  refine lv_iadd hx hb dX11_feedNumber_26 ?_
  refine p_ti (v := 1) (by decide +kernel) ?_
  refine va_put (D := g.1) (ci := 11) (v := .int 1) (ty := .int) (C := RX11) (T := TX11) (N := 14) hx hb hT inF_X11 tyX11 tyX11_ok nmX11 hown hK.1 hP hD hS 0 rfl rfl 1 (by decide) (hT _ bw_161) (fun _ h9 => h9) rfl (by decide +kernel) rfl rfl (Nat.le_of_ble_eq_true rfl) dX11_feedNumber_27 (fun H locs hP hD hS => ?_)
  have hP : va_P g.1 vwCl [(x, .inr (11, [.ref xt, .int 1, .ref xr, .ref la, .ref lb, .ref sa, .int 0, .int 0, .ref ba, .int 0, .ref se, .ref si, .ref pa, .ref he])), (xt, aB g 1600 f_3)] H := hP
  have hD : va_D A [(x, .inr (11, [.ref xt, .int 1, .ref xr, .ref la, .ref lb, .ref sa, .int 0, .int 0, .ref ba, .int 0, .ref se, .ref si, .ref pa, .ref he])), (xt, aB g 1600 f_3)] := hD
  refine lv_iinc (v := 16) (lv' := [(2, .int 16), (0, .ref x), (1, .int p0)]) hx hb dX11_feedNumber_30 hl (k := 0) rfl (by decide) (by decide) rfl (fun ls hl => ?_)
  refine lv_goto (tgt := 3) hx hb dX11_feedNumber_33 (by decide) ?_
  refine lv_iload_n hx hb dX11_feedNumber_3 rfl (lv_at hl 0 rfl) ?_
  refine lv_if_lt (tgt := 36) hx hb dX11_feedNumber_4 (by decide) (fun c9 => absurd c9 (by decide)) (fun _ => ?_)
  refine lv_aload_n hx hb dX11_feedNumber_7 rfl (lv_at hl 1 rfl) ?_
  refine va_get (D := g.1) (ci := 11) (v := .ref xt) (C := RX11) (T := TX11) (N := 14) hx hb hT inF_X11 hown hK.1 hP 0 rfl rfl 0 (by decide) (hT _ bw_160) (fun _ h9 => h9) rfl dX11_feedNumber_8 ?_
  refine lv_aload_n hx hb dX11_feedNumber_11 rfl (lv_at hl 1 rfl) ?_
  refine va_get (D := g.1) (ci := 11) (v := .int 1) (C := RX11) (T := TX11) (N := 14) hx hb hT inF_X11 hown hK.1 hP 0 rfl rfl 1 (by decide) (hT _ bw_161) (fun _ h9 => h9) rfl dX11_feedNumber_12 ?_
  refine lv_iload_n hx hb dX11_feedNumber_15 rfl (lv_at hl 2 rfl) ?_
  refine lv_iload_n hx hb dX11_feedNumber_16 rfl (lv_at hl 0 rfl) ?_
  refine lv_ishr hx hb dX11_feedNumber_17 ?_
  refine lv_topi (fun x_4 ex_4 => ?_)
  obtain ⟨x_5, ex_5⟩ : ∃ y : Int32, x_4.toInt8.toInt32 = y := ⟨_, rfl⟩
  refine lv_i2b (v := x_5) hx hb dX11_feedNumber_18 ex_5 ?_
  refine va_bast hx hb hK.1 hP hD hS 1 0 rfl rfl (i := 1) (x := x_5) (by unfold vp_in; decide) dX11_feedNumber_19 (fun H locs hP hD hS => ?_)
  generalize upd f_3 (1 : Int32).toNatClampNeg (vp_nar .byte x_5) = f_6 at hP hD
  have hP : va_P g.1 vwCl [(x, .inr (11, [.ref xt, .int 1, .ref xr, .ref la, .ref lb, .ref sa, .int 0, .int 0, .ref ba, .int 0, .ref se, .ref si, .ref pa, .ref he])), (xt, aB g 1600 f_6)] H := hP
  have hD : va_D A [(x, .inr (11, [.ref xt, .int 1, .ref xr, .ref la, .ref lb, .ref sa, .int 0, .int 0, .ref ba, .int 0, .ref se, .ref si, .ref pa, .ref he])), (xt, aB g 1600 f_6)] := hD
  refine lv_aload_n hx hb dX11_feedNumber_20 rfl (lv_at hl 1 rfl) ?_
  refine lv_dup hx hb dX11_feedNumber_21 rfl ?_
  refine va_get (D := g.1) (ci := 11) (v := .int 1) (C := RX11) (T := TX11) (N := 14) hx hb hT inF_X11 hown hK.1 hP 0 rfl rfl 1 (by decide) (hT _ bw_161) (fun _ h9 => h9) rfl dX11_feedNumber_22 ?_
  refine lv_iconst (v := 1) hx hb dX11_feedNumber_25 (by decide) ?_
  refine lv_iadd hx hb dX11_feedNumber_26 ?_
  refine p_ti (v := 2) (by decide +kernel) ?_
  refine va_put (D := g.1) (ci := 11) (v := .int 2) (ty := .int) (C := RX11) (T := TX11) (N := 14) hx hb hT inF_X11 tyX11 tyX11_ok nmX11 hown hK.1 hP hD hS 0 rfl rfl 1 (by decide) (hT _ bw_161) (fun _ h9 => h9) rfl (by decide +kernel) rfl rfl (Nat.le_of_ble_eq_true rfl) dX11_feedNumber_27 (fun H locs hP hD hS => ?_)
  have hP : va_P g.1 vwCl [(x, .inr (11, [.ref xt, .int 2, .ref xr, .ref la, .ref lb, .ref sa, .int 0, .int 0, .ref ba, .int 0, .ref se, .ref si, .ref pa, .ref he])), (xt, aB g 1600 f_6)] H := hP
  have hD : va_D A [(x, .inr (11, [.ref xt, .int 2, .ref xr, .ref la, .ref lb, .ref sa, .int 0, .int 0, .ref ba, .int 0, .ref se, .ref si, .ref pa, .ref he])), (xt, aB g 1600 f_6)] := hD
  refine lv_iinc (v := 8) (lv' := [(2, .int 8), (0, .ref x), (1, .int p0)]) hx hb dX11_feedNumber_30 hl (k := 0) rfl (by decide) (by decide) rfl (fun ls hl => ?_)
  refine lv_goto (tgt := 3) hx hb dX11_feedNumber_33 (by decide) ?_
  refine lv_iload_n hx hb dX11_feedNumber_3 rfl (lv_at hl 0 rfl) ?_
  refine lv_if_lt (tgt := 36) hx hb dX11_feedNumber_4 (by decide) (fun c9 => absurd c9 (by decide)) (fun _ => ?_)
  refine lv_aload_n hx hb dX11_feedNumber_7 rfl (lv_at hl 1 rfl) ?_
  refine va_get (D := g.1) (ci := 11) (v := .ref xt) (C := RX11) (T := TX11) (N := 14) hx hb hT inF_X11 hown hK.1 hP 0 rfl rfl 0 (by decide) (hT _ bw_160) (fun _ h9 => h9) rfl dX11_feedNumber_8 ?_
  refine lv_aload_n hx hb dX11_feedNumber_11 rfl (lv_at hl 1 rfl) ?_
  refine va_get (D := g.1) (ci := 11) (v := .int 2) (C := RX11) (T := TX11) (N := 14) hx hb hT inF_X11 hown hK.1 hP 0 rfl rfl 1 (by decide) (hT _ bw_161) (fun _ h9 => h9) rfl dX11_feedNumber_12 ?_
  refine lv_iload_n hx hb dX11_feedNumber_15 rfl (lv_at hl 2 rfl) ?_
  refine lv_iload_n hx hb dX11_feedNumber_16 rfl (lv_at hl 0 rfl) ?_
  refine lv_ishr hx hb dX11_feedNumber_17 ?_
  refine lv_topi (fun x_7 ex_7 => ?_)
  obtain ⟨x_8, ex_8⟩ : ∃ y : Int32, x_7.toInt8.toInt32 = y := ⟨_, rfl⟩
  refine lv_i2b (v := x_8) hx hb dX11_feedNumber_18 ex_8 ?_
  refine va_bast hx hb hK.1 hP hD hS 1 0 rfl rfl (i := 2) (x := x_8) (by unfold vp_in; decide) dX11_feedNumber_19 (fun H locs hP hD hS => ?_)
  generalize upd f_6 (2 : Int32).toNatClampNeg (vp_nar .byte x_8) = f_9 at hP hD
  have hP : va_P g.1 vwCl [(x, .inr (11, [.ref xt, .int 2, .ref xr, .ref la, .ref lb, .ref sa, .int 0, .int 0, .ref ba, .int 0, .ref se, .ref si, .ref pa, .ref he])), (xt, aB g 1600 f_9)] H := hP
  have hD : va_D A [(x, .inr (11, [.ref xt, .int 2, .ref xr, .ref la, .ref lb, .ref sa, .int 0, .int 0, .ref ba, .int 0, .ref se, .ref si, .ref pa, .ref he])), (xt, aB g 1600 f_9)] := hD
  refine lv_aload_n hx hb dX11_feedNumber_20 rfl (lv_at hl 1 rfl) ?_
  refine lv_dup hx hb dX11_feedNumber_21 rfl ?_
  refine va_get (D := g.1) (ci := 11) (v := .int 2) (C := RX11) (T := TX11) (N := 14) hx hb hT inF_X11 hown hK.1 hP 0 rfl rfl 1 (by decide) (hT _ bw_161) (fun _ h9 => h9) rfl dX11_feedNumber_22 ?_
  refine lv_iconst (v := 1) hx hb dX11_feedNumber_25 (by decide) ?_
  refine lv_iadd hx hb dX11_feedNumber_26 ?_
  refine p_ti (v := 3) (by decide +kernel) ?_
  refine va_put (D := g.1) (ci := 11) (v := .int 3) (ty := .int) (C := RX11) (T := TX11) (N := 14) hx hb hT inF_X11 tyX11 tyX11_ok nmX11 hown hK.1 hP hD hS 0 rfl rfl 1 (by decide) (hT _ bw_161) (fun _ h9 => h9) rfl (by decide +kernel) rfl rfl (Nat.le_of_ble_eq_true rfl) dX11_feedNumber_27 (fun H locs hP hD hS => ?_)
  have hP : va_P g.1 vwCl [(x, .inr (11, [.ref xt, .int 3, .ref xr, .ref la, .ref lb, .ref sa, .int 0, .int 0, .ref ba, .int 0, .ref se, .ref si, .ref pa, .ref he])), (xt, aB g 1600 f_9)] H := hP
  have hD : va_D A [(x, .inr (11, [.ref xt, .int 3, .ref xr, .ref la, .ref lb, .ref sa, .int 0, .int 0, .ref ba, .int 0, .ref se, .ref si, .ref pa, .ref he])), (xt, aB g 1600 f_9)] := hD
  refine lv_iinc (v := 0) (lv' := [(2, .int 0), (0, .ref x), (1, .int p0)]) hx hb dX11_feedNumber_30 hl (k := 0) rfl (by decide) (by decide) rfl (fun ls hl => ?_)
  refine lv_goto (tgt := 3) hx hb dX11_feedNumber_33 (by decide) ?_
  refine lv_iload_n hx hb dX11_feedNumber_3 rfl (lv_at hl 0 rfl) ?_
  refine lv_if_lt (tgt := 36) hx hb dX11_feedNumber_4 (by decide) (fun c9 => absurd c9 (by decide)) (fun _ => ?_)
  refine lv_aload_n hx hb dX11_feedNumber_7 rfl (lv_at hl 1 rfl) ?_
  refine va_get (D := g.1) (ci := 11) (v := .ref xt) (C := RX11) (T := TX11) (N := 14) hx hb hT inF_X11 hown hK.1 hP 0 rfl rfl 0 (by decide) (hT _ bw_160) (fun _ h9 => h9) rfl dX11_feedNumber_8 ?_
  refine lv_aload_n hx hb dX11_feedNumber_11 rfl (lv_at hl 1 rfl) ?_
  refine va_get (D := g.1) (ci := 11) (v := .int 3) (C := RX11) (T := TX11) (N := 14) hx hb hT inF_X11 hown hK.1 hP 0 rfl rfl 1 (by decide) (hT _ bw_161) (fun _ h9 => h9) rfl dX11_feedNumber_12 ?_
  refine lv_iload_n hx hb dX11_feedNumber_15 rfl (lv_at hl 2 rfl) ?_
  refine lv_iload_n hx hb dX11_feedNumber_16 rfl (lv_at hl 0 rfl) ?_
  refine lv_ishr hx hb dX11_feedNumber_17 ?_
  refine lv_topi (fun x_10 ex_10 => ?_)
  obtain ⟨x_11, ex_11⟩ : ∃ y : Int32, x_10.toInt8.toInt32 = y := ⟨_, rfl⟩
  refine lv_i2b (v := x_11) hx hb dX11_feedNumber_18 ex_11 ?_
  refine va_bast hx hb hK.1 hP hD hS 1 0 rfl rfl (i := 3) (x := x_11) (by unfold vp_in; decide) dX11_feedNumber_19 (fun H locs hP hD hS => ?_)
  generalize upd f_9 (3 : Int32).toNatClampNeg (vp_nar .byte x_11) = f_12 at hP hD
  have hP : va_P g.1 vwCl [(x, .inr (11, [.ref xt, .int 3, .ref xr, .ref la, .ref lb, .ref sa, .int 0, .int 0, .ref ba, .int 0, .ref se, .ref si, .ref pa, .ref he])), (xt, aB g 1600 f_12)] H := hP
  have hD : va_D A [(x, .inr (11, [.ref xt, .int 3, .ref xr, .ref la, .ref lb, .ref sa, .int 0, .int 0, .ref ba, .int 0, .ref se, .ref si, .ref pa, .ref he])), (xt, aB g 1600 f_12)] := hD
  refine lv_aload_n hx hb dX11_feedNumber_20 rfl (lv_at hl 1 rfl) ?_
  refine lv_dup hx hb dX11_feedNumber_21 rfl ?_
  refine va_get (D := g.1) (ci := 11) (v := .int 3) (C := RX11) (T := TX11) (N := 14) hx hb hT inF_X11 hown hK.1 hP 0 rfl rfl 1 (by decide) (hT _ bw_161) (fun _ h9 => h9) rfl dX11_feedNumber_22 ?_
  refine lv_iconst (v := 1) hx hb dX11_feedNumber_25 (by decide) ?_
  refine lv_iadd hx hb dX11_feedNumber_26 ?_
  refine p_ti (v := 4) (by decide +kernel) ?_
  refine va_put (D := g.1) (ci := 11) (v := .int 4) (ty := .int) (C := RX11) (T := TX11) (N := 14) hx hb hT inF_X11 tyX11 tyX11_ok nmX11 hown hK.1 hP hD hS 0 rfl rfl 1 (by decide) (hT _ bw_161) (fun _ h9 => h9) rfl (by decide +kernel) rfl rfl (Nat.le_of_ble_eq_true rfl) dX11_feedNumber_27 (fun H locs hP hD hS => ?_)
  have hP : va_P g.1 vwCl [(x, .inr (11, [.ref xt, .int 4, .ref xr, .ref la, .ref lb, .ref sa, .int 0, .int 0, .ref ba, .int 0, .ref se, .ref si, .ref pa, .ref he])), (xt, aB g 1600 f_12)] H := hP
  have hD : va_D A [(x, .inr (11, [.ref xt, .int 4, .ref xr, .ref la, .ref lb, .ref sa, .int 0, .int 0, .ref ba, .int 0, .ref se, .ref si, .ref pa, .ref he])), (xt, aB g 1600 f_12)] := hD
  refine lv_iinc (v := (-8)) (lv' := [(2, .int (-8)), (0, .ref x), (1, .int p0)]) hx hb dX11_feedNumber_30 hl (k := 0) rfl (by decide) (by decide) rfl (fun ls hl => ?_)
  refine lv_goto (tgt := 3) hx hb dX11_feedNumber_33 (by decide) ?_
  refine lv_iload_n hx hb dX11_feedNumber_3 rfl (lv_at hl 0 rfl) ?_
  refine lv_if_lt (tgt := 36) hx hb dX11_feedNumber_4 (by decide) (fun _ => ?_) (fun c9 => absurd (by decide) c9)
  have hP9 : va_P g.1 vwCl [(x, .inr (11, [.ref xt, .int 4, .ref xr, .ref la, .ref lb, .ref sa, .int 0, .int 0, .ref ba, .int 0, .ref se, .ref si, .ref pa, .ref he])), (xt, aB g 1600 f_12)] H := hP.sub [0, 1] rfl
  have hD9 : va_D A [(x, .inr (11, [.ref xt, .int 4, .ref xr, .ref la, .ref lb, .ref sa, .int 0, .int 0, .ref ba, .int 0, .ref se, .ref si, .ref pa, .ref he])), (xt, aB g 1600 f_12)] := hD.sub [0, 1] (by decide) rfl
  exact W.vret hx hb hr (fun t ht hW => ⟨⟨f_12, rfl, trivial, by rw [ht]; exact hP9, by rw [hAe]; exact hD9⟩, hS.F ht⟩) hS.2.2 dX11_feedNumber_36

set_option maxHeartbeats 4000000 in
set_option maxRecDepth 100000 in
theorem c_X11_feedNumber_4 (l : Launch) (g : GG) (sz : Nat) (x : Nat) (xt : Nat) (xr : Nat) (la : Nat) (lb : Nat) (sa : Nat) (ba : Nat) (se : Nat) (si : Nat) (pa : Nat) (he : Nat) (ff : Nat → Int32) (p0 : Int32) : Met l yX11_feedNumber (.code yX11_feedNumber cX11_feedNumber 3 none :: gT) ({ frames := 0, cells := 0, slots := 0, locals := 0 }) (va_Pc [.ref x, .int p0] (Pst g sz [(x, .inr (11, [.ref xt, .int 4, .ref xr, .ref la, .ref lb, .ref sa, .int 0, .int 0, .ref ba, .int 0, .ref se, .ref si, .ref pa, .ref he])), (xt, aB g 1600 ff)] nX)) (va_Qv (fun (_ : (Nat → Int32)) => True) (Qst g [(x, .inr (11, [.ref xt, .int 4, .ref xr, .ref la, .ref lb, .ref sa, .int 0, .int 0, .ref ba, .int 0, .ref se, .ref si, .ref pa, .ref he])), (xt, aB g 1600 ff)] sz (fun (f_12 : Nat → Int32) => [(x, .inr (11, [.ref xt, .int 8, .ref xr, .ref la, .ref lb, .ref sa, .int 0, .int 0, .ref ba, .int 0, .ref se, .ref si, .ref pa, .ref he])), (xt, aB g 1600 f_12)])) (va_A [(x, .inr (11, [.ref xt, .int 4, .ref xr, .ref la, .ref lb, .ref sa, .int 0, .int 0, .ref ba, .int 0, .ref se, .ref si, .ref pa, .ref he])), (xt, aB g 1600 ff)] sz)) 0 0 (va_A [(x, .inr (11, [.ref xt, .int 4, .ref xr, .ref la, .ref lb, .ref sa, .int 0, .int 0, .ref ba, .int 0, .ref se, .ref si, .ref pa, .ref he])), (xt, aB g 1600 ff)] sz) := by
  refine Met.ofW (cc := cX11_feedNumber) (maxL := 3) (ret := none) (by decide) rfl ?_
  intro p e s m args below meth c s₁ B hml hv
  obtain ⟨rfl, hsz, hP, hK, hD0, hX⟩ := hv
  have hx := B.exec
  have hb := B.bytes
  have hr := B.returns
  have hT : ∀ w ∈ gT, w.before _ s = true := fun w h => atoms_spec (ws := .code yX11_feedNumber cX11_feedNumber 3 none :: gT) B.pre w (List.mem_cons_of_mem _ h)
  have hown : s.vm.findClass RX11 = some m.cls := findClass_of_methodNamed B.named
  have hlocks := B.notSynchronized
  subst hsz
  have hD := hD0.self (sz := s.heap.size)
  generalize hAe : va_A [(x, .inr (11, [.ref xt, .int 4, .ref xr, .ref la, .ref lb, .ref sa, .int 0, .int 0, .ref ba, .int 0, .ref se, .ref si, .ref pa, .ref he])), (xt, aB g 1600 ff)] s.heap.size = A at hD ⊢
  have hA : ∀ q : Nat, s.heap.size ≤ q → A q := fun q h => by rw [← hAe]; exact Or.inr h
  have hS : va_S A s.heap s.heap [] := va_S.rf
  have hl := lv_entry ([.ref x, .int p0]) (n := 3) (Nat.le_of_ble_eq_true rfl)
  rw [lg_entry_eq]
  generalize (lg_sl ([.ref x, .int p0]) ++ List.replicate (3 - (lg_sl ([.ref x, .int p0])).length) Slot.unset).toArray = ls at hl ⊢
  have hl : lv_has ls 3 [(0, .ref x), (1, .int p0)] := hl
  refine p_nH (fun H hH => ?_)
  have hP : va_P g.1 vwCl [(x, .inr (11, [.ref xt, .int 4, .ref xr, .ref la, .ref lb, .ref sa, .int 0, .int 0, .ref ba, .int 0, .ref se, .ref si, .ref pa, .ref he])), (xt, aB g 1600 ff)] H := by rw [hH]; exact hP
  have hS : va_S A s.heap H [] := by rw [hH]; exact hS
  refine lv_bipush (v := 24) hx hb dX11_feedNumber_0 (by decide) ?_
  refine lv_istore_n (lv' := [(2, .int 24), (0, .ref x), (1, .int p0)]) hx hb dX11_feedNumber_2 rfl hl (by decide) rfl (fun ls hl => ?_)
  refine lv_iload_n hx hb dX11_feedNumber_3 rfl (lv_at hl 0 rfl) ?_
  refine lv_if_lt (tgt := 36) hx hb dX11_feedNumber_4 (by decide) (fun c9 => absurd c9 (by decide)) (fun _ => ?_)
  refine lv_aload_n hx hb dX11_feedNumber_7 rfl (lv_at hl 1 rfl) ?_
  refine va_get (D := g.1) (ci := 11) (v := .ref xt) (C := RX11) (T := TX11) (N := 14) hx hb hT inF_X11 hown hK.1 hP 0 rfl rfl 0 (by decide) (hT _ bw_160) (fun _ h9 => h9) rfl dX11_feedNumber_8 ?_
  refine lv_aload_n hx hb dX11_feedNumber_11 rfl (lv_at hl 1 rfl) ?_
  refine va_get (D := g.1) (ci := 11) (v := .int 4) (C := RX11) (T := TX11) (N := 14) hx hb hT inF_X11 hown hK.1 hP 0 rfl rfl 1 (by decide) (hT _ bw_161) (fun _ h9 => h9) rfl dX11_feedNumber_12 ?_
  refine lv_iload_n hx hb dX11_feedNumber_15 rfl (lv_at hl 2 rfl) ?_
  refine lv_iload_n hx hb dX11_feedNumber_16 rfl (lv_at hl 0 rfl) ?_
  refine lv_ishr hx hb dX11_feedNumber_17 ?_
  refine lv_topi (fun x_1 ex_1 => ?_)
  obtain ⟨x_2, ex_2⟩ : ∃ y : Int32, x_1.toInt8.toInt32 = y := ⟨_, rfl⟩
  refine lv_i2b (v := x_2) hx hb dX11_feedNumber_18 ex_2 ?_
  refine va_bast hx hb hK.1 hP hD hS 1 0 rfl rfl (i := 4) (x := x_2) (by unfold vp_in; decide) dX11_feedNumber_19 (fun H locs hP hD hS => ?_)
  generalize upd ff (4 : Int32).toNatClampNeg (vp_nar .byte x_2) = f_3 at hP hD
  have hP : va_P g.1 vwCl [(x, .inr (11, [.ref xt, .int 4, .ref xr, .ref la, .ref lb, .ref sa, .int 0, .int 0, .ref ba, .int 0, .ref se, .ref si, .ref pa, .ref he])), (xt, aB g 1600 f_3)] H := hP
  have hD : va_D A [(x, .inr (11, [.ref xt, .int 4, .ref xr, .ref la, .ref lb, .ref sa, .int 0, .int 0, .ref ba, .int 0, .ref se, .ref si, .ref pa, .ref he])), (xt, aB g 1600 f_3)] := hD
  refine lv_aload_n hx hb dX11_feedNumber_20 rfl (lv_at hl 1 rfl) ?_
  refine lv_dup hx hb dX11_feedNumber_21 rfl ?_
  refine va_get (D := g.1) (ci := 11) (v := .int 4) (C := RX11) (T := TX11) (N := 14) hx hb hT inF_X11 hown hK.1 hP 0 rfl rfl 1 (by decide) (hT _ bw_161) (fun _ h9 => h9) rfl dX11_feedNumber_22 ?_
  refine lv_iconst (v := 1) hx hb dX11_feedNumber_25 (by decide) ?_
  refine lv_iadd hx hb dX11_feedNumber_26 ?_
  refine p_ti (v := 5) (by decide +kernel) ?_
  refine va_put (D := g.1) (ci := 11) (v := .int 5) (ty := .int) (C := RX11) (T := TX11) (N := 14) hx hb hT inF_X11 tyX11 tyX11_ok nmX11 hown hK.1 hP hD hS 0 rfl rfl 1 (by decide) (hT _ bw_161) (fun _ h9 => h9) rfl (by decide +kernel) rfl rfl (Nat.le_of_ble_eq_true rfl) dX11_feedNumber_27 (fun H locs hP hD hS => ?_)
  have hP : va_P g.1 vwCl [(x, .inr (11, [.ref xt, .int 5, .ref xr, .ref la, .ref lb, .ref sa, .int 0, .int 0, .ref ba, .int 0, .ref se, .ref si, .ref pa, .ref he])), (xt, aB g 1600 f_3)] H := hP
  have hD : va_D A [(x, .inr (11, [.ref xt, .int 5, .ref xr, .ref la, .ref lb, .ref sa, .int 0, .int 0, .ref ba, .int 0, .ref se, .ref si, .ref pa, .ref he])), (xt, aB g 1600 f_3)] := hD
  refine lv_iinc (v := 16) (lv' := [(2, .int 16), (0, .ref x), (1, .int p0)]) hx hb dX11_feedNumber_30 hl (k := 0) rfl (by decide) (by decide) rfl (fun ls hl => ?_)
  refine lv_goto (tgt := 3) hx hb dX11_feedNumber_33 (by decide) ?_
  refine lv_iload_n hx hb dX11_feedNumber_3 rfl (lv_at hl 0 rfl) ?_
  refine lv_if_lt (tgt := 36) hx hb dX11_feedNumber_4 (by decide) (fun c9 => absurd c9 (by decide)) (fun _ => ?_)
  refine lv_aload_n hx hb dX11_feedNumber_7 rfl (lv_at hl 1 rfl) ?_
  refine va_get (D := g.1) (ci := 11) (v := .ref xt) (C := RX11) (T := TX11) (N := 14) hx hb hT inF_X11 hown hK.1 hP 0 rfl rfl 0 (by decide) (hT _ bw_160) (fun _ h9 => h9) rfl dX11_feedNumber_8 ?_
  refine lv_aload_n hx hb dX11_feedNumber_11 rfl (lv_at hl 1 rfl) ?_
  refine va_get (D := g.1) (ci := 11) (v := .int 5) (C := RX11) (T := TX11) (N := 14) hx hb hT inF_X11 hown hK.1 hP 0 rfl rfl 1 (by decide) (hT _ bw_161) (fun _ h9 => h9) rfl dX11_feedNumber_12 ?_
  refine lv_iload_n hx hb dX11_feedNumber_15 rfl (lv_at hl 2 rfl) ?_
  refine lv_iload_n hx hb dX11_feedNumber_16 rfl (lv_at hl 0 rfl) ?_
  refine lv_ishr hx hb dX11_feedNumber_17 ?_
  refine lv_topi (fun x_4 ex_4 => ?_)
  obtain ⟨x_5, ex_5⟩ : ∃ y : Int32, x_4.toInt8.toInt32 = y := ⟨_, rfl⟩
  refine lv_i2b (v := x_5) hx hb dX11_feedNumber_18 ex_5 ?_
  refine va_bast hx hb hK.1 hP hD hS 1 0 rfl rfl (i := 5) (x := x_5) (by unfold vp_in; decide) dX11_feedNumber_19 (fun H locs hP hD hS => ?_)
  generalize upd f_3 (5 : Int32).toNatClampNeg (vp_nar .byte x_5) = f_6 at hP hD
  have hP : va_P g.1 vwCl [(x, .inr (11, [.ref xt, .int 5, .ref xr, .ref la, .ref lb, .ref sa, .int 0, .int 0, .ref ba, .int 0, .ref se, .ref si, .ref pa, .ref he])), (xt, aB g 1600 f_6)] H := hP
  have hD : va_D A [(x, .inr (11, [.ref xt, .int 5, .ref xr, .ref la, .ref lb, .ref sa, .int 0, .int 0, .ref ba, .int 0, .ref se, .ref si, .ref pa, .ref he])), (xt, aB g 1600 f_6)] := hD
  refine lv_aload_n hx hb dX11_feedNumber_20 rfl (lv_at hl 1 rfl) ?_
  refine lv_dup hx hb dX11_feedNumber_21 rfl ?_
  refine va_get (D := g.1) (ci := 11) (v := .int 5) (C := RX11) (T := TX11) (N := 14) hx hb hT inF_X11 hown hK.1 hP 0 rfl rfl 1 (by decide) (hT _ bw_161) (fun _ h9 => h9) rfl dX11_feedNumber_22 ?_
  refine lv_iconst (v := 1) hx hb dX11_feedNumber_25 (by decide) ?_
  refine lv_iadd hx hb dX11_feedNumber_26 ?_
  refine p_ti (v := 6) (by decide +kernel) ?_
  refine va_put (D := g.1) (ci := 11) (v := .int 6) (ty := .int) (C := RX11) (T := TX11) (N := 14) hx hb hT inF_X11 tyX11 tyX11_ok nmX11 hown hK.1 hP hD hS 0 rfl rfl 1 (by decide) (hT _ bw_161) (fun _ h9 => h9) rfl (by decide +kernel) rfl rfl (Nat.le_of_ble_eq_true rfl) dX11_feedNumber_27 (fun H locs hP hD hS => ?_)
  have hP : va_P g.1 vwCl [(x, .inr (11, [.ref xt, .int 6, .ref xr, .ref la, .ref lb, .ref sa, .int 0, .int 0, .ref ba, .int 0, .ref se, .ref si, .ref pa, .ref he])), (xt, aB g 1600 f_6)] H := hP
  have hD : va_D A [(x, .inr (11, [.ref xt, .int 6, .ref xr, .ref la, .ref lb, .ref sa, .int 0, .int 0, .ref ba, .int 0, .ref se, .ref si, .ref pa, .ref he])), (xt, aB g 1600 f_6)] := hD
  refine lv_iinc (v := 8) (lv' := [(2, .int 8), (0, .ref x), (1, .int p0)]) hx hb dX11_feedNumber_30 hl (k := 0) rfl (by decide) (by decide) rfl (fun ls hl => ?_)
  refine lv_goto (tgt := 3) hx hb dX11_feedNumber_33 (by decide) ?_
  refine lv_iload_n hx hb dX11_feedNumber_3 rfl (lv_at hl 0 rfl) ?_
  refine lv_if_lt (tgt := 36) hx hb dX11_feedNumber_4 (by decide) (fun c9 => absurd c9 (by decide)) (fun _ => ?_)
  refine lv_aload_n hx hb dX11_feedNumber_7 rfl (lv_at hl 1 rfl) ?_
  refine va_get (D := g.1) (ci := 11) (v := .ref xt) (C := RX11) (T := TX11) (N := 14) hx hb hT inF_X11 hown hK.1 hP 0 rfl rfl 0 (by decide) (hT _ bw_160) (fun _ h9 => h9) rfl dX11_feedNumber_8 ?_
  refine lv_aload_n hx hb dX11_feedNumber_11 rfl (lv_at hl 1 rfl) ?_
  refine va_get (D := g.1) (ci := 11) (v := .int 6) (C := RX11) (T := TX11) (N := 14) hx hb hT inF_X11 hown hK.1 hP 0 rfl rfl 1 (by decide) (hT _ bw_161) (fun _ h9 => h9) rfl dX11_feedNumber_12 ?_
  refine lv_iload_n hx hb dX11_feedNumber_15 rfl (lv_at hl 2 rfl) ?_
  refine lv_iload_n hx hb dX11_feedNumber_16 rfl (lv_at hl 0 rfl) ?_
  refine lv_ishr hx hb dX11_feedNumber_17 ?_
  refine lv_topi (fun x_7 ex_7 => ?_)
  obtain ⟨x_8, ex_8⟩ : ∃ y : Int32, x_7.toInt8.toInt32 = y := ⟨_, rfl⟩
  refine lv_i2b (v := x_8) hx hb dX11_feedNumber_18 ex_8 ?_
  refine va_bast hx hb hK.1 hP hD hS 1 0 rfl rfl (i := 6) (x := x_8) (by unfold vp_in; decide) dX11_feedNumber_19 (fun H locs hP hD hS => ?_)
  generalize upd f_6 (6 : Int32).toNatClampNeg (vp_nar .byte x_8) = f_9 at hP hD
  have hP : va_P g.1 vwCl [(x, .inr (11, [.ref xt, .int 6, .ref xr, .ref la, .ref lb, .ref sa, .int 0, .int 0, .ref ba, .int 0, .ref se, .ref si, .ref pa, .ref he])), (xt, aB g 1600 f_9)] H := hP
  have hD : va_D A [(x, .inr (11, [.ref xt, .int 6, .ref xr, .ref la, .ref lb, .ref sa, .int 0, .int 0, .ref ba, .int 0, .ref se, .ref si, .ref pa, .ref he])), (xt, aB g 1600 f_9)] := hD
  refine lv_aload_n hx hb dX11_feedNumber_20 rfl (lv_at hl 1 rfl) ?_
  refine lv_dup hx hb dX11_feedNumber_21 rfl ?_
  refine va_get (D := g.1) (ci := 11) (v := .int 6) (C := RX11) (T := TX11) (N := 14) hx hb hT inF_X11 hown hK.1 hP 0 rfl rfl 1 (by decide) (hT _ bw_161) (fun _ h9 => h9) rfl dX11_feedNumber_22 ?_
  refine lv_iconst (v := 1) hx hb dX11_feedNumber_25 (by decide) ?_
  refine lv_iadd hx hb dX11_feedNumber_26 ?_
  refine p_ti (v := 7) (by decide +kernel) ?_
  refine va_put (D := g.1) (ci := 11) (v := .int 7) (ty := .int) (C := RX11) (T := TX11) (N := 14) hx hb hT inF_X11 tyX11 tyX11_ok nmX11 hown hK.1 hP hD hS 0 rfl rfl 1 (by decide) (hT _ bw_161) (fun _ h9 => h9) rfl (by decide +kernel) rfl rfl (Nat.le_of_ble_eq_true rfl) dX11_feedNumber_27 (fun H locs hP hD hS => ?_)
  have hP : va_P g.1 vwCl [(x, .inr (11, [.ref xt, .int 7, .ref xr, .ref la, .ref lb, .ref sa, .int 0, .int 0, .ref ba, .int 0, .ref se, .ref si, .ref pa, .ref he])), (xt, aB g 1600 f_9)] H := hP
  have hD : va_D A [(x, .inr (11, [.ref xt, .int 7, .ref xr, .ref la, .ref lb, .ref sa, .int 0, .int 0, .ref ba, .int 0, .ref se, .ref si, .ref pa, .ref he])), (xt, aB g 1600 f_9)] := hD
  refine lv_iinc (v := 0) (lv' := [(2, .int 0), (0, .ref x), (1, .int p0)]) hx hb dX11_feedNumber_30 hl (k := 0) rfl (by decide) (by decide) rfl (fun ls hl => ?_)
  refine lv_goto (tgt := 3) hx hb dX11_feedNumber_33 (by decide) ?_
  refine lv_iload_n hx hb dX11_feedNumber_3 rfl (lv_at hl 0 rfl) ?_
  refine lv_if_lt (tgt := 36) hx hb dX11_feedNumber_4 (by decide) (fun c9 => absurd c9 (by decide)) (fun _ => ?_)
  refine lv_aload_n hx hb dX11_feedNumber_7 rfl (lv_at hl 1 rfl) ?_
  refine va_get (D := g.1) (ci := 11) (v := .ref xt) (C := RX11) (T := TX11) (N := 14) hx hb hT inF_X11 hown hK.1 hP 0 rfl rfl 0 (by decide) (hT _ bw_160) (fun _ h9 => h9) rfl dX11_feedNumber_8 ?_
  refine lv_aload_n hx hb dX11_feedNumber_11 rfl (lv_at hl 1 rfl) ?_
  refine va_get (D := g.1) (ci := 11) (v := .int 7) (C := RX11) (T := TX11) (N := 14) hx hb hT inF_X11 hown hK.1 hP 0 rfl rfl 1 (by decide) (hT _ bw_161) (fun _ h9 => h9) rfl dX11_feedNumber_12 ?_
  refine lv_iload_n hx hb dX11_feedNumber_15 rfl (lv_at hl 2 rfl) ?_
  refine lv_iload_n hx hb dX11_feedNumber_16 rfl (lv_at hl 0 rfl) ?_
  refine lv_ishr hx hb dX11_feedNumber_17 ?_
  refine lv_topi (fun x_10 ex_10 => ?_)
  obtain ⟨x_11, ex_11⟩ : ∃ y : Int32, x_10.toInt8.toInt32 = y := ⟨_, rfl⟩
  refine lv_i2b (v := x_11) hx hb dX11_feedNumber_18 ex_11 ?_
  refine va_bast hx hb hK.1 hP hD hS 1 0 rfl rfl (i := 7) (x := x_11) (by unfold vp_in; decide) dX11_feedNumber_19 (fun H locs hP hD hS => ?_)
  generalize upd f_9 (7 : Int32).toNatClampNeg (vp_nar .byte x_11) = f_12 at hP hD
  have hP : va_P g.1 vwCl [(x, .inr (11, [.ref xt, .int 7, .ref xr, .ref la, .ref lb, .ref sa, .int 0, .int 0, .ref ba, .int 0, .ref se, .ref si, .ref pa, .ref he])), (xt, aB g 1600 f_12)] H := hP
  have hD : va_D A [(x, .inr (11, [.ref xt, .int 7, .ref xr, .ref la, .ref lb, .ref sa, .int 0, .int 0, .ref ba, .int 0, .ref se, .ref si, .ref pa, .ref he])), (xt, aB g 1600 f_12)] := hD
  refine lv_aload_n hx hb dX11_feedNumber_20 rfl (lv_at hl 1 rfl) ?_
  refine lv_dup hx hb dX11_feedNumber_21 rfl ?_
  refine va_get (D := g.1) (ci := 11) (v := .int 7) (C := RX11) (T := TX11) (N := 14) hx hb hT inF_X11 hown hK.1 hP 0 rfl rfl 1 (by decide) (hT _ bw_161) (fun _ h9 => h9) rfl dX11_feedNumber_22 ?_
  refine lv_iconst (v := 1) hx hb dX11_feedNumber_25 (by decide) ?_
  refine lv_iadd hx hb dX11_feedNumber_26 ?_
  refine p_ti (v := 8) (by decide +kernel) ?_
  refine va_put (D := g.1) (ci := 11) (v := .int 8) (ty := .int) (C := RX11) (T := TX11) (N := 14) hx hb hT inF_X11 tyX11 tyX11_ok nmX11 hown hK.1 hP hD hS 0 rfl rfl 1 (by decide) (hT _ bw_161) (fun _ h9 => h9) rfl (by decide +kernel) rfl rfl (Nat.le_of_ble_eq_true rfl) dX11_feedNumber_27 (fun H locs hP hD hS => ?_)
  have hP : va_P g.1 vwCl [(x, .inr (11, [.ref xt, .int 8, .ref xr, .ref la, .ref lb, .ref sa, .int 0, .int 0, .ref ba, .int 0, .ref se, .ref si, .ref pa, .ref he])), (xt, aB g 1600 f_12)] H := hP
  have hD : va_D A [(x, .inr (11, [.ref xt, .int 8, .ref xr, .ref la, .ref lb, .ref sa, .int 0, .int 0, .ref ba, .int 0, .ref se, .ref si, .ref pa, .ref he])), (xt, aB g 1600 f_12)] := hD
  refine lv_iinc (v := (-8)) (lv' := [(2, .int (-8)), (0, .ref x), (1, .int p0)]) hx hb dX11_feedNumber_30 hl (k := 0) rfl (by decide) (by decide) rfl (fun ls hl => ?_)
  refine lv_goto (tgt := 3) hx hb dX11_feedNumber_33 (by decide) ?_
  refine lv_iload_n hx hb dX11_feedNumber_3 rfl (lv_at hl 0 rfl) ?_
  refine lv_if_lt (tgt := 36) hx hb dX11_feedNumber_4 (by decide) (fun _ => ?_) (fun c9 => absurd (by decide) c9)
  have hP9 : va_P g.1 vwCl [(x, .inr (11, [.ref xt, .int 8, .ref xr, .ref la, .ref lb, .ref sa, .int 0, .int 0, .ref ba, .int 0, .ref se, .ref si, .ref pa, .ref he])), (xt, aB g 1600 f_12)] H := hP.sub [0, 1] rfl
  have hD9 : va_D A [(x, .inr (11, [.ref xt, .int 8, .ref xr, .ref la, .ref lb, .ref sa, .int 0, .int 0, .ref ba, .int 0, .ref se, .ref si, .ref pa, .ref he])), (xt, aB g 1600 f_12)] := hD.sub [0, 1] (by decide) rfl
  exact W.vret hx hb hr (fun t ht hW => ⟨⟨f_12, rfl, trivial, by rw [ht]; exact hP9, by rw [hAe]; exact hD9⟩, hS.F ht⟩) hS.2.2 dX11_feedNumber_36

set_option maxHeartbeats 4000000 in
set_option maxRecDepth 100000 in
theorem c_X11_feedNumber_8 (l : Launch) (g : GG) (sz : Nat) (x : Nat) (xt : Nat) (xr : Nat) (la : Nat) (lb : Nat) (sa : Nat) (ba : Nat) (se : Nat) (si : Nat) (pa : Nat) (he : Nat) (ff : Nat → Int32) (p0 : Int32) : Met l yX11_feedNumber (.code yX11_feedNumber cX11_feedNumber 3 none :: gT) ({ frames := 0, cells := 0, slots := 0, locals := 0 }) (va_Pc [.ref x, .int p0] (Pst g sz [(x, .inr (11, [.ref xt, .int 8, .ref xr, .ref la, .ref lb, .ref sa, .int 0, .int 0, .ref ba, .int 0, .ref se, .ref si, .ref pa, .ref he])), (xt, aB g 1600 ff)] nX)) (va_Qv (fun (_ : (Nat → Int32)) => True) (Qst g [(x, .inr (11, [.ref xt, .int 8, .ref xr, .ref la, .ref lb, .ref sa, .int 0, .int 0, .ref ba, .int 0, .ref se, .ref si, .ref pa, .ref he])), (xt, aB g 1600 ff)] sz (fun (f_12 : Nat → Int32) => [(x, .inr (11, [.ref xt, .int 12, .ref xr, .ref la, .ref lb, .ref sa, .int 0, .int 0, .ref ba, .int 0, .ref se, .ref si, .ref pa, .ref he])), (xt, aB g 1600 f_12)])) (va_A [(x, .inr (11, [.ref xt, .int 8, .ref xr, .ref la, .ref lb, .ref sa, .int 0, .int 0, .ref ba, .int 0, .ref se, .ref si, .ref pa, .ref he])), (xt, aB g 1600 ff)] sz)) 0 0 (va_A [(x, .inr (11, [.ref xt, .int 8, .ref xr, .ref la, .ref lb, .ref sa, .int 0, .int 0, .ref ba, .int 0, .ref se, .ref si, .ref pa, .ref he])), (xt, aB g 1600 ff)] sz) := by
  refine Met.ofW (cc := cX11_feedNumber) (maxL := 3) (ret := none) (by decide) rfl ?_
  intro p e s m args below meth c s₁ B hml hv
  obtain ⟨rfl, hsz, hP, hK, hD0, hX⟩ := hv
  have hx := B.exec
  have hb := B.bytes
  have hr := B.returns
  have hT : ∀ w ∈ gT, w.before _ s = true := fun w h => atoms_spec (ws := .code yX11_feedNumber cX11_feedNumber 3 none :: gT) B.pre w (List.mem_cons_of_mem _ h)
  have hown : s.vm.findClass RX11 = some m.cls := findClass_of_methodNamed B.named
  have hlocks := B.notSynchronized
  subst hsz
  have hD := hD0.self (sz := s.heap.size)
  generalize hAe : va_A [(x, .inr (11, [.ref xt, .int 8, .ref xr, .ref la, .ref lb, .ref sa, .int 0, .int 0, .ref ba, .int 0, .ref se, .ref si, .ref pa, .ref he])), (xt, aB g 1600 ff)] s.heap.size = A at hD ⊢
  have hA : ∀ q : Nat, s.heap.size ≤ q → A q := fun q h => by rw [← hAe]; exact Or.inr h
  have hS : va_S A s.heap s.heap [] := va_S.rf
  have hl := lv_entry ([.ref x, .int p0]) (n := 3) (Nat.le_of_ble_eq_true rfl)
  rw [lg_entry_eq]
  generalize (lg_sl ([.ref x, .int p0]) ++ List.replicate (3 - (lg_sl ([.ref x, .int p0])).length) Slot.unset).toArray = ls at hl ⊢
  have hl : lv_has ls 3 [(0, .ref x), (1, .int p0)] := hl
  refine p_nH (fun H hH => ?_)
  have hP : va_P g.1 vwCl [(x, .inr (11, [.ref xt, .int 8, .ref xr, .ref la, .ref lb, .ref sa, .int 0, .int 0, .ref ba, .int 0, .ref se, .ref si, .ref pa, .ref he])), (xt, aB g 1600 ff)] H := by rw [hH]; exact hP
  have hS : va_S A s.heap H [] := by rw [hH]; exact hS
  refine lv_bipush (v := 24) hx hb dX11_feedNumber_0 (by decide) ?_
  refine lv_istore_n (lv' := [(2, .int 24), (0, .ref x), (1, .int p0)]) hx hb dX11_feedNumber_2 rfl hl (by decide) rfl (fun ls hl => ?_)
  refine lv_iload_n hx hb dX11_feedNumber_3 rfl (lv_at hl 0 rfl) ?_
  refine lv_if_lt (tgt := 36) hx hb dX11_feedNumber_4 (by decide) (fun c9 => absurd c9 (by decide)) (fun _ => ?_)
  refine lv_aload_n hx hb dX11_feedNumber_7 rfl (lv_at hl 1 rfl) ?_
  refine va_get (D := g.1) (ci := 11) (v := .ref xt) (C := RX11) (T := TX11) (N := 14) hx hb hT inF_X11 hown hK.1 hP 0 rfl rfl 0 (by decide) (hT _ bw_160) (fun _ h9 => h9) rfl dX11_feedNumber_8 ?_
  refine lv_aload_n hx hb dX11_feedNumber_11 rfl (lv_at hl 1 rfl) ?_
  refine va_get (D := g.1) (ci := 11) (v := .int 8) (C := RX11) (T := TX11) (N := 14) hx hb hT inF_X11 hown hK.1 hP 0 rfl rfl 1 (by decide) (hT _ bw_161) (fun _ h9 => h9) rfl dX11_feedNumber_12 ?_
  refine lv_iload_n hx hb dX11_feedNumber_15 rfl (lv_at hl 2 rfl) ?_
  refine lv_iload_n hx hb dX11_feedNumber_16 rfl (lv_at hl 0 rfl) ?_
  refine lv_ishr hx hb dX11_feedNumber_17 ?_
  refine lv_topi (fun x_1 ex_1 => ?_)
  obtain ⟨x_2, ex_2⟩ : ∃ y : Int32, x_1.toInt8.toInt32 = y := ⟨_, rfl⟩
  refine lv_i2b (v := x_2) hx hb dX11_feedNumber_18 ex_2 ?_
  refine va_bast hx hb hK.1 hP hD hS 1 0 rfl rfl (i := 8) (x := x_2) (by unfold vp_in; decide) dX11_feedNumber_19 (fun H locs hP hD hS => ?_)
  generalize upd ff (8 : Int32).toNatClampNeg (vp_nar .byte x_2) = f_3 at hP hD
  have hP : va_P g.1 vwCl [(x, .inr (11, [.ref xt, .int 8, .ref xr, .ref la, .ref lb, .ref sa, .int 0, .int 0, .ref ba, .int 0, .ref se, .ref si, .ref pa, .ref he])), (xt, aB g 1600 f_3)] H := hP
  have hD : va_D A [(x, .inr (11, [.ref xt, .int 8, .ref xr, .ref la, .ref lb, .ref sa, .int 0, .int 0, .ref ba, .int 0, .ref se, .ref si, .ref pa, .ref he])), (xt, aB g 1600 f_3)] := hD
  refine lv_aload_n hx hb dX11_feedNumber_20 rfl (lv_at hl 1 rfl) ?_
  refine lv_dup hx hb dX11_feedNumber_21 rfl ?_
  refine va_get (D := g.1) (ci := 11) (v := .int 8) (C := RX11) (T := TX11) (N := 14) hx hb hT inF_X11 hown hK.1 hP 0 rfl rfl 1 (by decide) (hT _ bw_161) (fun _ h9 => h9) rfl dX11_feedNumber_22 ?_
  refine lv_iconst (v := 1) hx hb dX11_feedNumber_25 (by decide) ?_
  refine lv_iadd hx hb dX11_feedNumber_26 ?_
  refine p_ti (v := 9) (by decide +kernel) ?_
  refine va_put (D := g.1) (ci := 11) (v := .int 9) (ty := .int) (C := RX11) (T := TX11) (N := 14) hx hb hT inF_X11 tyX11 tyX11_ok nmX11 hown hK.1 hP hD hS 0 rfl rfl 1 (by decide) (hT _ bw_161) (fun _ h9 => h9) rfl (by decide +kernel) rfl rfl (Nat.le_of_ble_eq_true rfl) dX11_feedNumber_27 (fun H locs hP hD hS => ?_)
  have hP : va_P g.1 vwCl [(x, .inr (11, [.ref xt, .int 9, .ref xr, .ref la, .ref lb, .ref sa, .int 0, .int 0, .ref ba, .int 0, .ref se, .ref si, .ref pa, .ref he])), (xt, aB g 1600 f_3)] H := hP
  have hD : va_D A [(x, .inr (11, [.ref xt, .int 9, .ref xr, .ref la, .ref lb, .ref sa, .int 0, .int 0, .ref ba, .int 0, .ref se, .ref si, .ref pa, .ref he])), (xt, aB g 1600 f_3)] := hD
  refine lv_iinc (v := 16) (lv' := [(2, .int 16), (0, .ref x), (1, .int p0)]) hx hb dX11_feedNumber_30 hl (k := 0) rfl (by decide) (by decide) rfl (fun ls hl => ?_)
  refine lv_goto (tgt := 3) hx hb dX11_feedNumber_33 (by decide) ?_
  refine lv_iload_n hx hb dX11_feedNumber_3 rfl (lv_at hl 0 rfl) ?_
  refine lv_if_lt (tgt := 36) hx hb dX11_feedNumber_4 (by decide) (fun c9 => absurd c9 (by decide)) (fun _ => ?_)
  refine lv_aload_n hx hb dX11_feedNumber_7 rfl (lv_at hl 1 rfl) ?_
  refine va_get (D := g.1) (ci := 11) (v := .ref xt) (C := RX11) (T := TX11) (N := 14) hx hb hT inF_X11 hown hK.1 hP 0 rfl rfl 0 (by decide) (hT _ bw_160) (fun _ h9 => h9) rfl dX11_feedNumber_8 ?_
  refine lv_aload_n hx hb dX11_feedNumber_11 rfl (lv_at hl 1 rfl) ?_
  refine va_get (D := g.1) (ci := 11) (v := .int 9) (C := RX11) (T := TX11) (N := 14) hx hb hT inF_X11 hown hK.1 hP 0 rfl rfl 1 (by decide) (hT _ bw_161) (fun _ h9 => h9) rfl dX11_feedNumber_12 ?_
  refine lv_iload_n hx hb dX11_feedNumber_15 rfl (lv_at hl 2 rfl) ?_
  refine lv_iload_n hx hb dX11_feedNumber_16 rfl (lv_at hl 0 rfl) ?_
  refine lv_ishr hx hb dX11_feedNumber_17 ?_
  refine lv_topi (fun x_4 ex_4 => ?_)
  obtain ⟨x_5, ex_5⟩ : ∃ y : Int32, x_4.toInt8.toInt32 = y := ⟨_, rfl⟩
  refine lv_i2b (v := x_5) hx hb dX11_feedNumber_18 ex_5 ?_
  refine va_bast hx hb hK.1 hP hD hS 1 0 rfl rfl (i := 9) (x := x_5) (by unfold vp_in; decide) dX11_feedNumber_19 (fun H locs hP hD hS => ?_)
  generalize upd f_3 (9 : Int32).toNatClampNeg (vp_nar .byte x_5) = f_6 at hP hD
  have hP : va_P g.1 vwCl [(x, .inr (11, [.ref xt, .int 9, .ref xr, .ref la, .ref lb, .ref sa, .int 0, .int 0, .ref ba, .int 0, .ref se, .ref si, .ref pa, .ref he])), (xt, aB g 1600 f_6)] H := hP
  have hD : va_D A [(x, .inr (11, [.ref xt, .int 9, .ref xr, .ref la, .ref lb, .ref sa, .int 0, .int 0, .ref ba, .int 0, .ref se, .ref si, .ref pa, .ref he])), (xt, aB g 1600 f_6)] := hD
  refine lv_aload_n hx hb dX11_feedNumber_20 rfl (lv_at hl 1 rfl) ?_
  refine lv_dup hx hb dX11_feedNumber_21 rfl ?_
  refine va_get (D := g.1) (ci := 11) (v := .int 9) (C := RX11) (T := TX11) (N := 14) hx hb hT inF_X11 hown hK.1 hP 0 rfl rfl 1 (by decide) (hT _ bw_161) (fun _ h9 => h9) rfl dX11_feedNumber_22 ?_
  refine lv_iconst (v := 1) hx hb dX11_feedNumber_25 (by decide) ?_
  refine lv_iadd hx hb dX11_feedNumber_26 ?_
  refine p_ti (v := 10) (by decide +kernel) ?_
  refine va_put (D := g.1) (ci := 11) (v := .int 10) (ty := .int) (C := RX11) (T := TX11) (N := 14) hx hb hT inF_X11 tyX11 tyX11_ok nmX11 hown hK.1 hP hD hS 0 rfl rfl 1 (by decide) (hT _ bw_161) (fun _ h9 => h9) rfl (by decide +kernel) rfl rfl (Nat.le_of_ble_eq_true rfl) dX11_feedNumber_27 (fun H locs hP hD hS => ?_)
  have hP : va_P g.1 vwCl [(x, .inr (11, [.ref xt, .int 10, .ref xr, .ref la, .ref lb, .ref sa, .int 0, .int 0, .ref ba, .int 0, .ref se, .ref si, .ref pa, .ref he])), (xt, aB g 1600 f_6)] H := hP
  have hD : va_D A [(x, .inr (11, [.ref xt, .int 10, .ref xr, .ref la, .ref lb, .ref sa, .int 0, .int 0, .ref ba, .int 0, .ref se, .ref si, .ref pa, .ref he])), (xt, aB g 1600 f_6)] := hD
  refine lv_iinc (v := 8) (lv' := [(2, .int 8), (0, .ref x), (1, .int p0)]) hx hb dX11_feedNumber_30 hl (k := 0) rfl (by decide) (by decide) rfl (fun ls hl => ?_)
  refine lv_goto (tgt := 3) hx hb dX11_feedNumber_33 (by decide) ?_
  refine lv_iload_n hx hb dX11_feedNumber_3 rfl (lv_at hl 0 rfl) ?_
  refine lv_if_lt (tgt := 36) hx hb dX11_feedNumber_4 (by decide) (fun c9 => absurd c9 (by decide)) (fun _ => ?_)
  refine lv_aload_n hx hb dX11_feedNumber_7 rfl (lv_at hl 1 rfl) ?_
  refine va_get (D := g.1) (ci := 11) (v := .ref xt) (C := RX11) (T := TX11) (N := 14) hx hb hT inF_X11 hown hK.1 hP 0 rfl rfl 0 (by decide) (hT _ bw_160) (fun _ h9 => h9) rfl dX11_feedNumber_8 ?_
  refine lv_aload_n hx hb dX11_feedNumber_11 rfl (lv_at hl 1 rfl) ?_
  refine va_get (D := g.1) (ci := 11) (v := .int 10) (C := RX11) (T := TX11) (N := 14) hx hb hT inF_X11 hown hK.1 hP 0 rfl rfl 1 (by decide) (hT _ bw_161) (fun _ h9 => h9) rfl dX11_feedNumber_12 ?_
  refine lv_iload_n hx hb dX11_feedNumber_15 rfl (lv_at hl 2 rfl) ?_
  refine lv_iload_n hx hb dX11_feedNumber_16 rfl (lv_at hl 0 rfl) ?_
  refine lv_ishr hx hb dX11_feedNumber_17 ?_
  refine lv_topi (fun x_7 ex_7 => ?_)
  obtain ⟨x_8, ex_8⟩ : ∃ y : Int32, x_7.toInt8.toInt32 = y := ⟨_, rfl⟩
  refine lv_i2b (v := x_8) hx hb dX11_feedNumber_18 ex_8 ?_
  refine va_bast hx hb hK.1 hP hD hS 1 0 rfl rfl (i := 10) (x := x_8) (by unfold vp_in; decide) dX11_feedNumber_19 (fun H locs hP hD hS => ?_)
  generalize upd f_6 (10 : Int32).toNatClampNeg (vp_nar .byte x_8) = f_9 at hP hD
  have hP : va_P g.1 vwCl [(x, .inr (11, [.ref xt, .int 10, .ref xr, .ref la, .ref lb, .ref sa, .int 0, .int 0, .ref ba, .int 0, .ref se, .ref si, .ref pa, .ref he])), (xt, aB g 1600 f_9)] H := hP
  have hD : va_D A [(x, .inr (11, [.ref xt, .int 10, .ref xr, .ref la, .ref lb, .ref sa, .int 0, .int 0, .ref ba, .int 0, .ref se, .ref si, .ref pa, .ref he])), (xt, aB g 1600 f_9)] := hD
  refine lv_aload_n hx hb dX11_feedNumber_20 rfl (lv_at hl 1 rfl) ?_
  refine lv_dup hx hb dX11_feedNumber_21 rfl ?_
  refine va_get (D := g.1) (ci := 11) (v := .int 10) (C := RX11) (T := TX11) (N := 14) hx hb hT inF_X11 hown hK.1 hP 0 rfl rfl 1 (by decide) (hT _ bw_161) (fun _ h9 => h9) rfl dX11_feedNumber_22 ?_
  refine lv_iconst (v := 1) hx hb dX11_feedNumber_25 (by decide) ?_
  refine lv_iadd hx hb dX11_feedNumber_26 ?_
  refine p_ti (v := 11) (by decide +kernel) ?_
  refine va_put (D := g.1) (ci := 11) (v := .int 11) (ty := .int) (C := RX11) (T := TX11) (N := 14) hx hb hT inF_X11 tyX11 tyX11_ok nmX11 hown hK.1 hP hD hS 0 rfl rfl 1 (by decide) (hT _ bw_161) (fun _ h9 => h9) rfl (by decide +kernel) rfl rfl (Nat.le_of_ble_eq_true rfl) dX11_feedNumber_27 (fun H locs hP hD hS => ?_)
  have hP : va_P g.1 vwCl [(x, .inr (11, [.ref xt, .int 11, .ref xr, .ref la, .ref lb, .ref sa, .int 0, .int 0, .ref ba, .int 0, .ref se, .ref si, .ref pa, .ref he])), (xt, aB g 1600 f_9)] H := hP
  have hD : va_D A [(x, .inr (11, [.ref xt, .int 11, .ref xr, .ref la, .ref lb, .ref sa, .int 0, .int 0, .ref ba, .int 0, .ref se, .ref si, .ref pa, .ref he])), (xt, aB g 1600 f_9)] := hD
  refine lv_iinc (v := 0) (lv' := [(2, .int 0), (0, .ref x), (1, .int p0)]) hx hb dX11_feedNumber_30 hl (k := 0) rfl (by decide) (by decide) rfl (fun ls hl => ?_)
  refine lv_goto (tgt := 3) hx hb dX11_feedNumber_33 (by decide) ?_
  refine lv_iload_n hx hb dX11_feedNumber_3 rfl (lv_at hl 0 rfl) ?_
  refine lv_if_lt (tgt := 36) hx hb dX11_feedNumber_4 (by decide) (fun c9 => absurd c9 (by decide)) (fun _ => ?_)
  refine lv_aload_n hx hb dX11_feedNumber_7 rfl (lv_at hl 1 rfl) ?_
  refine va_get (D := g.1) (ci := 11) (v := .ref xt) (C := RX11) (T := TX11) (N := 14) hx hb hT inF_X11 hown hK.1 hP 0 rfl rfl 0 (by decide) (hT _ bw_160) (fun _ h9 => h9) rfl dX11_feedNumber_8 ?_
  refine lv_aload_n hx hb dX11_feedNumber_11 rfl (lv_at hl 1 rfl) ?_
  refine va_get (D := g.1) (ci := 11) (v := .int 11) (C := RX11) (T := TX11) (N := 14) hx hb hT inF_X11 hown hK.1 hP 0 rfl rfl 1 (by decide) (hT _ bw_161) (fun _ h9 => h9) rfl dX11_feedNumber_12 ?_
  refine lv_iload_n hx hb dX11_feedNumber_15 rfl (lv_at hl 2 rfl) ?_
  refine lv_iload_n hx hb dX11_feedNumber_16 rfl (lv_at hl 0 rfl) ?_
  refine lv_ishr hx hb dX11_feedNumber_17 ?_
  refine lv_topi (fun x_10 ex_10 => ?_)
  obtain ⟨x_11, ex_11⟩ : ∃ y : Int32, x_10.toInt8.toInt32 = y := ⟨_, rfl⟩
  refine lv_i2b (v := x_11) hx hb dX11_feedNumber_18 ex_11 ?_
  refine va_bast hx hb hK.1 hP hD hS 1 0 rfl rfl (i := 11) (x := x_11) (by unfold vp_in; decide) dX11_feedNumber_19 (fun H locs hP hD hS => ?_)
  generalize upd f_9 (11 : Int32).toNatClampNeg (vp_nar .byte x_11) = f_12 at hP hD
  have hP : va_P g.1 vwCl [(x, .inr (11, [.ref xt, .int 11, .ref xr, .ref la, .ref lb, .ref sa, .int 0, .int 0, .ref ba, .int 0, .ref se, .ref si, .ref pa, .ref he])), (xt, aB g 1600 f_12)] H := hP
  have hD : va_D A [(x, .inr (11, [.ref xt, .int 11, .ref xr, .ref la, .ref lb, .ref sa, .int 0, .int 0, .ref ba, .int 0, .ref se, .ref si, .ref pa, .ref he])), (xt, aB g 1600 f_12)] := hD
  refine lv_aload_n hx hb dX11_feedNumber_20 rfl (lv_at hl 1 rfl) ?_
  refine lv_dup hx hb dX11_feedNumber_21 rfl ?_
  refine va_get (D := g.1) (ci := 11) (v := .int 11) (C := RX11) (T := TX11) (N := 14) hx hb hT inF_X11 hown hK.1 hP 0 rfl rfl 1 (by decide) (hT _ bw_161) (fun _ h9 => h9) rfl dX11_feedNumber_22 ?_
  refine lv_iconst (v := 1) hx hb dX11_feedNumber_25 (by decide) ?_
  refine lv_iadd hx hb dX11_feedNumber_26 ?_
  refine p_ti (v := 12) (by decide +kernel) ?_
  refine va_put (D := g.1) (ci := 11) (v := .int 12) (ty := .int) (C := RX11) (T := TX11) (N := 14) hx hb hT inF_X11 tyX11 tyX11_ok nmX11 hown hK.1 hP hD hS 0 rfl rfl 1 (by decide) (hT _ bw_161) (fun _ h9 => h9) rfl (by decide +kernel) rfl rfl (Nat.le_of_ble_eq_true rfl) dX11_feedNumber_27 (fun H locs hP hD hS => ?_)
  have hP : va_P g.1 vwCl [(x, .inr (11, [.ref xt, .int 12, .ref xr, .ref la, .ref lb, .ref sa, .int 0, .int 0, .ref ba, .int 0, .ref se, .ref si, .ref pa, .ref he])), (xt, aB g 1600 f_12)] H := hP
  have hD : va_D A [(x, .inr (11, [.ref xt, .int 12, .ref xr, .ref la, .ref lb, .ref sa, .int 0, .int 0, .ref ba, .int 0, .ref se, .ref si, .ref pa, .ref he])), (xt, aB g 1600 f_12)] := hD
  refine lv_iinc (v := (-8)) (lv' := [(2, .int (-8)), (0, .ref x), (1, .int p0)]) hx hb dX11_feedNumber_30 hl (k := 0) rfl (by decide) (by decide) rfl (fun ls hl => ?_)
  refine lv_goto (tgt := 3) hx hb dX11_feedNumber_33 (by decide) ?_
  refine lv_iload_n hx hb dX11_feedNumber_3 rfl (lv_at hl 0 rfl) ?_
  refine lv_if_lt (tgt := 36) hx hb dX11_feedNumber_4 (by decide) (fun _ => ?_) (fun c9 => absurd (by decide) c9)
  have hP9 : va_P g.1 vwCl [(x, .inr (11, [.ref xt, .int 12, .ref xr, .ref la, .ref lb, .ref sa, .int 0, .int 0, .ref ba, .int 0, .ref se, .ref si, .ref pa, .ref he])), (xt, aB g 1600 f_12)] H := hP.sub [0, 1] rfl
  have hD9 : va_D A [(x, .inr (11, [.ref xt, .int 12, .ref xr, .ref la, .ref lb, .ref sa, .int 0, .int 0, .ref ba, .int 0, .ref se, .ref si, .ref pa, .ref he])), (xt, aB g 1600 f_12)] := hD.sub [0, 1] (by decide) rfl
  exact W.vret hx hb hr (fun t ht hW => ⟨⟨f_12, rfl, trivial, by rw [ht]; exact hP9, by rw [hAe]; exact hD9⟩, hS.F ht⟩) hS.2.2 dX11_feedNumber_36

set_option maxHeartbeats 4000000 in
set_option maxRecDepth 100000 in
theorem c_X11_feedNumber_12 (l : Launch) (g : GG) (sz : Nat) (x : Nat) (xt : Nat) (xr : Nat) (la : Nat) (lb : Nat) (sa : Nat) (ba : Nat) (se : Nat) (si : Nat) (pa : Nat) (he : Nat) (ff : Nat → Int32) (p0 : Int32) : Met l yX11_feedNumber (.code yX11_feedNumber cX11_feedNumber 3 none :: gT) ({ frames := 0, cells := 0, slots := 0, locals := 0 }) (va_Pc [.ref x, .int p0] (Pst g sz [(x, .inr (11, [.ref xt, .int 12, .ref xr, .ref la, .ref lb, .ref sa, .int 0, .int 0, .ref ba, .int 0, .ref se, .ref si, .ref pa, .ref he])), (xt, aB g 1600 ff)] nX)) (va_Qv (fun (_ : (Nat → Int32)) => True) (Qst g [(x, .inr (11, [.ref xt, .int 12, .ref xr, .ref la, .ref lb, .ref sa, .int 0, .int 0, .ref ba, .int 0, .ref se, .ref si, .ref pa, .ref he])), (xt, aB g 1600 ff)] sz (fun (f_12 : Nat → Int32) => [(x, .inr (11, [.ref xt, .int 16, .ref xr, .ref la, .ref lb, .ref sa, .int 0, .int 0, .ref ba, .int 0, .ref se, .ref si, .ref pa, .ref he])), (xt, aB g 1600 f_12)])) (va_A [(x, .inr (11, [.ref xt, .int 12, .ref xr, .ref la, .ref lb, .ref sa, .int 0, .int 0, .ref ba, .int 0, .ref se, .ref si, .ref pa, .ref he])), (xt, aB g 1600 ff)] sz)) 0 0 (va_A [(x, .inr (11, [.ref xt, .int 12, .ref xr, .ref la, .ref lb, .ref sa, .int 0, .int 0, .ref ba, .int 0, .ref se, .ref si, .ref pa, .ref he])), (xt, aB g 1600 ff)] sz) := by
  refine Met.ofW (cc := cX11_feedNumber) (maxL := 3) (ret := none) (by decide) rfl ?_
  intro p e s m args below meth c s₁ B hml hv
  obtain ⟨rfl, hsz, hP, hK, hD0, hX⟩ := hv
  have hx := B.exec
  have hb := B.bytes
  have hr := B.returns
  have hT : ∀ w ∈ gT, w.before _ s = true := fun w h => atoms_spec (ws := .code yX11_feedNumber cX11_feedNumber 3 none :: gT) B.pre w (List.mem_cons_of_mem _ h)
  have hown : s.vm.findClass RX11 = some m.cls := findClass_of_methodNamed B.named
  have hlocks := B.notSynchronized
  subst hsz
  have hD := hD0.self (sz := s.heap.size)
  generalize hAe : va_A [(x, .inr (11, [.ref xt, .int 12, .ref xr, .ref la, .ref lb, .ref sa, .int 0, .int 0, .ref ba, .int 0, .ref se, .ref si, .ref pa, .ref he])), (xt, aB g 1600 ff)] s.heap.size = A at hD ⊢
  have hA : ∀ q : Nat, s.heap.size ≤ q → A q := fun q h => by rw [← hAe]; exact Or.inr h
  have hS : va_S A s.heap s.heap [] := va_S.rf
  have hl := lv_entry ([.ref x, .int p0]) (n := 3) (Nat.le_of_ble_eq_true rfl)
  rw [lg_entry_eq]
  generalize (lg_sl ([.ref x, .int p0]) ++ List.replicate (3 - (lg_sl ([.ref x, .int p0])).length) Slot.unset).toArray = ls at hl ⊢
  have hl : lv_has ls 3 [(0, .ref x), (1, .int p0)] := hl
  refine p_nH (fun H hH => ?_)
  have hP : va_P g.1 vwCl [(x, .inr (11, [.ref xt, .int 12, .ref xr, .ref la, .ref lb, .ref sa, .int 0, .int 0, .ref ba, .int 0, .ref se, .ref si, .ref pa, .ref he])), (xt, aB g 1600 ff)] H := by rw [hH]; exact hP
  have hS : va_S A s.heap H [] := by rw [hH]; exact hS
  refine lv_bipush (v := 24) hx hb dX11_feedNumber_0 (by decide) ?_
  refine lv_istore_n (lv' := [(2, .int 24), (0, .ref x), (1, .int p0)]) hx hb dX11_feedNumber_2 rfl hl (by decide) rfl (fun ls hl => ?_)
  refine lv_iload_n hx hb dX11_feedNumber_3 rfl (lv_at hl 0 rfl) ?_
  refine lv_if_lt (tgt := 36) hx hb dX11_feedNumber_4 (by decide) (fun c9 => absurd c9 (by decide)) (fun _ => ?_)
  refine lv_aload_n hx hb dX11_feedNumber_7 rfl (lv_at hl 1 rfl) ?_
  refine va_get (D := g.1) (ci := 11) (v := .ref xt) (C := RX11) (T := TX11) (N := 14) hx hb hT inF_X11 hown hK.1 hP 0 rfl rfl 0 (by decide) (hT _ bw_160) (fun _ h9 => h9) rfl dX11_feedNumber_8 ?_
  refine lv_aload_n hx hb dX11_feedNumber_11 rfl (lv_at hl 1 rfl) ?_
  refine va_get (D := g.1) (ci := 11) (v := .int 12) (C := RX11) (T := TX11) (N := 14) hx hb hT inF_X11 hown hK.1 hP 0 rfl rfl 1 (by decide) (hT _ bw_161) (fun _ h9 => h9) rfl dX11_feedNumber_12 ?_
  refine lv_iload_n hx hb dX11_feedNumber_15 rfl (lv_at hl 2 rfl) ?_
  refine lv_iload_n hx hb dX11_feedNumber_16 rfl (lv_at hl 0 rfl) ?_
  refine lv_ishr hx hb dX11_feedNumber_17 ?_
  refine lv_topi (fun x_1 ex_1 => ?_)
  obtain ⟨x_2, ex_2⟩ : ∃ y : Int32, x_1.toInt8.toInt32 = y := ⟨_, rfl⟩
  refine lv_i2b (v := x_2) hx hb dX11_feedNumber_18 ex_2 ?_
  refine va_bast hx hb hK.1 hP hD hS 1 0 rfl rfl (i := 12) (x := x_2) (by unfold vp_in; decide) dX11_feedNumber_19 (fun H locs hP hD hS => ?_)
  generalize upd ff (12 : Int32).toNatClampNeg (vp_nar .byte x_2) = f_3 at hP hD
  have hP : va_P g.1 vwCl [(x, .inr (11, [.ref xt, .int 12, .ref xr, .ref la, .ref lb, .ref sa, .int 0, .int 0, .ref ba, .int 0, .ref se, .ref si, .ref pa, .ref he])), (xt, aB g 1600 f_3)] H := hP
  have hD : va_D A [(x, .inr (11, [.ref xt, .int 12, .ref xr, .ref la, .ref lb, .ref sa, .int 0, .int 0, .ref ba, .int 0, .ref se, .ref si, .ref pa, .ref he])), (xt, aB g 1600 f_3)] := hD
  refine lv_aload_n hx hb dX11_feedNumber_20 rfl (lv_at hl 1 rfl) ?_
  refine lv_dup hx hb dX11_feedNumber_21 rfl ?_
  refine va_get (D := g.1) (ci := 11) (v := .int 12) (C := RX11) (T := TX11) (N := 14) hx hb hT inF_X11 hown hK.1 hP 0 rfl rfl 1 (by decide) (hT _ bw_161) (fun _ h9 => h9) rfl dX11_feedNumber_22 ?_
  refine lv_iconst (v := 1) hx hb dX11_feedNumber_25 (by decide) ?_
  refine lv_iadd hx hb dX11_feedNumber_26 ?_
  refine p_ti (v := 13) (by decide +kernel) ?_
  refine va_put (D := g.1) (ci := 11) (v := .int 13) (ty := .int) (C := RX11) (T := TX11) (N := 14) hx hb hT inF_X11 tyX11 tyX11_ok nmX11 hown hK.1 hP hD hS 0 rfl rfl 1 (by decide) (hT _ bw_161) (fun _ h9 => h9) rfl (by decide +kernel) rfl rfl (Nat.le_of_ble_eq_true rfl) dX11_feedNumber_27 (fun H locs hP hD hS => ?_)
  have hP : va_P g.1 vwCl [(x, .inr (11, [.ref xt, .int 13, .ref xr, .ref la, .ref lb, .ref sa, .int 0, .int 0, .ref ba, .int 0, .ref se, .ref si, .ref pa, .ref he])), (xt, aB g 1600 f_3)] H := hP
  have hD : va_D A [(x, .inr (11, [.ref xt, .int 13, .ref xr, .ref la, .ref lb, .ref sa, .int 0, .int 0, .ref ba, .int 0, .ref se, .ref si, .ref pa, .ref he])), (xt, aB g 1600 f_3)] := hD
  refine lv_iinc (v := 16) (lv' := [(2, .int 16), (0, .ref x), (1, .int p0)]) hx hb dX11_feedNumber_30 hl (k := 0) rfl (by decide) (by decide) rfl (fun ls hl => ?_)
  refine lv_goto (tgt := 3) hx hb dX11_feedNumber_33 (by decide) ?_
  refine lv_iload_n hx hb dX11_feedNumber_3 rfl (lv_at hl 0 rfl) ?_
  refine lv_if_lt (tgt := 36) hx hb dX11_feedNumber_4 (by decide) (fun c9 => absurd c9 (by decide)) (fun _ => ?_)
  refine lv_aload_n hx hb dX11_feedNumber_7 rfl (lv_at hl 1 rfl) ?_
  refine va_get (D := g.1) (ci := 11) (v := .ref xt) (C := RX11) (T := TX11) (N := 14) hx hb hT inF_X11 hown hK.1 hP 0 rfl rfl 0 (by decide) (hT _ bw_160) (fun _ h9 => h9) rfl dX11_feedNumber_8 ?_
  refine lv_aload_n hx hb dX11_feedNumber_11 rfl (lv_at hl 1 rfl) ?_
  refine va_get (D := g.1) (ci := 11) (v := .int 13) (C := RX11) (T := TX11) (N := 14) hx hb hT inF_X11 hown hK.1 hP 0 rfl rfl 1 (by decide) (hT _ bw_161) (fun _ h9 => h9) rfl dX11_feedNumber_12 ?_
  refine lv_iload_n hx hb dX11_feedNumber_15 rfl (lv_at hl 2 rfl) ?_
  refine lv_iload_n hx hb dX11_feedNumber_16 rfl (lv_at hl 0 rfl) ?_
  refine lv_ishr hx hb dX11_feedNumber_17 ?_
  refine lv_topi (fun x_4 ex_4 => ?_)
  obtain ⟨x_5, ex_5⟩ : ∃ y : Int32, x_4.toInt8.toInt32 = y := ⟨_, rfl⟩
  refine lv_i2b (v := x_5) hx hb dX11_feedNumber_18 ex_5 ?_
  refine va_bast hx hb hK.1 hP hD hS 1 0 rfl rfl (i := 13) (x := x_5) (by unfold vp_in; decide) dX11_feedNumber_19 (fun H locs hP hD hS => ?_)
  generalize upd f_3 (13 : Int32).toNatClampNeg (vp_nar .byte x_5) = f_6 at hP hD
  have hP : va_P g.1 vwCl [(x, .inr (11, [.ref xt, .int 13, .ref xr, .ref la, .ref lb, .ref sa, .int 0, .int 0, .ref ba, .int 0, .ref se, .ref si, .ref pa, .ref he])), (xt, aB g 1600 f_6)] H := hP
  have hD : va_D A [(x, .inr (11, [.ref xt, .int 13, .ref xr, .ref la, .ref lb, .ref sa, .int 0, .int 0, .ref ba, .int 0, .ref se, .ref si, .ref pa, .ref he])), (xt, aB g 1600 f_6)] := hD
  refine lv_aload_n hx hb dX11_feedNumber_20 rfl (lv_at hl 1 rfl) ?_
  refine lv_dup hx hb dX11_feedNumber_21 rfl ?_
  refine va_get (D := g.1) (ci := 11) (v := .int 13) (C := RX11) (T := TX11) (N := 14) hx hb hT inF_X11 hown hK.1 hP 0 rfl rfl 1 (by decide) (hT _ bw_161) (fun _ h9 => h9) rfl dX11_feedNumber_22 ?_
  refine lv_iconst (v := 1) hx hb dX11_feedNumber_25 (by decide) ?_
  refine lv_iadd hx hb dX11_feedNumber_26 ?_
  refine p_ti (v := 14) (by decide +kernel) ?_
  refine va_put (D := g.1) (ci := 11) (v := .int 14) (ty := .int) (C := RX11) (T := TX11) (N := 14) hx hb hT inF_X11 tyX11 tyX11_ok nmX11 hown hK.1 hP hD hS 0 rfl rfl 1 (by decide) (hT _ bw_161) (fun _ h9 => h9) rfl (by decide +kernel) rfl rfl (Nat.le_of_ble_eq_true rfl) dX11_feedNumber_27 (fun H locs hP hD hS => ?_)
  have hP : va_P g.1 vwCl [(x, .inr (11, [.ref xt, .int 14, .ref xr, .ref la, .ref lb, .ref sa, .int 0, .int 0, .ref ba, .int 0, .ref se, .ref si, .ref pa, .ref he])), (xt, aB g 1600 f_6)] H := hP
  have hD : va_D A [(x, .inr (11, [.ref xt, .int 14, .ref xr, .ref la, .ref lb, .ref sa, .int 0, .int 0, .ref ba, .int 0, .ref se, .ref si, .ref pa, .ref he])), (xt, aB g 1600 f_6)] := hD
  refine lv_iinc (v := 8) (lv' := [(2, .int 8), (0, .ref x), (1, .int p0)]) hx hb dX11_feedNumber_30 hl (k := 0) rfl (by decide) (by decide) rfl (fun ls hl => ?_)
  refine lv_goto (tgt := 3) hx hb dX11_feedNumber_33 (by decide) ?_
  refine lv_iload_n hx hb dX11_feedNumber_3 rfl (lv_at hl 0 rfl) ?_
  refine lv_if_lt (tgt := 36) hx hb dX11_feedNumber_4 (by decide) (fun c9 => absurd c9 (by decide)) (fun _ => ?_)
  refine lv_aload_n hx hb dX11_feedNumber_7 rfl (lv_at hl 1 rfl) ?_
  refine va_get (D := g.1) (ci := 11) (v := .ref xt) (C := RX11) (T := TX11) (N := 14) hx hb hT inF_X11 hown hK.1 hP 0 rfl rfl 0 (by decide) (hT _ bw_160) (fun _ h9 => h9) rfl dX11_feedNumber_8 ?_
  refine lv_aload_n hx hb dX11_feedNumber_11 rfl (lv_at hl 1 rfl) ?_
  refine va_get (D := g.1) (ci := 11) (v := .int 14) (C := RX11) (T := TX11) (N := 14) hx hb hT inF_X11 hown hK.1 hP 0 rfl rfl 1 (by decide) (hT _ bw_161) (fun _ h9 => h9) rfl dX11_feedNumber_12 ?_
  refine lv_iload_n hx hb dX11_feedNumber_15 rfl (lv_at hl 2 rfl) ?_
  refine lv_iload_n hx hb dX11_feedNumber_16 rfl (lv_at hl 0 rfl) ?_
  refine lv_ishr hx hb dX11_feedNumber_17 ?_
  refine lv_topi (fun x_7 ex_7 => ?_)
  obtain ⟨x_8, ex_8⟩ : ∃ y : Int32, x_7.toInt8.toInt32 = y := ⟨_, rfl⟩
  refine lv_i2b (v := x_8) hx hb dX11_feedNumber_18 ex_8 ?_
  refine va_bast hx hb hK.1 hP hD hS 1 0 rfl rfl (i := 14) (x := x_8) (by unfold vp_in; decide) dX11_feedNumber_19 (fun H locs hP hD hS => ?_)
  generalize upd f_6 (14 : Int32).toNatClampNeg (vp_nar .byte x_8) = f_9 at hP hD
  have hP : va_P g.1 vwCl [(x, .inr (11, [.ref xt, .int 14, .ref xr, .ref la, .ref lb, .ref sa, .int 0, .int 0, .ref ba, .int 0, .ref se, .ref si, .ref pa, .ref he])), (xt, aB g 1600 f_9)] H := hP
  have hD : va_D A [(x, .inr (11, [.ref xt, .int 14, .ref xr, .ref la, .ref lb, .ref sa, .int 0, .int 0, .ref ba, .int 0, .ref se, .ref si, .ref pa, .ref he])), (xt, aB g 1600 f_9)] := hD
  refine lv_aload_n hx hb dX11_feedNumber_20 rfl (lv_at hl 1 rfl) ?_
  refine lv_dup hx hb dX11_feedNumber_21 rfl ?_
  refine va_get (D := g.1) (ci := 11) (v := .int 14) (C := RX11) (T := TX11) (N := 14) hx hb hT inF_X11 hown hK.1 hP 0 rfl rfl 1 (by decide) (hT _ bw_161) (fun _ h9 => h9) rfl dX11_feedNumber_22 ?_
  refine lv_iconst (v := 1) hx hb dX11_feedNumber_25 (by decide) ?_
  refine lv_iadd hx hb dX11_feedNumber_26 ?_
  refine p_ti (v := 15) (by decide +kernel) ?_
  refine va_put (D := g.1) (ci := 11) (v := .int 15) (ty := .int) (C := RX11) (T := TX11) (N := 14) hx hb hT inF_X11 tyX11 tyX11_ok nmX11 hown hK.1 hP hD hS 0 rfl rfl 1 (by decide) (hT _ bw_161) (fun _ h9 => h9) rfl (by decide +kernel) rfl rfl (Nat.le_of_ble_eq_true rfl) dX11_feedNumber_27 (fun H locs hP hD hS => ?_)
  have hP : va_P g.1 vwCl [(x, .inr (11, [.ref xt, .int 15, .ref xr, .ref la, .ref lb, .ref sa, .int 0, .int 0, .ref ba, .int 0, .ref se, .ref si, .ref pa, .ref he])), (xt, aB g 1600 f_9)] H := hP
  have hD : va_D A [(x, .inr (11, [.ref xt, .int 15, .ref xr, .ref la, .ref lb, .ref sa, .int 0, .int 0, .ref ba, .int 0, .ref se, .ref si, .ref pa, .ref he])), (xt, aB g 1600 f_9)] := hD
  refine lv_iinc (v := 0) (lv' := [(2, .int 0), (0, .ref x), (1, .int p0)]) hx hb dX11_feedNumber_30 hl (k := 0) rfl (by decide) (by decide) rfl (fun ls hl => ?_)
  refine lv_goto (tgt := 3) hx hb dX11_feedNumber_33 (by decide) ?_
  refine lv_iload_n hx hb dX11_feedNumber_3 rfl (lv_at hl 0 rfl) ?_
  refine lv_if_lt (tgt := 36) hx hb dX11_feedNumber_4 (by decide) (fun c9 => absurd c9 (by decide)) (fun _ => ?_)
  refine lv_aload_n hx hb dX11_feedNumber_7 rfl (lv_at hl 1 rfl) ?_
  refine va_get (D := g.1) (ci := 11) (v := .ref xt) (C := RX11) (T := TX11) (N := 14) hx hb hT inF_X11 hown hK.1 hP 0 rfl rfl 0 (by decide) (hT _ bw_160) (fun _ h9 => h9) rfl dX11_feedNumber_8 ?_
  refine lv_aload_n hx hb dX11_feedNumber_11 rfl (lv_at hl 1 rfl) ?_
  refine va_get (D := g.1) (ci := 11) (v := .int 15) (C := RX11) (T := TX11) (N := 14) hx hb hT inF_X11 hown hK.1 hP 0 rfl rfl 1 (by decide) (hT _ bw_161) (fun _ h9 => h9) rfl dX11_feedNumber_12 ?_
  refine lv_iload_n hx hb dX11_feedNumber_15 rfl (lv_at hl 2 rfl) ?_
  refine lv_iload_n hx hb dX11_feedNumber_16 rfl (lv_at hl 0 rfl) ?_
  refine lv_ishr hx hb dX11_feedNumber_17 ?_
  refine lv_topi (fun x_10 ex_10 => ?_)
  obtain ⟨x_11, ex_11⟩ : ∃ y : Int32, x_10.toInt8.toInt32 = y := ⟨_, rfl⟩
  refine lv_i2b (v := x_11) hx hb dX11_feedNumber_18 ex_11 ?_
  refine va_bast hx hb hK.1 hP hD hS 1 0 rfl rfl (i := 15) (x := x_11) (by unfold vp_in; decide) dX11_feedNumber_19 (fun H locs hP hD hS => ?_)
  generalize upd f_9 (15 : Int32).toNatClampNeg (vp_nar .byte x_11) = f_12 at hP hD
  have hP : va_P g.1 vwCl [(x, .inr (11, [.ref xt, .int 15, .ref xr, .ref la, .ref lb, .ref sa, .int 0, .int 0, .ref ba, .int 0, .ref se, .ref si, .ref pa, .ref he])), (xt, aB g 1600 f_12)] H := hP
  have hD : va_D A [(x, .inr (11, [.ref xt, .int 15, .ref xr, .ref la, .ref lb, .ref sa, .int 0, .int 0, .ref ba, .int 0, .ref se, .ref si, .ref pa, .ref he])), (xt, aB g 1600 f_12)] := hD
  refine lv_aload_n hx hb dX11_feedNumber_20 rfl (lv_at hl 1 rfl) ?_
  refine lv_dup hx hb dX11_feedNumber_21 rfl ?_
  refine va_get (D := g.1) (ci := 11) (v := .int 15) (C := RX11) (T := TX11) (N := 14) hx hb hT inF_X11 hown hK.1 hP 0 rfl rfl 1 (by decide) (hT _ bw_161) (fun _ h9 => h9) rfl dX11_feedNumber_22 ?_
  refine lv_iconst (v := 1) hx hb dX11_feedNumber_25 (by decide) ?_
  refine lv_iadd hx hb dX11_feedNumber_26 ?_
  refine p_ti (v := 16) (by decide +kernel) ?_
  refine va_put (D := g.1) (ci := 11) (v := .int 16) (ty := .int) (C := RX11) (T := TX11) (N := 14) hx hb hT inF_X11 tyX11 tyX11_ok nmX11 hown hK.1 hP hD hS 0 rfl rfl 1 (by decide) (hT _ bw_161) (fun _ h9 => h9) rfl (by decide +kernel) rfl rfl (Nat.le_of_ble_eq_true rfl) dX11_feedNumber_27 (fun H locs hP hD hS => ?_)
  have hP : va_P g.1 vwCl [(x, .inr (11, [.ref xt, .int 16, .ref xr, .ref la, .ref lb, .ref sa, .int 0, .int 0, .ref ba, .int 0, .ref se, .ref si, .ref pa, .ref he])), (xt, aB g 1600 f_12)] H := hP
  have hD : va_D A [(x, .inr (11, [.ref xt, .int 16, .ref xr, .ref la, .ref lb, .ref sa, .int 0, .int 0, .ref ba, .int 0, .ref se, .ref si, .ref pa, .ref he])), (xt, aB g 1600 f_12)] := hD
  refine lv_iinc (v := (-8)) (lv' := [(2, .int (-8)), (0, .ref x), (1, .int p0)]) hx hb dX11_feedNumber_30 hl (k := 0) rfl (by decide) (by decide) rfl (fun ls hl => ?_)
  refine lv_goto (tgt := 3) hx hb dX11_feedNumber_33 (by decide) ?_
  refine lv_iload_n hx hb dX11_feedNumber_3 rfl (lv_at hl 0 rfl) ?_
  refine lv_if_lt (tgt := 36) hx hb dX11_feedNumber_4 (by decide) (fun _ => ?_) (fun c9 => absurd (by decide) c9)
  have hP9 : va_P g.1 vwCl [(x, .inr (11, [.ref xt, .int 16, .ref xr, .ref la, .ref lb, .ref sa, .int 0, .int 0, .ref ba, .int 0, .ref se, .ref si, .ref pa, .ref he])), (xt, aB g 1600 f_12)] H := hP.sub [0, 1] rfl
  have hD9 : va_D A [(x, .inr (11, [.ref xt, .int 16, .ref xr, .ref la, .ref lb, .ref sa, .int 0, .int 0, .ref ba, .int 0, .ref se, .ref si, .ref pa, .ref he])), (xt, aB g 1600 f_12)] := hD.sub [0, 1] (by decide) rfl
  exact W.vret hx hb hr (fun t ht hW => ⟨⟨f_12, rfl, trivial, by rw [ht]; exact hP9, by rw [hAe]; exact hD9⟩, hS.F ht⟩) hS.2.2 dX11_feedNumber_36

set_option maxHeartbeats 4000000 in
set_option maxRecDepth 100000 in
theorem c_X11_feedNumber_16 (l : Launch) (g : GG) (sz : Nat) (x : Nat) (xt : Nat) (xr : Nat) (la : Nat) (lb : Nat) (sa : Nat) (ba : Nat) (se : Nat) (si : Nat) (pa : Nat) (he : Nat) (ff : Nat → Int32) (p0 : Int32) : Met l yX11_feedNumber (.code yX11_feedNumber cX11_feedNumber 3 none :: gT) ({ frames := 0, cells := 0, slots := 0, locals := 0 }) (va_Pc [.ref x, .int p0] (Pst g sz [(x, .inr (11, [.ref xt, .int 16, .ref xr, .ref la, .ref lb, .ref sa, .int 0, .int 0, .ref ba, .int 0, .ref se, .ref si, .ref pa, .ref he])), (xt, aB g 1600 ff)] nX)) (va_Qv (fun (_ : (Nat → Int32)) => True) (Qst g [(x, .inr (11, [.ref xt, .int 16, .ref xr, .ref la, .ref lb, .ref sa, .int 0, .int 0, .ref ba, .int 0, .ref se, .ref si, .ref pa, .ref he])), (xt, aB g 1600 ff)] sz (fun (f_12 : Nat → Int32) => [(x, .inr (11, [.ref xt, .int 20, .ref xr, .ref la, .ref lb, .ref sa, .int 0, .int 0, .ref ba, .int 0, .ref se, .ref si, .ref pa, .ref he])), (xt, aB g 1600 f_12)])) (va_A [(x, .inr (11, [.ref xt, .int 16, .ref xr, .ref la, .ref lb, .ref sa, .int 0, .int 0, .ref ba, .int 0, .ref se, .ref si, .ref pa, .ref he])), (xt, aB g 1600 ff)] sz)) 0 0 (va_A [(x, .inr (11, [.ref xt, .int 16, .ref xr, .ref la, .ref lb, .ref sa, .int 0, .int 0, .ref ba, .int 0, .ref se, .ref si, .ref pa, .ref he])), (xt, aB g 1600 ff)] sz) := by
  refine Met.ofW (cc := cX11_feedNumber) (maxL := 3) (ret := none) (by decide) rfl ?_
  intro p e s m args below meth c s₁ B hml hv
  obtain ⟨rfl, hsz, hP, hK, hD0, hX⟩ := hv
  have hx := B.exec
  have hb := B.bytes
  have hr := B.returns
  have hT : ∀ w ∈ gT, w.before _ s = true := fun w h => atoms_spec (ws := .code yX11_feedNumber cX11_feedNumber 3 none :: gT) B.pre w (List.mem_cons_of_mem _ h)
  have hown : s.vm.findClass RX11 = some m.cls := findClass_of_methodNamed B.named
  have hlocks := B.notSynchronized
  subst hsz
  have hD := hD0.self (sz := s.heap.size)
  generalize hAe : va_A [(x, .inr (11, [.ref xt, .int 16, .ref xr, .ref la, .ref lb, .ref sa, .int 0, .int 0, .ref ba, .int 0, .ref se, .ref si, .ref pa, .ref he])), (xt, aB g 1600 ff)] s.heap.size = A at hD ⊢
  have hA : ∀ q : Nat, s.heap.size ≤ q → A q := fun q h => by rw [← hAe]; exact Or.inr h
  have hS : va_S A s.heap s.heap [] := va_S.rf
  have hl := lv_entry ([.ref x, .int p0]) (n := 3) (Nat.le_of_ble_eq_true rfl)
  rw [lg_entry_eq]
  generalize (lg_sl ([.ref x, .int p0]) ++ List.replicate (3 - (lg_sl ([.ref x, .int p0])).length) Slot.unset).toArray = ls at hl ⊢
  have hl : lv_has ls 3 [(0, .ref x), (1, .int p0)] := hl
  refine p_nH (fun H hH => ?_)
  have hP : va_P g.1 vwCl [(x, .inr (11, [.ref xt, .int 16, .ref xr, .ref la, .ref lb, .ref sa, .int 0, .int 0, .ref ba, .int 0, .ref se, .ref si, .ref pa, .ref he])), (xt, aB g 1600 ff)] H := by rw [hH]; exact hP
  have hS : va_S A s.heap H [] := by rw [hH]; exact hS
  refine lv_bipush (v := 24) hx hb dX11_feedNumber_0 (by decide) ?_
  refine lv_istore_n (lv' := [(2, .int 24), (0, .ref x), (1, .int p0)]) hx hb dX11_feedNumber_2 rfl hl (by decide) rfl (fun ls hl => ?_)
  refine lv_iload_n hx hb dX11_feedNumber_3 rfl (lv_at hl 0 rfl) ?_
  refine lv_if_lt (tgt := 36) hx hb dX11_feedNumber_4 (by decide) (fun c9 => absurd c9 (by decide)) (fun _ => ?_)
  refine lv_aload_n hx hb dX11_feedNumber_7 rfl (lv_at hl 1 rfl) ?_
  refine va_get (D := g.1) (ci := 11) (v := .ref xt) (C := RX11) (T := TX11) (N := 14) hx hb hT inF_X11 hown hK.1 hP 0 rfl rfl 0 (by decide) (hT _ bw_160) (fun _ h9 => h9) rfl dX11_feedNumber_8 ?_
  refine lv_aload_n hx hb dX11_feedNumber_11 rfl (lv_at hl 1 rfl) ?_
  refine va_get (D := g.1) (ci := 11) (v := .int 16) (C := RX11) (T := TX11) (N := 14) hx hb hT inF_X11 hown hK.1 hP 0 rfl rfl 1 (by decide) (hT _ bw_161) (fun _ h9 => h9) rfl dX11_feedNumber_12 ?_
  refine lv_iload_n hx hb dX11_feedNumber_15 rfl (lv_at hl 2 rfl) ?_
  refine lv_iload_n hx hb dX11_feedNumber_16 rfl (lv_at hl 0 rfl) ?_
  refine lv_ishr hx hb dX11_feedNumber_17 ?_
  refine lv_topi (fun x_1 ex_1 => ?_)
  obtain ⟨x_2, ex_2⟩ : ∃ y : Int32, x_1.toInt8.toInt32 = y := ⟨_, rfl⟩
  refine lv_i2b (v := x_2) hx hb dX11_feedNumber_18 ex_2 ?_
  refine va_bast hx hb hK.1 hP hD hS 1 0 rfl rfl (i := 16) (x := x_2) (by unfold vp_in; decide) dX11_feedNumber_19 (fun H locs hP hD hS => ?_)
  generalize upd ff (16 : Int32).toNatClampNeg (vp_nar .byte x_2) = f_3 at hP hD
  have hP : va_P g.1 vwCl [(x, .inr (11, [.ref xt, .int 16, .ref xr, .ref la, .ref lb, .ref sa, .int 0, .int 0, .ref ba, .int 0, .ref se, .ref si, .ref pa, .ref he])), (xt, aB g 1600 f_3)] H := hP
  have hD : va_D A [(x, .inr (11, [.ref xt, .int 16, .ref xr, .ref la, .ref lb, .ref sa, .int 0, .int 0, .ref ba, .int 0, .ref se, .ref si, .ref pa, .ref he])), (xt, aB g 1600 f_3)] := hD
  refine lv_aload_n hx hb dX11_feedNumber_20 rfl (lv_at hl 1 rfl) ?_
  refine lv_dup hx hb dX11_feedNumber_21 rfl ?_
  refine va_get (D := g.1) (ci := 11) (v := .int 16) (C := RX11) (T := TX11) (N := 14) hx hb hT inF_X11 hown hK.1 hP 0 rfl rfl 1 (by decide) (hT _ bw_161) (fun _ h9 => h9) rfl dX11_feedNumber_22 ?_
  refine lv_iconst (v := 1) hx hb dX11_feedNumber_25 (by decide) ?_
  refine lv_iadd hx hb dX11_feedNumber_26 ?_
  refine p_ti (v := 17) (by decide +kernel) ?_
  refine va_put (D := g.1) (ci := 11) (v := .int 17) (ty := .int) (C := RX11) (T := TX11) (N := 14) hx hb hT inF_X11 tyX11 tyX11_ok nmX11 hown hK.1 hP hD hS 0 rfl rfl 1 (by decide) (hT _ bw_161) (fun _ h9 => h9) rfl (by decide +kernel) rfl rfl (Nat.le_of_ble_eq_true rfl) dX11_feedNumber_27 (fun H locs hP hD hS => ?_)
  have hP : va_P g.1 vwCl [(x, .inr (11, [.ref xt, .int 17, .ref xr, .ref la, .ref lb, .ref sa, .int 0, .int 0, .ref ba, .int 0, .ref se, .ref si, .ref pa, .ref he])), (xt, aB g 1600 f_3)] H := hP
  have hD : va_D A [(x, .inr (11, [.ref xt, .int 17, .ref xr, .ref la, .ref lb, .ref sa, .int 0, .int 0, .ref ba, .int 0, .ref se, .ref si, .ref pa, .ref he])), (xt, aB g 1600 f_3)] := hD
  refine lv_iinc (v := 16) (lv' := [(2, .int 16), (0, .ref x), (1, .int p0)]) hx hb dX11_feedNumber_30 hl (k := 0) rfl (by decide) (by decide) rfl (fun ls hl => ?_)
  refine lv_goto (tgt := 3) hx hb dX11_feedNumber_33 (by decide) ?_
  refine lv_iload_n hx hb dX11_feedNumber_3 rfl (lv_at hl 0 rfl) ?_
  refine lv_if_lt (tgt := 36) hx hb dX11_feedNumber_4 (by decide) (fun c9 => absurd c9 (by decide)) (fun _ => ?_)
  refine lv_aload_n hx hb dX11_feedNumber_7 rfl (lv_at hl 1 rfl) ?_
  refine va_get (D := g.1) (ci := 11) (v := .ref xt) (C := RX11) (T := TX11) (N := 14) hx hb hT inF_X11 hown hK.1 hP 0 rfl rfl 0 (by decide) (hT _ bw_160) (fun _ h9 => h9) rfl dX11_feedNumber_8 ?_
  refine lv_aload_n hx hb dX11_feedNumber_11 rfl (lv_at hl 1 rfl) ?_
  refine va_get (D := g.1) (ci := 11) (v := .int 17) (C := RX11) (T := TX11) (N := 14) hx hb hT inF_X11 hown hK.1 hP 0 rfl rfl 1 (by decide) (hT _ bw_161) (fun _ h9 => h9) rfl dX11_feedNumber_12 ?_
  refine lv_iload_n hx hb dX11_feedNumber_15 rfl (lv_at hl 2 rfl) ?_
  refine lv_iload_n hx hb dX11_feedNumber_16 rfl (lv_at hl 0 rfl) ?_
  refine lv_ishr hx hb dX11_feedNumber_17 ?_
  refine lv_topi (fun x_4 ex_4 => ?_)
  obtain ⟨x_5, ex_5⟩ : ∃ y : Int32, x_4.toInt8.toInt32 = y := ⟨_, rfl⟩
  refine lv_i2b (v := x_5) hx hb dX11_feedNumber_18 ex_5 ?_
  refine va_bast hx hb hK.1 hP hD hS 1 0 rfl rfl (i := 17) (x := x_5) (by unfold vp_in; decide) dX11_feedNumber_19 (fun H locs hP hD hS => ?_)
  generalize upd f_3 (17 : Int32).toNatClampNeg (vp_nar .byte x_5) = f_6 at hP hD
  have hP : va_P g.1 vwCl [(x, .inr (11, [.ref xt, .int 17, .ref xr, .ref la, .ref lb, .ref sa, .int 0, .int 0, .ref ba, .int 0, .ref se, .ref si, .ref pa, .ref he])), (xt, aB g 1600 f_6)] H := hP
  have hD : va_D A [(x, .inr (11, [.ref xt, .int 17, .ref xr, .ref la, .ref lb, .ref sa, .int 0, .int 0, .ref ba, .int 0, .ref se, .ref si, .ref pa, .ref he])), (xt, aB g 1600 f_6)] := hD
  refine lv_aload_n hx hb dX11_feedNumber_20 rfl (lv_at hl 1 rfl) ?_
  refine lv_dup hx hb dX11_feedNumber_21 rfl ?_
  refine va_get (D := g.1) (ci := 11) (v := .int 17) (C := RX11) (T := TX11) (N := 14) hx hb hT inF_X11 hown hK.1 hP 0 rfl rfl 1 (by decide) (hT _ bw_161) (fun _ h9 => h9) rfl dX11_feedNumber_22 ?_
  refine lv_iconst (v := 1) hx hb dX11_feedNumber_25 (by decide) ?_
  refine lv_iadd hx hb dX11_feedNumber_26 ?_
  refine p_ti (v := 18) (by decide +kernel) ?_
  refine va_put (D := g.1) (ci := 11) (v := .int 18) (ty := .int) (C := RX11) (T := TX11) (N := 14) hx hb hT inF_X11 tyX11 tyX11_ok nmX11 hown hK.1 hP hD hS 0 rfl rfl 1 (by decide) (hT _ bw_161) (fun _ h9 => h9) rfl (by decide +kernel) rfl rfl (Nat.le_of_ble_eq_true rfl) dX11_feedNumber_27 (fun H locs hP hD hS => ?_)
  have hP : va_P g.1 vwCl [(x, .inr (11, [.ref xt, .int 18, .ref xr, .ref la, .ref lb, .ref sa, .int 0, .int 0, .ref ba, .int 0, .ref se, .ref si, .ref pa, .ref he])), (xt, aB g 1600 f_6)] H := hP
  have hD : va_D A [(x, .inr (11, [.ref xt, .int 18, .ref xr, .ref la, .ref lb, .ref sa, .int 0, .int 0, .ref ba, .int 0, .ref se, .ref si, .ref pa, .ref he])), (xt, aB g 1600 f_6)] := hD
  refine lv_iinc (v := 8) (lv' := [(2, .int 8), (0, .ref x), (1, .int p0)]) hx hb dX11_feedNumber_30 hl (k := 0) rfl (by decide) (by decide) rfl (fun ls hl => ?_)
  refine lv_goto (tgt := 3) hx hb dX11_feedNumber_33 (by decide) ?_
  refine lv_iload_n hx hb dX11_feedNumber_3 rfl (lv_at hl 0 rfl) ?_
  refine lv_if_lt (tgt := 36) hx hb dX11_feedNumber_4 (by decide) (fun c9 => absurd c9 (by decide)) (fun _ => ?_)
  refine lv_aload_n hx hb dX11_feedNumber_7 rfl (lv_at hl 1 rfl) ?_
  refine va_get (D := g.1) (ci := 11) (v := .ref xt) (C := RX11) (T := TX11) (N := 14) hx hb hT inF_X11 hown hK.1 hP 0 rfl rfl 0 (by decide) (hT _ bw_160) (fun _ h9 => h9) rfl dX11_feedNumber_8 ?_
  refine lv_aload_n hx hb dX11_feedNumber_11 rfl (lv_at hl 1 rfl) ?_
  refine va_get (D := g.1) (ci := 11) (v := .int 18) (C := RX11) (T := TX11) (N := 14) hx hb hT inF_X11 hown hK.1 hP 0 rfl rfl 1 (by decide) (hT _ bw_161) (fun _ h9 => h9) rfl dX11_feedNumber_12 ?_
  refine lv_iload_n hx hb dX11_feedNumber_15 rfl (lv_at hl 2 rfl) ?_
  refine lv_iload_n hx hb dX11_feedNumber_16 rfl (lv_at hl 0 rfl) ?_
  refine lv_ishr hx hb dX11_feedNumber_17 ?_
  refine lv_topi (fun x_7 ex_7 => ?_)
  obtain ⟨x_8, ex_8⟩ : ∃ y : Int32, x_7.toInt8.toInt32 = y := ⟨_, rfl⟩
  refine lv_i2b (v := x_8) hx hb dX11_feedNumber_18 ex_8 ?_
  refine va_bast hx hb hK.1 hP hD hS 1 0 rfl rfl (i := 18) (x := x_8) (by unfold vp_in; decide) dX11_feedNumber_19 (fun H locs hP hD hS => ?_)
  generalize upd f_6 (18 : Int32).toNatClampNeg (vp_nar .byte x_8) = f_9 at hP hD
  have hP : va_P g.1 vwCl [(x, .inr (11, [.ref xt, .int 18, .ref xr, .ref la, .ref lb, .ref sa, .int 0, .int 0, .ref ba, .int 0, .ref se, .ref si, .ref pa, .ref he])), (xt, aB g 1600 f_9)] H := hP
  have hD : va_D A [(x, .inr (11, [.ref xt, .int 18, .ref xr, .ref la, .ref lb, .ref sa, .int 0, .int 0, .ref ba, .int 0, .ref se, .ref si, .ref pa, .ref he])), (xt, aB g 1600 f_9)] := hD
  refine lv_aload_n hx hb dX11_feedNumber_20 rfl (lv_at hl 1 rfl) ?_
  refine lv_dup hx hb dX11_feedNumber_21 rfl ?_
  refine va_get (D := g.1) (ci := 11) (v := .int 18) (C := RX11) (T := TX11) (N := 14) hx hb hT inF_X11 hown hK.1 hP 0 rfl rfl 1 (by decide) (hT _ bw_161) (fun _ h9 => h9) rfl dX11_feedNumber_22 ?_
  refine lv_iconst (v := 1) hx hb dX11_feedNumber_25 (by decide) ?_
  refine lv_iadd hx hb dX11_feedNumber_26 ?_
  refine p_ti (v := 19) (by decide +kernel) ?_
  refine va_put (D := g.1) (ci := 11) (v := .int 19) (ty := .int) (C := RX11) (T := TX11) (N := 14) hx hb hT inF_X11 tyX11 tyX11_ok nmX11 hown hK.1 hP hD hS 0 rfl rfl 1 (by decide) (hT _ bw_161) (fun _ h9 => h9) rfl (by decide +kernel) rfl rfl (Nat.le_of_ble_eq_true rfl) dX11_feedNumber_27 (fun H locs hP hD hS => ?_)
  have hP : va_P g.1 vwCl [(x, .inr (11, [.ref xt, .int 19, .ref xr, .ref la, .ref lb, .ref sa, .int 0, .int 0, .ref ba, .int 0, .ref se, .ref si, .ref pa, .ref he])), (xt, aB g 1600 f_9)] H := hP
  have hD : va_D A [(x, .inr (11, [.ref xt, .int 19, .ref xr, .ref la, .ref lb, .ref sa, .int 0, .int 0, .ref ba, .int 0, .ref se, .ref si, .ref pa, .ref he])), (xt, aB g 1600 f_9)] := hD
  refine lv_iinc (v := 0) (lv' := [(2, .int 0), (0, .ref x), (1, .int p0)]) hx hb dX11_feedNumber_30 hl (k := 0) rfl (by decide) (by decide) rfl (fun ls hl => ?_)
  refine lv_goto (tgt := 3) hx hb dX11_feedNumber_33 (by decide) ?_
  refine lv_iload_n hx hb dX11_feedNumber_3 rfl (lv_at hl 0 rfl) ?_
  refine lv_if_lt (tgt := 36) hx hb dX11_feedNumber_4 (by decide) (fun c9 => absurd c9 (by decide)) (fun _ => ?_)
  refine lv_aload_n hx hb dX11_feedNumber_7 rfl (lv_at hl 1 rfl) ?_
  refine va_get (D := g.1) (ci := 11) (v := .ref xt) (C := RX11) (T := TX11) (N := 14) hx hb hT inF_X11 hown hK.1 hP 0 rfl rfl 0 (by decide) (hT _ bw_160) (fun _ h9 => h9) rfl dX11_feedNumber_8 ?_
  refine lv_aload_n hx hb dX11_feedNumber_11 rfl (lv_at hl 1 rfl) ?_
  refine va_get (D := g.1) (ci := 11) (v := .int 19) (C := RX11) (T := TX11) (N := 14) hx hb hT inF_X11 hown hK.1 hP 0 rfl rfl 1 (by decide) (hT _ bw_161) (fun _ h9 => h9) rfl dX11_feedNumber_12 ?_
  refine lv_iload_n hx hb dX11_feedNumber_15 rfl (lv_at hl 2 rfl) ?_
  refine lv_iload_n hx hb dX11_feedNumber_16 rfl (lv_at hl 0 rfl) ?_
  refine lv_ishr hx hb dX11_feedNumber_17 ?_
  refine lv_topi (fun x_10 ex_10 => ?_)
  obtain ⟨x_11, ex_11⟩ : ∃ y : Int32, x_10.toInt8.toInt32 = y := ⟨_, rfl⟩
  refine lv_i2b (v := x_11) hx hb dX11_feedNumber_18 ex_11 ?_
  refine va_bast hx hb hK.1 hP hD hS 1 0 rfl rfl (i := 19) (x := x_11) (by unfold vp_in; decide) dX11_feedNumber_19 (fun H locs hP hD hS => ?_)
  generalize upd f_9 (19 : Int32).toNatClampNeg (vp_nar .byte x_11) = f_12 at hP hD
  have hP : va_P g.1 vwCl [(x, .inr (11, [.ref xt, .int 19, .ref xr, .ref la, .ref lb, .ref sa, .int 0, .int 0, .ref ba, .int 0, .ref se, .ref si, .ref pa, .ref he])), (xt, aB g 1600 f_12)] H := hP
  have hD : va_D A [(x, .inr (11, [.ref xt, .int 19, .ref xr, .ref la, .ref lb, .ref sa, .int 0, .int 0, .ref ba, .int 0, .ref se, .ref si, .ref pa, .ref he])), (xt, aB g 1600 f_12)] := hD
  refine lv_aload_n hx hb dX11_feedNumber_20 rfl (lv_at hl 1 rfl) ?_
  refine lv_dup hx hb dX11_feedNumber_21 rfl ?_
  refine va_get (D := g.1) (ci := 11) (v := .int 19) (C := RX11) (T := TX11) (N := 14) hx hb hT inF_X11 hown hK.1 hP 0 rfl rfl 1 (by decide) (hT _ bw_161) (fun _ h9 => h9) rfl dX11_feedNumber_22 ?_
  refine lv_iconst (v := 1) hx hb dX11_feedNumber_25 (by decide) ?_
  refine lv_iadd hx hb dX11_feedNumber_26 ?_
  refine p_ti (v := 20) (by decide +kernel) ?_
  refine va_put (D := g.1) (ci := 11) (v := .int 20) (ty := .int) (C := RX11) (T := TX11) (N := 14) hx hb hT inF_X11 tyX11 tyX11_ok nmX11 hown hK.1 hP hD hS 0 rfl rfl 1 (by decide) (hT _ bw_161) (fun _ h9 => h9) rfl (by decide +kernel) rfl rfl (Nat.le_of_ble_eq_true rfl) dX11_feedNumber_27 (fun H locs hP hD hS => ?_)
  have hP : va_P g.1 vwCl [(x, .inr (11, [.ref xt, .int 20, .ref xr, .ref la, .ref lb, .ref sa, .int 0, .int 0, .ref ba, .int 0, .ref se, .ref si, .ref pa, .ref he])), (xt, aB g 1600 f_12)] H := hP
  have hD : va_D A [(x, .inr (11, [.ref xt, .int 20, .ref xr, .ref la, .ref lb, .ref sa, .int 0, .int 0, .ref ba, .int 0, .ref se, .ref si, .ref pa, .ref he])), (xt, aB g 1600 f_12)] := hD
  refine lv_iinc (v := (-8)) (lv' := [(2, .int (-8)), (0, .ref x), (1, .int p0)]) hx hb dX11_feedNumber_30 hl (k := 0) rfl (by decide) (by decide) rfl (fun ls hl => ?_)
  refine lv_goto (tgt := 3) hx hb dX11_feedNumber_33 (by decide) ?_
  refine lv_iload_n hx hb dX11_feedNumber_3 rfl (lv_at hl 0 rfl) ?_
  refine lv_if_lt (tgt := 36) hx hb dX11_feedNumber_4 (by decide) (fun _ => ?_) (fun c9 => absurd (by decide) c9)
  have hP9 : va_P g.1 vwCl [(x, .inr (11, [.ref xt, .int 20, .ref xr, .ref la, .ref lb, .ref sa, .int 0, .int 0, .ref ba, .int 0, .ref se, .ref si, .ref pa, .ref he])), (xt, aB g 1600 f_12)] H := hP.sub [0, 1] rfl
  have hD9 : va_D A [(x, .inr (11, [.ref xt, .int 20, .ref xr, .ref la, .ref lb, .ref sa, .int 0, .int 0, .ref ba, .int 0, .ref se, .ref si, .ref pa, .ref he])), (xt, aB g 1600 f_12)] := hD.sub [0, 1] (by decide) rfl
  exact W.vret hx hb hr (fun t ht hW => ⟨⟨f_12, rfl, trivial, by rw [ht]; exact hP9, by rw [hAe]; exact hD9⟩, hS.F ht⟩) hS.2.2 dX11_feedNumber_36

set_option maxHeartbeats 4000000 in
set_option maxRecDepth 100000 in
theorem c_X11_feed (l : Launch) (g : GG) (sz : Nat) (x : Nat) (xt : Nat) (xr : Nat) (la : Nat) (lb : Nat) (sa : Nat) (ba : Nat) (se : Nat) (si : Nat) (pa : Nat) (he : Nat) (p0 : Int32) (p1 : Int32) (p2 : Int32) (p3 : Int32) (p4 : Int32) : Met l yX11_feed (.code yX11_feed cX11_feed 6 (some .int) :: gT) ({ frames := 1, cells := 0, slots := 0, locals := 22 }) (va_Pc [.ref x, .int p0, .int p1, .int p2, .int p3, .int p4] (Pst g sz [(x, .inr (11, [.ref xt, .int 0, .ref xr, .ref la, .ref lb, .ref sa, .int 0, .int 0, .ref ba, .int 0, .ref se, .ref si, .ref pa, .ref he])), (xt, aB g 1600 z0)] nX)) (va_Qi (fun (r : Int32) (_ : Unit) => r = 20) (Qst g [(x, .inr (11, [.ref xt, .int 0, .ref xr, .ref la, .ref lb, .ref sa, .int 0, .int 0, .ref ba, .int 0, .ref se, .ref si, .ref pa, .ref he])), (xt, aB g 1600 z0)] sz (fun _ => [])) (va_A [(x, .inr (11, [.ref xt, .int 0, .ref xr, .ref la, .ref lb, .ref sa, .int 0, .int 0, .ref ba, .int 0, .ref se, .ref si, .ref pa, .ref he])), (xt, aB g 1600 z0)] sz)) 0 0 (va_A [(x, .inr (11, [.ref xt, .int 0, .ref xr, .ref la, .ref lb, .ref sa, .int 0, .int 0, .ref ba, .int 0, .ref se, .ref si, .ref pa, .ref he])), (xt, aB g 1600 z0)] sz) := by
  refine Met.ofW (cc := cX11_feed) (maxL := 6) (ret := (some .int)) (by decide) rfl ?_
  intro p e s m args below meth c s₁ B hml hv
  obtain ⟨rfl, hsz, hP, hK, hD0, hX⟩ := hv
  have hx := B.exec
  have hb := B.bytes
  have hr := B.returns
  have hT : ∀ w ∈ gT, w.before _ s = true := fun w h => atoms_spec (ws := .code yX11_feed cX11_feed 6 (some .int) :: gT) B.pre w (List.mem_cons_of_mem _ h)
  have hown : s.vm.findClass RX11 = some m.cls := findClass_of_methodNamed B.named
  have hlocks := B.notSynchronized
  subst hsz
  have hD := hD0.self (sz := s.heap.size)
  generalize hAe : va_A [(x, .inr (11, [.ref xt, .int 0, .ref xr, .ref la, .ref lb, .ref sa, .int 0, .int 0, .ref ba, .int 0, .ref se, .ref si, .ref pa, .ref he])), (xt, aB g 1600 z0)] s.heap.size = A at hD ⊢
  have hA : ∀ q : Nat, s.heap.size ≤ q → A q := fun q h => by rw [← hAe]; exact Or.inr h
  have hS : va_S A s.heap s.heap [] := va_S.rf
  have hl := lv_entry ([.ref x, .int p0, .int p1, .int p2, .int p3, .int p4]) (n := 6) (Nat.le_of_ble_eq_true rfl)
  rw [lg_entry_eq]
  generalize (lg_sl ([.ref x, .int p0, .int p1, .int p2, .int p3, .int p4]) ++ List.replicate (6 - (lg_sl ([.ref x, .int p0, .int p1, .int p2, .int p3, .int p4])).length) Slot.unset).toArray = ls at hl ⊢
  have hl : lv_has ls 6 [(0, .ref x), (1, .int p0), (2, .int p1), (3, .int p2), (4, .int p3), (5, .int p4)] := hl
  refine p_nH (fun H hH => ?_)
  have hP : va_P g.1 vwCl [(x, .inr (11, [.ref xt, .int 0, .ref xr, .ref la, .ref lb, .ref sa, .int 0, .int 0, .ref ba, .int 0, .ref se, .ref si, .ref pa, .ref he])), (xt, aB g 1600 z0)] H := by rw [hH]; exact hP
  have hS : va_S A s.heap H [] := by rw [hH]; exact hS
  refine lv_aload_n hx hb dX11_feed_0 rfl (lv_at hl 0 rfl) ?_
  refine va_get (D := g.1) (ci := 11) (v := .int 0) (C := RX11) (T := TX11) (N := 14) hx hb hT inF_X11 hown hK.1 hP 0 rfl rfl 1 (by decide) (hT _ bw_161) (fun _ h9 => h9) rfl dX11_feed_1 ?_
  refine lv_bipush (v := 20) hx hb dX11_feed_4 (by decide) ?_
  refine lv_iadd hx hb dX11_feed_6 ?_
  refine p_ti (v := 20) (by decide +kernel) ?_
  refine lv_sipush (v := 1600) hx hb dX11_feed_7 (by decide) ?_
  refine lv_icmp_le (tgt := 15) hx hb dX11_feed_10 (by decide) (fun _ => ?_) (fun c9 => absurd (by decide) c9)
  refine lv_aload_n hx hb dX11_feed_15 rfl (lv_at hl 0 rfl) ?_
  refine lv_iload_n hx hb dX11_feed_16 rfl (lv_at hl 1 rfl) ?_
  refine k_v (wr := []) (k_V (n := 1) ⟨hx, hb, hml, hown, hT⟩ hK hP hD [0, 1] rfl (by decide) (c_X11_feedNumber_0 l g H.size x xt xr la lb sa ba se si pa he z0 p0) (gV bw_215 bw_216 bw_217 bw_207 bw_214) rfl rfl (by decide +kernel) ⟨by decide, by decide⟩ (ci := 11) (q0 := 0) rfl rfl (fun _ _ _ _ _ => trivial) (fun _ _ _ => trivial) rfl rfl hl.1 (Nat.le_of_ble_eq_true rfl) dX11_feed_17 ⟨by decide, by decide⟩) hP hD hS hA [0, 1] [] rfl rfl (by decide) (by decide) (fun u H locs hw hP hD hS => ?_)
  obtain ⟨f_1, rfl⟩ : ∃ z, z = u := ⟨_, rfl⟩
  have hP : va_P g.1 vwCl [(x, .inr (11, [.ref xt, .int 4, .ref xr, .ref la, .ref lb, .ref sa, .int 0, .int 0, .ref ba, .int 0, .ref se, .ref si, .ref pa, .ref he])), (xt, aB g 1600 f_1)] H := hP
  have hD : va_D A [(x, .inr (11, [.ref xt, .int 4, .ref xr, .ref la, .ref lb, .ref sa, .int 0, .int 0, .ref ba, .int 0, .ref se, .ref si, .ref pa, .ref he])), (xt, aB g 1600 f_1)] := hD
  refine lv_aload_n hx hb dX11_feed_20 rfl (lv_at hl 0 rfl) ?_
  refine lv_iload_n hx hb dX11_feed_21 rfl (lv_at hl 2 rfl) ?_
  refine k_v (wr := []) (k_V (n := 1) ⟨hx, hb, hml, hown, hT⟩ hK hP hD [0, 1] rfl (by decide) (c_X11_feedNumber_4 l g H.size x xt xr la lb sa ba se si pa he f_1 p1) (gV bw_215 bw_216 bw_217 bw_207 bw_214) rfl rfl (by decide +kernel) ⟨by decide, by decide⟩ (ci := 11) (q0 := 0) rfl rfl (fun _ _ _ _ _ => trivial) (fun _ _ _ => trivial) rfl rfl hl.1 (Nat.le_of_ble_eq_true rfl) dX11_feed_22 ⟨by decide, by decide⟩) hP hD hS hA [0, 1] [] rfl rfl (by decide) (by decide) (fun u H locs hw hP hD hS => ?_)
  obtain ⟨f_2, rfl⟩ : ∃ z, z = u := ⟨_, rfl⟩
  have hP : va_P g.1 vwCl [(x, .inr (11, [.ref xt, .int 8, .ref xr, .ref la, .ref lb, .ref sa, .int 0, .int 0, .ref ba, .int 0, .ref se, .ref si, .ref pa, .ref he])), (xt, aB g 1600 f_2)] H := hP
  have hD : va_D A [(x, .inr (11, [.ref xt, .int 8, .ref xr, .ref la, .ref lb, .ref sa, .int 0, .int 0, .ref ba, .int 0, .ref se, .ref si, .ref pa, .ref he])), (xt, aB g 1600 f_2)] := hD
  refine lv_aload_n hx hb dX11_feed_25 rfl (lv_at hl 0 rfl) ?_
  refine lv_iload_n hx hb dX11_feed_26 rfl (lv_at hl 3 rfl) ?_
  refine k_v (wr := []) (k_V (n := 1) ⟨hx, hb, hml, hown, hT⟩ hK hP hD [0, 1] rfl (by decide) (c_X11_feedNumber_8 l g H.size x xt xr la lb sa ba se si pa he f_2 p2) (gV bw_215 bw_216 bw_217 bw_207 bw_214) rfl rfl (by decide +kernel) ⟨by decide, by decide⟩ (ci := 11) (q0 := 0) rfl rfl (fun _ _ _ _ _ => trivial) (fun _ _ _ => trivial) rfl rfl hl.1 (Nat.le_of_ble_eq_true rfl) dX11_feed_27 ⟨by decide, by decide⟩) hP hD hS hA [0, 1] [] rfl rfl (by decide) (by decide) (fun u H locs hw hP hD hS => ?_)
  obtain ⟨f_3, rfl⟩ : ∃ z, z = u := ⟨_, rfl⟩
  have hP : va_P g.1 vwCl [(x, .inr (11, [.ref xt, .int 12, .ref xr, .ref la, .ref lb, .ref sa, .int 0, .int 0, .ref ba, .int 0, .ref se, .ref si, .ref pa, .ref he])), (xt, aB g 1600 f_3)] H := hP
  have hD : va_D A [(x, .inr (11, [.ref xt, .int 12, .ref xr, .ref la, .ref lb, .ref sa, .int 0, .int 0, .ref ba, .int 0, .ref se, .ref si, .ref pa, .ref he])), (xt, aB g 1600 f_3)] := hD
  refine lv_aload_n hx hb dX11_feed_30 rfl (lv_at hl 0 rfl) ?_
  refine lv_iload hx hb dX11_feed_31 (lv_at hl 4 rfl) ?_
  refine k_v (wr := []) (k_V (n := 1) ⟨hx, hb, hml, hown, hT⟩ hK hP hD [0, 1] rfl (by decide) (c_X11_feedNumber_12 l g H.size x xt xr la lb sa ba se si pa he f_3 p3) (gV bw_215 bw_216 bw_217 bw_207 bw_214) rfl rfl (by decide +kernel) ⟨by decide, by decide⟩ (ci := 11) (q0 := 0) rfl rfl (fun _ _ _ _ _ => trivial) (fun _ _ _ => trivial) rfl rfl hl.1 (Nat.le_of_ble_eq_true rfl) dX11_feed_33 ⟨by decide, by decide⟩) hP hD hS hA [0, 1] [] rfl rfl (by decide) (by decide) (fun u H locs hw hP hD hS => ?_)
  obtain ⟨f_4, rfl⟩ : ∃ z, z = u := ⟨_, rfl⟩
  have hP : va_P g.1 vwCl [(x, .inr (11, [.ref xt, .int 16, .ref xr, .ref la, .ref lb, .ref sa, .int 0, .int 0, .ref ba, .int 0, .ref se, .ref si, .ref pa, .ref he])), (xt, aB g 1600 f_4)] H := hP
  have hD : va_D A [(x, .inr (11, [.ref xt, .int 16, .ref xr, .ref la, .ref lb, .ref sa, .int 0, .int 0, .ref ba, .int 0, .ref se, .ref si, .ref pa, .ref he])), (xt, aB g 1600 f_4)] := hD
  refine lv_aload_n hx hb dX11_feed_36 rfl (lv_at hl 0 rfl) ?_
  refine lv_iload hx hb dX11_feed_37 (lv_at hl 5 rfl) ?_
  refine k_v (wr := []) (k_V (n := 1) ⟨hx, hb, hml, hown, hT⟩ hK hP hD [0, 1] rfl (by decide) (c_X11_feedNumber_16 l g H.size x xt xr la lb sa ba se si pa he f_4 p4) (gV bw_215 bw_216 bw_217 bw_207 bw_214) rfl rfl (by decide +kernel) ⟨by decide, by decide⟩ (ci := 11) (q0 := 0) rfl rfl (fun _ _ _ _ _ => trivial) (fun _ _ _ => trivial) rfl rfl hl.1 (Nat.le_of_ble_eq_true rfl) dX11_feed_39 ⟨by decide, by decide⟩) hP hD hS hA [0, 1] [] rfl rfl (by decide) (by decide) (fun u H locs hw hP hD hS => ?_)
  obtain ⟨f_5, rfl⟩ : ∃ z, z = u := ⟨_, rfl⟩
  have hP : va_P g.1 vwCl [(x, .inr (11, [.ref xt, .int 20, .ref xr, .ref la, .ref lb, .ref sa, .int 0, .int 0, .ref ba, .int 0, .ref se, .ref si, .ref pa, .ref he])), (xt, aB g 1600 f_5)] H := hP
  have hD : va_D A [(x, .inr (11, [.ref xt, .int 20, .ref xr, .ref la, .ref lb, .ref sa, .int 0, .int 0, .ref ba, .int 0, .ref se, .ref si, .ref pa, .ref he])), (xt, aB g 1600 f_5)] := hD
  refine lv_aload_n hx hb dX11_feed_42 rfl (lv_at hl 0 rfl) ?_
  refine va_get (D := g.1) (ci := 11) (v := .int 20) (C := RX11) (T := TX11) (N := 14) hx hb hT inF_X11 hown hK.1 hP 0 rfl rfl 1 (by decide) (hT _ bw_161) (fun _ h9 => h9) rfl dX11_feed_43 ?_
  have hP9 : va_P g.1 vwCl [] H := hP.sub [] rfl
  have hD9 : va_D A [] := ⟨fun i j p q h => by simp at h, fun k q h => by simp at h⟩
  exact W.iret (v := 20) hx hb hr (fun t ht hW => ⟨⟨20, (), rfl, rfl, by rw [ht]; exact hP9, by rw [hAe]; exact hD9⟩, hS.F ht⟩) hS.2.2 dX11_feed_46
end
