section
-- ===== PART A: goes FIRST, ahead of the names: the tables' words, and 'selects' of the private methods out of them =====
/-- a private method of a class that the tables say can be made, by its rows of tables_1 -/
def lw_okq (q : MethodName × Nat) : Prop := (q.1.cls ≠ "java/lang/invoke/MethodHandle" ∧ q.1.cls ≠ "java/lang/invoke/VarHandle") ∧ Cond.instantiable q.1.cls q.2 ∈ tables_1 ∧ Cond.privateMethod q.1 ∈ tables_1 ∧ Cond.instanceMethod q.1 ∈ tables_1
theorem lw_p0 : lw_okq (⟨"OperaGlasses", "beginChange", "()V"⟩, 7) := ⟨⟨by decide +kernel, by decide +kernel⟩, List.mem_of_getElem? (i := 17) (by decide +kernel), List.mem_of_getElem? (i := 228) (by decide +kernel), List.mem_of_getElem? (i := 229) (by decide +kernel)⟩
theorem lw_p1 : lw_okq (⟨"OperaGlasses$History", "stateAt", "(I)LOperaGlasses$House;"⟩, 3) := ⟨⟨by decide +kernel, by decide +kernel⟩, List.mem_of_getElem? (i := 92) (by decide +kernel), List.mem_of_getElem? (i := 236) (by decide +kernel), List.mem_of_getElem? (i := 237) (by decide +kernel)⟩
theorem lw_p2 : lw_okq (⟨"OperaGlasses$Pad", "canStandAt", "(I)Z"⟩, 2) := ⟨⟨by decide +kernel, by decide +kernel⟩, List.mem_of_getElem? (i := 128) (by decide +kernel), List.mem_of_getElem? (i := 303) (by decide +kernel), List.mem_of_getElem? (i := 304) (by decide +kernel)⟩
theorem lw_p3 : lw_okq (⟨"OperaGlasses$Pad", "characterAt", "(I)C"⟩, 2) := ⟨⟨by decide +kernel, by decide +kernel⟩, List.mem_of_getElem? (i := 128) (by decide +kernel), List.mem_of_getElem? (i := 307) (by decide +kernel), List.mem_of_getElem? (i := 308) (by decide +kernel)⟩
theorem lw_p4 : lw_okq (⟨"OperaGlasses", "allTellersAreThere", "()Z"⟩, 7) := ⟨⟨by decide +kernel, by decide +kernel⟩, List.mem_of_getElem? (i := 17) (by decide +kernel), List.mem_of_getElem? (i := 402) (by decide +kernel), List.mem_of_getElem? (i := 403) (by decide +kernel)⟩
theorem lw_p5 : lw_okq (⟨"OperaGlasses$Pad", "digitAt", "(I)I"⟩, 2) := ⟨⟨by decide +kernel, by decide +kernel⟩, List.mem_of_getElem? (i := 128) (by decide +kernel), List.mem_of_getElem? (i := 414) (by decide +kernel), List.mem_of_getElem? (i := 415) (by decide +kernel)⟩
theorem lw_p6 : lw_okq (⟨"OperaGlasses", "allOnPadSuit", "()Z"⟩, 7) := ⟨⟨by decide +kernel, by decide +kernel⟩, List.mem_of_getElem? (i := 17) (by decide +kernel), List.mem_of_getElem? (i := 418) (by decide +kernel), List.mem_of_getElem? (i := 419) (by decide +kernel)⟩
theorem lw_p7 : lw_okq (⟨"OperaGlasses", "surveyNow", "()LOperaGlasses$Survey;"⟩, 7) := ⟨⟨by decide +kernel, by decide +kernel⟩, List.mem_of_getElem? (i := 17) (by decide +kernel), List.mem_of_getElem? (i := 448) (by decide +kernel), List.mem_of_getElem? (i := 449) (by decide +kernel)⟩
theorem lw_p8 : lw_okq (⟨"OperaGlasses$Survey", "forget", "()V"⟩, 8) := ⟨⟨by decide +kernel, by decide +kernel⟩, List.mem_of_getElem? (i := 143) (by decide +kernel), List.mem_of_getElem? (i := 456) (by decide +kernel), List.mem_of_getElem? (i := 457) (by decide +kernel)⟩
theorem lw_p9 : lw_okq (⟨"OperaGlasses$Survey", "tally", "(LOperaGlasses$House;)V"⟩, 8) := ⟨⟨by decide +kernel, by decide +kernel⟩, List.mem_of_getElem? (i := 143) (by decide +kernel), List.mem_of_getElem? (i := 485) (by decide +kernel), List.mem_of_getElem? (i := 486) (by decide +kernel)⟩
theorem lw_p10 : lw_okq (⟨"OperaGlasses", "pointsOfGuess", "(LOperaGlasses$Survey;II)I"⟩, 7) := ⟨⟨by decide +kernel, by decide +kernel⟩, List.mem_of_getElem? (i := 17) (by decide +kernel), List.mem_of_getElem? (i := 519) (by decide +kernel), List.mem_of_getElem? (i := 520) (by decide +kernel)⟩
theorem lw_p11 : lw_okq (⟨"OperaGlasses$Survey", "compareWatchers", "(II)V"⟩, 8) := ⟨⟨by decide +kernel, by decide +kernel⟩, List.mem_of_getElem? (i := 143) (by decide +kernel), List.mem_of_getElem? (i := 661) (by decide +kernel), List.mem_of_getElem? (i := 662) (by decide +kernel)⟩
theorem lw_p12 : lw_okq (⟨"OperaGlasses", "slotAt", "(I)LOperaGlasses$Slot;"⟩, 7) := ⟨⟨by decide +kernel, by decide +kernel⟩, List.mem_of_getElem? (i := 17) (by decide +kernel), List.mem_of_getElem? (i := 699) (by decide +kernel), List.mem_of_getElem? (i := 700) (by decide +kernel)⟩
theorem lw_p13 : lw_okq (⟨"OperaGlassesModel", "begins", "(I)V"⟩, 19) := ⟨⟨by decide +kernel, by decide +kernel⟩, List.mem_of_getElem? (i := 708) (by decide +kernel), List.mem_of_getElem? (i := 714) (by decide +kernel), List.mem_of_getElem? (i := 715) (by decide +kernel)⟩
theorem lw_p14 : lw_okq (⟨"OperaGlassesModel", "record", "()V"⟩, 19) := ⟨⟨by decide +kernel, by decide +kernel⟩, List.mem_of_getElem? (i := 708) (by decide +kernel), List.mem_of_getElem? (i := 783) (by decide +kernel), List.mem_of_getElem? (i := 784) (by decide +kernel)⟩
theorem lw_p15 : lw_okq (⟨"OperaGlassesModel", "isBox", "(I)Z"⟩, 19) := ⟨⟨by decide +kernel, by decide +kernel⟩, List.mem_of_getElem? (i := 708) (by decide +kernel), List.mem_of_getElem? (i := 794) (by decide +kernel), List.mem_of_getElem? (i := 795) (by decide +kernel)⟩
def lw_privs_1 : List (MethodName × Nat) := [(⟨"OperaGlasses", "beginChange", "()V"⟩, 7), (⟨"OperaGlasses$History", "stateAt", "(I)LOperaGlasses$House;"⟩, 3), (⟨"OperaGlasses$Pad", "canStandAt", "(I)Z"⟩, 2), (⟨"OperaGlasses$Pad", "characterAt", "(I)C"⟩, 2), (⟨"OperaGlasses", "allTellersAreThere", "()Z"⟩, 7), (⟨"OperaGlasses$Pad", "digitAt", "(I)I"⟩, 2), (⟨"OperaGlasses", "allOnPadSuit", "()Z"⟩, 7), (⟨"OperaGlasses", "surveyNow", "()LOperaGlasses$Survey;"⟩, 7), (⟨"OperaGlasses$Survey", "forget", "()V"⟩, 8), (⟨"OperaGlasses$Survey", "tally", "(LOperaGlasses$House;)V"⟩, 8), (⟨"OperaGlasses", "pointsOfGuess", "(LOperaGlasses$Survey;II)I"⟩, 7), (⟨"OperaGlasses$Survey", "compareWatchers", "(II)V"⟩, 8), (⟨"OperaGlasses", "slotAt", "(I)LOperaGlasses$Slot;"⟩, 7), (⟨"OperaGlassesModel", "begins", "(I)V"⟩, 19), (⟨"OperaGlassesModel", "record", "()V"⟩, 19), (⟨"OperaGlassesModel", "isBox", "(I)Z"⟩, 19)]
theorem lw_r1 : ∀ q ∈ lw_privs_1, lw_okq q := List.forall_mem_cons.mpr ⟨lw_p0, List.forall_mem_cons.mpr ⟨lw_p1, List.forall_mem_cons.mpr ⟨lw_p2, List.forall_mem_cons.mpr ⟨lw_p3, List.forall_mem_cons.mpr ⟨lw_p4, List.forall_mem_cons.mpr ⟨lw_p5, List.forall_mem_cons.mpr ⟨lw_p6, List.forall_mem_cons.mpr ⟨lw_p7, List.forall_mem_cons.mpr ⟨lw_p8, List.forall_mem_cons.mpr ⟨lw_p9, List.forall_mem_cons.mpr ⟨lw_p10, List.forall_mem_cons.mpr ⟨lw_p11, List.forall_mem_cons.mpr ⟨lw_p12, List.forall_mem_cons.mpr ⟨lw_p13, List.forall_mem_cons.mpr ⟨lw_p14, List.forall_mem_cons.mpr ⟨lw_p15, fun _ h => absurd h List.not_mem_nil⟩⟩⟩⟩⟩⟩⟩⟩⟩⟩⟩⟩⟩⟩⟩⟩
theorem lw_p16 : lw_okq (⟨"OperaGlassesModel", "suits", "(III)Z"⟩, 19) := ⟨⟨by decide +kernel, by decide +kernel⟩, List.mem_of_getElem? (i := 708) (by decide +kernel), List.mem_of_getElem? (i := 802) (by decide +kernel), List.mem_of_getElem? (i := 803) (by decide +kernel)⟩
theorem lw_p17 : lw_okq (⟨"OperaGlassesModel", "tells", "(IIII)I"⟩, 19) := ⟨⟨by decide +kernel, by decide +kernel⟩, List.mem_of_getElem? (i := 708) (by decide +kernel), List.mem_of_getElem? (i := 806) (by decide +kernel), List.mem_of_getElem? (i := 807) (by decide +kernel)⟩
theorem lw_p18 : lw_okq (⟨"OperaGlassesModel", "findFault", "()I"⟩, 19) := ⟨⟨by decide +kernel, by decide +kernel⟩, List.mem_of_getElem? (i := 708) (by decide +kernel), List.mem_of_getElem? (i := 814) (by decide +kernel), List.mem_of_getElem? (i := 815) (by decide +kernel)⟩
theorem lw_p19 : lw_okq (⟨"OperaGlassesModel", "readsRumour", "()Z"⟩, 19) := ⟨⟨by decide +kernel, by decide +kernel⟩, List.mem_of_getElem? (i := 708) (by decide +kernel), List.mem_of_getElem? (i := 818) (by decide +kernel), List.mem_of_getElem? (i := 819) (by decide +kernel)⟩
theorem lw_p20 : lw_okq (⟨"OperaGlassesModel", "takeDigit", "(I)I"⟩, 19) := ⟨⟨by decide +kernel, by decide +kernel⟩, List.mem_of_getElem? (i := 708) (by decide +kernel), List.mem_of_getElem? (i := 822) (by decide +kernel), List.mem_of_getElem? (i := 823) (by decide +kernel)⟩
theorem lw_p21 : lw_okq (⟨"OperaGlassesModel", "character", "(I)I"⟩, 19) := ⟨⟨by decide +kernel, by decide +kernel⟩, List.mem_of_getElem? (i := 708) (by decide +kernel), List.mem_of_getElem? (i := 826) (by decide +kernel), List.mem_of_getElem? (i := 827) (by decide +kernel)⟩
theorem lw_p22 : lw_okq (⟨"OperaGlassesModel", "isNext", "(I)Z"⟩, 19) := ⟨⟨by decide +kernel, by decide +kernel⟩, List.mem_of_getElem? (i := 708) (by decide +kernel), List.mem_of_getElem? (i := 830) (by decide +kernel), List.mem_of_getElem? (i := 831) (by decide +kernel)⟩
theorem lw_p23 : lw_okq (⟨"OperaGlassesModel", "takeKind", "()I"⟩, 19) := ⟨⟨by decide +kernel, by decide +kernel⟩, List.mem_of_getElem? (i := 708) (by decide +kernel), List.mem_of_getElem? (i := 834) (by decide +kernel), List.mem_of_getElem? (i := 835) (by decide +kernel)⟩
theorem lw_p24 : lw_okq (⟨"OperaGlassesModel", "lookThrough", "()I"⟩, 19) := ⟨⟨by decide +kernel, by decide +kernel⟩, List.mem_of_getElem? (i := 708) (by decide +kernel), List.mem_of_getElem? (i := 838) (by decide +kernel), List.mem_of_getElem? (i := 839) (by decide +kernel)⟩
theorem lw_p25 : lw_okq (⟨"OperaGlassesModel", "isRumour", "(I)Z"⟩, 19) := ⟨⟨by decide +kernel, by decide +kernel⟩, List.mem_of_getElem? (i := 708) (by decide +kernel), List.mem_of_getElem? (i := 846) (by decide +kernel), List.mem_of_getElem? (i := 847) (by decide +kernel)⟩
theorem lw_p26 : lw_okq (⟨"OperaGlassesModel", "isOpen", "(I)Z"⟩, 19) := ⟨⟨by decide +kernel, by decide +kernel⟩, List.mem_of_getElem? (i := 708) (by decide +kernel), List.mem_of_getElem? (i := 850) (by decide +kernel), List.mem_of_getElem? (i := 851) (by decide +kernel)⟩
theorem lw_p27 : lw_okq (⟨"OperaGlassesModel", "part", "(II)I"⟩, 19) := ⟨⟨by decide +kernel, by decide +kernel⟩, List.mem_of_getElem? (i := 708) (by decide +kernel), List.mem_of_getElem? (i := 854) (by decide +kernel), List.mem_of_getElem? (i := 855) (by decide +kernel)⟩
theorem lw_p28 : lw_okq (⟨"OperaGlassesModel", "setHow", "(II)V"⟩, 19) := ⟨⟨by decide +kernel, by decide +kernel⟩, List.mem_of_getElem? (i := 708) (by decide +kernel), List.mem_of_getElem? (i := 858) (by decide +kernel), List.mem_of_getElem? (i := 859) (by decide +kernel)⟩
theorem lw_p29 : lw_okq (⟨"OperaGlassesModel", "worldsNow", "()I"⟩, 19) := ⟨⟨by decide +kernel, by decide +kernel⟩, List.mem_of_getElem? (i := 708) (by decide +kernel), List.mem_of_getElem? (i := 862) (by decide +kernel), List.mem_of_getElem? (i := 863) (by decide +kernel)⟩
theorem lw_p30 : lw_okq (⟨"OperaGlassesModel", "goThrough", "()V"⟩, 19) := ⟨⟨by decide +kernel, by decide +kernel⟩, List.mem_of_getElem? (i := 708) (by decide +kernel), List.mem_of_getElem? (i := 866) (by decide +kernel), List.mem_of_getElem? (i := 867) (by decide +kernel)⟩
theorem lw_p31 : lw_okq (⟨"OperaGlassesModel", "clear", "()V"⟩, 19) := ⟨⟨by decide +kernel, by decide +kernel⟩, List.mem_of_getElem? (i := 708) (by decide +kernel), List.mem_of_getElem? (i := 870) (by decide +kernel), List.mem_of_getElem? (i := 871) (by decide +kernel)⟩
def lw_privs_2 : List (MethodName × Nat) := [(⟨"OperaGlassesModel", "suits", "(III)Z"⟩, 19), (⟨"OperaGlassesModel", "tells", "(IIII)I"⟩, 19), (⟨"OperaGlassesModel", "findFault", "()I"⟩, 19), (⟨"OperaGlassesModel", "readsRumour", "()Z"⟩, 19), (⟨"OperaGlassesModel", "takeDigit", "(I)I"⟩, 19), (⟨"OperaGlassesModel", "character", "(I)I"⟩, 19), (⟨"OperaGlassesModel", "isNext", "(I)Z"⟩, 19), (⟨"OperaGlassesModel", "takeKind", "()I"⟩, 19), (⟨"OperaGlassesModel", "lookThrough", "()I"⟩, 19), (⟨"OperaGlassesModel", "isRumour", "(I)Z"⟩, 19), (⟨"OperaGlassesModel", "isOpen", "(I)Z"⟩, 19), (⟨"OperaGlassesModel", "part", "(II)I"⟩, 19), (⟨"OperaGlassesModel", "setHow", "(II)V"⟩, 19), (⟨"OperaGlassesModel", "worldsNow", "()I"⟩, 19), (⟨"OperaGlassesModel", "goThrough", "()V"⟩, 19), (⟨"OperaGlassesModel", "clear", "()V"⟩, 19)]
theorem lw_r2 : ∀ q ∈ lw_privs_2, lw_okq q := List.forall_mem_cons.mpr ⟨lw_p16, List.forall_mem_cons.mpr ⟨lw_p17, List.forall_mem_cons.mpr ⟨lw_p18, List.forall_mem_cons.mpr ⟨lw_p19, List.forall_mem_cons.mpr ⟨lw_p20, List.forall_mem_cons.mpr ⟨lw_p21, List.forall_mem_cons.mpr ⟨lw_p22, List.forall_mem_cons.mpr ⟨lw_p23, List.forall_mem_cons.mpr ⟨lw_p24, List.forall_mem_cons.mpr ⟨lw_p25, List.forall_mem_cons.mpr ⟨lw_p26, List.forall_mem_cons.mpr ⟨lw_p27, List.forall_mem_cons.mpr ⟨lw_p28, List.forall_mem_cons.mpr ⟨lw_p29, List.forall_mem_cons.mpr ⟨lw_p30, List.forall_mem_cons.mpr ⟨lw_p31, fun _ h => absurd h List.not_mem_nil⟩⟩⟩⟩⟩⟩⟩⟩⟩⟩⟩⟩⟩⟩⟩⟩
theorem lw_p32 : lw_okq (⟨"OperaGlassesModel", "worldsInAll", "()I"⟩, 19) := ⟨⟨by decide +kernel, by decide +kernel⟩, List.mem_of_getElem? (i := 708) (by decide +kernel), List.mem_of_getElem? (i := 874) (by decide +kernel), List.mem_of_getElem? (i := 875) (by decide +kernel)⟩
theorem lw_p33 : lw_okq (⟨"OperaGlassesModel", "takeWorld", "(I)V"⟩, 19) := ⟨⟨by decide +kernel, by decide +kernel⟩, List.mem_of_getElem? (i := 708) (by decide +kernel), List.mem_of_getElem? (i := 878) (by decide +kernel), List.mem_of_getElem? (i := 879) (by decide +kernel)⟩
theorem lw_p34 : lw_okq (⟨"OperaGlassesModel", "wrongOne", "()I"⟩, 19) := ⟨⟨by decide +kernel, by decide +kernel⟩, List.mem_of_getElem? (i := 708) (by decide +kernel), List.mem_of_getElem? (i := 882) (by decide +kernel), List.mem_of_getElem? (i := 883) (by decide +kernel)⟩
theorem lw_p35 : lw_okq (⟨"OperaGlassesModel", "holdsRumour", "(I)Z"⟩, 19) := ⟨⟨by decide +kernel, by decide +kernel⟩, List.mem_of_getElem? (i := 708) (by decide +kernel), List.mem_of_getElem? (i := 886) (by decide +kernel), List.mem_of_getElem? (i := 887) (by decide +kernel)⟩
theorem lw_p36 : lw_okq (⟨"OperaGlassesModel", "holds", "(III)Z"⟩, 19) := ⟨⟨by decide +kernel, by decide +kernel⟩, List.mem_of_getElem? (i := 708) (by decide +kernel), List.mem_of_getElem? (i := 890) (by decide +kernel), List.mem_of_getElem? (i := 891) (by decide +kernel)⟩
theorem lw_p37 : lw_okq (⟨"OperaGlassesModel", "lookers", "(I)I"⟩, 19) := ⟨⟨by decide +kernel, by decide +kernel⟩, List.mem_of_getElem? (i := 708) (by decide +kernel), List.mem_of_getElem? (i := 894) (by decide +kernel), List.mem_of_getElem? (i := 895) (by decide +kernel)⟩
theorem lw_p38 : lw_okq (⟨"OperaGlassesModel", "takesIn", "()V"⟩, 19) := ⟨⟨by decide +kernel, by decide +kernel⟩, List.mem_of_getElem? (i := 708) (by decide +kernel), List.mem_of_getElem? (i := 898) (by decide +kernel), List.mem_of_getElem? (i := 899) (by decide +kernel)⟩
theorem lw_p39 : lw_okq (⟨"OperaGlassesModel", "isTrue", "(I)Z"⟩, 19) := ⟨⟨by decide +kernel, by decide +kernel⟩, List.mem_of_getElem? (i := 708) (by decide +kernel), List.mem_of_getElem? (i := 906) (by decide +kernel), List.mem_of_getElem? (i := 907) (by decide +kernel)⟩
theorem lw_p40 : lw_okq (⟨"OperaGlassesModel", "takeTruth", "()V"⟩, 19) := ⟨⟨by decide +kernel, by decide +kernel⟩, List.mem_of_getElem? (i := 708) (by decide +kernel), List.mem_of_getElem? (i := 910) (by decide +kernel), List.mem_of_getElem? (i := 911) (by decide +kernel)⟩
theorem lw_p41 : lw_okq (⟨"OperaGlassesModel", "certainBox", "(I)I"⟩, 19) := ⟨⟨by decide +kernel, by decide +kernel⟩, List.mem_of_getElem? (i := 708) (by decide +kernel), List.mem_of_getElem? (i := 922) (by decide +kernel), List.mem_of_getElem? (i := 923) (by decide +kernel)⟩
theorem lw_p42 : lw_okq (⟨"OperaGlassesModel", "told", "(IZ)I"⟩, 19) := ⟨⟨by decide +kernel, by decide +kernel⟩, List.mem_of_getElem? (i := 708) (by decide +kernel), List.mem_of_getElem? (i := 934) (by decide +kernel), List.mem_of_getElem? (i := 935) (by decide +kernel)⟩
theorem lw_p43 : lw_okq (⟨"OperaGlassesModel", "openMany", "()I"⟩, 19) := ⟨⟨by decide +kernel, by decide +kernel⟩, List.mem_of_getElem? (i := 708) (by decide +kernel), List.mem_of_getElem? (i := 946) (by decide +kernel), List.mem_of_getElem? (i := 947) (by decide +kernel)⟩
theorem lw_p44 : lw_okq (⟨"OperaGlassesModel", "isTruthPossible", "()Z"⟩, 19) := ⟨⟨by decide +kernel, by decide +kernel⟩, List.mem_of_getElem? (i := 708) (by decide +kernel), List.mem_of_getElem? (i := 950) (by decide +kernel), List.mem_of_getElem? (i := 951) (by decide +kernel)⟩
theorem lw_p45 : lw_okq (⟨"OperaGlassesModel", "certainPersons", "()I"⟩, 19) := ⟨⟨by decide +kernel, by decide +kernel⟩, List.mem_of_getElem? (i := 708) (by decide +kernel), List.mem_of_getElem? (i := 954) (by decide +kernel), List.mem_of_getElem? (i := 955) (by decide +kernel)⟩
theorem lw_p46 : lw_okq (⟨"OperaGlassesModel", "certainRumours", "(Z)I"⟩, 19) := ⟨⟨by decide +kernel, by decide +kernel⟩, List.mem_of_getElem? (i := 708) (by decide +kernel), List.mem_of_getElem? (i := 958) (by decide +kernel), List.mem_of_getElem? (i := 959) (by decide +kernel)⟩
def lw_privs_3 : List (MethodName × Nat) := [(⟨"OperaGlassesModel", "worldsInAll", "()I"⟩, 19), (⟨"OperaGlassesModel", "takeWorld", "(I)V"⟩, 19), (⟨"OperaGlassesModel", "wrongOne", "()I"⟩, 19), (⟨"OperaGlassesModel", "holdsRumour", "(I)Z"⟩, 19), (⟨"OperaGlassesModel", "holds", "(III)Z"⟩, 19), (⟨"OperaGlassesModel", "lookers", "(I)I"⟩, 19), (⟨"OperaGlassesModel", "takesIn", "()V"⟩, 19), (⟨"OperaGlassesModel", "isTrue", "(I)Z"⟩, 19), (⟨"OperaGlassesModel", "takeTruth", "()V"⟩, 19), (⟨"OperaGlassesModel", "certainBox", "(I)I"⟩, 19), (⟨"OperaGlassesModel", "told", "(IZ)I"⟩, 19), (⟨"OperaGlassesModel", "openMany", "()I"⟩, 19), (⟨"OperaGlassesModel", "isTruthPossible", "()Z"⟩, 19), (⟨"OperaGlassesModel", "certainPersons", "()I"⟩, 19), (⟨"OperaGlassesModel", "certainRumours", "(Z)I"⟩, 19)]
theorem lw_r3 : ∀ q ∈ lw_privs_3, lw_okq q := List.forall_mem_cons.mpr ⟨lw_p32, List.forall_mem_cons.mpr ⟨lw_p33, List.forall_mem_cons.mpr ⟨lw_p34, List.forall_mem_cons.mpr ⟨lw_p35, List.forall_mem_cons.mpr ⟨lw_p36, List.forall_mem_cons.mpr ⟨lw_p37, List.forall_mem_cons.mpr ⟨lw_p38, List.forall_mem_cons.mpr ⟨lw_p39, List.forall_mem_cons.mpr ⟨lw_p40, List.forall_mem_cons.mpr ⟨lw_p41, List.forall_mem_cons.mpr ⟨lw_p42, List.forall_mem_cons.mpr ⟨lw_p43, List.forall_mem_cons.mpr ⟨lw_p44, List.forall_mem_cons.mpr ⟨lw_p45, List.forall_mem_cons.mpr ⟨lw_p46, fun _ h => absurd h List.not_mem_nil⟩⟩⟩⟩⟩⟩⟩⟩⟩⟩⟩⟩⟩⟩⟩
def lw_privs : List (MethodName × Nat) := lw_privs_1 ++ (lw_privs_2 ++ (lw_privs_3))
def lw_tbl : List Cond := k2_sels lw_privs ++ tables_1
theorem lw_privs_ok : ∀ q ∈ lw_privs, lw_okq q := by
  show ∀ q ∈ lw_privs_1 ++ (lw_privs_2 ++ (lw_privs_3)), lw_okq q
  exact List.forall_mem_append.mpr ⟨lw_r1, List.forall_mem_append.mpr ⟨lw_r2, lw_r3⟩⟩
-- ===== end of PART A; then your names; then what follows =====
end
section
/-! ===== BEGIN words of one list among another's, by their places ===== -/
theorem goodIn_r {big : List Cond} (ws : List Cond) (ps : List Nat) (hp : ws = ps.filterMap (fun i => big[i]?)) (h : ws.all goodWord = true) : GoodIn big ws := by
  intro w hw
  have h1 := List.all_eq_true.mp h w hw
  rw [hp] at hw
  obtain ⟨i, -, hi⟩ := List.mem_filterMap.mp hw
  have hm : w ∈ big := by first | exact List.mem_of_getElem? hi | exact List.getElem?_mem hi
  exact ⟨hm, good_of_word h1⟩
theorem goodIn_app {big a b : List Cond} (ha : GoodIn big a) (hb : GoodIn big b) : GoodIn big (a ++ b) := fun w h => (List.mem_append.mp h).elim (ha w) (hb w)
theorem goodIn_ca {big a b : List Cond} {c : Cond} (ha : GoodIn big (c :: a)) (hb : GoodIn big b) : GoodIn big (c :: (a ++ b)) := fun w h => (List.mem_cons.mp h).elim (fun e => ha w (List.mem_cons.mpr (Or.inl e))) (fun h => (List.mem_append.mp h).elim (fun h => ha w (List.mem_cons.mpr (Or.inr h))) (hb w))
theorem goodIn_sub {big ws : List Cond} (hm : ∀ w ∈ ws, w ∈ big) (h : ws.all goodWord = true) : GoodIn big ws := fun w hw => ⟨hm w hw, good_of_word (List.all_eq_true.mp h w hw)⟩
/-! ===== END ===== -/

/-! ===== BEGIN printed: names, fields, word lists, decode rows ===== -/
def RX0 : String := "OperaGlasses$History"
def TX0 : u_T := fun k => match k with
  | 0 => ("OperaGlasses$History", "states", "[LOperaGlasses$House;", true)
  | 1 => ("OperaGlasses$History", "kept", "I", false)
  | _ => ("OperaGlasses$History", "next", "I", false)
def tyX0 : Nat → FieldType := fun k => match k with
  | 0 => .array (.object "OperaGlasses$House")
  | 1 => .int
  | _ => .int
abbrev wsX00 : List Cond := u_ws RX0 TX0 3
theorem nmX0 : ∀ a, a < 3 → ∀ b, b < 3 → a ≠ b → (TX0 a).2.1 ≠ (TX0 b).2.1 := by decide +kernel
theorem tyX0_ok : ∀ k, k < 3 → parseFieldDescriptor (TX0 k).2.2.1 = some (tyX0 k) := by decide +kernel
abbrev cX0_init : ByteArray := prog_2_method_1_code
def yX0_init : MethodName := ⟨RX0, "<init>", "()V"⟩
abbrev cX0_stateAt : ByteArray := prog_2_method_2_code
def yX0_stateAt : MethodName := ⟨RX0, "stateAt", "(I)LOperaGlasses$House;"⟩
abbrev cX0_record : ByteArray := prog_2_method_3_code
def yX0_record : MethodName := ⟨RX0, "record", "(LOperaGlasses$House;)V"⟩
abbrev cX0_takeBack : ByteArray := prog_2_method_4_code
def yX0_takeBack : MethodName := ⟨RX0, "takeBack", "(LOperaGlasses$House;)V"⟩
def RX1 : String := "OperaGlasses$House"
def TX1 : u_T := fun k => match k with
  | 0 => ("OperaGlasses$House", "boxes", "I", false)
  | 1 => ("OperaGlasses$House", "act", "I", false)
  | 2 => ("OperaGlasses$House", "told", "I", false)
  | 3 => ("OperaGlasses$House", "looks", "[I", true)
  | 4 => ("OperaGlasses$House", "scores", "[I", true)
  | 5 => ("OperaGlasses$House", "guessed", "[I", true)
  | _ => ("OperaGlasses$House", "rumours", "[LOperaGlasses$Rumour;", true)
def tyX1 : Nat → FieldType := fun k => match k with
  | 0 => .int
  | 1 => .int
  | 2 => .int
  | 3 => .array .int
  | 4 => .array .int
  | 5 => .array .int
  | _ => .array (.object "OperaGlasses$Rumour")
abbrev wsX10 : List Cond := u_ws RX1 TX1 7
theorem nmX1 : ∀ a, a < 7 → ∀ b, b < 7 → a ≠ b → (TX1 a).2.1 ≠ (TX1 b).2.1 := by decide +kernel
theorem tyX1_ok : ∀ k, k < 7 → parseFieldDescriptor (TX1 k).2.2.1 = some (tyX1 k) := by decide +kernel
abbrev cX1_init : ByteArray := prog_3_method_1_code
def yX1_init : MethodName := ⟨RX1, "<init>", "()V"⟩
abbrev cX1_arrange : ByteArray := prog_3_method_2_code
def yX1_arrange : MethodName := ⟨RX1, "arrange", "(I)V"⟩
abbrev cX1_copyFrom : ByteArray := prog_3_method_3_code
def yX1_copyFrom : MethodName := ⟨RX1, "copyFrom", "(LOperaGlasses$House;)V"⟩
abbrev cX1_hasBox : ByteArray := prog_3_method_4_code
def yX1_hasBox : MethodName := ⟨RX1, "hasBox", "(I)Z"⟩
abbrev cX1_suits : ByteArray := prog_3_method_5_code
def yX1_suits : MethodName := ⟨RX1, "suits", "(III)Z"⟩
abbrev cX1_hasRoomFor : ByteArray := prog_3_method_6_code
def yX1_hasRoomFor : MethodName := ⟨RX1, "hasRoomFor", "(I)Z"⟩
abbrev cX1_rumourAt : ByteArray := prog_3_method_7_code
def yX1_rumourAt : MethodName := ⟨RX1, "rumourAt", "(I)LOperaGlasses$Rumour;"⟩
abbrev cX1_addRumour : ByteArray := prog_3_method_8_code
def yX1_addRumour : MethodName := ⟨RX1, "addRumour", "(IIII)V"⟩
abbrev cX1_openRumours : ByteArray := prog_3_method_9_code
def yX1_openRumours : MethodName := ⟨RX1, "openRumours", "()I"⟩
abbrev cX1_isOpen : ByteArray := prog_3_method_10_code
def yX1_isOpen : MethodName := ⟨RX1, "isOpen", "(I)Z"⟩
abbrev cX1_isTrue : ByteArray := prog_3_method_11_code
def yX1_isTrue : MethodName := ⟨RX1, "isTrue", "(I)Z"⟩
abbrev cX1_revealOpen : ByteArray := prog_3_method_12_code
def yX1_revealOpen : MethodName := ⟨RX1, "revealOpen", "()I"⟩
abbrev cX1_finishAct : ByteArray := prog_3_method_13_code
def yX1_finishAct : MethodName := ⟨RX1, "finishAct", "()V"⟩
abbrev cX1_tellerOf : ByteArray := prog_3_method_14_code
def yX1_tellerOf : MethodName := ⟨RX1, "tellerOf", "(I)I"⟩
abbrev cX1_toldBy : ByteArray := prog_3_method_15_code
def yX1_toldBy : MethodName := ⟨RX1, "toldBy", "(I)I"⟩
abbrev cX1_toldTrulyBy : ByteArray := prog_3_method_16_code
def yX1_toldTrulyBy : MethodName := ⟨RX1, "toldTrulyBy", "(I)I"⟩
abbrev cX1_firstBroken : ByteArray := prog_3_method_17_code
def yX1_firstBroken : MethodName := ⟨RX1, "firstBroken", "(I[I)I"⟩
def RX2 : String := "OperaGlasses$Pad"
def TX2 : u_T := fun k => match k with
  | 0 => ("OperaGlasses$Pad", "text", "[C", true)
  | _ => ("OperaGlasses$Pad", "length", "I", false)
def tyX2 : Nat → FieldType := fun k => match k with
  | 0 => .array .char
  | _ => .int
abbrev wsX20 : List Cond := u_ws RX2 TX2 2
theorem nmX2 : ∀ a, a < 2 → ∀ b, b < 2 → a ≠ b → (TX2 a).2.1 ≠ (TX2 b).2.1 := by decide +kernel
theorem tyX2_ok : ∀ k, k < 2 → parseFieldDescriptor (TX2 k).2.2.1 = some (tyX2 k) := by decide +kernel
abbrev cX2_init : ByteArray := prog_4_method_1_code
def yX2_init : MethodName := ⟨RX2, "<init>", "()V"⟩
abbrev cX2_append : ByteArray := prog_4_method_2_code
def yX2_append : MethodName := ⟨RX2, "append", "(C)V"⟩
abbrev cX2_empty : ByteArray := prog_4_method_3_code
def yX2_empty : MethodName := ⟨RX2, "empty", "()V"⟩
abbrev cX2_characterAt : ByteArray := prog_4_method_4_code
def yX2_characterAt : MethodName := ⟨RX2, "characterAt", "(I)C"⟩
abbrev cX2_firstFault : ByteArray := prog_4_method_5_code
def yX2_firstFault : MethodName := ⟨RX2, "firstFault", "()I"⟩
abbrev cX2_canStandAt : ByteArray := prog_4_method_6_code
def yX2_canStandAt : MethodName := ⟨RX2, "canStandAt", "(I)Z"⟩
abbrev cX2_canBeB : ByteArray := prog_4_method_7_code
def yX2_canBeB : MethodName := ⟨RX2, "canBeB", "(CCI)Z"⟩
abbrev cX2_isDigit : ByteArray := prog_4_method_8_code
def yX2_isDigit : MethodName := ⟨RX2, "isDigit", "(CI)Z"⟩
abbrev cX2_rumours : ByteArray := prog_4_method_9_code
def yX2_rumours : MethodName := ⟨RX2, "rumours", "()I"⟩
abbrev cX2_tellerOf : ByteArray := prog_4_method_10_code
def yX2_tellerOf : MethodName := ⟨RX2, "tellerOf", "(I)I"⟩
abbrev cX2_kindOf : ByteArray := prog_4_method_11_code
def yX2_kindOf : MethodName := ⟨RX2, "kindOf", "(I)I"⟩
abbrev cX2_aOf : ByteArray := prog_4_method_12_code
def yX2_aOf : MethodName := ⟨RX2, "aOf", "(I)I"⟩
abbrev cX2_bOf : ByteArray := prog_4_method_13_code
def yX2_bOf : MethodName := ⟨RX2, "bOf", "(I)I"⟩
abbrev cX2_digitAt : ByteArray := prog_4_method_14_code
def yX2_digitAt : MethodName := ⟨RX2, "digitAt", "(I)I"⟩
def RX3 : String := "OperaGlasses$Rumour"
def TX3 : u_T := fun k => match k with
  | 0 => ("OperaGlasses$Rumour", "teller", "I", false)
  | 1 => ("OperaGlasses$Rumour", "kind", "I", false)
  | 2 => ("OperaGlasses$Rumour", "a", "I", false)
  | 3 => ("OperaGlasses$Rumour", "b", "I", false)
  | _ => ("OperaGlasses$Rumour", "status", "I", false)
def tyX3 : Nat → FieldType := fun k => match k with
  | 0 => .int
  | 1 => .int
  | 2 => .int
  | 3 => .int
  | _ => .int
abbrev wsX30 : List Cond := u_ws RX3 TX3 5
theorem nmX3 : ∀ a, a < 5 → ∀ b, b < 5 → a ≠ b → (TX3 a).2.1 ≠ (TX3 b).2.1 := by decide +kernel
theorem tyX3_ok : ∀ k, k < 5 → parseFieldDescriptor (TX3 k).2.2.1 = some (tyX3 k) := by decide +kernel
abbrev cX3_init : ByteArray := prog_5_method_1_code
def yX3_init : MethodName := ⟨RX3, "<init>", "()V"⟩
abbrev cX3_become : ByteArray := prog_5_method_2_code
def yX3_become : MethodName := ⟨RX3, "become", "(IIII)V"⟩
abbrev cX3_copyFrom : ByteArray := prog_5_method_3_code
def yX3_copyFrom : MethodName := ⟨RX3, "copyFrom", "(LOperaGlasses$Rumour;)V"⟩
abbrev cX3_decide : ByteArray := prog_5_method_4_code
def yX3_decide : MethodName := ⟨RX3, "decide", "(Z)V"⟩
abbrev cX3_holdsIn : ByteArray := prog_5_method_5_code
def yX3_holdsIn : MethodName := ⟨RX3, "holdsIn", "([I)Z"⟩
abbrev cX3_isBrokenIn : ByteArray := prog_5_method_6_code
def yX3_isBrokenIn : MethodName := ⟨RX3, "isBrokenIn", "([I)Z"⟩
def RX4 : String := "OperaGlasses$Slot"
def TX4 : u_T := fun k => match k with
  | 0 => ("OperaGlasses$Slot", "state", "LOperaGlasses$House;", true)
  | _ => ("OperaGlasses$Slot", "used", "Z", false)
def tyX4 : Nat → FieldType := fun k => match k with
  | 0 => .object "OperaGlasses$House"
  | _ => .boolean
abbrev wsX40 : List Cond := u_ws RX4 TX4 2
theorem nmX4 : ∀ a, a < 2 → ∀ b, b < 2 → a ≠ b → (TX4 a).2.1 ≠ (TX4 b).2.1 := by decide +kernel
theorem tyX4_ok : ∀ k, k < 2 → parseFieldDescriptor (TX4 k).2.2.1 = some (tyX4 k) := by decide +kernel
abbrev cX4_init : ByteArray := prog_6_method_1_code
def yX4_init : MethodName := ⟨RX4, "<init>", "()V"⟩
def RX5 : String := "OperaGlasses$Survey"
def TX5 : u_T := fun k => match k with
  | 0 => ("OperaGlasses$Survey", "walk", "LOperaGlasses$Walk;", true)
  | 1 => ("OperaGlasses$Survey", "worlds", "I", false)
  | 2 => ("OperaGlasses$Survey", "mostWatchedPerson", "I", false)
  | 3 => ("OperaGlasses$Survey", "mostWatchers", "I", false)
  | 4 => ("OperaGlasses$Survey", "looking", "[I", true)
  | 5 => ("OperaGlasses$Survey", "holding", "[I", true)
  | 6 => ("OperaGlasses$Survey", "onlyBroken", "[I", true)
  | _ => ("OperaGlasses$Survey", "supposed", "LOperaGlasses$Rumour;", true)
def tyX5 : Nat → FieldType := fun k => match k with
  | 0 => .object "OperaGlasses$Walk"
  | 1 => .int
  | 2 => .int
  | 3 => .int
  | 4 => .array .int
  | 5 => .array .int
  | 6 => .array .int
  | _ => .object "OperaGlasses$Rumour"
abbrev wsX50 : List Cond := u_ws RX5 TX5 8
theorem nmX5 : ∀ a, a < 8 → ∀ b, b < 8 → a ≠ b → (TX5 a).2.1 ≠ (TX5 b).2.1 := by decide +kernel
theorem tyX5_ok : ∀ k, k < 8 → parseFieldDescriptor (TX5 k).2.2.1 = some (tyX5 k) := by decide +kernel
abbrev cX5_init : ByteArray := prog_7_method_1_code
def yX5_init : MethodName := ⟨RX5, "<init>", "()V"⟩
abbrev cX5_take : ByteArray := prog_7_method_2_code
def yX5_take : MethodName := ⟨RX5, "take", "(LOperaGlasses$House;)V"⟩
abbrev cX5_forget : ByteArray := prog_7_method_3_code
def yX5_forget : MethodName := ⟨RX5, "forget", "()V"⟩
abbrev cX5_tally : ByteArray := prog_7_method_4_code
def yX5_tally : MethodName := ⟨RX5, "tally", "(LOperaGlasses$House;)V"⟩
abbrev cX5_lookingAt : ByteArray := prog_7_method_5_code
def yX5_lookingAt : MethodName := ⟨RX5, "lookingAt", "(II)I"⟩
abbrev cX5_isCertain : ByteArray := prog_7_method_6_code
def yX5_isCertain : MethodName := ⟨RX5, "isCertain", "(I)Z"⟩
abbrev cX5_isRuledOut : ByteArray := prog_7_method_7_code
def yX5_isRuledOut : MethodName := ⟨RX5, "isRuledOut", "(I)Z"⟩
abbrev cX5_certainBox : ByteArray := prog_7_method_8_code
def yX5_certainBox : MethodName := ⟨RX5, "certainBox", "(I)I"⟩
abbrev cX5_certainPersons : ByteArray := prog_7_method_9_code
def yX5_certainPersons : MethodName := ⟨RX5, "certainPersons", "(I)I"⟩
abbrev cX5_openCertain : ByteArray := prog_7_method_10_code
def yX5_openCertain : MethodName := ⟨RX5, "openCertain", "(LOperaGlasses$House;)I"⟩
abbrev cX5_openRuledOut : ByteArray := prog_7_method_11_code
def yX5_openRuledOut : MethodName := ⟨RX5, "openRuledOut", "(LOperaGlasses$House;)I"⟩
abbrev cX5_worseOutcome : ByteArray := prog_7_method_12_code
def yX5_worseOutcome : MethodName := ⟨RX5, "worseOutcome", "(I)I"⟩
abbrev cX5_sharpestRumour : ByteArray := prog_7_method_13_code
def yX5_sharpestRumour : MethodName := ⟨RX5, "sharpestRumour", "(LOperaGlasses$House;)I"⟩
abbrev cX5_mostToBlame : ByteArray := prog_7_method_14_code
def yX5_mostToBlame : MethodName := ⟨RX5, "mostToBlame", "(LOperaGlasses$House;)I"⟩
abbrev cX5_worldsWith : ByteArray := prog_7_method_15_code
def yX5_worldsWith : MethodName := ⟨RX5, "worldsWith", "(LOperaGlasses$House;III)I"⟩
abbrev cX5_findMostWatched : ByteArray := prog_7_method_16_code
def yX5_findMostWatched : MethodName := ⟨RX5, "findMostWatched", "(LOperaGlasses$House;)V"⟩
abbrev cX5_compareWatchers : ByteArray := prog_7_method_17_code
def yX5_compareWatchers : MethodName := ⟨RX5, "compareWatchers", "(II)V"⟩
abbrev cX5_boxInWorld : ByteArray := prog_7_method_18_code
def yX5_boxInWorld : MethodName := ⟨RX5, "boxInWorld", "(LOperaGlasses$House;II)I"⟩
def RX6 : String := "OperaGlasses$Walk"
def TX6 : u_T := fun k => match k with
  | 0 => ("OperaGlasses$Walk", "boxes", "I", false)
  | _ => ("OperaGlasses$Walk", "boxOf", "[I", true)
def tyX6 : Nat → FieldType := fun k => match k with
  | 0 => .int
  | _ => .array .int
abbrev wsX60 : List Cond := u_ws RX6 TX6 2
theorem nmX6 : ∀ a, a < 2 → ∀ b, b < 2 → a ≠ b → (TX6 a).2.1 ≠ (TX6 b).2.1 := by decide +kernel
theorem tyX6_ok : ∀ k, k < 2 → parseFieldDescriptor (TX6 k).2.2.1 = some (tyX6 k) := by decide +kernel
abbrev cX6_init : ByteArray := prog_8_method_1_code
def yX6_init : MethodName := ⟨RX6, "<init>", "()V"⟩
abbrev cX6_begin : ByteArray := prog_8_method_2_code
def yX6_begin : MethodName := ⟨RX6, "begin", "(I)I"⟩
abbrev cX6_step : ByteArray := prog_8_method_3_code
def yX6_step : MethodName := ⟨RX6, "step", "()V"⟩
abbrev cX6_firstBoxFor : ByteArray := prog_8_method_4_code
def yX6_firstBoxFor : MethodName := ⟨RX6, "firstBoxFor", "(I)I"⟩
def RX7 : String := "OperaGlasses"
def TX7 : u_T := fun k => match k with
  | 0 => ("OperaGlasses", "house", "LOperaGlasses$House;", true)
  | 1 => ("OperaGlasses", "history", "LOperaGlasses$History;", true)
  | 2 => ("OperaGlasses", "firstSlot", "LOperaGlasses$Slot;", true)
  | 3 => ("OperaGlasses", "secondSlot", "LOperaGlasses$Slot;", true)
  | 4 => ("OperaGlasses", "pad", "LOperaGlasses$Pad;", true)
  | 5 => ("OperaGlasses", "survey", "LOperaGlasses$Survey;", true)
  | _ => ("OperaGlasses", "surveyed", "Z", false)
def tyX7 : Nat → FieldType := fun k => match k with
  | 0 => .object "OperaGlasses$House"
  | 1 => .object "OperaGlasses$History"
  | 2 => .object "OperaGlasses$Slot"
  | 3 => .object "OperaGlasses$Slot"
  | 4 => .object "OperaGlasses$Pad"
  | 5 => .object "OperaGlasses$Survey"
  | _ => .boolean
abbrev wsX70 : List Cond := u_ws RX7 TX7 7
theorem nmX7 : ∀ a, a < 7 → ∀ b, b < 7 → a ≠ b → (TX7 a).2.1 ≠ (TX7 b).2.1 := by decide +kernel
theorem tyX7_ok : ∀ k, k < 7 → parseFieldDescriptor (TX7 k).2.2.1 = some (tyX7 k) := by decide +kernel
abbrev cX7_init : ByteArray := prog_1_method_1_code
def yX7_init : MethodName := ⟨RX7, "<init>", "()V"⟩
abbrev cX7_open : ByteArray := prog_1_method_2_code
def yX7_open : MethodName := ⟨RX7, "open", "(I)I"⟩
abbrev cX7_look : ByteArray := prog_1_method_3_code
def yX7_look : MethodName := ⟨RX7, "look", "(II)I"⟩
abbrev cX7_tell : ByteArray := prog_1_method_4_code
def yX7_tell : MethodName := ⟨RX7, "tell", "(IIII)I"⟩
abbrev cX7_tellAll : ByteArray := prog_1_method_5_code
def yX7_tellAll : MethodName := ⟨RX7, "tellAll", "()I"⟩
abbrev cX7_prove : ByteArray := prog_1_method_6_code
def yX7_prove : MethodName := ⟨RX7, "prove", "(IZ)I"⟩
abbrev cX7_reveal : ByteArray := prog_1_method_7_code
def yX7_reveal : MethodName := ⟨RX7, "reveal", "()I"⟩
abbrev cX7_doubt : ByteArray := prog_1_method_8_code
def yX7_doubt : MethodName := ⟨RX7, "doubt", "(I)I"⟩
abbrev cX7_guess : ByteArray := prog_1_method_9_code
def yX7_guess : MethodName := ⟨RX7, "guess", "(III)I"⟩
abbrev cX7_endAct : ByteArray := prog_1_method_10_code
def yX7_endAct : MethodName := ⟨RX7, "endAct", "()I"⟩
abbrev cX7_person : ByteArray := prog_1_method_11_code
def yX7_person : MethodName := ⟨RX7, "person", "(II)I"⟩
abbrev cX7_rumour : ByteArray := prog_1_method_12_code
def yX7_rumour : MethodName := ⟨RX7, "rumour", "(II)I"⟩
abbrev cX7_count : ByteArray := prog_1_method_13_code
def yX7_count : MethodName := ⟨RX7, "count", "(I)I"⟩
abbrev cX7_possible : ByteArray := prog_1_method_14_code
def yX7_possible : MethodName := ⟨RX7, "possible", "(II)I"⟩
abbrev cX7_certain : ByteArray := prog_1_method_15_code
def yX7_certain : MethodName := ⟨RX7, "certain", "(I)I"⟩
abbrev cX7_world : ByteArray := prog_1_method_16_code
def yX7_world : MethodName := ⟨RX7, "world", "(II)I"⟩
abbrev cX7_ifProved : ByteArray := prog_1_method_17_code
def yX7_ifProved : MethodName := ⟨RX7, "ifProved", "(III)I"⟩
abbrev cX7_sharpest : ByteArray := prog_1_method_18_code
def yX7_sharpest : MethodName := ⟨RX7, "sharpest", "(I)I"⟩
abbrev cX7_blame : ByteArray := prog_1_method_19_code
def yX7_blame : MethodName := ⟨RX7, "blame", "(I)I"⟩
abbrev cX7_mostWatched : ByteArray := prog_1_method_20_code
def yX7_mostWatched : MethodName := ⟨RX7, "mostWatched", "(I)I"⟩
abbrev cX7_put : ByteArray := prog_1_method_21_code
def yX7_put : MethodName := ⟨RX7, "put", "(J)I"⟩
abbrev cX7_wipe : ByteArray := prog_1_method_22_code
def yX7_wipe : MethodName := ⟨RX7, "wipe", "()I"⟩
abbrev cX7_fault : ByteArray := prog_1_method_23_code
def yX7_fault : MethodName := ⟨RX7, "fault", "()I"⟩
abbrev cX7_undo : ByteArray := prog_1_method_24_code
def yX7_undo : MethodName := ⟨RX7, "undo", "()I"⟩
abbrev cX7_save : ByteArray := prog_1_method_25_code
def yX7_save : MethodName := ⟨RX7, "save", "(I)I"⟩
abbrev cX7_restore : ByteArray := prog_1_method_26_code
def yX7_restore : MethodName := ⟨RX7, "restore", "(I)I"⟩
abbrev cX7_beginChange : ByteArray := prog_1_method_27_code
def yX7_beginChange : MethodName := ⟨RX7, "beginChange", "()V"⟩
abbrev cX7_surveyNow : ByteArray := prog_1_method_28_code
def yX7_surveyNow : MethodName := ⟨RX7, "surveyNow", "()LOperaGlasses$Survey;"⟩
abbrev cX7_slotAt : ByteArray := prog_1_method_29_code
def yX7_slotAt : MethodName := ⟨RX7, "slotAt", "(I)LOperaGlasses$Slot;"⟩
abbrev cX7_allTellersAreThere : ByteArray := prog_1_method_30_code
def yX7_allTellersAreThere : MethodName := ⟨RX7, "allTellersAreThere", "()Z"⟩
abbrev cX7_allOnPadSuit : ByteArray := prog_1_method_31_code
def yX7_allOnPadSuit : MethodName := ⟨RX7, "allOnPadSuit", "()Z"⟩
abbrev cX7_pointsOfGuess : ByteArray := prog_1_method_32_code
def yX7_pointsOfGuess : MethodName := ⟨RX7, "pointsOfGuess", "(LOperaGlasses$Survey;II)I"⟩
abbrev cX7_lengthOfText : ByteArray := prog_1_method_33_code
def yX7_lengthOfText : MethodName := ⟨RX7, "lengthOfText", "(J)I"⟩
abbrev cX7_watchers : ByteArray := prog_1_method_34_code
def yX7_watchers : MethodName := ⟨RX7, "watchers", "([II)I"⟩
abbrev cX7_at : ByteArray := prog_1_method_35_code
def yX7_at : MethodName := ⟨RX7, "at", "([II)I"⟩
abbrev cX7_setAt : ByteArray := prog_1_method_36_code
def yX7_setAt : MethodName := ⟨RX7, "setAt", "([III)V"⟩
abbrev cX7_addAt : ByteArray := prog_1_method_37_code
def yX7_addAt : MethodName := ⟨RX7, "addAt", "([III)V"⟩
abbrev cX7_fillRow : ByteArray := prog_1_method_38_code
def yX7_fillRow : MethodName := ⟨RX7, "fillRow", "([II)V"⟩
abbrev cX7_copyRow : ByteArray := prog_1_method_39_code
def yX7_copyRow : MethodName := ⟨RX7, "copyRow", "([I[I)V"⟩
def RX8 : String := "OperaGlassesModel"
def TX8 : u_T := fun k => match k with
  | 0 => ("OperaGlassesModel", "state", "[I", true)
  | 1 => ("OperaGlassesModel", "history", "[I", true)
  | 2 => ("OperaGlassesModel", "recorded", "I", false)
  | 3 => ("OperaGlassesModel", "slots", "[I", true)
  | 4 => ("OperaGlassesModel", "isSaved", "[I", true)
  | 5 => ("OperaGlassesModel", "pad", "[I", true)
  | 6 => ("OperaGlassesModel", "padLength", "I", false)
  | 7 => ("OperaGlassesModel", "world", "[I", true)
  | 8 => ("OperaGlassesModel", "worlds", "I", false)
  | 9 => ("OperaGlassesModel", "looking", "[I", true)
  | 10 => ("OperaGlassesModel", "holding", "[I", true)
  | 11 => ("OperaGlassesModel", "butOne", "[I", true)
  | 12 => ("OperaGlassesModel", "mostPerson", "I", false)
  | 13 => ("OperaGlassesModel", "mostMany", "I", false)
  | 14 => ("OperaGlassesModel", "at", "I", false)
  | 15 => ("OperaGlassesModel", "teller", "I", false)
  | 16 => ("OperaGlassesModel", "kind", "I", false)
  | 17 => ("OperaGlassesModel", "first", "I", false)
  | _ => ("OperaGlassesModel", "second", "I", false)
def tyX8 : Nat → FieldType := fun k => match k with
  | 0 => .array .int
  | 1 => .array .int
  | 2 => .int
  | 3 => .array .int
  | 4 => .array .int
  | 5 => .array .int
  | 6 => .int
  | 7 => .array .int
  | 8 => .int
  | 9 => .array .int
  | 10 => .array .int
  | 11 => .array .int
  | 12 => .int
  | 13 => .int
  | 14 => .int
  | 15 => .int
  | 16 => .int
  | 17 => .int
  | _ => .int
abbrev wsX80 : List Cond := u_ws RX8 TX8 19
theorem nmX8 : ∀ a, a < 19 → ∀ b, b < 19 → a ≠ b → (TX8 a).2.1 ≠ (TX8 b).2.1 := by decide +kernel
theorem tyX8_ok : ∀ k, k < 19 → parseFieldDescriptor (TX8 k).2.2.1 = some (tyX8 k) := by decide +kernel
abbrev cX8_init : ByteArray := prog_10_method_1_code
def yX8_init : MethodName := ⟨RX8, "<init>", "()V"⟩
abbrev cX8_moves : ByteArray := prog_10_method_3_code
def yX8_moves : MethodName := ⟨RX8, "moves", "([II[II)V"⟩
abbrev cX8_within : ByteArray := prog_10_method_4_code
def yX8_within : MethodName := ⟨RX8, "within", "(III)Z"⟩
abbrev cX8_record : ByteArray := prog_10_method_5_code
def yX8_record : MethodName := ⟨RX8, "record", "()V"⟩
abbrev cX8_begins : ByteArray := prog_10_method_6_code
def yX8_begins : MethodName := ⟨RX8, "begins", "(I)V"⟩
abbrev cX8_isBox : ByteArray := prog_10_method_7_code
def yX8_isBox : MethodName := ⟨RX8, "isBox", "(I)Z"⟩
abbrev cX8_isRumour : ByteArray := prog_10_method_8_code
def yX8_isRumour : MethodName := ⟨RX8, "isRumour", "(I)Z"⟩
abbrev cX8_part : ByteArray := prog_10_method_9_code
def yX8_part : MethodName := ⟨RX8, "part", "(II)I"⟩
abbrev cX8_setHow : ByteArray := prog_10_method_10_code
def yX8_setHow : MethodName := ⟨RX8, "setHow", "(II)V"⟩
abbrev cX8_isOpen : ByteArray := prog_10_method_11_code
def yX8_isOpen : MethodName := ⟨RX8, "isOpen", "(I)Z"⟩
abbrev cX8_suits : ByteArray := prog_10_method_12_code
def yX8_suits : MethodName := ⟨RX8, "suits", "(III)Z"⟩
abbrev cX8_lookers : ByteArray := prog_10_method_13_code
def yX8_lookers : MethodName := ⟨RX8, "lookers", "(I)I"⟩
abbrev cX8_holds : ByteArray := prog_10_method_14_code
def yX8_holds : MethodName := ⟨RX8, "holds", "(III)Z"⟩
abbrev cX8_holdsRumour : ByteArray := prog_10_method_15_code
def yX8_holdsRumour : MethodName := ⟨RX8, "holdsRumour", "(I)Z"⟩
abbrev cX8_takeTruth : ByteArray := prog_10_method_16_code
def yX8_takeTruth : MethodName := ⟨RX8, "takeTruth", "()V"⟩
abbrev cX8_isTrue : ByteArray := prog_10_method_17_code
def yX8_isTrue : MethodName := ⟨RX8, "isTrue", "(I)Z"⟩
abbrev cX8_worldsInAll : ByteArray := prog_10_method_18_code
def yX8_worldsInAll : MethodName := ⟨RX8, "worldsInAll", "()I"⟩
abbrev cX8_takeWorld : ByteArray := prog_10_method_19_code
def yX8_takeWorld : MethodName := ⟨RX8, "takeWorld", "(I)V"⟩
abbrev cX8_wrongOne : ByteArray := prog_10_method_20_code
def yX8_wrongOne : MethodName := ⟨RX8, "wrongOne", "()I"⟩
abbrev cX8_clear : ByteArray := prog_10_method_21_code
def yX8_clear : MethodName := ⟨RX8, "clear", "()V"⟩
abbrev cX8_takesIn : ByteArray := prog_10_method_22_code
def yX8_takesIn : MethodName := ⟨RX8, "takesIn", "()V"⟩
abbrev cX8_goThrough : ByteArray := prog_10_method_23_code
def yX8_goThrough : MethodName := ⟨RX8, "goThrough", "()V"⟩
abbrev cX8_worldsNow : ByteArray := prog_10_method_24_code
def yX8_worldsNow : MethodName := ⟨RX8, "worldsNow", "()I"⟩
abbrev cX8_isTruthPossible : ByteArray := prog_10_method_25_code
def yX8_isTruthPossible : MethodName := ⟨RX8, "isTruthPossible", "()Z"⟩
abbrev cX8_certainBox : ByteArray := prog_10_method_26_code
def yX8_certainBox : MethodName := ⟨RX8, "certainBox", "(I)I"⟩
abbrev cX8_open : ByteArray := prog_10_method_27_code
def yX8_open : MethodName := ⟨RX8, "open", "(I)I"⟩
abbrev cX8_look : ByteArray := prog_10_method_28_code
def yX8_look : MethodName := ⟨RX8, "look", "(II)I"⟩
abbrev cX8_tells : ByteArray := prog_10_method_29_code
def yX8_tells : MethodName := ⟨RX8, "tells", "(IIII)I"⟩
abbrev cX8_tell : ByteArray := prog_10_method_30_code
def yX8_tell : MethodName := ⟨RX8, "tell", "(IIII)I"⟩
abbrev cX8_lookThrough : ByteArray := prog_10_method_31_code
def yX8_lookThrough : MethodName := ⟨RX8, "lookThrough", "()I"⟩
abbrev cX8_tellAll : ByteArray := prog_10_method_32_code
def yX8_tellAll : MethodName := ⟨RX8, "tellAll", "()I"⟩
abbrev cX8_prove : ByteArray := prog_10_method_33_code
def yX8_prove : MethodName := ⟨RX8, "prove", "(IZ)I"⟩
abbrev cX8_reveal : ByteArray := prog_10_method_34_code
def yX8_reveal : MethodName := ⟨RX8, "reveal", "()I"⟩
abbrev cX8_doubt : ByteArray := prog_10_method_35_code
def yX8_doubt : MethodName := ⟨RX8, "doubt", "(I)I"⟩
abbrev cX8_guess : ByteArray := prog_10_method_36_code
def yX8_guess : MethodName := ⟨RX8, "guess", "(III)I"⟩
abbrev cX8_endAct : ByteArray := prog_10_method_37_code
def yX8_endAct : MethodName := ⟨RX8, "endAct", "()I"⟩
abbrev cX8_told : ByteArray := prog_10_method_38_code
def yX8_told : MethodName := ⟨RX8, "told", "(IZ)I"⟩
abbrev cX8_person : ByteArray := prog_10_method_39_code
def yX8_person : MethodName := ⟨RX8, "person", "(II)I"⟩
abbrev cX8_rumour : ByteArray := prog_10_method_40_code
def yX8_rumour : MethodName := ⟨RX8, "rumour", "(II)I"⟩
abbrev cX8_openMany : ByteArray := prog_10_method_41_code
def yX8_openMany : MethodName := ⟨RX8, "openMany", "()I"⟩
abbrev cX8_certainPersons : ByteArray := prog_10_method_42_code
def yX8_certainPersons : MethodName := ⟨RX8, "certainPersons", "()I"⟩
abbrev cX8_certainRumours : ByteArray := prog_10_method_43_code
def yX8_certainRumours : MethodName := ⟨RX8, "certainRumours", "(Z)I"⟩
abbrev cX8_count : ByteArray := prog_10_method_44_code
def yX8_count : MethodName := ⟨RX8, "count", "(I)I"⟩
abbrev cX8_possible : ByteArray := prog_10_method_45_code
def yX8_possible : MethodName := ⟨RX8, "possible", "(II)I"⟩
abbrev cX8_certain : ByteArray := prog_10_method_46_code
def yX8_certain : MethodName := ⟨RX8, "certain", "(I)I"⟩
abbrev cX8_world : ByteArray := prog_10_method_47_code
def yX8_world : MethodName := ⟨RX8, "world", "(II)I"⟩
abbrev cX8_ifProved : ByteArray := prog_10_method_48_code
def yX8_ifProved : MethodName := ⟨RX8, "ifProved", "(III)I"⟩
abbrev cX8_sharpest : ByteArray := prog_10_method_49_code
def yX8_sharpest : MethodName := ⟨RX8, "sharpest", "(I)I"⟩
abbrev cX8_blame : ByteArray := prog_10_method_50_code
def yX8_blame : MethodName := ⟨RX8, "blame", "(I)I"⟩
abbrev cX8_mostWatched : ByteArray := prog_10_method_51_code
def yX8_mostWatched : MethodName := ⟨RX8, "mostWatched", "(I)I"⟩
abbrev cX8_put : ByteArray := prog_10_method_52_code
def yX8_put : MethodName := ⟨RX8, "put", "(J)I"⟩
abbrev cX8_wipe : ByteArray := prog_10_method_53_code
def yX8_wipe : MethodName := ⟨RX8, "wipe", "()I"⟩
abbrev cX8_character : ByteArray := prog_10_method_54_code
def yX8_character : MethodName := ⟨RX8, "character", "(I)I"⟩
abbrev cX8_isNext : ByteArray := prog_10_method_55_code
def yX8_isNext : MethodName := ⟨RX8, "isNext", "(I)Z"⟩
abbrev cX8_takeDigit : ByteArray := prog_10_method_56_code
def yX8_takeDigit : MethodName := ⟨RX8, "takeDigit", "(I)I"⟩
abbrev cX8_takeKind : ByteArray := prog_10_method_57_code
def yX8_takeKind : MethodName := ⟨RX8, "takeKind", "()I"⟩
abbrev cX8_readsRumour : ByteArray := prog_10_method_58_code
def yX8_readsRumour : MethodName := ⟨RX8, "readsRumour", "()Z"⟩
abbrev cX8_findFault : ByteArray := prog_10_method_59_code
def yX8_findFault : MethodName := ⟨RX8, "findFault", "()I"⟩
abbrev cX8_fault : ByteArray := prog_10_method_60_code
def yX8_fault : MethodName := ⟨RX8, "fault", "()I"⟩
abbrev cX8_undo : ByteArray := prog_10_method_61_code
def yX8_undo : MethodName := ⟨RX8, "undo", "()I"⟩
abbrev cX8_save : ByteArray := prog_10_method_62_code
def yX8_save : MethodName := ⟨RX8, "save", "(I)I"⟩
abbrev cX8_restore : ByteArray := prog_10_method_63_code
def yX8_restore : MethodName := ⟨RX8, "restore", "(I)I"⟩
def RJ11 : String := "java/lang/Character"
def TJ11 : u_T := fun k => match k with
  | _ => ("", "", "", false)
def tyJ11 : Nat → FieldType := fun k => match k with
  | _ => .int
abbrev wsJ110 : List Cond := u_ws RJ11 TJ11 0
theorem nmJ11 : ∀ a, a < 0 → ∀ b, b < 0 → a ≠ b → (TJ11 a).2.1 ≠ (TJ11 b).2.1 := by decide +kernel
theorem tyJ11_ok : ∀ k, k < 0 → parseFieldDescriptor (TJ11 k).2.2.1 = some (tyJ11 k) := by decide +kernel
abbrev cJ11_isValidCodePoint_9a6ad : ByteArray := prog_11_method_11_code
def yJ11_isValidCodePoint_9a6ad : MethodName := ⟨RJ11, "isValidCodePoint", "(I)Z"⟩
abbrev cJ11_highSurrogate_5068e : ByteArray := prog_11_method_28_code
def yJ11_highSurrogate_5068e : MethodName := ⟨RJ11, "highSurrogate", "(I)C"⟩
abbrev cJ11_lowSurrogate_5068e : ByteArray := prog_11_method_29_code
def yJ11_lowSurrogate_5068e : MethodName := ⟨RJ11, "lowSurrogate", "(I)C"⟩
def RJ9 : String := "java/lang/Math"
def TJ9 : u_T := fun k => match k with
  | _ => ("", "", "", false)
def tyJ9 : Nat → FieldType := fun k => match k with
  | _ => .int
abbrev wsJ90 : List Cond := u_ws RJ9 TJ9 0
theorem nmJ9 : ∀ a, a < 0 → ∀ b, b < 0 → a ≠ b → (TJ9 a).2.1 ≠ (TJ9 b).2.1 := by decide +kernel
theorem tyJ9_ok : ∀ k, k < 0 → parseFieldDescriptor (TJ9 k).2.2.1 = some (tyJ9 k) := by decide +kernel
abbrev cJ9_max_7cf53 : ByteArray := prog_12_method_65_code
def yJ9_max_7cf53 : MethodName := ⟨RJ9, "max", "(II)I"⟩
abbrev cJ9_min_7cf53 : ByteArray := prog_12_method_69_code
def yJ9_min_7cf53 : MethodName := ⟨RJ9, "min", "(II)I"⟩
def RJ0 : String := "java/lang/String"
def TJ0 : u_T := fun k => match k with
  | _ => ("", "", "", false)
def tyJ0 : Nat → FieldType := fun k => match k with
  | _ => .int
abbrev wsJ00 : List Cond := u_ws RJ0 TJ0 0
theorem nmJ0 : ∀ a, a < 0 → ∀ b, b < 0 → a ≠ b → (TJ0 a).2.1 ≠ (TJ0 b).2.1 := by decide +kernel
theorem tyJ0_ok : ∀ k, k < 0 → parseFieldDescriptor (TJ0 k).2.2.1 = some (tyJ0 k) := by decide +kernel
abbrev cJ0_length_8abf5 : ByteArray := prog_13_method_54_code
def yJ0_length_8abf5 : MethodName := ⟨RJ0, "length", "()I"⟩
abbrev cJ0_indexOf_0f7a4 : ByteArray := prog_13_method_79_code
def yJ0_indexOf_0f7a4 : MethodName := ⟨RJ0, "indexOf", "(I)I"⟩
abbrev cJ0_indexOf_7cf53 : ByteArray := prog_13_method_80_code
def yJ0_indexOf_7cf53 : MethodName := ⟨RJ0, "indexOf", "(II)I"⟩
abbrev cJ0_coder_7d493 : ByteArray := prog_13_method_152_code
def yJ0_coder_7d493 : MethodName := ⟨RJ0, "coder", "()B"⟩
abbrev cJ0_isLatin1_aae02 : ByteArray := prog_13_method_154_code
def yJ0_isLatin1_aae02 : MethodName := ⟨RJ0, "isLatin1", "()Z"⟩
abbrev cJ0_checkBoundsBeginEnd_23922 : ByteArray := prog_13_method_158_code
def yJ0_checkBoundsBeginEnd_23922 : MethodName := ⟨RJ0, "checkBoundsBeginEnd", "(III)V"⟩
def RJ1 : String := "java/lang/StringLatin1"
def TJ1 : u_T := fun k => match k with
  | _ => ("", "", "", false)
def tyJ1 : Nat → FieldType := fun k => match k with
  | _ => .int
abbrev wsJ10 : List Cond := u_ws RJ1 TJ1 0
theorem nmJ1 : ∀ a, a < 0 → ∀ b, b < 0 → a ≠ b → (TJ1 a).2.1 ≠ (TJ1 b).2.1 := by decide +kernel
theorem tyJ1_ok : ∀ k, k < 0 → parseFieldDescriptor (TJ1 k).2.2.1 = some (tyJ1 k) := by decide +kernel
abbrev cJ1_canEncode_9a6ad : ByteArray := prog_14_method_4_code
def yJ1_canEncode_9a6ad : MethodName := ⟨RJ1, "canEncode", "(I)Z"⟩
abbrev cJ1_indexOf_4cfef : ByteArray := prog_14_method_22_code
def yJ1_indexOf_4cfef : MethodName := ⟨RJ1, "indexOf", "([BIII)I"⟩
abbrev cJ1_indexOfChar_4cfef : ByteArray := prog_14_method_23_code
def yJ1_indexOfChar_4cfef : MethodName := ⟨RJ1, "indexOfChar", "([BIII)I"⟩
def RJ2 : String := "java/lang/StringUTF16"
def TJ2 : u_T := fun k => match k with
  | _ => ("", "", "", false)
def tyJ2 : Nat → FieldType := fun k => match k with
  | _ => .int
abbrev wsJ20 : List Cond := u_ws RJ2 TJ2 0
theorem nmJ2 : ∀ a, a < 0 → ∀ b, b < 0 → a ≠ b → (TJ2 a).2.1 ≠ (TJ2 b).2.1 := by decide +kernel
theorem tyJ2_ok : ∀ k, k < 0 → parseFieldDescriptor (TJ2 k).2.2.1 = some (tyJ2 k) := by decide +kernel
abbrev cJ2_getChar_3b067 : ByteArray := prog_15_method_5_code
def yJ2_getChar_3b067 : MethodName := ⟨RJ2, "getChar", "([BI)C"⟩
abbrev cJ2_length_9d52b : ByteArray := prog_15_method_6_code
def yJ2_length_9d52b : MethodName := ⟨RJ2, "length", "([B)I"⟩
abbrev cJ2_indexOf_4cfef : ByteArray := prog_15_method_40_code
def yJ2_indexOf_4cfef : MethodName := ⟨RJ2, "indexOf", "([BIII)I"⟩
abbrev cJ2_indexOfChar_4cfef : ByteArray := prog_15_method_47_code
def yJ2_indexOfChar_4cfef : MethodName := ⟨RJ2, "indexOfChar", "([BIII)I"⟩
abbrev cJ2_indexOfCharUnsafe_4cfef : ByteArray := prog_15_method_48_code
def yJ2_indexOfCharUnsafe_4cfef : MethodName := ⟨RJ2, "indexOfCharUnsafe", "([BIII)I"⟩
abbrev cJ2_indexOfSupplementary_4cfef : ByteArray := prog_15_method_49_code
def yJ2_indexOfSupplementary_4cfef : MethodName := ⟨RJ2, "indexOfSupplementary", "([BIII)I"⟩
abbrev cJ2_checkBoundsBeginEnd_d044e : ByteArray := prog_15_method_93_code
def yJ2_checkBoundsBeginEnd_d044e : MethodName := ⟨RJ2, "checkBoundsBeginEnd", "(II[B)V"⟩
def RJ3 : String := "jdk/internal/util/Preconditions"
def TJ3 : u_T := fun k => match k with
  | _ => ("", "", "", false)
def tyJ3 : Nat → FieldType := fun k => match k with
  | _ => .int
abbrev wsJ30 : List Cond := u_ws RJ3 TJ3 0
theorem nmJ3 : ∀ a, a < 0 → ∀ b, b < 0 → a ≠ b → (TJ3 a).2.1 ≠ (TJ3 b).2.1 := by decide +kernel
theorem tyJ3_ok : ∀ k, k < 0 → parseFieldDescriptor (TJ3 k).2.2.1 = some (tyJ3 k) := by decide +kernel
abbrev cJ3_checkFromToIndex_8c36e : ByteArray := prog_16_method_12_code
def yJ3_checkFromToIndex_8c36e : MethodName := ⟨RJ3, "checkFromToIndex", "(IIILjava/util/function/BiFunction;)I"⟩
def RL : String := "OperaGlassesLaw"
abbrev cL_law : ByteArray := code
def yL_law : MethodName := ⟨RL, "law", "([I)Z"⟩
def wsL_law_r1 : List Cond := [Cond.classLink RL 7 RX7, Cond.instantiable RX7 7, Cond.initialized RX7, Cond.classLink RL 10 RX8, Cond.instantiable RX8 19, Cond.initialized RX8, Cond.constantLong RL 95 (4294967295), Cond.methodLink RL 9 yX7_init, Cond.instanceMethod yX7_init, Cond.code yX7_init cX7_init 1 none, Cond.methodLink RX7 1 objectInit, Cond.instanceMethod objectInit, Cond.code objectInit ⟨#[0xb1]⟩ 1 none, Cond.classLink RX7 7 RX1, Cond.instantiable RX1 7, Cond.initialized RX1, Cond.fieldLink RX7 10 "OperaGlasses" "house" "LOperaGlasses$House;", Cond.classLink RX7 16 RX0, Cond.instantiable RX0 3, Cond.initialized RX0, Cond.fieldLink RX7 19 "OperaGlasses" "history" "LOperaGlasses$History;", Cond.classLink RX7 23 RX4, Cond.instantiable RX4 2, Cond.initialized RX4]
def wsL_law_r2 : List Cond := [Cond.fieldLink RX7 26 "OperaGlasses" "firstSlot" "LOperaGlasses$Slot;", Cond.fieldLink RX7 30 "OperaGlasses" "secondSlot" "LOperaGlasses$Slot;", Cond.classLink RX7 33 RX2, Cond.instantiable RX2 2, Cond.initialized RX2, Cond.fieldLink RX7 36 "OperaGlasses" "pad" "LOperaGlasses$Pad;", Cond.classLink RX7 40 RX5, Cond.instantiable RX5 8, Cond.initialized RX5, Cond.fieldLink RX7 43 "OperaGlasses" "survey" "LOperaGlasses$Survey;", Cond.methodLink RX7 9 yX1_init, Cond.instanceMethod yX1_init, Cond.code yX1_init cX1_init 2 none, Cond.methodLink RX1 3 objectInit, Cond.arrayClass .int, Cond.fieldLink RX1 9 "OperaGlasses$House" "looks" "[I", Cond.fieldLink RX1 15 "OperaGlasses$House" "scores" "[I", Cond.fieldLink RX1 18 "OperaGlasses$House" "guessed" "[I", Cond.classLink RX1 21 RX3, Cond.fieldLink RX1 23 "OperaGlasses$House" "rumours" "[LOperaGlasses$Rumour;", Cond.instantiable RX3 5, Cond.initialized RX3, Cond.instanceMethod yX3_init, Cond.code yX3_init cX3_init 1 none]
def wsL_law_r3 : List Cond := [Cond.methodLink RX3 3 objectInit, Cond.methodLink RX7 18 yX0_init, Cond.instanceMethod yX0_init, Cond.code yX0_init cX0_init 2 none, Cond.methodLink RX0 3 objectInit, Cond.classLink RX0 9 RX1, Cond.fieldLink RX0 11 "OperaGlasses$History" "states" "[LOperaGlasses$House;", Cond.methodLink RX0 17 yX1_init, Cond.instanceMethod yX4_init, Cond.code yX4_init cX4_init 1 none, Cond.methodLink RX4 1 objectInit, Cond.classLink RX4 7 RX1, Cond.fieldLink RX4 10 "OperaGlasses$Slot" "state" "LOperaGlasses$House;", Cond.methodLink RX4 9 yX1_init, Cond.instanceMethod yX2_init, Cond.code yX2_init cX2_init 1 none, Cond.methodLink RX2 3 objectInit, Cond.arrayClass .char, Cond.fieldLink RX2 9 "OperaGlasses$Pad" "text" "[C", Cond.instanceMethod yX5_init, Cond.code yX5_init cX5_init 1 none, Cond.methodLink RX5 3 objectInit, Cond.classLink RX5 9 RX6, Cond.instantiable RX6 2]
def wsL_law_r4 : List Cond := [Cond.initialized RX6, Cond.fieldLink RX5 12 "OperaGlasses$Survey" "walk" "LOperaGlasses$Walk;", Cond.fieldLink RX5 18 "OperaGlasses$Survey" "looking" "[I", Cond.fieldLink RX5 22 "OperaGlasses$Survey" "holding" "[I", Cond.fieldLink RX5 25 "OperaGlasses$Survey" "onlyBroken" "[I", Cond.classLink RX5 28 RX3, Cond.fieldLink RX5 31 "OperaGlasses$Survey" "supposed" "LOperaGlasses$Rumour;", Cond.instanceMethod yX6_init, Cond.code yX6_init cX6_init 1 none, Cond.methodLink RX6 3 objectInit, Cond.fieldLink RX6 9 "OperaGlasses$Walk" "boxOf" "[I", Cond.methodLink RX7 47 yX1_arrange, Cond.instanceMethod yX1_arrange, Cond.selects RX1 yX1_arrange yX1_arrange, Cond.code yX1_arrange cX1_arrange 3 none, Cond.fieldLink RX1 28 "OperaGlasses$House" "boxes" "I", Cond.fieldLink RX1 32 "OperaGlasses$House" "act" "I", Cond.fieldLink RX1 35 "OperaGlasses$House" "told" "I", Cond.static yX7_fillRow, Cond.code yX7_fillRow cX7_fillRow 3 none, Cond.methodLink RL 12 yX8_init, Cond.instanceMethod yX8_init, Cond.code yX8_init cX8_init 1 none, Cond.methodLink RX8 1 objectInit]
def wsL_law_r5 : List Cond := [Cond.fieldLink RX8 7 "OperaGlassesModel" "state" "[I", Cond.fieldLink RX8 13 "OperaGlassesModel" "history" "[I", Cond.fieldLink RX8 16 "OperaGlassesModel" "slots" "[I", Cond.fieldLink RX8 19 "OperaGlassesModel" "isSaved" "[I", Cond.fieldLink RX8 22 "OperaGlassesModel" "pad" "[I", Cond.fieldLink RX8 25 "OperaGlassesModel" "world" "[I", Cond.fieldLink RX8 28 "OperaGlassesModel" "looking" "[I", Cond.fieldLink RX8 31 "OperaGlassesModel" "holding" "[I", Cond.fieldLink RX8 34 "OperaGlassesModel" "butOne" "[I", Cond.methodLink RX8 37 yX8_begins, Cond.instanceMethod yX8_begins, Cond.selects RX8 yX8_begins yX8_begins, Cond.code yX8_begins cX8_begins 3 none, Cond.methodLink RL 13 yX7_open, Cond.instanceMethod yX7_open, Cond.selects RX7 yX7_open yX7_open, Cond.code yX7_open cX7_open 3 (some .int), Cond.methodLink RX7 55 yX7_beginChange, Cond.instanceMethod yX7_beginChange, Cond.selects RX7 yX7_beginChange yX7_beginChange, Cond.code yX7_beginChange cX7_beginChange 1 none, Cond.fieldLink RX7 261 "OperaGlasses" "surveyed" "Z", Cond.methodLink RX7 278 yX0_record, Cond.instanceMethod yX0_record]
def wsL_law_r6 : List Cond := [Cond.selects RX0 yX0_record yX0_record, Cond.code yX0_record cX0_record 3 none, Cond.fieldLink RX0 18 "OperaGlasses$History" "next" "I", Cond.fieldLink RX0 30 "OperaGlasses$History" "kept" "I", Cond.methodLink RX0 33 Lib.Math.min.name, Cond.static Lib.Math.min.name, Cond.initialized "java/lang/Math", Cond.code Lib.Math.min.name Lib.Math.min.code 2 (some .int), Cond.methodLink RX0 22 yX0_stateAt, Cond.instanceMethod yX0_stateAt, Cond.selects RX0 yX0_stateAt yX0_stateAt, Cond.code yX0_stateAt cX0_stateAt 2 (some (.object "OperaGlasses$House")), Cond.methodLink RX0 26 yX1_copyFrom, Cond.instanceMethod yX1_copyFrom, Cond.selects RX1 yX1_copyFrom yX1_copyFrom, Cond.code yX1_copyFrom cX1_copyFrom 5 none, Cond.static yX7_copyRow, Cond.code yX7_copyRow cX7_copyRow 3 none, Cond.methodLink RX1 46 yX1_rumourAt, Cond.instanceMethod yX1_rumourAt, Cond.selects RX1 yX1_rumourAt yX1_rumourAt, Cond.code yX1_rumourAt cX1_rumourAt 2 (some (.object "OperaGlasses$Rumour")), Cond.methodLink RX1 50 yX3_copyFrom, Cond.instanceMethod yX3_copyFrom]
def wsL_law_r7 : List Cond := [Cond.selects RX3 yX3_copyFrom yX3_copyFrom, Cond.code yX3_copyFrom cX3_copyFrom 2 none, Cond.fieldLink RX3 9 "OperaGlasses$Rumour" "teller" "I", Cond.fieldLink RX3 15 "OperaGlasses$Rumour" "kind" "I", Cond.fieldLink RX3 18 "OperaGlasses$Rumour" "a" "I", Cond.fieldLink RX3 21 "OperaGlasses$Rumour" "b" "I", Cond.fieldLink RX3 24 "OperaGlasses$Rumour" "status" "I", Cond.methodLink RX3 27 yX3_become, Cond.instanceMethod yX3_become, Cond.selects RX3 yX3_become yX3_become, Cond.code yX3_become cX3_become 5 none, Cond.methodLink RL 17 yX8_open, Cond.instanceMethod yX8_open, Cond.selects RX8 yX8_open yX8_open, Cond.code yX8_open cX8_open 3 (some .int), Cond.methodLink RX8 49 yX8_within, Cond.static yX8_within, Cond.code yX8_within cX8_within 3 (some .boolean), Cond.methodLink RX8 105 yX8_record, Cond.instanceMethod yX8_record, Cond.selects RX8 yX8_record yX8_record, Cond.code yX8_record cX8_record 2 none, Cond.fieldLink RX8 41 "OperaGlassesModel" "recorded" "I", Cond.methodLink RX8 45 yX8_moves]
def wsL_law_r8 : List Cond := [Cond.static yX8_moves, Cond.code yX8_moves cX8_moves 5 none, Cond.methodLink RL 18 yX7_look, Cond.instanceMethod yX7_look, Cond.selects RX7 yX7_look yX7_look, Cond.code yX7_look cX7_look 4 (some .int), Cond.methodLink RX7 58 yX1_hasBox, Cond.instanceMethod yX1_hasBox, Cond.selects RX1 yX1_hasBox yX1_hasBox, Cond.code yX1_hasBox cX1_hasBox 2 (some .boolean), Cond.methodLink RX7 66 yX7_at, Cond.static yX7_at, Cond.code yX7_at cX7_at 2 (some .int), Cond.methodLink RX7 70 yX7_setAt, Cond.static yX7_setAt, Cond.code yX7_setAt cX7_setAt 3 none, Cond.methodLink RL 22 yX8_look, Cond.instanceMethod yX8_look, Cond.selects RX8 yX8_look yX8_look, Cond.code yX8_look cX8_look 4 (some .int), Cond.methodLink RX8 57 yX8_isBox, Cond.instanceMethod yX8_isBox, Cond.selects RX8 yX8_isBox yX8_isBox, Cond.code yX8_isBox cX8_isBox 2 (some .boolean)]
def wsL_law_r9 : List Cond := [Cond.methodLink RL 23 yX7_tell, Cond.instanceMethod yX7_tell, Cond.selects RX7 yX7_tell yX7_tell, Cond.code yX7_tell cX7_tell 5 (some .int), Cond.methodLink RX7 74 yX1_suits, Cond.instanceMethod yX1_suits, Cond.selects RX1 yX1_suits yX1_suits, Cond.code yX1_suits cX1_suits 4 (some .boolean), Cond.methodLink RX1 54 yX1_hasBox, Cond.methodLink RX7 78 yX1_hasRoomFor, Cond.instanceMethod yX1_hasRoomFor, Cond.selects RX1 yX1_hasRoomFor yX1_hasRoomFor, Cond.code yX1_hasRoomFor cX1_hasRoomFor 2 (some .boolean), Cond.methodLink RX7 81 yX1_addRumour, Cond.instanceMethod yX1_addRumour, Cond.selects RX1 yX1_addRumour yX1_addRumour, Cond.code yX1_addRumour cX1_addRumour 6 none, Cond.methodLink RX1 58 yX1_hasRoomFor, Cond.methodLink RX1 61 yX3_become, Cond.methodLink RL 27 yX8_tell, Cond.instanceMethod yX8_tell, Cond.selects RX8 yX8_tell yX8_tell, Cond.code yX8_tell cX8_tell 5 (some .int), Cond.methodLink RX8 108 yX8_suits]
def wsL_law_r10 : List Cond := [Cond.instanceMethod yX8_suits, Cond.selects RX8 yX8_suits yX8_suits, Cond.code yX8_suits cX8_suits 4 (some .boolean), Cond.methodLink RX8 111 yX8_tells, Cond.instanceMethod yX8_tells, Cond.selects RX8 yX8_tells yX8_tells, Cond.code yX8_tells cX8_tells 6 (some .int), Cond.methodLink RL 28 yX7_tellAll, Cond.instanceMethod yX7_tellAll, Cond.selects RX7 yX7_tellAll yX7_tellAll, Cond.code yX7_tellAll cX7_tellAll 3 (some .int), Cond.methodLink RX7 88 yX2_firstFault, Cond.instanceMethod yX2_firstFault, Cond.selects RX2 yX2_firstFault yX2_firstFault, Cond.code yX2_firstFault cX2_firstFault 2 (some .int), Cond.fieldLink RX2 15 "OperaGlasses$Pad" "length" "I", Cond.methodLink RX2 19 yX2_canStandAt, Cond.instanceMethod yX2_canStandAt, Cond.selects RX2 yX2_canStandAt yX2_canStandAt, Cond.code yX2_canStandAt cX2_canStandAt 3 (some .boolean), Cond.methodLink RX2 23 yX2_characterAt, Cond.instanceMethod yX2_characterAt, Cond.selects RX2 yX2_characterAt yX2_characterAt, Cond.code yX2_characterAt cX2_characterAt 2 (some .char)]
def wsL_law_r11 : List Cond := [Cond.methodLink RX2 27 yX2_isDigit, Cond.static yX2_isDigit, Cond.code yX2_isDigit cX2_isDigit 2 (some .boolean), Cond.methodLink RX2 33 yJ0_indexOf_0f7a4, Cond.instanceMethod yJ0_indexOf_0f7a4, Cond.selects RJ0 yJ0_indexOf_0f7a4 yJ0_indexOf_0f7a4, Cond.initialized RJ0, Cond.code yJ0_indexOf_0f7a4 cJ0_indexOf_0f7a4 2 (some .int), Cond.methodLink RJ0 633 yJ0_indexOf_7cf53, Cond.instanceMethod yJ0_indexOf_7cf53, Cond.selects RJ0 yJ0_indexOf_7cf53 yJ0_indexOf_7cf53, Cond.code yJ0_indexOf_7cf53 cJ0_indexOf_7cf53 3 (some .int), Cond.fieldLink RJ0 9 "java/lang/String" "value" "[B", Cond.methodLink RJ0 492 yJ0_isLatin1_aae02, Cond.instanceMethod yJ0_isLatin1_aae02, Cond.selects RJ0 yJ0_isLatin1_aae02 yJ0_isLatin1_aae02, Cond.code yJ0_isLatin1_aae02 cJ0_isLatin1_aae02 1 (some .boolean), Cond.fieldLink RJ0 38 "java/lang/String" "COMPACT_STRINGS" "Z", Cond.fieldLink RJ0 15 "java/lang/String" "coder" "B", Cond.methodLink RJ0 505 yJ0_length_8abf5, Cond.instanceMethod yJ0_length_8abf5, Cond.selects RJ0 yJ0_length_8abf5 yJ0_length_8abf5, Cond.code yJ0_length_8abf5 cJ0_length_8abf5 1 (some .int), Cond.methodLink RJ0 335 yJ0_coder_7d493]
def wsL_law_r12 : List Cond := [Cond.instanceMethod yJ0_coder_7d493, Cond.selects RJ0 yJ0_coder_7d493 yJ0_coder_7d493, Cond.code yJ0_coder_7d493 cJ0_coder_7d493 1 (some .byte), Cond.methodLink RJ0 637 yJ1_indexOf_4cfef, Cond.static yJ1_indexOf_4cfef, Cond.initialized RJ1, Cond.code yJ1_indexOf_4cfef cJ1_indexOf_4cfef 4 (some .int), Cond.methodLink RJ1 92 Lib.Math.max.name, Cond.static Lib.Math.max.name, Cond.code Lib.Math.max.name Lib.Math.max.code 2 (some .int), Cond.methodLink RJ1 38 Lib.Math.min.name, Cond.methodLink RJ1 88 yJ1_canEncode_9a6ad, Cond.static yJ1_canEncode_9a6ad, Cond.code yJ1_canEncode_9a6ad cJ1_canEncode_9a6ad 1 (some .boolean), Cond.methodLink RJ1 95 yJ1_indexOfChar_4cfef, Cond.static yJ1_indexOfChar_4cfef, Cond.code yJ1_indexOfChar_4cfef cJ1_indexOfChar_4cfef 6 (some .int), Cond.methodLink RJ0 640 yJ2_indexOf_4cfef, Cond.static yJ2_indexOf_4cfef, Cond.initialized RJ2, Cond.code yJ2_indexOf_4cfef cJ2_indexOf_4cfef 4 (some .int), Cond.methodLink RJ2 224 Lib.Math.max.name, Cond.methodLink RJ2 183 Lib.Math.min.name, Cond.constant RJ2 227 (65536)]
def wsL_law_r13 : List Cond := [Cond.methodLink RJ2 228 yJ2_indexOfChar_4cfef, Cond.static yJ2_indexOfChar_4cfef, Cond.code yJ2_indexOfChar_4cfef cJ2_indexOfChar_4cfef 4 (some .int), Cond.methodLink RJ2 96 yJ2_checkBoundsBeginEnd_d044e, Cond.static yJ2_checkBoundsBeginEnd_d044e, Cond.code yJ2_checkBoundsBeginEnd_d044e cJ2_checkBoundsBeginEnd_d044e 3 none, Cond.methodLink RJ2 48 yJ2_length_9d52b, Cond.static yJ2_length_9d52b, Cond.code yJ2_length_9d52b cJ2_length_9d52b 1 (some .int), Cond.methodLink RJ2 241 yJ0_checkBoundsBeginEnd_23922, Cond.static yJ0_checkBoundsBeginEnd_23922, Cond.code yJ0_checkBoundsBeginEnd_23922 cJ0_checkBoundsBeginEnd_23922 3 none, Cond.fieldLink RJ0 1053 "jdk/internal/util/Preconditions" "SIOOBE_FORMATTER" "Ljava/util/function/BiFunction;", Cond.methodLink RJ0 1062 yJ3_checkFromToIndex_8c36e, Cond.static yJ3_checkFromToIndex_8c36e, Cond.initialized RJ3, Cond.code yJ3_checkFromToIndex_8c36e cJ3_checkFromToIndex_8c36e 4 (some .int), Cond.methodLink RJ2 244 yJ2_indexOfCharUnsafe_4cfef, Cond.static yJ2_indexOfCharUnsafe_4cfef, Cond.code yJ2_indexOfCharUnsafe_4cfef cJ2_indexOfCharUnsafe_4cfef 5 (some .int), Cond.methodLink RJ2 71 yJ2_getChar_3b067, Cond.static yJ2_getChar_3b067, Cond.code yJ2_getChar_3b067 cJ2_getChar_3b067 2 (some .char), Cond.fieldLink RJ2 44 "java/lang/StringUTF16" "$assertionsDisabled" "Z"]
def wsL_law_r14 : List Cond := [Cond.fieldLink RJ2 59 "java/lang/StringUTF16" "HI_BYTE_SHIFT" "I", Cond.fieldLink RJ2 63 "java/lang/StringUTF16" "LO_BYTE_SHIFT" "I", Cond.methodLink RJ2 232 yJ2_indexOfSupplementary_4cfef, Cond.static yJ2_indexOfSupplementary_4cfef, Cond.code yJ2_indexOfSupplementary_4cfef cJ2_indexOfSupplementary_4cfef 7 (some .int), Cond.methodLink RJ2 164 yJ11_isValidCodePoint_9a6ad, Cond.static yJ11_isValidCodePoint_9a6ad, Cond.initialized RJ11, Cond.code yJ11_isValidCodePoint_9a6ad cJ11_isValidCodePoint_9a6ad 2 (some .boolean), Cond.methodLink RJ2 157 yJ11_highSurrogate_5068e, Cond.static yJ11_highSurrogate_5068e, Cond.code yJ11_highSurrogate_5068e cJ11_highSurrogate_5068e 1 (some .char), Cond.constant RJ11 110 (55232), Cond.methodLink RJ2 161 yJ11_lowSurrogate_5068e, Cond.static yJ11_lowSurrogate_5068e, Cond.code yJ11_lowSurrogate_5068e cJ11_lowSurrogate_5068e 1 (some .char), Cond.constant RJ11 76 (56320), Cond.methodLink RX2 39 yX2_canBeB, Cond.static yX2_canBeB, Cond.code yX2_canBeB cX2_canBeB 3 (some .boolean), Cond.methodLink RX7 92 yX7_allTellersAreThere, Cond.instanceMethod yX7_allTellersAreThere, Cond.selects RX7 yX7_allTellersAreThere yX7_allTellersAreThere, Cond.code yX7_allTellersAreThere cX7_allTellersAreThere 2 (some .boolean)]
def wsL_law_r15 : List Cond := [Cond.methodLink RX7 99 yX2_rumours, Cond.instanceMethod yX2_rumours, Cond.selects RX2 yX2_rumours yX2_rumours, Cond.code yX2_rumours cX2_rumours 1 (some .int), Cond.methodLink RX7 102 yX2_tellerOf, Cond.instanceMethod yX2_tellerOf, Cond.selects RX2 yX2_tellerOf yX2_tellerOf, Cond.code yX2_tellerOf cX2_tellerOf 2 (some .int), Cond.methodLink RX2 43 yX2_digitAt, Cond.instanceMethod yX2_digitAt, Cond.selects RX2 yX2_digitAt yX2_digitAt, Cond.code yX2_digitAt cX2_digitAt 2 (some .int), Cond.methodLink RX7 96 yX7_allOnPadSuit, Cond.instanceMethod yX7_allOnPadSuit, Cond.selects RX7 yX7_allOnPadSuit yX7_allOnPadSuit, Cond.code yX7_allOnPadSuit cX7_allOnPadSuit 2 (some .boolean), Cond.methodLink RX7 106 yX2_kindOf, Cond.instanceMethod yX2_kindOf, Cond.selects RX2 yX2_kindOf yX2_kindOf, Cond.code yX2_kindOf cX2_kindOf 2 (some .int), Cond.methodLink RX7 109 yX2_aOf, Cond.instanceMethod yX2_aOf, Cond.selects RX2 yX2_aOf yX2_aOf, Cond.code yX2_aOf cX2_aOf 2 (some .int)]
def wsL_law_r16 : List Cond := [Cond.methodLink RX7 112 yX2_bOf, Cond.instanceMethod yX2_bOf, Cond.selects RX2 yX2_bOf yX2_bOf, Cond.code yX2_bOf cX2_bOf 2 (some .int), Cond.methodLink RX7 115 yX2_empty, Cond.instanceMethod yX2_empty, Cond.selects RX2 yX2_empty yX2_empty, Cond.code yX2_empty cX2_empty 1 none, Cond.methodLink RL 32 yX8_tellAll, Cond.instanceMethod yX8_tellAll, Cond.selects RX8 yX8_tellAll yX8_tellAll, Cond.code yX8_tellAll cX8_tellAll 2 (some .int), Cond.fieldLink RX8 115 "OperaGlassesModel" "at" "I", Cond.fieldLink RX8 118 "OperaGlassesModel" "padLength" "I", Cond.fieldLink RX8 128 "OperaGlassesModel" "teller" "I", Cond.fieldLink RX8 131 "OperaGlassesModel" "kind" "I", Cond.fieldLink RX8 134 "OperaGlassesModel" "first" "I", Cond.fieldLink RX8 137 "OperaGlassesModel" "second" "I", Cond.methodLink RX8 140 yX8_findFault, Cond.instanceMethod yX8_findFault, Cond.selects RX8 yX8_findFault yX8_findFault, Cond.code yX8_findFault cX8_findFault 1 (some .int), Cond.methodLink RX8 121 yX8_readsRumour, Cond.instanceMethod yX8_readsRumour]
def wsL_law_r17 : List Cond := [Cond.selects RX8 yX8_readsRumour yX8_readsRumour, Cond.code yX8_readsRumour cX8_readsRumour 1 (some .boolean), Cond.methodLink RX8 184 yX8_takeDigit, Cond.instanceMethod yX8_takeDigit, Cond.selects RX8 yX8_takeDigit yX8_takeDigit, Cond.code yX8_takeDigit cX8_takeDigit 3 (some .int), Cond.methodLink RX8 181 yX8_character, Cond.instanceMethod yX8_character, Cond.selects RX8 yX8_character yX8_character, Cond.code yX8_character cX8_character 2 (some .int), Cond.methodLink RX8 125 yX8_isNext, Cond.instanceMethod yX8_isNext, Cond.selects RX8 yX8_isNext yX8_isNext, Cond.code yX8_isNext cX8_isNext 3 (some .boolean), Cond.methodLink RX8 187 yX8_takeKind, Cond.instanceMethod yX8_takeKind, Cond.selects RX8 yX8_takeKind yX8_takeKind, Cond.code yX8_takeKind cX8_takeKind 3 (some .int), Cond.methodLink RX8 143 yX8_lookThrough, Cond.instanceMethod yX8_lookThrough, Cond.selects RX8 yX8_lookThrough yX8_lookThrough, Cond.code yX8_lookThrough cX8_lookThrough 4 (some .int), Cond.methodLink RL 33 yX7_prove, Cond.instanceMethod yX7_prove]
def wsL_law_r18 : List Cond := [Cond.selects RX7 yX7_prove yX7_prove, Cond.code yX7_prove cX7_prove 4 (some .int), Cond.methodLink RX7 118 yX1_rumourAt, Cond.methodLink RX7 127 yX3_decide, Cond.instanceMethod yX3_decide, Cond.selects RX3 yX3_decide yX3_decide, Cond.code yX3_decide cX3_decide 2 none, Cond.methodLink RX7 131 yX7_surveyNow, Cond.instanceMethod yX7_surveyNow, Cond.selects RX7 yX7_surveyNow yX7_surveyNow, Cond.code yX7_surveyNow cX7_surveyNow 1 (some (.object "OperaGlasses$Survey")), Cond.methodLink RX7 281 yX5_take, Cond.instanceMethod yX5_take, Cond.selects RX5 yX5_take yX5_take, Cond.code yX5_take cX5_take 4 none, Cond.methodLink RX5 35 yX5_forget, Cond.instanceMethod yX5_forget, Cond.selects RX5 yX5_forget yX5_forget, Cond.code yX5_forget cX5_forget 1 none, Cond.fieldLink RX5 66 "OperaGlasses$Survey" "worlds" "I", Cond.methodLink RX5 44 yX6_begin, Cond.instanceMethod yX6_begin, Cond.selects RX6 yX6_begin yX6_begin, Cond.code yX6_begin cX6_begin 4 (some .int)]
def wsL_law_r19 : List Cond := [Cond.fieldLink RX6 15 "OperaGlasses$Walk" "boxes" "I", Cond.methodLink RX6 19 yX6_firstBoxFor, Cond.static yX6_firstBoxFor, Cond.code yX6_firstBoxFor cX6_firstBoxFor 1 (some .int), Cond.methodLink RX5 51 yX1_firstBroken, Cond.instanceMethod yX1_firstBroken, Cond.selects RX1 yX1_firstBroken yX1_firstBroken, Cond.code yX1_firstBroken cX1_firstBroken 5 (some .int), Cond.methodLink RX1 93 Lib.Math.max.name, Cond.methodLink RX1 99 yX3_isBrokenIn, Cond.instanceMethod yX3_isBrokenIn, Cond.selects RX3 yX3_isBrokenIn yX3_isBrokenIn, Cond.code yX3_isBrokenIn cX3_isBrokenIn 2 (some .boolean), Cond.methodLink RX3 38 yX3_holdsIn, Cond.instanceMethod yX3_holdsIn, Cond.selects RX3 yX3_holdsIn yX3_holdsIn, Cond.code yX3_holdsIn cX3_holdsIn 3 (some .boolean), Cond.static yX7_watchers, Cond.code yX7_watchers cX7_watchers 4 (some .int), Cond.methodLink RX5 55 yX5_tally, Cond.instanceMethod yX5_tally, Cond.selects RX5 yX5_tally yX5_tally, Cond.code yX5_tally cX5_tally 4 none, Cond.static yX7_addAt]
def wsL_law_r20 : List Cond := [Cond.code yX7_addAt cX7_addAt 3 none, Cond.methodLink RX5 80 yX1_rumourAt, Cond.methodLink RX5 84 yX3_holdsIn, Cond.methodLink RX5 63 yX6_step, Cond.instanceMethod yX6_step, Cond.selects RX6 yX6_step yX6_step, Cond.code yX6_step cX6_step 3 none, Cond.methodLink RL 37 yX8_prove, Cond.instanceMethod yX8_prove, Cond.selects RX8 yX8_prove yX8_prove, Cond.code yX8_prove cX8_prove 3 (some .int), Cond.methodLink RX8 146 yX8_isRumour, Cond.instanceMethod yX8_isRumour, Cond.selects RX8 yX8_isRumour yX8_isRumour, Cond.code yX8_isRumour cX8_isRumour 2 (some .boolean), Cond.methodLink RX8 74 yX8_isOpen, Cond.instanceMethod yX8_isOpen, Cond.selects RX8 yX8_isOpen yX8_isOpen, Cond.code yX8_isOpen cX8_isOpen 2 (some .boolean), Cond.methodLink RX8 53 yX8_part, Cond.instanceMethod yX8_part, Cond.selects RX8 yX8_part yX8_part, Cond.code yX8_part cX8_part 3 (some .int), Cond.methodLink RX8 149 yX8_setHow]
def wsL_law_r21 : List Cond := [Cond.instanceMethod yX8_setHow, Cond.selects RX8 yX8_setHow yX8_setHow, Cond.code yX8_setHow cX8_setHow 3 none, Cond.methodLink RX8 153 yX8_worldsNow, Cond.instanceMethod yX8_worldsNow, Cond.selects RX8 yX8_worldsNow yX8_worldsNow, Cond.code yX8_worldsNow cX8_worldsNow 1 (some .int), Cond.fieldLink RX8 77 "OperaGlassesModel" "worlds" "I", Cond.methodLink RX8 102 yX8_goThrough, Cond.instanceMethod yX8_goThrough, Cond.selects RX8 yX8_goThrough yX8_goThrough, Cond.code yX8_goThrough cX8_goThrough 4 none, Cond.methodLink RX8 86 yX8_clear, Cond.instanceMethod yX8_clear, Cond.selects RX8 yX8_clear yX8_clear, Cond.code yX8_clear cX8_clear 2 none, Cond.fieldLink RX8 80 "OperaGlassesModel" "mostPerson" "I", Cond.fieldLink RX8 83 "OperaGlassesModel" "mostMany" "I", Cond.methodLink RX8 89 yX8_worldsInAll, Cond.instanceMethod yX8_worldsInAll, Cond.selects RX8 yX8_worldsInAll yX8_worldsInAll, Cond.code yX8_worldsInAll cX8_worldsInAll 3 (some .int), Cond.methodLink RX8 93 yX8_takeWorld, Cond.instanceMethod yX8_takeWorld]
def wsL_law_r22 : List Cond := [Cond.selects RX8 yX8_takeWorld yX8_takeWorld, Cond.code yX8_takeWorld cX8_takeWorld 5 none, Cond.methodLink RX8 96 yX8_wrongOne, Cond.instanceMethod yX8_wrongOne, Cond.selects RX8 yX8_wrongOne yX8_wrongOne, Cond.code yX8_wrongOne cX8_wrongOne 4 (some .int), Cond.methodLink RX8 71 yX8_holdsRumour, Cond.instanceMethod yX8_holdsRumour, Cond.selects RX8 yX8_holdsRumour yX8_holdsRumour, Cond.code yX8_holdsRumour cX8_holdsRumour 2 (some .boolean), Cond.methodLink RX8 65 yX8_holds, Cond.instanceMethod yX8_holds, Cond.selects RX8 yX8_holds yX8_holds, Cond.code yX8_holds cX8_holds 4 (some .boolean), Cond.methodLink RX8 61 yX8_lookers, Cond.instanceMethod yX8_lookers, Cond.selects RX8 yX8_lookers yX8_lookers, Cond.code yX8_lookers cX8_lookers 4 (some .int), Cond.methodLink RX8 99 yX8_takesIn, Cond.instanceMethod yX8_takesIn, Cond.selects RX8 yX8_takesIn yX8_takesIn, Cond.code yX8_takesIn cX8_takesIn 3 none, Cond.methodLink RL 38 yX7_reveal, Cond.instanceMethod yX7_reveal]
def wsL_law_r23 : List Cond := [Cond.selects RX7 yX7_reveal yX7_reveal, Cond.code yX7_reveal cX7_reveal 1 (some .int), Cond.methodLink RX7 138 yX1_revealOpen, Cond.instanceMethod yX1_revealOpen, Cond.selects RX1 yX1_revealOpen yX1_revealOpen, Cond.code yX1_revealOpen cX1_revealOpen 4 (some .int), Cond.methodLink RX1 71 yX3_holdsIn, Cond.methodLink RX1 75 yX3_decide, Cond.methodLink RL 41 yX8_reveal, Cond.instanceMethod yX8_reveal, Cond.selects RX8 yX8_reveal yX8_reveal, Cond.code yX8_reveal cX8_reveal 3 (some .int), Cond.methodLink RX8 156 yX8_isTrue, Cond.instanceMethod yX8_isTrue, Cond.selects RX8 yX8_isTrue yX8_isTrue, Cond.code yX8_isTrue cX8_isTrue 2 (some .boolean), Cond.methodLink RX8 68 yX8_takeTruth, Cond.instanceMethod yX8_takeTruth, Cond.selects RX8 yX8_takeTruth yX8_takeTruth, Cond.code yX8_takeTruth cX8_takeTruth 2 none, Cond.methodLink RL 42 yX7_doubt, Cond.instanceMethod yX7_doubt, Cond.selects RX7 yX7_doubt yX7_doubt, Cond.code yX7_doubt cX7_doubt 3 (some .int)]
def wsL_law_r24 : List Cond := [Cond.methodLink RL 45 yX8_doubt, Cond.instanceMethod yX8_doubt, Cond.selects RX8 yX8_doubt yX8_doubt, Cond.code yX8_doubt cX8_doubt 2 (some .int), Cond.methodLink RL 46 yX7_guess, Cond.instanceMethod yX7_guess, Cond.selects RX7 yX7_guess yX7_guess, Cond.code yX7_guess cX7_guess 5 (some .int), Cond.methodLink RX7 144 yX7_pointsOfGuess, Cond.instanceMethod yX7_pointsOfGuess, Cond.selects RX7 yX7_pointsOfGuess yX7_pointsOfGuess, Cond.code yX7_pointsOfGuess cX7_pointsOfGuess 4 (some .int), Cond.methodLink RX7 211 yX5_lookingAt, Cond.instanceMethod yX5_lookingAt, Cond.selects RX5 yX5_lookingAt yX5_lookingAt, Cond.code yX5_lookingAt cX5_lookingAt 3 (some .int), Cond.methodLink RX7 284 yX5_isCertain, Cond.instanceMethod yX5_isCertain, Cond.selects RX5 yX5_isCertain yX5_isCertain, Cond.code yX5_isCertain cX5_isCertain 2 (some .boolean), Cond.methodLink RX7 287 yX5_isRuledOut, Cond.instanceMethod yX5_isRuledOut, Cond.selects RX5 yX5_isRuledOut yX5_isRuledOut, Cond.code yX5_isRuledOut cX5_isRuledOut 2 (some .boolean)]
def wsL_law_r25 : List Cond := [Cond.methodLink RX7 151 yX7_addAt, Cond.methodLink RL 50 yX8_guess, Cond.instanceMethod yX8_guess, Cond.selects RX8 yX8_guess yX8_guess, Cond.code yX8_guess cX8_guess 7 (some .int), Cond.methodLink RX8 159 yX8_certainBox, Cond.instanceMethod yX8_certainBox, Cond.selects RX8 yX8_certainBox yX8_certainBox, Cond.code yX8_certainBox cX8_certainBox 4 (some .int), Cond.methodLink RL 51 yX7_endAct, Cond.instanceMethod yX7_endAct, Cond.selects RX7 yX7_endAct yX7_endAct, Cond.code yX7_endAct cX7_endAct 1 (some .int), Cond.methodLink RX7 154 yX1_finishAct, Cond.instanceMethod yX1_finishAct, Cond.selects RX1 yX1_finishAct yX1_finishAct, Cond.code yX1_finishAct cX1_finishAct 2 none, Cond.methodLink RX1 79 yX1_tellerOf, Cond.instanceMethod yX1_tellerOf, Cond.selects RX1 yX1_tellerOf yX1_tellerOf, Cond.code yX1_tellerOf cX1_tellerOf 3 (some .int), Cond.methodLink RX1 83 yX1_isTrue, Cond.instanceMethod yX1_isTrue, Cond.selects RX1 yX1_isTrue yX1_isTrue]
def wsL_law_r26 : List Cond := [Cond.code yX1_isTrue cX1_isTrue 3 (some .boolean), Cond.methodLink RL 54 yX8_endAct, Cond.instanceMethod yX8_endAct, Cond.selects RX8 yX8_endAct yX8_endAct, Cond.code yX8_endAct cX8_endAct 2 (some .int), Cond.methodLink RL 55 yX7_person, Cond.instanceMethod yX7_person, Cond.selects RX7 yX7_person yX7_person, Cond.code yX7_person cX7_person 3 (some .int), Cond.methodLink RX7 160 yX1_toldBy, Cond.instanceMethod yX1_toldBy, Cond.selects RX1 yX1_toldBy yX1_toldBy, Cond.code yX1_toldBy cX1_toldBy 4 (some .int), Cond.methodLink RX7 163 yX1_toldTrulyBy, Cond.instanceMethod yX1_toldTrulyBy, Cond.selects RX1 yX1_toldTrulyBy yX1_toldTrulyBy, Cond.code yX1_toldTrulyBy cX1_toldTrulyBy 4 (some .int), Cond.methodLink RX7 166 yX7_watchers, Cond.methodLink RL 58 yX8_person, Cond.instanceMethod yX8_person, Cond.selects RX8 yX8_person yX8_person, Cond.code yX8_person cX8_person 3 (some .int), Cond.methodLink RX8 162 yX8_told, Cond.instanceMethod yX8_told]
def wsL_law_r27 : List Cond := [Cond.selects RX8 yX8_told yX8_told, Cond.code yX8_told cX8_told 5 (some .int), Cond.methodLink RL 59 yX7_rumour, Cond.instanceMethod yX7_rumour, Cond.selects RX7 yX7_rumour yX7_rumour, Cond.code yX7_rumour cX7_rumour 4 (some .int), Cond.methodLink RX7 181 yX3_holdsIn, Cond.methodLink RL 62 yX8_rumour, Cond.instanceMethod yX8_rumour, Cond.selects RX8 yX8_rumour yX8_rumour, Cond.code yX8_rumour cX8_rumour 3 (some .int), Cond.methodLink RL 63 yX7_count, Cond.instanceMethod yX7_count, Cond.selects RX7 yX7_count yX7_count, Cond.code yX7_count cX7_count 2 (some .int), Cond.methodLink RX7 188 yX1_openRumours, Cond.instanceMethod yX1_openRumours, Cond.selects RX1 yX1_openRumours yX1_openRumours, Cond.code yX1_openRumours cX1_openRumours 3 (some .int), Cond.methodLink RX1 65 yX1_isOpen, Cond.instanceMethod yX1_isOpen, Cond.selects RX1 yX1_isOpen yX1_isOpen, Cond.code yX1_isOpen cX1_isOpen 3 (some .boolean), Cond.methodLink RX7 191 yX1_firstBroken]
def wsL_law_r28 : List Cond := [Cond.methodLink RX7 195 yX5_certainPersons, Cond.instanceMethod yX5_certainPersons, Cond.selects RX5 yX5_certainPersons yX5_certainPersons, Cond.code yX5_certainPersons cX5_certainPersons 4 (some .int), Cond.methodLink RX5 96 yX5_certainBox, Cond.instanceMethod yX5_certainBox, Cond.selects RX5 yX5_certainBox yX5_certainBox, Cond.code yX5_certainBox cX5_certainBox 3 (some .int), Cond.methodLink RX5 88 yX5_lookingAt, Cond.methodLink RX5 92 yX5_isCertain, Cond.methodLink RX7 198 yX5_openCertain, Cond.instanceMethod yX5_openCertain, Cond.selects RX5 yX5_openCertain yX5_openCertain, Cond.code yX5_openCertain cX5_openCertain 4 (some .int), Cond.methodLink RX5 99 yX1_isOpen, Cond.methodLink RX7 202 yX5_openRuledOut, Cond.instanceMethod yX5_openRuledOut, Cond.selects RX5 yX5_openRuledOut yX5_openRuledOut, Cond.code yX5_openRuledOut cX5_openRuledOut 4 (some .int), Cond.methodLink RX5 102 yX5_isRuledOut, Cond.methodLink RL 66 yX8_count, Cond.instanceMethod yX8_count, Cond.selects RX8 yX8_count yX8_count, Cond.code yX8_count cX8_count 2 (some .int)]
def wsL_law_r29 : List Cond := [Cond.methodLink RX8 166 yX8_openMany, Cond.instanceMethod yX8_openMany, Cond.selects RX8 yX8_openMany yX8_openMany, Cond.code yX8_openMany cX8_openMany 3 (some .int), Cond.methodLink RX8 169 yX8_isTruthPossible, Cond.instanceMethod yX8_isTruthPossible, Cond.selects RX8 yX8_isTruthPossible yX8_isTruthPossible, Cond.code yX8_isTruthPossible cX8_isTruthPossible 1 (some .boolean), Cond.methodLink RX8 172 yX8_certainPersons, Cond.instanceMethod yX8_certainPersons, Cond.selects RX8 yX8_certainPersons yX8_certainPersons, Cond.code yX8_certainPersons cX8_certainPersons 3 (some .int), Cond.methodLink RX8 175 yX8_certainRumours, Cond.instanceMethod yX8_certainRumours, Cond.selects RX8 yX8_certainRumours yX8_certainRumours, Cond.code yX8_certainRumours cX8_certainRumours 4 (some .int), Cond.methodLink RL 67 yX7_possible, Cond.instanceMethod yX7_possible, Cond.selects RX7 yX7_possible yX7_possible, Cond.code yX7_possible cX7_possible 3 (some .int), Cond.methodLink RL 70 yX8_possible, Cond.instanceMethod yX8_possible, Cond.selects RX8 yX8_possible yX8_possible, Cond.code yX8_possible cX8_possible 3 (some .int)]
def wsL_law_r30 : List Cond := [Cond.methodLink RL 71 yX7_certain, Cond.instanceMethod yX7_certain, Cond.selects RX7 yX7_certain yX7_certain, Cond.code yX7_certain cX7_certain 2 (some .int), Cond.methodLink RX7 215 yX5_certainBox, Cond.methodLink RL 74 yX8_certain, Cond.instanceMethod yX8_certain, Cond.selects RX8 yX8_certain yX8_certain, Cond.code yX8_certain cX8_certain 2 (some .int), Cond.methodLink RL 75 yX7_world, Cond.instanceMethod yX7_world, Cond.selects RX7 yX7_world yX7_world, Cond.code yX7_world cX7_world 3 (some .int), Cond.methodLink RX7 218 yX5_boxInWorld, Cond.instanceMethod yX5_boxInWorld, Cond.selects RX5 yX5_boxInWorld yX5_boxInWorld, Cond.code yX5_boxInWorld cX5_boxInWorld 6 (some .int), Cond.methodLink RL 78 yX8_world, Cond.instanceMethod yX8_world, Cond.selects RX8 yX8_world yX8_world, Cond.code yX8_world cX8_world 7 (some .int), Cond.methodLink RL 79 yX7_ifProved, Cond.instanceMethod yX7_ifProved, Cond.selects RX7 yX7_ifProved yX7_ifProved]
def wsL_law_r31 : List Cond := [Cond.code yX7_ifProved cX7_ifProved 4 (some .int), Cond.methodLink RX7 222 yX5_worldsWith, Cond.instanceMethod yX5_worldsWith, Cond.selects RX5 yX5_worldsWith yX5_worldsWith, Cond.code yX5_worldsWith cX5_worldsWith 7 (some .int), Cond.methodLink RX5 113 yX3_become, Cond.methodLink RL 82 yX8_ifProved, Cond.instanceMethod yX8_ifProved, Cond.selects RX8 yX8_ifProved yX8_ifProved, Cond.code yX8_ifProved cX8_ifProved 7 (some .int), Cond.methodLink RL 83 yX7_sharpest, Cond.instanceMethod yX7_sharpest, Cond.selects RX7 yX7_sharpest yX7_sharpest, Cond.code yX7_sharpest cX7_sharpest 3 (some .int), Cond.methodLink RX7 226 yX5_sharpestRumour, Cond.instanceMethod yX5_sharpestRumour, Cond.selects RX5 yX5_sharpestRumour yX5_sharpestRumour, Cond.code yX5_sharpestRumour cX5_sharpestRumour 4 (some .int), Cond.methodLink RX5 110 yX5_worseOutcome, Cond.instanceMethod yX5_worseOutcome, Cond.selects RX5 yX5_worseOutcome yX5_worseOutcome, Cond.code yX5_worseOutcome cX5_worseOutcome 3 (some .int), Cond.methodLink RX5 105 Lib.Math.max.name, Cond.methodLink RX7 229 yX5_worseOutcome]
def wsL_law_r32 : List Cond := [Cond.methodLink RL 86 yX8_sharpest, Cond.instanceMethod yX8_sharpest, Cond.selects RX8 yX8_sharpest yX8_sharpest, Cond.code yX8_sharpest cX8_sharpest 7 (some .int), Cond.methodLink RL 87 yX7_blame, Cond.instanceMethod yX7_blame, Cond.selects RX7 yX7_blame yX7_blame, Cond.code yX7_blame cX7_blame 3 (some .int), Cond.methodLink RX7 232 yX5_mostToBlame, Cond.instanceMethod yX5_mostToBlame, Cond.selects RX5 yX5_mostToBlame yX5_mostToBlame, Cond.code yX5_mostToBlame cX5_mostToBlame 4 (some .int), Cond.methodLink RL 90 yX8_blame, Cond.instanceMethod yX8_blame, Cond.selects RX8 yX8_blame yX8_blame, Cond.code yX8_blame cX8_blame 6 (some .int), Cond.methodLink RL 91 yX7_mostWatched, Cond.instanceMethod yX7_mostWatched, Cond.selects RX7 yX7_mostWatched yX7_mostWatched, Cond.code yX7_mostWatched cX7_mostWatched 2 (some .int), Cond.methodLink RX7 238 yX5_findMostWatched, Cond.instanceMethod yX5_findMostWatched, Cond.selects RX5 yX5_findMostWatched yX5_findMostWatched, Cond.code yX5_findMostWatched cX5_findMostWatched 4 none]
def wsL_law_r33 : List Cond := [Cond.fieldLink RX5 117 "OperaGlasses$Survey" "mostWatchedPerson" "I", Cond.fieldLink RX5 120 "OperaGlasses$Survey" "mostWatchers" "I", Cond.methodLink RX5 126 yX5_compareWatchers, Cond.instanceMethod yX5_compareWatchers, Cond.selects RX5 yX5_compareWatchers yX5_compareWatchers, Cond.code yX5_compareWatchers cX5_compareWatchers 3 none, Cond.methodLink RL 94 yX8_mostWatched, Cond.instanceMethod yX8_mostWatched, Cond.selects RX8 yX8_mostWatched yX8_mostWatched, Cond.code yX8_mostWatched cX8_mostWatched 2 (some .int), Cond.methodLink RL 97 yX7_put, Cond.instanceMethod yX7_put, Cond.selects RX7 yX7_put yX7_put, Cond.code yX7_put cX7_put 5 (some .int), Cond.constantLong RX7 252 (255), Cond.methodLink RX7 248 yX7_lengthOfText, Cond.static yX7_lengthOfText, Cond.code yX7_lengthOfText cX7_lengthOfText 7 (some .int), Cond.constantLong RX7 290 (33), Cond.constantLong RX7 292 (126), Cond.methodLink RX7 254 yX2_append, Cond.instanceMethod yX2_append, Cond.selects RX2 yX2_append yX2_append, Cond.code yX2_append cX2_append 2 none]
def wsL_law_r34 : List Cond := [Cond.methodLink RL 101 yX8_put, Cond.instanceMethod yX8_put, Cond.selects RX8 yX8_put yX8_put, Cond.code yX8_put cX8_put 8 (some .int), Cond.constantLong RX8 179 (255), Cond.methodLink RL 102 yX7_wipe, Cond.instanceMethod yX7_wipe, Cond.selects RX7 yX7_wipe yX7_wipe, Cond.code yX7_wipe cX7_wipe 2 (some .int), Cond.methodLink RL 105 yX8_wipe, Cond.instanceMethod yX8_wipe, Cond.selects RX8 yX8_wipe yX8_wipe, Cond.code yX8_wipe cX8_wipe 2 (some .int), Cond.methodLink RL 106 yX7_fault, Cond.instanceMethod yX7_fault, Cond.selects RX7 yX7_fault yX7_fault, Cond.code yX7_fault cX7_fault 1 (some .int), Cond.methodLink RL 109 yX8_fault, Cond.instanceMethod yX8_fault, Cond.selects RX8 yX8_fault yX8_fault, Cond.code yX8_fault cX8_fault 1 (some .int), Cond.methodLink RL 110 yX7_undo, Cond.instanceMethod yX7_undo, Cond.selects RX7 yX7_undo yX7_undo]
def wsL_law_r35 : List Cond := [Cond.code yX7_undo cX7_undo 1 (some .int), Cond.methodLink RX7 258 yX0_takeBack, Cond.instanceMethod yX0_takeBack, Cond.selects RX0 yX0_takeBack yX0_takeBack, Cond.code yX0_takeBack cX0_takeBack 4 none, Cond.methodLink RL 113 yX8_undo, Cond.instanceMethod yX8_undo, Cond.selects RX8 yX8_undo yX8_undo, Cond.code yX8_undo cX8_undo 1 (some .int), Cond.methodLink RL 114 yX7_save, Cond.instanceMethod yX7_save, Cond.selects RX7 yX7_save yX7_save, Cond.code yX7_save cX7_save 3 (some .int), Cond.methodLink RX7 265 yX7_slotAt, Cond.instanceMethod yX7_slotAt, Cond.selects RX7 yX7_slotAt yX7_slotAt, Cond.code yX7_slotAt cX7_slotAt 2 (some (.object "OperaGlasses$Slot")), Cond.methodLink RX7 272 yX1_copyFrom, Cond.methodLink RL 117 yX8_save, Cond.instanceMethod yX8_save, Cond.selects RX8 yX8_save yX8_save, Cond.code yX8_save cX8_save 2 (some .int), Cond.methodLink RL 118 yX7_restore, Cond.instanceMethod yX7_restore]
def wsL_law_r36 : List Cond := [Cond.selects RX7 yX7_restore yX7_restore, Cond.code yX7_restore cX7_restore 3 (some .int), Cond.methodLink RL 121 yX8_restore, Cond.instanceMethod yX8_restore, Cond.selects RX8 yX8_restore yX8_restore, Cond.code yX8_restore cX8_restore 2 (some .int)]
def wsL_law : List Cond := (wsL_law_r1 ++ (wsL_law_r2 ++ (wsL_law_r3 ++ (wsL_law_r4 ++ (wsL_law_r5 ++ (wsL_law_r6 ++ (wsL_law_r7 ++ (wsL_law_r8 ++ (wsL_law_r9 ++ (wsL_law_r10 ++ (wsL_law_r11 ++ (wsL_law_r12 ++ (wsL_law_r13 ++ (wsL_law_r14 ++ (wsL_law_r15 ++ (wsL_law_r16 ++ (wsL_law_r17 ++ (wsL_law_r18 ++ (wsL_law_r19 ++ (wsL_law_r20 ++ (wsL_law_r21 ++ (wsL_law_r22 ++ (wsL_law_r23 ++ (wsL_law_r24 ++ (wsL_law_r25 ++ (wsL_law_r26 ++ (wsL_law_r27 ++ (wsL_law_r28 ++ (wsL_law_r29 ++ (wsL_law_r30 ++ (wsL_law_r31 ++ (wsL_law_r32 ++ (wsL_law_r33 ++ (wsL_law_r34 ++ (wsL_law_r35 ++ wsL_law_r36))))))))))))))))))))))))))))))))))) ++ wsX70 ++ wsX80 ++ wsX10 ++ wsX00 ++ wsX40 ++ wsX20 ++ wsX50 ++ wsX30 ++ wsX60 ++ ([] : List Cond)
theorem tmS : ∀ w ∈ k2_sels lw_privs, w ∈ lw_tbl := fun _ h => List.mem_append_left _ h
theorem tm1 : ∀ w ∈ tables_1_1, w ∈ lw_tbl := fun _ h => List.mem_append_right _ (List.mem_append_left _ h)
theorem tm2 : ∀ w ∈ tables_1_2, w ∈ lw_tbl := fun _ h => List.mem_append_right _ (List.mem_append_right _ (List.mem_append_left _ h))
theorem tm3 : ∀ w ∈ tables_1_3, w ∈ lw_tbl := fun _ h => List.mem_append_right _ (List.mem_append_right _ (List.mem_append_right _ (List.mem_append_left _ h)))
theorem tm4 : ∀ w ∈ tables_1_4, w ∈ lw_tbl := fun _ h => List.mem_append_right _ (List.mem_append_right _ (List.mem_append_right _ (List.mem_append_right _ (List.mem_append_left _ h))))
theorem tm5 : ∀ w ∈ tables_1_5, w ∈ lw_tbl := fun _ h => List.mem_append_right _ (List.mem_append_right _ (List.mem_append_right _ (List.mem_append_right _ (List.mem_append_right _ (h)))))
theorem tmI {A : List Cond} (hA : ∀ w ∈ A, w ∈ lw_tbl) {i : Nat} {w : Cond} (h : A[i]? = some w) : w ∈ lw_tbl := hA w (List.mem_of_getElem? h)
set_option maxRecDepth 20000 in
theorem wi_1 : ∀ w ∈ wsL_law_r1, w ∈ lw_tbl := List.forall_mem_cons.mpr ⟨tmI tm1 (i := 16) rfl, List.forall_mem_cons.mpr ⟨tmI tm1 (i := 17) rfl, List.forall_mem_cons.mpr ⟨tmI tm1 (i := 1) rfl, List.forall_mem_cons.mpr ⟨tmI tm3 (i := 227) rfl, List.forall_mem_cons.mpr ⟨tmI tm3 (i := 228) rfl, List.forall_mem_cons.mpr ⟨tmI tm1 (i := 9) rfl, List.forall_mem_cons.mpr ⟨tmI tm5 (i := 54) rfl, List.forall_mem_cons.mpr ⟨tmI tm1 (i := 18) rfl, List.forall_mem_cons.mpr ⟨tmI tm1 (i := 19) rfl, List.forall_mem_cons.mpr ⟨tmI tm1 (i := 20) rfl, List.forall_mem_cons.mpr ⟨tmI tm1 (i := 21) rfl, List.forall_mem_cons.mpr ⟨tmI tm1 (i := 22) rfl, List.forall_mem_cons.mpr ⟨tmI tm1 (i := 23) rfl, List.forall_mem_cons.mpr ⟨tmI tm1 (i := 24) rfl, List.forall_mem_cons.mpr ⟨tmI tm1 (i := 25) rfl, List.forall_mem_cons.mpr ⟨tmI tm1 (i := 2) rfl, List.forall_mem_cons.mpr ⟨tmI tm1 (i := 201) rfl, List.forall_mem_cons.mpr ⟨tmI tm1 (i := 91) rfl, List.forall_mem_cons.mpr ⟨tmI tm1 (i := 92) rfl, List.forall_mem_cons.mpr ⟨tmI tm1 (i := 4) rfl, List.forall_mem_cons.mpr ⟨tmI tm1 (i := 202) rfl, List.forall_mem_cons.mpr ⟨tmI tm1 (i := 111) rfl, List.forall_mem_cons.mpr ⟨tmI tm1 (i := 112) rfl, List.forall_mem_cons.mpr ⟨tmI tm1 (i := 5) rfl, fun _ h => absurd h List.not_mem_nil⟩⟩⟩⟩⟩⟩⟩⟩⟩⟩⟩⟩⟩⟩⟩⟩⟩⟩⟩⟩⟩⟩⟩⟩
set_option maxRecDepth 20000 in
theorem wi_2 : ∀ w ∈ wsL_law_r2, w ∈ lw_tbl := List.forall_mem_cons.mpr ⟨tmI tm1 (i := 203) rfl, List.forall_mem_cons.mpr ⟨tmI tm1 (i := 204) rfl, List.forall_mem_cons.mpr ⟨tmI tm1 (i := 127) rfl, List.forall_mem_cons.mpr ⟨tmI tm1 (i := 128) rfl, List.forall_mem_cons.mpr ⟨tmI tm1 (i := 6) rfl, List.forall_mem_cons.mpr ⟨tmI tm1 (i := 205) rfl, List.forall_mem_cons.mpr ⟨tmI tm1 (i := 142) rfl, List.forall_mem_cons.mpr ⟨tmI tm1 (i := 143) rfl, List.forall_mem_cons.mpr ⟨tmI tm1 (i := 7) rfl, List.forall_mem_cons.mpr ⟨tmI tm1 (i := 206) rfl, List.forall_mem_cons.mpr ⟨tmI tm1 (i := 26) rfl, List.forall_mem_cons.mpr ⟨tmI tm1 (i := 27) rfl, List.forall_mem_cons.mpr ⟨tmI tm1 (i := 28) rfl, List.forall_mem_cons.mpr ⟨tmI tm1 (i := 29) rfl, List.forall_mem_cons.mpr ⟨tmI tm1 (i := 60) rfl, List.forall_mem_cons.mpr ⟨tmI tm1 (i := 69) rfl, List.forall_mem_cons.mpr ⟨tmI tm1 (i := 71) rfl, List.forall_mem_cons.mpr ⟨tmI tm1 (i := 73) rfl, List.forall_mem_cons.mpr ⟨tmI tm1 (i := 30) rfl, List.forall_mem_cons.mpr ⟨tmI tm1 (i := 75) rfl, List.forall_mem_cons.mpr ⟨tmI tm1 (i := 32) rfl, List.forall_mem_cons.mpr ⟨tmI tm1 (i := 3) rfl, List.forall_mem_cons.mpr ⟨tmI tm1 (i := 34) rfl, List.forall_mem_cons.mpr ⟨tmI tm1 (i := 35) rfl, fun _ h => absurd h List.not_mem_nil⟩⟩⟩⟩⟩⟩⟩⟩⟩⟩⟩⟩⟩⟩⟩⟩⟩⟩⟩⟩⟩⟩⟩⟩
set_option maxRecDepth 20000 in
theorem wi_3 : ∀ w ∈ wsL_law_r3, w ∈ lw_tbl := List.forall_mem_cons.mpr ⟨tmI tm1 (i := 36) rfl, List.forall_mem_cons.mpr ⟨tmI tm1 (i := 93) rfl, List.forall_mem_cons.mpr ⟨tmI tm1 (i := 94) rfl, List.forall_mem_cons.mpr ⟨tmI tm1 (i := 95) rfl, List.forall_mem_cons.mpr ⟨tmI tm1 (i := 96) rfl, List.forall_mem_cons.mpr ⟨tmI tm1 (i := 97) rfl, List.forall_mem_cons.mpr ⟨tmI tm1 (i := 100) rfl, List.forall_mem_cons.mpr ⟨tmI tm1 (i := 99) rfl, List.forall_mem_cons.mpr ⟨tmI tm1 (i := 114) rfl, List.forall_mem_cons.mpr ⟨tmI tm1 (i := 115) rfl, List.forall_mem_cons.mpr ⟨tmI tm1 (i := 116) rfl, List.forall_mem_cons.mpr ⟨tmI tm1 (i := 117) rfl, List.forall_mem_cons.mpr ⟨tmI tm1 (i := 119) rfl, List.forall_mem_cons.mpr ⟨tmI tm1 (i := 118) rfl, List.forall_mem_cons.mpr ⟨tmI tm1 (i := 130) rfl, List.forall_mem_cons.mpr ⟨tmI tm1 (i := 131) rfl, List.forall_mem_cons.mpr ⟨tmI tm1 (i := 132) rfl, List.forall_mem_cons.mpr ⟨tmI tm1 (i := 141) rfl, List.forall_mem_cons.mpr ⟨tmI tm1 (i := 133) rfl, List.forall_mem_cons.mpr ⟨tmI tm1 (i := 145) rfl, List.forall_mem_cons.mpr ⟨tmI tm1 (i := 146) rfl, List.forall_mem_cons.mpr ⟨tmI tm1 (i := 147) rfl, List.forall_mem_cons.mpr ⟨tmI tm1 (i := 148) rfl, List.forall_mem_cons.mpr ⟨tmI tm1 (i := 149) rfl, fun _ h => absurd h List.not_mem_nil⟩⟩⟩⟩⟩⟩⟩⟩⟩⟩⟩⟩⟩⟩⟩⟩⟩⟩⟩⟩⟩⟩⟩⟩
set_option maxRecDepth 20000 in
theorem wi_4 : ∀ w ∈ wsL_law_r4, w ∈ lw_tbl := List.forall_mem_cons.mpr ⟨tmI tm1 (i := 8) rfl, List.forall_mem_cons.mpr ⟨tmI tm1 (i := 164) rfl, List.forall_mem_cons.mpr ⟨tmI tm1 (i := 171) rfl, List.forall_mem_cons.mpr ⟨tmI tm1 (i := 172) rfl, List.forall_mem_cons.mpr ⟨tmI tm1 (i := 174) rfl, List.forall_mem_cons.mpr ⟨tmI tm1 (i := 162) rfl, List.forall_mem_cons.mpr ⟨tmI tm1 (i := 176) rfl, List.forall_mem_cons.mpr ⟨tmI tm1 (i := 151) rfl, List.forall_mem_cons.mpr ⟨tmI tm1 (i := 152) rfl, List.forall_mem_cons.mpr ⟨tmI tm1 (i := 153) rfl, List.forall_mem_cons.mpr ⟨tmI tm1 (i := 155) rfl, List.forall_mem_cons.mpr ⟨tmI tm1 (i := 194) rfl, List.forall_mem_cons.mpr ⟨tmI tm1 (i := 195) rfl, List.forall_mem_cons.mpr ⟨tmI tm1 (i := 196) rfl, List.forall_mem_cons.mpr ⟨tmI tm1 (i := 197) rfl, List.forall_mem_cons.mpr ⟨tmI tm1 (i := 61) rfl, List.forall_mem_cons.mpr ⟨tmI tm1 (i := 64) rfl, List.forall_mem_cons.mpr ⟨tmI tm1 (i := 66) rfl, List.forall_mem_cons.mpr ⟨tmI tm1 (i := 199) rfl, List.forall_mem_cons.mpr ⟨tmI tm1 (i := 200) rfl, List.forall_mem_cons.mpr ⟨tmI tm3 (i := 229) rfl, List.forall_mem_cons.mpr ⟨tmI tm3 (i := 230) rfl, List.forall_mem_cons.mpr ⟨tmI tm3 (i := 231) rfl, List.forall_mem_cons.mpr ⟨tmI tm3 (i := 232) rfl, fun _ h => absurd h List.not_mem_nil⟩⟩⟩⟩⟩⟩⟩⟩⟩⟩⟩⟩⟩⟩⟩⟩⟩⟩⟩⟩⟩⟩⟩⟩
set_option maxRecDepth 20000 in
theorem wi_5 : ∀ w ∈ wsL_law_r5, w ∈ lw_tbl := List.forall_mem_cons.mpr ⟨tmI tm3 (i := 237) rfl, List.forall_mem_cons.mpr ⟨tmI tm3 (i := 238) rfl, List.forall_mem_cons.mpr ⟨tmI tm4 (i := 0) rfl, List.forall_mem_cons.mpr ⟨tmI tm4 (i := 1) rfl, List.forall_mem_cons.mpr ⟨tmI tm4 (i := 2) rfl, List.forall_mem_cons.mpr ⟨tmI tm4 (i := 4) rfl, List.forall_mem_cons.mpr ⟨tmI tm4 (i := 6) rfl, List.forall_mem_cons.mpr ⟨tmI tm4 (i := 7) rfl, List.forall_mem_cons.mpr ⟨tmI tm4 (i := 8) rfl, List.forall_mem_cons.mpr ⟨tmI tm3 (i := 233) rfl, List.forall_mem_cons.mpr ⟨tmI tm3 (i := 235) rfl, List.forall_mem_cons.mpr ⟨tmI tmS (i := 13) rfl, List.forall_mem_cons.mpr ⟨tmI tm3 (i := 236) rfl, List.forall_mem_cons.mpr ⟨tmI tm1 (i := 223) rfl, List.forall_mem_cons.mpr ⟨tmI tm1 (i := 224) rfl, List.forall_mem_cons.mpr ⟨tmI tm1 (i := 225) rfl, List.forall_mem_cons.mpr ⟨tmI tm1 (i := 226) rfl, List.forall_mem_cons.mpr ⟨tmI tm1 (i := 227) rfl, List.forall_mem_cons.mpr ⟨tmI tm1 (i := 229) rfl, List.forall_mem_cons.mpr ⟨tmI tmS (i := 0) rfl, List.forall_mem_cons.mpr ⟨tmI tm1 (i := 230) rfl, List.forall_mem_cons.mpr ⟨tmI tm1 (i := 207) rfl, List.forall_mem_cons.mpr ⟨tmI tm1 (i := 231) rfl, List.forall_mem_cons.mpr ⟨tmI tm1 (i := 232) rfl, fun _ h => absurd h List.not_mem_nil⟩⟩⟩⟩⟩⟩⟩⟩⟩⟩⟩⟩⟩⟩⟩⟩⟩⟩⟩⟩⟩⟩⟩⟩
set_option maxRecDepth 20000 in
theorem wi_6 : ∀ w ∈ wsL_law_r6, w ∈ lw_tbl := List.forall_mem_cons.mpr ⟨tmI tm1 (i := 233) rfl, List.forall_mem_cons.mpr ⟨tmI tm1 (i := 234) rfl, List.forall_mem_cons.mpr ⟨tmI tm1 (i := 103) rfl, List.forall_mem_cons.mpr ⟨tmI tm1 (i := 101) rfl, List.forall_mem_cons.mpr ⟨tmI tm2 (i := 18) rfl, List.forall_mem_cons.mpr ⟨tmI tm2 (i := 19) rfl, List.forall_mem_cons.mpr ⟨tmI tm1 (i := 10) rfl, List.forall_mem_cons.mpr ⟨tmI tm2 (i := 20) rfl, List.forall_mem_cons.mpr ⟨tmI tm1 (i := 235) rfl, List.forall_mem_cons.mpr ⟨tmI tm1 (i := 237) rfl, List.forall_mem_cons.mpr ⟨tmI tmS (i := 1) rfl, List.forall_mem_cons.mpr ⟨tmI tm1 (i := 238) rfl, List.forall_mem_cons.mpr ⟨tmI tm1 (i := 239) rfl, List.forall_mem_cons.mpr ⟨tmI tm2 (i := 0) rfl, List.forall_mem_cons.mpr ⟨tmI tm2 (i := 1) rfl, List.forall_mem_cons.mpr ⟨tmI tm2 (i := 2) rfl, List.forall_mem_cons.mpr ⟨tmI tm2 (i := 4) rfl, List.forall_mem_cons.mpr ⟨tmI tm2 (i := 5) rfl, List.forall_mem_cons.mpr ⟨tmI tm2 (i := 6) rfl, List.forall_mem_cons.mpr ⟨tmI tm2 (i := 7) rfl, List.forall_mem_cons.mpr ⟨tmI tm2 (i := 8) rfl, List.forall_mem_cons.mpr ⟨tmI tm2 (i := 9) rfl, List.forall_mem_cons.mpr ⟨tmI tm2 (i := 10) rfl, List.forall_mem_cons.mpr ⟨tmI tm2 (i := 11) rfl, fun _ h => absurd h List.not_mem_nil⟩⟩⟩⟩⟩⟩⟩⟩⟩⟩⟩⟩⟩⟩⟩⟩⟩⟩⟩⟩⟩⟩⟩⟩
set_option maxRecDepth 20000 in
theorem wi_7 : ∀ w ∈ wsL_law_r7, w ∈ lw_tbl := List.forall_mem_cons.mpr ⟨tmI tm2 (i := 12) rfl, List.forall_mem_cons.mpr ⟨tmI tm2 (i := 13) rfl, List.forall_mem_cons.mpr ⟨tmI tm1 (i := 37) rfl, List.forall_mem_cons.mpr ⟨tmI tm1 (i := 40) rfl, List.forall_mem_cons.mpr ⟨tmI tm1 (i := 42) rfl, List.forall_mem_cons.mpr ⟨tmI tm1 (i := 44) rfl, List.forall_mem_cons.mpr ⟨tmI tm1 (i := 46) rfl, List.forall_mem_cons.mpr ⟨tmI tm2 (i := 14) rfl, List.forall_mem_cons.mpr ⟨tmI tm2 (i := 15) rfl, List.forall_mem_cons.mpr ⟨tmI tm2 (i := 16) rfl, List.forall_mem_cons.mpr ⟨tmI tm2 (i := 17) rfl, List.forall_mem_cons.mpr ⟨tmI tm4 (i := 55) rfl, List.forall_mem_cons.mpr ⟨tmI tm4 (i := 56) rfl, List.forall_mem_cons.mpr ⟨tmI tm4 (i := 57) rfl, List.forall_mem_cons.mpr ⟨tmI tm4 (i := 58) rfl, List.forall_mem_cons.mpr ⟨tmI tm4 (i := 59) rfl, List.forall_mem_cons.mpr ⟨tmI tm4 (i := 60) rfl, List.forall_mem_cons.mpr ⟨tmI tm4 (i := 61) rfl, List.forall_mem_cons.mpr ⟨tmI tm4 (i := 62) rfl, List.forall_mem_cons.mpr ⟨tmI tm4 (i := 64) rfl, List.forall_mem_cons.mpr ⟨tmI tmS (i := 14) rfl, List.forall_mem_cons.mpr ⟨tmI tm4 (i := 65) rfl, List.forall_mem_cons.mpr ⟨tmI tm3 (i := 239) rfl, List.forall_mem_cons.mpr ⟨tmI tm4 (i := 66) rfl, fun _ h => absurd h List.not_mem_nil⟩⟩⟩⟩⟩⟩⟩⟩⟩⟩⟩⟩⟩⟩⟩⟩⟩⟩⟩⟩⟩⟩⟩⟩
set_option maxRecDepth 20000 in
theorem wi_8 : ∀ w ∈ wsL_law_r8, w ∈ lw_tbl := List.forall_mem_cons.mpr ⟨tmI tm4 (i := 67) rfl, List.forall_mem_cons.mpr ⟨tmI tm4 (i := 68) rfl, List.forall_mem_cons.mpr ⟨tmI tm2 (i := 21) rfl, List.forall_mem_cons.mpr ⟨tmI tm2 (i := 22) rfl, List.forall_mem_cons.mpr ⟨tmI tm2 (i := 23) rfl, List.forall_mem_cons.mpr ⟨tmI tm2 (i := 24) rfl, List.forall_mem_cons.mpr ⟨tmI tm2 (i := 25) rfl, List.forall_mem_cons.mpr ⟨tmI tm2 (i := 26) rfl, List.forall_mem_cons.mpr ⟨tmI tm2 (i := 27) rfl, List.forall_mem_cons.mpr ⟨tmI tm2 (i := 28) rfl, List.forall_mem_cons.mpr ⟨tmI tm2 (i := 29) rfl, List.forall_mem_cons.mpr ⟨tmI tm2 (i := 30) rfl, List.forall_mem_cons.mpr ⟨tmI tm2 (i := 31) rfl, List.forall_mem_cons.mpr ⟨tmI tm2 (i := 32) rfl, List.forall_mem_cons.mpr ⟨tmI tm2 (i := 33) rfl, List.forall_mem_cons.mpr ⟨tmI tm2 (i := 34) rfl, List.forall_mem_cons.mpr ⟨tmI tm4 (i := 69) rfl, List.forall_mem_cons.mpr ⟨tmI tm4 (i := 70) rfl, List.forall_mem_cons.mpr ⟨tmI tm4 (i := 71) rfl, List.forall_mem_cons.mpr ⟨tmI tm4 (i := 72) rfl, List.forall_mem_cons.mpr ⟨tmI tm4 (i := 73) rfl, List.forall_mem_cons.mpr ⟨tmI tm4 (i := 75) rfl, List.forall_mem_cons.mpr ⟨tmI tmS (i := 15) rfl, List.forall_mem_cons.mpr ⟨tmI tm4 (i := 76) rfl, fun _ h => absurd h List.not_mem_nil⟩⟩⟩⟩⟩⟩⟩⟩⟩⟩⟩⟩⟩⟩⟩⟩⟩⟩⟩⟩⟩⟩⟩⟩
set_option maxRecDepth 20000 in
theorem wi_9 : ∀ w ∈ wsL_law_r9, w ∈ lw_tbl := List.forall_mem_cons.mpr ⟨tmI tm2 (i := 35) rfl, List.forall_mem_cons.mpr ⟨tmI tm2 (i := 36) rfl, List.forall_mem_cons.mpr ⟨tmI tm2 (i := 37) rfl, List.forall_mem_cons.mpr ⟨tmI tm2 (i := 38) rfl, List.forall_mem_cons.mpr ⟨tmI tm2 (i := 39) rfl, List.forall_mem_cons.mpr ⟨tmI tm2 (i := 40) rfl, List.forall_mem_cons.mpr ⟨tmI tm2 (i := 41) rfl, List.forall_mem_cons.mpr ⟨tmI tm2 (i := 42) rfl, List.forall_mem_cons.mpr ⟨tmI tm2 (i := 43) rfl, List.forall_mem_cons.mpr ⟨tmI tm2 (i := 44) rfl, List.forall_mem_cons.mpr ⟨tmI tm2 (i := 45) rfl, List.forall_mem_cons.mpr ⟨tmI tm2 (i := 46) rfl, List.forall_mem_cons.mpr ⟨tmI tm2 (i := 47) rfl, List.forall_mem_cons.mpr ⟨tmI tm2 (i := 48) rfl, List.forall_mem_cons.mpr ⟨tmI tm2 (i := 49) rfl, List.forall_mem_cons.mpr ⟨tmI tm2 (i := 50) rfl, List.forall_mem_cons.mpr ⟨tmI tm2 (i := 51) rfl, List.forall_mem_cons.mpr ⟨tmI tm2 (i := 52) rfl, List.forall_mem_cons.mpr ⟨tmI tm2 (i := 53) rfl, List.forall_mem_cons.mpr ⟨tmI tm4 (i := 77) rfl, List.forall_mem_cons.mpr ⟨tmI tm4 (i := 78) rfl, List.forall_mem_cons.mpr ⟨tmI tm4 (i := 79) rfl, List.forall_mem_cons.mpr ⟨tmI tm4 (i := 80) rfl, List.forall_mem_cons.mpr ⟨tmI tm4 (i := 81) rfl, fun _ h => absurd h List.not_mem_nil⟩⟩⟩⟩⟩⟩⟩⟩⟩⟩⟩⟩⟩⟩⟩⟩⟩⟩⟩⟩⟩⟩⟩⟩
set_option maxRecDepth 20000 in
theorem wi_10 : ∀ w ∈ wsL_law_r10, w ∈ lw_tbl := List.forall_mem_cons.mpr ⟨tmI tm4 (i := 83) rfl, List.forall_mem_cons.mpr ⟨tmI tmS (i := 16) rfl, List.forall_mem_cons.mpr ⟨tmI tm4 (i := 84) rfl, List.forall_mem_cons.mpr ⟨tmI tm4 (i := 85) rfl, List.forall_mem_cons.mpr ⟨tmI tm4 (i := 87) rfl, List.forall_mem_cons.mpr ⟨tmI tmS (i := 17) rfl, List.forall_mem_cons.mpr ⟨tmI tm4 (i := 88) rfl, List.forall_mem_cons.mpr ⟨tmI tm2 (i := 54) rfl, List.forall_mem_cons.mpr ⟨tmI tm2 (i := 55) rfl, List.forall_mem_cons.mpr ⟨tmI tm2 (i := 56) rfl, List.forall_mem_cons.mpr ⟨tmI tm2 (i := 57) rfl, List.forall_mem_cons.mpr ⟨tmI tm2 (i := 58) rfl, List.forall_mem_cons.mpr ⟨tmI tm2 (i := 59) rfl, List.forall_mem_cons.mpr ⟨tmI tm2 (i := 60) rfl, List.forall_mem_cons.mpr ⟨tmI tm2 (i := 61) rfl, List.forall_mem_cons.mpr ⟨tmI tm1 (i := 134) rfl, List.forall_mem_cons.mpr ⟨tmI tm2 (i := 62) rfl, List.forall_mem_cons.mpr ⟨tmI tm2 (i := 64) rfl, List.forall_mem_cons.mpr ⟨tmI tmS (i := 2) rfl, List.forall_mem_cons.mpr ⟨tmI tm2 (i := 65) rfl, List.forall_mem_cons.mpr ⟨tmI tm2 (i := 66) rfl, List.forall_mem_cons.mpr ⟨tmI tm2 (i := 68) rfl, List.forall_mem_cons.mpr ⟨tmI tmS (i := 3) rfl, List.forall_mem_cons.mpr ⟨tmI tm2 (i := 69) rfl, fun _ h => absurd h List.not_mem_nil⟩⟩⟩⟩⟩⟩⟩⟩⟩⟩⟩⟩⟩⟩⟩⟩⟩⟩⟩⟩⟩⟩⟩⟩
set_option maxRecDepth 20000 in
theorem wi_11 : ∀ w ∈ wsL_law_r11, w ∈ lw_tbl := List.forall_mem_cons.mpr ⟨tmI tm2 (i := 70) rfl, List.forall_mem_cons.mpr ⟨tmI tm2 (i := 71) rfl, List.forall_mem_cons.mpr ⟨tmI tm2 (i := 72) rfl, List.forall_mem_cons.mpr ⟨tmI tm2 (i := 74) rfl, List.forall_mem_cons.mpr ⟨tmI tm2 (i := 75) rfl, List.forall_mem_cons.mpr ⟨tmI tm2 (i := 76) rfl, List.forall_mem_cons.mpr ⟨tmI tm1 (i := 11) rfl, List.forall_mem_cons.mpr ⟨tmI tm2 (i := 77) rfl, List.forall_mem_cons.mpr ⟨tmI tm2 (i := 78) rfl, List.forall_mem_cons.mpr ⟨tmI tm2 (i := 79) rfl, List.forall_mem_cons.mpr ⟨tmI tm2 (i := 80) rfl, List.forall_mem_cons.mpr ⟨tmI tm2 (i := 81) rfl, List.forall_mem_cons.mpr ⟨tmI tm5 (i := 56) rfl, List.forall_mem_cons.mpr ⟨tmI tm2 (i := 82) rfl, List.forall_mem_cons.mpr ⟨tmI tm2 (i := 83) rfl, List.forall_mem_cons.mpr ⟨tmI tm2 (i := 84) rfl, List.forall_mem_cons.mpr ⟨tmI tm2 (i := 85) rfl, List.forall_mem_cons.mpr ⟨tmI tm2 (i := 86) rfl, List.forall_mem_cons.mpr ⟨tmI tm5 (i := 55) rfl, List.forall_mem_cons.mpr ⟨tmI tm2 (i := 88) rfl, List.forall_mem_cons.mpr ⟨tmI tm2 (i := 89) rfl, List.forall_mem_cons.mpr ⟨tmI tm2 (i := 90) rfl, List.forall_mem_cons.mpr ⟨tmI tm2 (i := 91) rfl, List.forall_mem_cons.mpr ⟨tmI tm2 (i := 92) rfl, fun _ h => absurd h List.not_mem_nil⟩⟩⟩⟩⟩⟩⟩⟩⟩⟩⟩⟩⟩⟩⟩⟩⟩⟩⟩⟩⟩⟩⟩⟩
set_option maxRecDepth 20000 in
theorem wi_12 : ∀ w ∈ wsL_law_r12, w ∈ lw_tbl := List.forall_mem_cons.mpr ⟨tmI tm2 (i := 93) rfl, List.forall_mem_cons.mpr ⟨tmI tm2 (i := 94) rfl, List.forall_mem_cons.mpr ⟨tmI tm2 (i := 95) rfl, List.forall_mem_cons.mpr ⟨tmI tm2 (i := 96) rfl, List.forall_mem_cons.mpr ⟨tmI tm2 (i := 97) rfl, List.forall_mem_cons.mpr ⟨tmI tm1 (i := 12) rfl, List.forall_mem_cons.mpr ⟨tmI tm2 (i := 98) rfl, List.forall_mem_cons.mpr ⟨tmI tm2 (i := 102) rfl, List.forall_mem_cons.mpr ⟨tmI tm2 (i := 103) rfl, List.forall_mem_cons.mpr ⟨tmI tm2 (i := 104) rfl, List.forall_mem_cons.mpr ⟨tmI tm2 (i := 105) rfl, List.forall_mem_cons.mpr ⟨tmI tm2 (i := 99) rfl, List.forall_mem_cons.mpr ⟨tmI tm2 (i := 100) rfl, List.forall_mem_cons.mpr ⟨tmI tm2 (i := 101) rfl, List.forall_mem_cons.mpr ⟨tmI tm2 (i := 106) rfl, List.forall_mem_cons.mpr ⟨tmI tm2 (i := 107) rfl, List.forall_mem_cons.mpr ⟨tmI tm2 (i := 108) rfl, List.forall_mem_cons.mpr ⟨tmI tm2 (i := 109) rfl, List.forall_mem_cons.mpr ⟨tmI tm2 (i := 110) rfl, List.forall_mem_cons.mpr ⟨tmI tm1 (i := 13) rfl, List.forall_mem_cons.mpr ⟨tmI tm2 (i := 111) rfl, List.forall_mem_cons.mpr ⟨tmI tm2 (i := 112) rfl, List.forall_mem_cons.mpr ⟨tmI tm2 (i := 113) rfl, List.forall_mem_cons.mpr ⟨tmI tm2 (i := 114) rfl, fun _ h => absurd h List.not_mem_nil⟩⟩⟩⟩⟩⟩⟩⟩⟩⟩⟩⟩⟩⟩⟩⟩⟩⟩⟩⟩⟩⟩⟩⟩
set_option maxRecDepth 20000 in
theorem wi_13 : ∀ w ∈ wsL_law_r13, w ∈ lw_tbl := List.forall_mem_cons.mpr ⟨tmI tm2 (i := 115) rfl, List.forall_mem_cons.mpr ⟨tmI tm2 (i := 116) rfl, List.forall_mem_cons.mpr ⟨tmI tm2 (i := 117) rfl, List.forall_mem_cons.mpr ⟨tmI tm2 (i := 118) rfl, List.forall_mem_cons.mpr ⟨tmI tm2 (i := 119) rfl, List.forall_mem_cons.mpr ⟨tmI tm2 (i := 120) rfl, List.forall_mem_cons.mpr ⟨tmI tm2 (i := 121) rfl, List.forall_mem_cons.mpr ⟨tmI tm2 (i := 122) rfl, List.forall_mem_cons.mpr ⟨tmI tm2 (i := 123) rfl, List.forall_mem_cons.mpr ⟨tmI tm2 (i := 124) rfl, List.forall_mem_cons.mpr ⟨tmI tm2 (i := 125) rfl, List.forall_mem_cons.mpr ⟨tmI tm2 (i := 126) rfl, List.forall_mem_cons.mpr ⟨tmI tm2 (i := 127) rfl, List.forall_mem_cons.mpr ⟨tmI tm2 (i := 129) rfl, List.forall_mem_cons.mpr ⟨tmI tm2 (i := 130) rfl, List.forall_mem_cons.mpr ⟨tmI tm1 (i := 14) rfl, List.forall_mem_cons.mpr ⟨tmI tm2 (i := 131) rfl, List.forall_mem_cons.mpr ⟨tmI tm2 (i := 132) rfl, List.forall_mem_cons.mpr ⟨tmI tm2 (i := 133) rfl, List.forall_mem_cons.mpr ⟨tmI tm2 (i := 134) rfl, List.forall_mem_cons.mpr ⟨tmI tm2 (i := 135) rfl, List.forall_mem_cons.mpr ⟨tmI tm2 (i := 136) rfl, List.forall_mem_cons.mpr ⟨tmI tm2 (i := 137) rfl, List.forall_mem_cons.mpr ⟨tmI tm2 (i := 138) rfl, fun _ h => absurd h List.not_mem_nil⟩⟩⟩⟩⟩⟩⟩⟩⟩⟩⟩⟩⟩⟩⟩⟩⟩⟩⟩⟩⟩⟩⟩⟩
set_option maxRecDepth 20000 in
theorem wi_14 : ∀ w ∈ wsL_law_r14, w ∈ lw_tbl := List.forall_mem_cons.mpr ⟨tmI tm2 (i := 140) rfl, List.forall_mem_cons.mpr ⟨tmI tm2 (i := 142) rfl, List.forall_mem_cons.mpr ⟨tmI tm2 (i := 144) rfl, List.forall_mem_cons.mpr ⟨tmI tm2 (i := 145) rfl, List.forall_mem_cons.mpr ⟨tmI tm2 (i := 146) rfl, List.forall_mem_cons.mpr ⟨tmI tm2 (i := 147) rfl, List.forall_mem_cons.mpr ⟨tmI tm2 (i := 148) rfl, List.forall_mem_cons.mpr ⟨tmI tm1 (i := 15) rfl, List.forall_mem_cons.mpr ⟨tmI tm2 (i := 149) rfl, List.forall_mem_cons.mpr ⟨tmI tm2 (i := 150) rfl, List.forall_mem_cons.mpr ⟨tmI tm2 (i := 151) rfl, List.forall_mem_cons.mpr ⟨tmI tm2 (i := 152) rfl, List.forall_mem_cons.mpr ⟨tmI tm2 (i := 153) rfl, List.forall_mem_cons.mpr ⟨tmI tm2 (i := 154) rfl, List.forall_mem_cons.mpr ⟨tmI tm2 (i := 155) rfl, List.forall_mem_cons.mpr ⟨tmI tm2 (i := 156) rfl, List.forall_mem_cons.mpr ⟨tmI tm2 (i := 157) rfl, List.forall_mem_cons.mpr ⟨tmI tm2 (i := 158) rfl, List.forall_mem_cons.mpr ⟨tmI tm2 (i := 159) rfl, List.forall_mem_cons.mpr ⟨tmI tm2 (i := 160) rfl, List.forall_mem_cons.mpr ⟨tmI tm2 (i := 161) rfl, List.forall_mem_cons.mpr ⟨tmI tm2 (i := 163) rfl, List.forall_mem_cons.mpr ⟨tmI tmS (i := 4) rfl, List.forall_mem_cons.mpr ⟨tmI tm2 (i := 164) rfl, fun _ h => absurd h List.not_mem_nil⟩⟩⟩⟩⟩⟩⟩⟩⟩⟩⟩⟩⟩⟩⟩⟩⟩⟩⟩⟩⟩⟩⟩⟩
set_option maxRecDepth 20000 in
theorem wi_15 : ∀ w ∈ wsL_law_r15, w ∈ lw_tbl := List.forall_mem_cons.mpr ⟨tmI tm2 (i := 165) rfl, List.forall_mem_cons.mpr ⟨tmI tm2 (i := 166) rfl, List.forall_mem_cons.mpr ⟨tmI tm2 (i := 167) rfl, List.forall_mem_cons.mpr ⟨tmI tm2 (i := 168) rfl, List.forall_mem_cons.mpr ⟨tmI tm2 (i := 169) rfl, List.forall_mem_cons.mpr ⟨tmI tm2 (i := 170) rfl, List.forall_mem_cons.mpr ⟨tmI tm2 (i := 171) rfl, List.forall_mem_cons.mpr ⟨tmI tm2 (i := 172) rfl, List.forall_mem_cons.mpr ⟨tmI tm2 (i := 173) rfl, List.forall_mem_cons.mpr ⟨tmI tm2 (i := 175) rfl, List.forall_mem_cons.mpr ⟨tmI tmS (i := 5) rfl, List.forall_mem_cons.mpr ⟨tmI tm2 (i := 176) rfl, List.forall_mem_cons.mpr ⟨tmI tm2 (i := 177) rfl, List.forall_mem_cons.mpr ⟨tmI tm2 (i := 179) rfl, List.forall_mem_cons.mpr ⟨tmI tmS (i := 6) rfl, List.forall_mem_cons.mpr ⟨tmI tm2 (i := 180) rfl, List.forall_mem_cons.mpr ⟨tmI tm2 (i := 181) rfl, List.forall_mem_cons.mpr ⟨tmI tm2 (i := 182) rfl, List.forall_mem_cons.mpr ⟨tmI tm2 (i := 183) rfl, List.forall_mem_cons.mpr ⟨tmI tm2 (i := 184) rfl, List.forall_mem_cons.mpr ⟨tmI tm2 (i := 185) rfl, List.forall_mem_cons.mpr ⟨tmI tm2 (i := 186) rfl, List.forall_mem_cons.mpr ⟨tmI tm2 (i := 187) rfl, List.forall_mem_cons.mpr ⟨tmI tm2 (i := 188) rfl, fun _ h => absurd h List.not_mem_nil⟩⟩⟩⟩⟩⟩⟩⟩⟩⟩⟩⟩⟩⟩⟩⟩⟩⟩⟩⟩⟩⟩⟩⟩
set_option maxRecDepth 20000 in
theorem wi_16 : ∀ w ∈ wsL_law_r16, w ∈ lw_tbl := List.forall_mem_cons.mpr ⟨tmI tm2 (i := 189) rfl, List.forall_mem_cons.mpr ⟨tmI tm2 (i := 190) rfl, List.forall_mem_cons.mpr ⟨tmI tm2 (i := 191) rfl, List.forall_mem_cons.mpr ⟨tmI tm2 (i := 192) rfl, List.forall_mem_cons.mpr ⟨tmI tm2 (i := 193) rfl, List.forall_mem_cons.mpr ⟨tmI tm2 (i := 194) rfl, List.forall_mem_cons.mpr ⟨tmI tm2 (i := 195) rfl, List.forall_mem_cons.mpr ⟨tmI tm2 (i := 196) rfl, List.forall_mem_cons.mpr ⟨tmI tm4 (i := 89) rfl, List.forall_mem_cons.mpr ⟨tmI tm4 (i := 90) rfl, List.forall_mem_cons.mpr ⟨tmI tm4 (i := 91) rfl, List.forall_mem_cons.mpr ⟨tmI tm4 (i := 92) rfl, List.forall_mem_cons.mpr ⟨tmI tm4 (i := 11) rfl, List.forall_mem_cons.mpr ⟨tmI tm4 (i := 3) rfl, List.forall_mem_cons.mpr ⟨tmI tm4 (i := 12) rfl, List.forall_mem_cons.mpr ⟨tmI tm4 (i := 13) rfl, List.forall_mem_cons.mpr ⟨tmI tm4 (i := 14) rfl, List.forall_mem_cons.mpr ⟨tmI tm4 (i := 15) rfl, List.forall_mem_cons.mpr ⟨tmI tm4 (i := 93) rfl, List.forall_mem_cons.mpr ⟨tmI tm4 (i := 95) rfl, List.forall_mem_cons.mpr ⟨tmI tmS (i := 18) rfl, List.forall_mem_cons.mpr ⟨tmI tm4 (i := 96) rfl, List.forall_mem_cons.mpr ⟨tmI tm4 (i := 97) rfl, List.forall_mem_cons.mpr ⟨tmI tm4 (i := 99) rfl, fun _ h => absurd h List.not_mem_nil⟩⟩⟩⟩⟩⟩⟩⟩⟩⟩⟩⟩⟩⟩⟩⟩⟩⟩⟩⟩⟩⟩⟩⟩
set_option maxRecDepth 20000 in
theorem wi_17 : ∀ w ∈ wsL_law_r17, w ∈ lw_tbl := List.forall_mem_cons.mpr ⟨tmI tmS (i := 19) rfl, List.forall_mem_cons.mpr ⟨tmI tm4 (i := 100) rfl, List.forall_mem_cons.mpr ⟨tmI tm4 (i := 101) rfl, List.forall_mem_cons.mpr ⟨tmI tm4 (i := 103) rfl, List.forall_mem_cons.mpr ⟨tmI tmS (i := 20) rfl, List.forall_mem_cons.mpr ⟨tmI tm4 (i := 104) rfl, List.forall_mem_cons.mpr ⟨tmI tm4 (i := 105) rfl, List.forall_mem_cons.mpr ⟨tmI tm4 (i := 107) rfl, List.forall_mem_cons.mpr ⟨tmI tmS (i := 21) rfl, List.forall_mem_cons.mpr ⟨tmI tm4 (i := 108) rfl, List.forall_mem_cons.mpr ⟨tmI tm4 (i := 109) rfl, List.forall_mem_cons.mpr ⟨tmI tm4 (i := 111) rfl, List.forall_mem_cons.mpr ⟨tmI tmS (i := 22) rfl, List.forall_mem_cons.mpr ⟨tmI tm4 (i := 112) rfl, List.forall_mem_cons.mpr ⟨tmI tm4 (i := 113) rfl, List.forall_mem_cons.mpr ⟨tmI tm4 (i := 115) rfl, List.forall_mem_cons.mpr ⟨tmI tmS (i := 23) rfl, List.forall_mem_cons.mpr ⟨tmI tm4 (i := 116) rfl, List.forall_mem_cons.mpr ⟨tmI tm4 (i := 117) rfl, List.forall_mem_cons.mpr ⟨tmI tm4 (i := 119) rfl, List.forall_mem_cons.mpr ⟨tmI tmS (i := 24) rfl, List.forall_mem_cons.mpr ⟨tmI tm4 (i := 120) rfl, List.forall_mem_cons.mpr ⟨tmI tm2 (i := 198) rfl, List.forall_mem_cons.mpr ⟨tmI tm2 (i := 199) rfl, fun _ h => absurd h List.not_mem_nil⟩⟩⟩⟩⟩⟩⟩⟩⟩⟩⟩⟩⟩⟩⟩⟩⟩⟩⟩⟩⟩⟩⟩⟩
set_option maxRecDepth 20000 in
theorem wi_18 : ∀ w ∈ wsL_law_r18, w ∈ lw_tbl := List.forall_mem_cons.mpr ⟨tmI tm2 (i := 200) rfl, List.forall_mem_cons.mpr ⟨tmI tm2 (i := 201) rfl, List.forall_mem_cons.mpr ⟨tmI tm2 (i := 202) rfl, List.forall_mem_cons.mpr ⟨tmI tm2 (i := 203) rfl, List.forall_mem_cons.mpr ⟨tmI tm2 (i := 204) rfl, List.forall_mem_cons.mpr ⟨tmI tm2 (i := 205) rfl, List.forall_mem_cons.mpr ⟨tmI tm2 (i := 206) rfl, List.forall_mem_cons.mpr ⟨tmI tm2 (i := 207) rfl, List.forall_mem_cons.mpr ⟨tmI tm2 (i := 209) rfl, List.forall_mem_cons.mpr ⟨tmI tmS (i := 7) rfl, List.forall_mem_cons.mpr ⟨tmI tm2 (i := 210) rfl, List.forall_mem_cons.mpr ⟨tmI tm2 (i := 211) rfl, List.forall_mem_cons.mpr ⟨tmI tm2 (i := 212) rfl, List.forall_mem_cons.mpr ⟨tmI tm2 (i := 213) rfl, List.forall_mem_cons.mpr ⟨tmI tm2 (i := 214) rfl, List.forall_mem_cons.mpr ⟨tmI tm2 (i := 215) rfl, List.forall_mem_cons.mpr ⟨tmI tm2 (i := 217) rfl, List.forall_mem_cons.mpr ⟨tmI tmS (i := 8) rfl, List.forall_mem_cons.mpr ⟨tmI tm2 (i := 218) rfl, List.forall_mem_cons.mpr ⟨tmI tm1 (i := 165) rfl, List.forall_mem_cons.mpr ⟨tmI tm2 (i := 220) rfl, List.forall_mem_cons.mpr ⟨tmI tm2 (i := 221) rfl, List.forall_mem_cons.mpr ⟨tmI tm2 (i := 222) rfl, List.forall_mem_cons.mpr ⟨tmI tm2 (i := 223) rfl, fun _ h => absurd h List.not_mem_nil⟩⟩⟩⟩⟩⟩⟩⟩⟩⟩⟩⟩⟩⟩⟩⟩⟩⟩⟩⟩⟩⟩⟩⟩
set_option maxRecDepth 20000 in
theorem wi_19 : ∀ w ∈ wsL_law_r19, w ∈ lw_tbl := List.forall_mem_cons.mpr ⟨tmI tm1 (i := 154) rfl, List.forall_mem_cons.mpr ⟨tmI tm2 (i := 224) rfl, List.forall_mem_cons.mpr ⟨tmI tm2 (i := 225) rfl, List.forall_mem_cons.mpr ⟨tmI tm2 (i := 226) rfl, List.forall_mem_cons.mpr ⟨tmI tm2 (i := 227) rfl, List.forall_mem_cons.mpr ⟨tmI tm2 (i := 228) rfl, List.forall_mem_cons.mpr ⟨tmI tm2 (i := 229) rfl, List.forall_mem_cons.mpr ⟨tmI tm2 (i := 230) rfl, List.forall_mem_cons.mpr ⟨tmI tm2 (i := 231) rfl, List.forall_mem_cons.mpr ⟨tmI tm2 (i := 232) rfl, List.forall_mem_cons.mpr ⟨tmI tm2 (i := 233) rfl, List.forall_mem_cons.mpr ⟨tmI tm2 (i := 234) rfl, List.forall_mem_cons.mpr ⟨tmI tm2 (i := 235) rfl, List.forall_mem_cons.mpr ⟨tmI tm2 (i := 236) rfl, List.forall_mem_cons.mpr ⟨tmI tm2 (i := 237) rfl, List.forall_mem_cons.mpr ⟨tmI tm2 (i := 238) rfl, List.forall_mem_cons.mpr ⟨tmI tm2 (i := 239) rfl, List.forall_mem_cons.mpr ⟨tmI tm3 (i := 2) rfl, List.forall_mem_cons.mpr ⟨tmI tm3 (i := 3) rfl, List.forall_mem_cons.mpr ⟨tmI tm3 (i := 4) rfl, List.forall_mem_cons.mpr ⟨tmI tm3 (i := 6) rfl, List.forall_mem_cons.mpr ⟨tmI tmS (i := 9) rfl, List.forall_mem_cons.mpr ⟨tmI tm3 (i := 7) rfl, List.forall_mem_cons.mpr ⟨tmI tm3 (i := 10) rfl, fun _ h => absurd h List.not_mem_nil⟩⟩⟩⟩⟩⟩⟩⟩⟩⟩⟩⟩⟩⟩⟩⟩⟩⟩⟩⟩⟩⟩⟩⟩
set_option maxRecDepth 20000 in
theorem wi_20 : ∀ w ∈ wsL_law_r20, w ∈ lw_tbl := List.forall_mem_cons.mpr ⟨tmI tm3 (i := 11) rfl, List.forall_mem_cons.mpr ⟨tmI tm3 (i := 12) rfl, List.forall_mem_cons.mpr ⟨tmI tm3 (i := 13) rfl, List.forall_mem_cons.mpr ⟨tmI tm3 (i := 14) rfl, List.forall_mem_cons.mpr ⟨tmI tm3 (i := 15) rfl, List.forall_mem_cons.mpr ⟨tmI tm3 (i := 16) rfl, List.forall_mem_cons.mpr ⟨tmI tm3 (i := 17) rfl, List.forall_mem_cons.mpr ⟨tmI tm4 (i := 121) rfl, List.forall_mem_cons.mpr ⟨tmI tm4 (i := 122) rfl, List.forall_mem_cons.mpr ⟨tmI tm4 (i := 123) rfl, List.forall_mem_cons.mpr ⟨tmI tm4 (i := 124) rfl, List.forall_mem_cons.mpr ⟨tmI tm4 (i := 125) rfl, List.forall_mem_cons.mpr ⟨tmI tm4 (i := 127) rfl, List.forall_mem_cons.mpr ⟨tmI tmS (i := 25) rfl, List.forall_mem_cons.mpr ⟨tmI tm4 (i := 128) rfl, List.forall_mem_cons.mpr ⟨tmI tm4 (i := 129) rfl, List.forall_mem_cons.mpr ⟨tmI tm4 (i := 131) rfl, List.forall_mem_cons.mpr ⟨tmI tmS (i := 26) rfl, List.forall_mem_cons.mpr ⟨tmI tm4 (i := 132) rfl, List.forall_mem_cons.mpr ⟨tmI tm4 (i := 133) rfl, List.forall_mem_cons.mpr ⟨tmI tm4 (i := 135) rfl, List.forall_mem_cons.mpr ⟨tmI tmS (i := 27) rfl, List.forall_mem_cons.mpr ⟨tmI tm4 (i := 136) rfl, List.forall_mem_cons.mpr ⟨tmI tm4 (i := 137) rfl, fun _ h => absurd h List.not_mem_nil⟩⟩⟩⟩⟩⟩⟩⟩⟩⟩⟩⟩⟩⟩⟩⟩⟩⟩⟩⟩⟩⟩⟩⟩
set_option maxRecDepth 20000 in
theorem wi_21 : ∀ w ∈ wsL_law_r21, w ∈ lw_tbl := List.forall_mem_cons.mpr ⟨tmI tm4 (i := 139) rfl, List.forall_mem_cons.mpr ⟨tmI tmS (i := 28) rfl, List.forall_mem_cons.mpr ⟨tmI tm4 (i := 140) rfl, List.forall_mem_cons.mpr ⟨tmI tm4 (i := 141) rfl, List.forall_mem_cons.mpr ⟨tmI tm4 (i := 143) rfl, List.forall_mem_cons.mpr ⟨tmI tmS (i := 29) rfl, List.forall_mem_cons.mpr ⟨tmI tm4 (i := 144) rfl, List.forall_mem_cons.mpr ⟨tmI tm4 (i := 5) rfl, List.forall_mem_cons.mpr ⟨tmI tm4 (i := 145) rfl, List.forall_mem_cons.mpr ⟨tmI tm4 (i := 147) rfl, List.forall_mem_cons.mpr ⟨tmI tmS (i := 30) rfl, List.forall_mem_cons.mpr ⟨tmI tm4 (i := 148) rfl, List.forall_mem_cons.mpr ⟨tmI tm4 (i := 149) rfl, List.forall_mem_cons.mpr ⟨tmI tm4 (i := 151) rfl, List.forall_mem_cons.mpr ⟨tmI tmS (i := 31) rfl, List.forall_mem_cons.mpr ⟨tmI tm4 (i := 152) rfl, List.forall_mem_cons.mpr ⟨tmI tm4 (i := 9) rfl, List.forall_mem_cons.mpr ⟨tmI tm4 (i := 10) rfl, List.forall_mem_cons.mpr ⟨tmI tm4 (i := 153) rfl, List.forall_mem_cons.mpr ⟨tmI tm4 (i := 155) rfl, List.forall_mem_cons.mpr ⟨tmI tmS (i := 32) rfl, List.forall_mem_cons.mpr ⟨tmI tm4 (i := 156) rfl, List.forall_mem_cons.mpr ⟨tmI tm4 (i := 157) rfl, List.forall_mem_cons.mpr ⟨tmI tm4 (i := 159) rfl, fun _ h => absurd h List.not_mem_nil⟩⟩⟩⟩⟩⟩⟩⟩⟩⟩⟩⟩⟩⟩⟩⟩⟩⟩⟩⟩⟩⟩⟩⟩
set_option maxRecDepth 20000 in
theorem wi_22 : ∀ w ∈ wsL_law_r22, w ∈ lw_tbl := List.forall_mem_cons.mpr ⟨tmI tmS (i := 33) rfl, List.forall_mem_cons.mpr ⟨tmI tm4 (i := 160) rfl, List.forall_mem_cons.mpr ⟨tmI tm4 (i := 161) rfl, List.forall_mem_cons.mpr ⟨tmI tm4 (i := 163) rfl, List.forall_mem_cons.mpr ⟨tmI tmS (i := 34) rfl, List.forall_mem_cons.mpr ⟨tmI tm4 (i := 164) rfl, List.forall_mem_cons.mpr ⟨tmI tm4 (i := 165) rfl, List.forall_mem_cons.mpr ⟨tmI tm4 (i := 167) rfl, List.forall_mem_cons.mpr ⟨tmI tmS (i := 35) rfl, List.forall_mem_cons.mpr ⟨tmI tm4 (i := 168) rfl, List.forall_mem_cons.mpr ⟨tmI tm4 (i := 169) rfl, List.forall_mem_cons.mpr ⟨tmI tm4 (i := 171) rfl, List.forall_mem_cons.mpr ⟨tmI tmS (i := 36) rfl, List.forall_mem_cons.mpr ⟨tmI tm4 (i := 172) rfl, List.forall_mem_cons.mpr ⟨tmI tm4 (i := 173) rfl, List.forall_mem_cons.mpr ⟨tmI tm4 (i := 175) rfl, List.forall_mem_cons.mpr ⟨tmI tmS (i := 37) rfl, List.forall_mem_cons.mpr ⟨tmI tm4 (i := 176) rfl, List.forall_mem_cons.mpr ⟨tmI tm4 (i := 177) rfl, List.forall_mem_cons.mpr ⟨tmI tm4 (i := 179) rfl, List.forall_mem_cons.mpr ⟨tmI tmS (i := 38) rfl, List.forall_mem_cons.mpr ⟨tmI tm4 (i := 180) rfl, List.forall_mem_cons.mpr ⟨tmI tm3 (i := 20) rfl, List.forall_mem_cons.mpr ⟨tmI tm3 (i := 21) rfl, fun _ h => absurd h List.not_mem_nil⟩⟩⟩⟩⟩⟩⟩⟩⟩⟩⟩⟩⟩⟩⟩⟩⟩⟩⟩⟩⟩⟩⟩⟩
set_option maxRecDepth 20000 in
theorem wi_23 : ∀ w ∈ wsL_law_r23, w ∈ lw_tbl := List.forall_mem_cons.mpr ⟨tmI tm3 (i := 22) rfl, List.forall_mem_cons.mpr ⟨tmI tm3 (i := 23) rfl, List.forall_mem_cons.mpr ⟨tmI tm3 (i := 24) rfl, List.forall_mem_cons.mpr ⟨tmI tm3 (i := 25) rfl, List.forall_mem_cons.mpr ⟨tmI tm3 (i := 26) rfl, List.forall_mem_cons.mpr ⟨tmI tm3 (i := 27) rfl, List.forall_mem_cons.mpr ⟨tmI tm3 (i := 28) rfl, List.forall_mem_cons.mpr ⟨tmI tm3 (i := 29) rfl, List.forall_mem_cons.mpr ⟨tmI tm4 (i := 181) rfl, List.forall_mem_cons.mpr ⟨tmI tm4 (i := 182) rfl, List.forall_mem_cons.mpr ⟨tmI tm4 (i := 183) rfl, List.forall_mem_cons.mpr ⟨tmI tm4 (i := 184) rfl, List.forall_mem_cons.mpr ⟨tmI tm4 (i := 185) rfl, List.forall_mem_cons.mpr ⟨tmI tm4 (i := 187) rfl, List.forall_mem_cons.mpr ⟨tmI tmS (i := 39) rfl, List.forall_mem_cons.mpr ⟨tmI tm4 (i := 188) rfl, List.forall_mem_cons.mpr ⟨tmI tm4 (i := 189) rfl, List.forall_mem_cons.mpr ⟨tmI tm4 (i := 191) rfl, List.forall_mem_cons.mpr ⟨tmI tmS (i := 40) rfl, List.forall_mem_cons.mpr ⟨tmI tm4 (i := 192) rfl, List.forall_mem_cons.mpr ⟨tmI tm3 (i := 30) rfl, List.forall_mem_cons.mpr ⟨tmI tm3 (i := 31) rfl, List.forall_mem_cons.mpr ⟨tmI tm3 (i := 32) rfl, List.forall_mem_cons.mpr ⟨tmI tm3 (i := 33) rfl, fun _ h => absurd h List.not_mem_nil⟩⟩⟩⟩⟩⟩⟩⟩⟩⟩⟩⟩⟩⟩⟩⟩⟩⟩⟩⟩⟩⟩⟩⟩
set_option maxRecDepth 20000 in
theorem wi_24 : ∀ w ∈ wsL_law_r24, w ∈ lw_tbl := List.forall_mem_cons.mpr ⟨tmI tm4 (i := 193) rfl, List.forall_mem_cons.mpr ⟨tmI tm4 (i := 194) rfl, List.forall_mem_cons.mpr ⟨tmI tm4 (i := 195) rfl, List.forall_mem_cons.mpr ⟨tmI tm4 (i := 196) rfl, List.forall_mem_cons.mpr ⟨tmI tm3 (i := 34) rfl, List.forall_mem_cons.mpr ⟨tmI tm3 (i := 35) rfl, List.forall_mem_cons.mpr ⟨tmI tm3 (i := 36) rfl, List.forall_mem_cons.mpr ⟨tmI tm3 (i := 37) rfl, List.forall_mem_cons.mpr ⟨tmI tm3 (i := 38) rfl, List.forall_mem_cons.mpr ⟨tmI tm3 (i := 40) rfl, List.forall_mem_cons.mpr ⟨tmI tmS (i := 10) rfl, List.forall_mem_cons.mpr ⟨tmI tm3 (i := 41) rfl, List.forall_mem_cons.mpr ⟨tmI tm3 (i := 42) rfl, List.forall_mem_cons.mpr ⟨tmI tm3 (i := 43) rfl, List.forall_mem_cons.mpr ⟨tmI tm3 (i := 44) rfl, List.forall_mem_cons.mpr ⟨tmI tm3 (i := 45) rfl, List.forall_mem_cons.mpr ⟨tmI tm3 (i := 46) rfl, List.forall_mem_cons.mpr ⟨tmI tm3 (i := 47) rfl, List.forall_mem_cons.mpr ⟨tmI tm3 (i := 48) rfl, List.forall_mem_cons.mpr ⟨tmI tm3 (i := 49) rfl, List.forall_mem_cons.mpr ⟨tmI tm3 (i := 50) rfl, List.forall_mem_cons.mpr ⟨tmI tm3 (i := 51) rfl, List.forall_mem_cons.mpr ⟨tmI tm3 (i := 52) rfl, List.forall_mem_cons.mpr ⟨tmI tm3 (i := 53) rfl, fun _ h => absurd h List.not_mem_nil⟩⟩⟩⟩⟩⟩⟩⟩⟩⟩⟩⟩⟩⟩⟩⟩⟩⟩⟩⟩⟩⟩⟩⟩
set_option maxRecDepth 20000 in
theorem wi_25 : ∀ w ∈ wsL_law_r25, w ∈ lw_tbl := List.forall_mem_cons.mpr ⟨tmI tm3 (i := 54) rfl, List.forall_mem_cons.mpr ⟨tmI tm4 (i := 197) rfl, List.forall_mem_cons.mpr ⟨tmI tm4 (i := 198) rfl, List.forall_mem_cons.mpr ⟨tmI tm4 (i := 199) rfl, List.forall_mem_cons.mpr ⟨tmI tm4 (i := 200) rfl, List.forall_mem_cons.mpr ⟨tmI tm4 (i := 201) rfl, List.forall_mem_cons.mpr ⟨tmI tm4 (i := 203) rfl, List.forall_mem_cons.mpr ⟨tmI tmS (i := 41) rfl, List.forall_mem_cons.mpr ⟨tmI tm4 (i := 204) rfl, List.forall_mem_cons.mpr ⟨tmI tm3 (i := 55) rfl, List.forall_mem_cons.mpr ⟨tmI tm3 (i := 56) rfl, List.forall_mem_cons.mpr ⟨tmI tm3 (i := 57) rfl, List.forall_mem_cons.mpr ⟨tmI tm3 (i := 58) rfl, List.forall_mem_cons.mpr ⟨tmI tm3 (i := 59) rfl, List.forall_mem_cons.mpr ⟨tmI tm3 (i := 60) rfl, List.forall_mem_cons.mpr ⟨tmI tm3 (i := 61) rfl, List.forall_mem_cons.mpr ⟨tmI tm3 (i := 62) rfl, List.forall_mem_cons.mpr ⟨tmI tm3 (i := 63) rfl, List.forall_mem_cons.mpr ⟨tmI tm3 (i := 64) rfl, List.forall_mem_cons.mpr ⟨tmI tm3 (i := 65) rfl, List.forall_mem_cons.mpr ⟨tmI tm3 (i := 66) rfl, List.forall_mem_cons.mpr ⟨tmI tm3 (i := 67) rfl, List.forall_mem_cons.mpr ⟨tmI tm3 (i := 68) rfl, List.forall_mem_cons.mpr ⟨tmI tm3 (i := 69) rfl, fun _ h => absurd h List.not_mem_nil⟩⟩⟩⟩⟩⟩⟩⟩⟩⟩⟩⟩⟩⟩⟩⟩⟩⟩⟩⟩⟩⟩⟩⟩
set_option maxRecDepth 20000 in
theorem wi_26 : ∀ w ∈ wsL_law_r26, w ∈ lw_tbl := List.forall_mem_cons.mpr ⟨tmI tm3 (i := 70) rfl, List.forall_mem_cons.mpr ⟨tmI tm4 (i := 205) rfl, List.forall_mem_cons.mpr ⟨tmI tm4 (i := 206) rfl, List.forall_mem_cons.mpr ⟨tmI tm4 (i := 207) rfl, List.forall_mem_cons.mpr ⟨tmI tm4 (i := 208) rfl, List.forall_mem_cons.mpr ⟨tmI tm3 (i := 72) rfl, List.forall_mem_cons.mpr ⟨tmI tm3 (i := 73) rfl, List.forall_mem_cons.mpr ⟨tmI tm3 (i := 74) rfl, List.forall_mem_cons.mpr ⟨tmI tm3 (i := 75) rfl, List.forall_mem_cons.mpr ⟨tmI tm3 (i := 76) rfl, List.forall_mem_cons.mpr ⟨tmI tm3 (i := 77) rfl, List.forall_mem_cons.mpr ⟨tmI tm3 (i := 78) rfl, List.forall_mem_cons.mpr ⟨tmI tm3 (i := 79) rfl, List.forall_mem_cons.mpr ⟨tmI tm3 (i := 80) rfl, List.forall_mem_cons.mpr ⟨tmI tm3 (i := 81) rfl, List.forall_mem_cons.mpr ⟨tmI tm3 (i := 82) rfl, List.forall_mem_cons.mpr ⟨tmI tm3 (i := 83) rfl, List.forall_mem_cons.mpr ⟨tmI tm3 (i := 84) rfl, List.forall_mem_cons.mpr ⟨tmI tm4 (i := 209) rfl, List.forall_mem_cons.mpr ⟨tmI tm4 (i := 210) rfl, List.forall_mem_cons.mpr ⟨tmI tm4 (i := 211) rfl, List.forall_mem_cons.mpr ⟨tmI tm4 (i := 212) rfl, List.forall_mem_cons.mpr ⟨tmI tm4 (i := 213) rfl, List.forall_mem_cons.mpr ⟨tmI tm4 (i := 215) rfl, fun _ h => absurd h List.not_mem_nil⟩⟩⟩⟩⟩⟩⟩⟩⟩⟩⟩⟩⟩⟩⟩⟩⟩⟩⟩⟩⟩⟩⟩⟩
set_option maxRecDepth 20000 in
theorem wi_27 : ∀ w ∈ wsL_law_r27, w ∈ lw_tbl := List.forall_mem_cons.mpr ⟨tmI tmS (i := 42) rfl, List.forall_mem_cons.mpr ⟨tmI tm4 (i := 216) rfl, List.forall_mem_cons.mpr ⟨tmI tm3 (i := 85) rfl, List.forall_mem_cons.mpr ⟨tmI tm3 (i := 86) rfl, List.forall_mem_cons.mpr ⟨tmI tm3 (i := 87) rfl, List.forall_mem_cons.mpr ⟨tmI tm3 (i := 88) rfl, List.forall_mem_cons.mpr ⟨tmI tm3 (i := 89) rfl, List.forall_mem_cons.mpr ⟨tmI tm4 (i := 217) rfl, List.forall_mem_cons.mpr ⟨tmI tm4 (i := 218) rfl, List.forall_mem_cons.mpr ⟨tmI tm4 (i := 219) rfl, List.forall_mem_cons.mpr ⟨tmI tm4 (i := 220) rfl, List.forall_mem_cons.mpr ⟨tmI tm3 (i := 90) rfl, List.forall_mem_cons.mpr ⟨tmI tm3 (i := 91) rfl, List.forall_mem_cons.mpr ⟨tmI tm3 (i := 92) rfl, List.forall_mem_cons.mpr ⟨tmI tm3 (i := 93) rfl, List.forall_mem_cons.mpr ⟨tmI tm3 (i := 94) rfl, List.forall_mem_cons.mpr ⟨tmI tm3 (i := 95) rfl, List.forall_mem_cons.mpr ⟨tmI tm3 (i := 96) rfl, List.forall_mem_cons.mpr ⟨tmI tm3 (i := 97) rfl, List.forall_mem_cons.mpr ⟨tmI tm3 (i := 98) rfl, List.forall_mem_cons.mpr ⟨tmI tm3 (i := 99) rfl, List.forall_mem_cons.mpr ⟨tmI tm3 (i := 100) rfl, List.forall_mem_cons.mpr ⟨tmI tm3 (i := 101) rfl, List.forall_mem_cons.mpr ⟨tmI tm3 (i := 102) rfl, fun _ h => absurd h List.not_mem_nil⟩⟩⟩⟩⟩⟩⟩⟩⟩⟩⟩⟩⟩⟩⟩⟩⟩⟩⟩⟩⟩⟩⟩⟩
set_option maxRecDepth 20000 in
theorem wi_28 : ∀ w ∈ wsL_law_r28, w ∈ lw_tbl := List.forall_mem_cons.mpr ⟨tmI tm3 (i := 103) rfl, List.forall_mem_cons.mpr ⟨tmI tm3 (i := 104) rfl, List.forall_mem_cons.mpr ⟨tmI tm3 (i := 105) rfl, List.forall_mem_cons.mpr ⟨tmI tm3 (i := 106) rfl, List.forall_mem_cons.mpr ⟨tmI tm3 (i := 107) rfl, List.forall_mem_cons.mpr ⟨tmI tm3 (i := 108) rfl, List.forall_mem_cons.mpr ⟨tmI tm3 (i := 109) rfl, List.forall_mem_cons.mpr ⟨tmI tm3 (i := 110) rfl, List.forall_mem_cons.mpr ⟨tmI tm3 (i := 111) rfl, List.forall_mem_cons.mpr ⟨tmI tm3 (i := 112) rfl, List.forall_mem_cons.mpr ⟨tmI tm3 (i := 113) rfl, List.forall_mem_cons.mpr ⟨tmI tm3 (i := 114) rfl, List.forall_mem_cons.mpr ⟨tmI tm3 (i := 115) rfl, List.forall_mem_cons.mpr ⟨tmI tm3 (i := 116) rfl, List.forall_mem_cons.mpr ⟨tmI tm3 (i := 117) rfl, List.forall_mem_cons.mpr ⟨tmI tm3 (i := 118) rfl, List.forall_mem_cons.mpr ⟨tmI tm3 (i := 119) rfl, List.forall_mem_cons.mpr ⟨tmI tm3 (i := 120) rfl, List.forall_mem_cons.mpr ⟨tmI tm3 (i := 121) rfl, List.forall_mem_cons.mpr ⟨tmI tm3 (i := 122) rfl, List.forall_mem_cons.mpr ⟨tmI tm4 (i := 221) rfl, List.forall_mem_cons.mpr ⟨tmI tm4 (i := 222) rfl, List.forall_mem_cons.mpr ⟨tmI tm4 (i := 223) rfl, List.forall_mem_cons.mpr ⟨tmI tm4 (i := 224) rfl, fun _ h => absurd h List.not_mem_nil⟩⟩⟩⟩⟩⟩⟩⟩⟩⟩⟩⟩⟩⟩⟩⟩⟩⟩⟩⟩⟩⟩⟩⟩
set_option maxRecDepth 20000 in
theorem wi_29 : ∀ w ∈ wsL_law_r29, w ∈ lw_tbl := List.forall_mem_cons.mpr ⟨tmI tm4 (i := 225) rfl, List.forall_mem_cons.mpr ⟨tmI tm4 (i := 227) rfl, List.forall_mem_cons.mpr ⟨tmI tmS (i := 43) rfl, List.forall_mem_cons.mpr ⟨tmI tm4 (i := 228) rfl, List.forall_mem_cons.mpr ⟨tmI tm4 (i := 229) rfl, List.forall_mem_cons.mpr ⟨tmI tm4 (i := 231) rfl, List.forall_mem_cons.mpr ⟨tmI tmS (i := 44) rfl, List.forall_mem_cons.mpr ⟨tmI tm4 (i := 232) rfl, List.forall_mem_cons.mpr ⟨tmI tm4 (i := 233) rfl, List.forall_mem_cons.mpr ⟨tmI tm4 (i := 235) rfl, List.forall_mem_cons.mpr ⟨tmI tmS (i := 45) rfl, List.forall_mem_cons.mpr ⟨tmI tm4 (i := 236) rfl, List.forall_mem_cons.mpr ⟨tmI tm4 (i := 237) rfl, List.forall_mem_cons.mpr ⟨tmI tm4 (i := 239) rfl, List.forall_mem_cons.mpr ⟨tmI tmS (i := 46) rfl, List.forall_mem_cons.mpr ⟨tmI tm5 (i := 0) rfl, List.forall_mem_cons.mpr ⟨tmI tm3 (i := 123) rfl, List.forall_mem_cons.mpr ⟨tmI tm3 (i := 124) rfl, List.forall_mem_cons.mpr ⟨tmI tm3 (i := 125) rfl, List.forall_mem_cons.mpr ⟨tmI tm3 (i := 126) rfl, List.forall_mem_cons.mpr ⟨tmI tm5 (i := 1) rfl, List.forall_mem_cons.mpr ⟨tmI tm5 (i := 2) rfl, List.forall_mem_cons.mpr ⟨tmI tm5 (i := 3) rfl, List.forall_mem_cons.mpr ⟨tmI tm5 (i := 4) rfl, fun _ h => absurd h List.not_mem_nil⟩⟩⟩⟩⟩⟩⟩⟩⟩⟩⟩⟩⟩⟩⟩⟩⟩⟩⟩⟩⟩⟩⟩⟩
set_option maxRecDepth 20000 in
theorem wi_30 : ∀ w ∈ wsL_law_r30, w ∈ lw_tbl := List.forall_mem_cons.mpr ⟨tmI tm3 (i := 127) rfl, List.forall_mem_cons.mpr ⟨tmI tm3 (i := 128) rfl, List.forall_mem_cons.mpr ⟨tmI tm3 (i := 129) rfl, List.forall_mem_cons.mpr ⟨tmI tm3 (i := 130) rfl, List.forall_mem_cons.mpr ⟨tmI tm3 (i := 131) rfl, List.forall_mem_cons.mpr ⟨tmI tm5 (i := 5) rfl, List.forall_mem_cons.mpr ⟨tmI tm5 (i := 6) rfl, List.forall_mem_cons.mpr ⟨tmI tm5 (i := 7) rfl, List.forall_mem_cons.mpr ⟨tmI tm5 (i := 8) rfl, List.forall_mem_cons.mpr ⟨tmI tm3 (i := 132) rfl, List.forall_mem_cons.mpr ⟨tmI tm3 (i := 133) rfl, List.forall_mem_cons.mpr ⟨tmI tm3 (i := 134) rfl, List.forall_mem_cons.mpr ⟨tmI tm3 (i := 135) rfl, List.forall_mem_cons.mpr ⟨tmI tm3 (i := 136) rfl, List.forall_mem_cons.mpr ⟨tmI tm3 (i := 137) rfl, List.forall_mem_cons.mpr ⟨tmI tm3 (i := 138) rfl, List.forall_mem_cons.mpr ⟨tmI tm3 (i := 139) rfl, List.forall_mem_cons.mpr ⟨tmI tm5 (i := 9) rfl, List.forall_mem_cons.mpr ⟨tmI tm5 (i := 10) rfl, List.forall_mem_cons.mpr ⟨tmI tm5 (i := 11) rfl, List.forall_mem_cons.mpr ⟨tmI tm5 (i := 12) rfl, List.forall_mem_cons.mpr ⟨tmI tm3 (i := 140) rfl, List.forall_mem_cons.mpr ⟨tmI tm3 (i := 141) rfl, List.forall_mem_cons.mpr ⟨tmI tm3 (i := 142) rfl, fun _ h => absurd h List.not_mem_nil⟩⟩⟩⟩⟩⟩⟩⟩⟩⟩⟩⟩⟩⟩⟩⟩⟩⟩⟩⟩⟩⟩⟩⟩
set_option maxRecDepth 20000 in
theorem wi_31 : ∀ w ∈ wsL_law_r31, w ∈ lw_tbl := List.forall_mem_cons.mpr ⟨tmI tm3 (i := 143) rfl, List.forall_mem_cons.mpr ⟨tmI tm3 (i := 144) rfl, List.forall_mem_cons.mpr ⟨tmI tm3 (i := 145) rfl, List.forall_mem_cons.mpr ⟨tmI tm3 (i := 146) rfl, List.forall_mem_cons.mpr ⟨tmI tm3 (i := 147) rfl, List.forall_mem_cons.mpr ⟨tmI tm3 (i := 148) rfl, List.forall_mem_cons.mpr ⟨tmI tm5 (i := 13) rfl, List.forall_mem_cons.mpr ⟨tmI tm5 (i := 14) rfl, List.forall_mem_cons.mpr ⟨tmI tm5 (i := 15) rfl, List.forall_mem_cons.mpr ⟨tmI tm5 (i := 16) rfl, List.forall_mem_cons.mpr ⟨tmI tm3 (i := 149) rfl, List.forall_mem_cons.mpr ⟨tmI tm3 (i := 150) rfl, List.forall_mem_cons.mpr ⟨tmI tm3 (i := 151) rfl, List.forall_mem_cons.mpr ⟨tmI tm3 (i := 152) rfl, List.forall_mem_cons.mpr ⟨tmI tm3 (i := 153) rfl, List.forall_mem_cons.mpr ⟨tmI tm3 (i := 154) rfl, List.forall_mem_cons.mpr ⟨tmI tm3 (i := 155) rfl, List.forall_mem_cons.mpr ⟨tmI tm3 (i := 156) rfl, List.forall_mem_cons.mpr ⟨tmI tm3 (i := 157) rfl, List.forall_mem_cons.mpr ⟨tmI tm3 (i := 158) rfl, List.forall_mem_cons.mpr ⟨tmI tm3 (i := 159) rfl, List.forall_mem_cons.mpr ⟨tmI tm3 (i := 160) rfl, List.forall_mem_cons.mpr ⟨tmI tm3 (i := 161) rfl, List.forall_mem_cons.mpr ⟨tmI tm3 (i := 162) rfl, fun _ h => absurd h List.not_mem_nil⟩⟩⟩⟩⟩⟩⟩⟩⟩⟩⟩⟩⟩⟩⟩⟩⟩⟩⟩⟩⟩⟩⟩⟩
set_option maxRecDepth 20000 in
theorem wi_32 : ∀ w ∈ wsL_law_r32, w ∈ lw_tbl := List.forall_mem_cons.mpr ⟨tmI tm5 (i := 17) rfl, List.forall_mem_cons.mpr ⟨tmI tm5 (i := 18) rfl, List.forall_mem_cons.mpr ⟨tmI tm5 (i := 19) rfl, List.forall_mem_cons.mpr ⟨tmI tm5 (i := 20) rfl, List.forall_mem_cons.mpr ⟨tmI tm3 (i := 163) rfl, List.forall_mem_cons.mpr ⟨tmI tm3 (i := 164) rfl, List.forall_mem_cons.mpr ⟨tmI tm3 (i := 165) rfl, List.forall_mem_cons.mpr ⟨tmI tm3 (i := 166) rfl, List.forall_mem_cons.mpr ⟨tmI tm3 (i := 167) rfl, List.forall_mem_cons.mpr ⟨tmI tm3 (i := 168) rfl, List.forall_mem_cons.mpr ⟨tmI tm3 (i := 169) rfl, List.forall_mem_cons.mpr ⟨tmI tm3 (i := 170) rfl, List.forall_mem_cons.mpr ⟨tmI tm5 (i := 21) rfl, List.forall_mem_cons.mpr ⟨tmI tm5 (i := 22) rfl, List.forall_mem_cons.mpr ⟨tmI tm5 (i := 23) rfl, List.forall_mem_cons.mpr ⟨tmI tm5 (i := 24) rfl, List.forall_mem_cons.mpr ⟨tmI tm3 (i := 171) rfl, List.forall_mem_cons.mpr ⟨tmI tm3 (i := 172) rfl, List.forall_mem_cons.mpr ⟨tmI tm3 (i := 173) rfl, List.forall_mem_cons.mpr ⟨tmI tm3 (i := 174) rfl, List.forall_mem_cons.mpr ⟨tmI tm3 (i := 175) rfl, List.forall_mem_cons.mpr ⟨tmI tm3 (i := 176) rfl, List.forall_mem_cons.mpr ⟨tmI tm3 (i := 177) rfl, List.forall_mem_cons.mpr ⟨tmI tm3 (i := 178) rfl, fun _ h => absurd h List.not_mem_nil⟩⟩⟩⟩⟩⟩⟩⟩⟩⟩⟩⟩⟩⟩⟩⟩⟩⟩⟩⟩⟩⟩⟩⟩
set_option maxRecDepth 20000 in
theorem wi_33 : ∀ w ∈ wsL_law_r33, w ∈ lw_tbl := List.forall_mem_cons.mpr ⟨tmI tm1 (i := 167) rfl, List.forall_mem_cons.mpr ⟨tmI tm1 (i := 169) rfl, List.forall_mem_cons.mpr ⟨tmI tm3 (i := 180) rfl, List.forall_mem_cons.mpr ⟨tmI tm3 (i := 182) rfl, List.forall_mem_cons.mpr ⟨tmI tmS (i := 11) rfl, List.forall_mem_cons.mpr ⟨tmI tm3 (i := 183) rfl, List.forall_mem_cons.mpr ⟨tmI tm5 (i := 25) rfl, List.forall_mem_cons.mpr ⟨tmI tm5 (i := 26) rfl, List.forall_mem_cons.mpr ⟨tmI tm5 (i := 27) rfl, List.forall_mem_cons.mpr ⟨tmI tm5 (i := 28) rfl, List.forall_mem_cons.mpr ⟨tmI tm3 (i := 184) rfl, List.forall_mem_cons.mpr ⟨tmI tm3 (i := 185) rfl, List.forall_mem_cons.mpr ⟨tmI tm3 (i := 186) rfl, List.forall_mem_cons.mpr ⟨tmI tm3 (i := 187) rfl, List.forall_mem_cons.mpr ⟨tmI tm3 (i := 191) rfl, List.forall_mem_cons.mpr ⟨tmI tm3 (i := 188) rfl, List.forall_mem_cons.mpr ⟨tmI tm3 (i := 189) rfl, List.forall_mem_cons.mpr ⟨tmI tm3 (i := 190) rfl, List.forall_mem_cons.mpr ⟨tmI tm3 (i := 192) rfl, List.forall_mem_cons.mpr ⟨tmI tm3 (i := 193) rfl, List.forall_mem_cons.mpr ⟨tmI tm3 (i := 194) rfl, List.forall_mem_cons.mpr ⟨tmI tm3 (i := 195) rfl, List.forall_mem_cons.mpr ⟨tmI tm3 (i := 196) rfl, List.forall_mem_cons.mpr ⟨tmI tm3 (i := 197) rfl, fun _ h => absurd h List.not_mem_nil⟩⟩⟩⟩⟩⟩⟩⟩⟩⟩⟩⟩⟩⟩⟩⟩⟩⟩⟩⟩⟩⟩⟩⟩
set_option maxRecDepth 20000 in
theorem wi_34 : ∀ w ∈ wsL_law_r34, w ∈ lw_tbl := List.forall_mem_cons.mpr ⟨tmI tm5 (i := 29) rfl, List.forall_mem_cons.mpr ⟨tmI tm5 (i := 30) rfl, List.forall_mem_cons.mpr ⟨tmI tm5 (i := 31) rfl, List.forall_mem_cons.mpr ⟨tmI tm5 (i := 32) rfl, List.forall_mem_cons.mpr ⟨tmI tm5 (i := 33) rfl, List.forall_mem_cons.mpr ⟨tmI tm3 (i := 198) rfl, List.forall_mem_cons.mpr ⟨tmI tm3 (i := 199) rfl, List.forall_mem_cons.mpr ⟨tmI tm3 (i := 200) rfl, List.forall_mem_cons.mpr ⟨tmI tm3 (i := 201) rfl, List.forall_mem_cons.mpr ⟨tmI tm5 (i := 34) rfl, List.forall_mem_cons.mpr ⟨tmI tm5 (i := 35) rfl, List.forall_mem_cons.mpr ⟨tmI tm5 (i := 36) rfl, List.forall_mem_cons.mpr ⟨tmI tm5 (i := 37) rfl, List.forall_mem_cons.mpr ⟨tmI tm3 (i := 202) rfl, List.forall_mem_cons.mpr ⟨tmI tm3 (i := 203) rfl, List.forall_mem_cons.mpr ⟨tmI tm3 (i := 204) rfl, List.forall_mem_cons.mpr ⟨tmI tm3 (i := 205) rfl, List.forall_mem_cons.mpr ⟨tmI tm5 (i := 38) rfl, List.forall_mem_cons.mpr ⟨tmI tm5 (i := 39) rfl, List.forall_mem_cons.mpr ⟨tmI tm5 (i := 40) rfl, List.forall_mem_cons.mpr ⟨tmI tm5 (i := 41) rfl, List.forall_mem_cons.mpr ⟨tmI tm3 (i := 206) rfl, List.forall_mem_cons.mpr ⟨tmI tm3 (i := 207) rfl, List.forall_mem_cons.mpr ⟨tmI tm3 (i := 208) rfl, fun _ h => absurd h List.not_mem_nil⟩⟩⟩⟩⟩⟩⟩⟩⟩⟩⟩⟩⟩⟩⟩⟩⟩⟩⟩⟩⟩⟩⟩⟩
set_option maxRecDepth 20000 in
theorem wi_35 : ∀ w ∈ wsL_law_r35, w ∈ lw_tbl := List.forall_mem_cons.mpr ⟨tmI tm3 (i := 209) rfl, List.forall_mem_cons.mpr ⟨tmI tm3 (i := 210) rfl, List.forall_mem_cons.mpr ⟨tmI tm3 (i := 211) rfl, List.forall_mem_cons.mpr ⟨tmI tm3 (i := 212) rfl, List.forall_mem_cons.mpr ⟨tmI tm3 (i := 213) rfl, List.forall_mem_cons.mpr ⟨tmI tm5 (i := 42) rfl, List.forall_mem_cons.mpr ⟨tmI tm5 (i := 43) rfl, List.forall_mem_cons.mpr ⟨tmI tm5 (i := 44) rfl, List.forall_mem_cons.mpr ⟨tmI tm5 (i := 45) rfl, List.forall_mem_cons.mpr ⟨tmI tm3 (i := 214) rfl, List.forall_mem_cons.mpr ⟨tmI tm3 (i := 215) rfl, List.forall_mem_cons.mpr ⟨tmI tm3 (i := 216) rfl, List.forall_mem_cons.mpr ⟨tmI tm3 (i := 217) rfl, List.forall_mem_cons.mpr ⟨tmI tm3 (i := 218) rfl, List.forall_mem_cons.mpr ⟨tmI tm3 (i := 220) rfl, List.forall_mem_cons.mpr ⟨tmI tmS (i := 12) rfl, List.forall_mem_cons.mpr ⟨tmI tm3 (i := 221) rfl, List.forall_mem_cons.mpr ⟨tmI tm3 (i := 222) rfl, List.forall_mem_cons.mpr ⟨tmI tm5 (i := 46) rfl, List.forall_mem_cons.mpr ⟨tmI tm5 (i := 47) rfl, List.forall_mem_cons.mpr ⟨tmI tm5 (i := 48) rfl, List.forall_mem_cons.mpr ⟨tmI tm5 (i := 49) rfl, List.forall_mem_cons.mpr ⟨tmI tm3 (i := 223) rfl, List.forall_mem_cons.mpr ⟨tmI tm3 (i := 224) rfl, fun _ h => absurd h List.not_mem_nil⟩⟩⟩⟩⟩⟩⟩⟩⟩⟩⟩⟩⟩⟩⟩⟩⟩⟩⟩⟩⟩⟩⟩⟩
set_option maxRecDepth 20000 in
theorem wi_36 : ∀ w ∈ wsL_law_r36, w ∈ lw_tbl := List.forall_mem_cons.mpr ⟨tmI tm3 (i := 225) rfl, List.forall_mem_cons.mpr ⟨tmI tm3 (i := 226) rfl, List.forall_mem_cons.mpr ⟨tmI tm5 (i := 50) rfl, List.forall_mem_cons.mpr ⟨tmI tm5 (i := 51) rfl, List.forall_mem_cons.mpr ⟨tmI tm5 (i := 52) rfl, List.forall_mem_cons.mpr ⟨tmI tm5 (i := 53) rfl, fun _ h => absurd h List.not_mem_nil⟩⟩⟩⟩⟩⟩
set_option maxRecDepth 20000 in
theorem wy_7 : ∀ w ∈ wsX70, w ∈ lw_tbl := by
  show ∀ w ∈ (List.range 7).map (u_lay RX7 TX7), w ∈ lw_tbl
  exact List.forall_mem_cons.mpr ⟨tmI tm1 (i := 208) rfl, List.forall_mem_cons.mpr ⟨tmI tm1 (i := 210) rfl, List.forall_mem_cons.mpr ⟨tmI tm1 (i := 212) rfl, List.forall_mem_cons.mpr ⟨tmI tm1 (i := 214) rfl, List.forall_mem_cons.mpr ⟨tmI tm1 (i := 216) rfl, List.forall_mem_cons.mpr ⟨tmI tm1 (i := 218) rfl, List.forall_mem_cons.mpr ⟨tmI tm1 (i := 220) rfl, fun _ h => absurd h List.not_mem_nil⟩⟩⟩⟩⟩⟩⟩
set_option maxRecDepth 20000 in
theorem wy_8 : ∀ w ∈ wsX80, w ∈ lw_tbl := by
  show ∀ w ∈ (List.range 19).map (u_lay RX8 TX8), w ∈ lw_tbl
  exact List.forall_mem_cons.mpr ⟨tmI tm4 (i := 16) rfl, List.forall_mem_cons.mpr ⟨tmI tm4 (i := 18) rfl, List.forall_mem_cons.mpr ⟨tmI tm4 (i := 20) rfl, List.forall_mem_cons.mpr ⟨tmI tm4 (i := 22) rfl, List.forall_mem_cons.mpr ⟨tmI tm4 (i := 24) rfl, List.forall_mem_cons.mpr ⟨tmI tm4 (i := 26) rfl, List.forall_mem_cons.mpr ⟨tmI tm4 (i := 28) rfl, List.forall_mem_cons.mpr ⟨tmI tm4 (i := 30) rfl, List.forall_mem_cons.mpr ⟨tmI tm4 (i := 32) rfl, List.forall_mem_cons.mpr ⟨tmI tm4 (i := 34) rfl, List.forall_mem_cons.mpr ⟨tmI tm4 (i := 36) rfl, List.forall_mem_cons.mpr ⟨tmI tm4 (i := 38) rfl, List.forall_mem_cons.mpr ⟨tmI tm4 (i := 40) rfl, List.forall_mem_cons.mpr ⟨tmI tm4 (i := 42) rfl, List.forall_mem_cons.mpr ⟨tmI tm4 (i := 44) rfl, List.forall_mem_cons.mpr ⟨tmI tm4 (i := 46) rfl, List.forall_mem_cons.mpr ⟨tmI tm4 (i := 48) rfl, List.forall_mem_cons.mpr ⟨tmI tm4 (i := 50) rfl, List.forall_mem_cons.mpr ⟨tmI tm4 (i := 52) rfl, fun _ h => absurd h List.not_mem_nil⟩⟩⟩⟩⟩⟩⟩⟩⟩⟩⟩⟩⟩⟩⟩⟩⟩⟩⟩
set_option maxRecDepth 20000 in
theorem wy_1 : ∀ w ∈ wsX10, w ∈ lw_tbl := by
  show ∀ w ∈ (List.range 7).map (u_lay RX1 TX1), w ∈ lw_tbl
  exact List.forall_mem_cons.mpr ⟨tmI tm1 (i := 76) rfl, List.forall_mem_cons.mpr ⟨tmI tm1 (i := 78) rfl, List.forall_mem_cons.mpr ⟨tmI tm1 (i := 80) rfl, List.forall_mem_cons.mpr ⟨tmI tm1 (i := 82) rfl, List.forall_mem_cons.mpr ⟨tmI tm1 (i := 84) rfl, List.forall_mem_cons.mpr ⟨tmI tm1 (i := 86) rfl, List.forall_mem_cons.mpr ⟨tmI tm1 (i := 88) rfl, fun _ h => absurd h List.not_mem_nil⟩⟩⟩⟩⟩⟩⟩
set_option maxRecDepth 20000 in
theorem wy_0 : ∀ w ∈ wsX00, w ∈ lw_tbl := by
  show ∀ w ∈ (List.range 3).map (u_lay RX0 TX0), w ∈ lw_tbl
  exact List.forall_mem_cons.mpr ⟨tmI tm1 (i := 104) rfl, List.forall_mem_cons.mpr ⟨tmI tm1 (i := 106) rfl, List.forall_mem_cons.mpr ⟨tmI tm1 (i := 108) rfl, fun _ h => absurd h List.not_mem_nil⟩⟩⟩
set_option maxRecDepth 20000 in
theorem wy_4 : ∀ w ∈ wsX40, w ∈ lw_tbl := by
  show ∀ w ∈ (List.range 2).map (u_lay RX4 TX4), w ∈ lw_tbl
  exact List.forall_mem_cons.mpr ⟨tmI tm1 (i := 122) rfl, List.forall_mem_cons.mpr ⟨tmI tm1 (i := 124) rfl, fun _ h => absurd h List.not_mem_nil⟩⟩
set_option maxRecDepth 20000 in
theorem wy_2 : ∀ w ∈ wsX20, w ∈ lw_tbl := by
  show ∀ w ∈ (List.range 2).map (u_lay RX2 TX2), w ∈ lw_tbl
  exact List.forall_mem_cons.mpr ⟨tmI tm1 (i := 136) rfl, List.forall_mem_cons.mpr ⟨tmI tm1 (i := 138) rfl, fun _ h => absurd h List.not_mem_nil⟩⟩
set_option maxRecDepth 20000 in
theorem wy_5 : ∀ w ∈ wsX50, w ∈ lw_tbl := by
  show ∀ w ∈ (List.range 8).map (u_lay RX5 TX5), w ∈ lw_tbl
  exact List.forall_mem_cons.mpr ⟨tmI tm1 (i := 177) rfl, List.forall_mem_cons.mpr ⟨tmI tm1 (i := 179) rfl, List.forall_mem_cons.mpr ⟨tmI tm1 (i := 181) rfl, List.forall_mem_cons.mpr ⟨tmI tm1 (i := 183) rfl, List.forall_mem_cons.mpr ⟨tmI tm1 (i := 185) rfl, List.forall_mem_cons.mpr ⟨tmI tm1 (i := 187) rfl, List.forall_mem_cons.mpr ⟨tmI tm1 (i := 189) rfl, List.forall_mem_cons.mpr ⟨tmI tm1 (i := 191) rfl, fun _ h => absurd h List.not_mem_nil⟩⟩⟩⟩⟩⟩⟩⟩
set_option maxRecDepth 20000 in
theorem wy_3 : ∀ w ∈ wsX30, w ∈ lw_tbl := by
  show ∀ w ∈ (List.range 5).map (u_lay RX3 TX3), w ∈ lw_tbl
  exact List.forall_mem_cons.mpr ⟨tmI tm1 (i := 49) rfl, List.forall_mem_cons.mpr ⟨tmI tm1 (i := 51) rfl, List.forall_mem_cons.mpr ⟨tmI tm1 (i := 53) rfl, List.forall_mem_cons.mpr ⟨tmI tm1 (i := 55) rfl, List.forall_mem_cons.mpr ⟨tmI tm1 (i := 57) rfl, fun _ h => absurd h List.not_mem_nil⟩⟩⟩⟩⟩
set_option maxRecDepth 20000 in
theorem wy_6 : ∀ w ∈ wsX60, w ∈ lw_tbl := by
  show ∀ w ∈ (List.range 2).map (u_lay RX6 TX6), w ∈ lw_tbl
  exact List.forall_mem_cons.mpr ⟨tmI tm1 (i := 157) rfl, List.forall_mem_cons.mpr ⟨tmI tm1 (i := 159) rfl, fun _ h => absurd h List.not_mem_nil⟩⟩
theorem mapp {A B : List Cond} (ha : ∀ w ∈ A, w ∈ lw_tbl) (hb : ∀ w ∈ B, w ∈ lw_tbl) : ∀ w ∈ A ++ B, w ∈ lw_tbl := fun w h => (List.mem_append.mp h).elim (ha w) (hb w)
theorem wsL_law_in : ∀ w ∈ wsL_law, w ∈ lw_tbl := mapp (mapp (mapp (mapp (mapp (mapp (mapp (mapp (mapp (mapp (mapp wi_1 (mapp wi_2 (mapp wi_3 (mapp wi_4 (mapp wi_5 (mapp wi_6 (mapp wi_7 (mapp wi_8 (mapp wi_9 (mapp wi_10 (mapp wi_11 (mapp wi_12 (mapp wi_13 (mapp wi_14 (mapp wi_15 (mapp wi_16 (mapp wi_17 (mapp wi_18 (mapp wi_19 (mapp wi_20 (mapp wi_21 (mapp wi_22 (mapp wi_23 (mapp wi_24 (mapp wi_25 (mapp wi_26 (mapp wi_27 (mapp wi_28 (mapp wi_29 (mapp wi_30 (mapp wi_31 (mapp wi_32 (mapp wi_33 (mapp wi_34 (mapp wi_35 (wi_36)))))))))))))))))))))))))))))))))))) wy_7) wy_8) wy_1) wy_0) wy_4) wy_2) wy_5) wy_3) wy_6) (fun _ h => absurd h List.not_mem_nil)
theorem inlX0 : ∀ w ∈ wsX00, w ∈ wsL_law := fun _ h => List.mem_append_left _ (List.mem_append_left _ (List.mem_append_left _ (List.mem_append_left _ (List.mem_append_left _ (List.mem_append_left _ (List.mem_append_right _ h))))))
theorem inX0 : ∀ w ∈ wsX00, w ∈ lw_tbl := fun w h => wsL_law_in w (inlX0 w h)
theorem inlX1 : ∀ w ∈ wsX10, w ∈ wsL_law := fun _ h => List.mem_append_left _ (List.mem_append_left _ (List.mem_append_left _ (List.mem_append_left _ (List.mem_append_left _ (List.mem_append_left _ (List.mem_append_left _ (List.mem_append_right _ h)))))))
theorem inX1 : ∀ w ∈ wsX10, w ∈ lw_tbl := fun w h => wsL_law_in w (inlX1 w h)
theorem inlX2 : ∀ w ∈ wsX20, w ∈ wsL_law := fun _ h => List.mem_append_left _ (List.mem_append_left _ (List.mem_append_left _ (List.mem_append_left _ (List.mem_append_right _ h))))
theorem inX2 : ∀ w ∈ wsX20, w ∈ lw_tbl := fun w h => wsL_law_in w (inlX2 w h)
theorem inlX3 : ∀ w ∈ wsX30, w ∈ wsL_law := fun _ h => List.mem_append_left _ (List.mem_append_left _ (List.mem_append_right _ h))
theorem inX3 : ∀ w ∈ wsX30, w ∈ lw_tbl := fun w h => wsL_law_in w (inlX3 w h)
theorem inlX4 : ∀ w ∈ wsX40, w ∈ wsL_law := fun _ h => List.mem_append_left _ (List.mem_append_left _ (List.mem_append_left _ (List.mem_append_left _ (List.mem_append_left _ (List.mem_append_right _ h)))))
theorem inX4 : ∀ w ∈ wsX40, w ∈ lw_tbl := fun w h => wsL_law_in w (inlX4 w h)
theorem inlX5 : ∀ w ∈ wsX50, w ∈ wsL_law := fun _ h => List.mem_append_left _ (List.mem_append_left _ (List.mem_append_left _ (List.mem_append_right _ h)))
theorem inX5 : ∀ w ∈ wsX50, w ∈ lw_tbl := fun w h => wsL_law_in w (inlX5 w h)
theorem inlX6 : ∀ w ∈ wsX60, w ∈ wsL_law := fun _ h => List.mem_append_left _ (List.mem_append_right _ h)
theorem inX6 : ∀ w ∈ wsX60, w ∈ lw_tbl := fun w h => wsL_law_in w (inlX6 w h)
theorem inlX7 : ∀ w ∈ wsX70, w ∈ wsL_law := fun _ h => List.mem_append_left _ (List.mem_append_left _ (List.mem_append_left _ (List.mem_append_left _ (List.mem_append_left _ (List.mem_append_left _ (List.mem_append_left _ (List.mem_append_left _ (List.mem_append_left _ (List.mem_append_right _ h)))))))))
theorem inX7 : ∀ w ∈ wsX70, w ∈ lw_tbl := fun w h => wsL_law_in w (inlX7 w h)
theorem inlX8 : ∀ w ∈ wsX80, w ∈ wsL_law := fun _ h => List.mem_append_left _ (List.mem_append_left _ (List.mem_append_left _ (List.mem_append_left _ (List.mem_append_left _ (List.mem_append_left _ (List.mem_append_left _ (List.mem_append_left _ (List.mem_append_right _ h))))))))
theorem inX8 : ∀ w ∈ wsX80, w ∈ lw_tbl := fun w h => wsL_law_in w (inlX8 w h)
theorem inJ11 : ∀ w ∈ wsJ110, w ∈ lw_tbl := by decide +kernel
theorem inJ9 : ∀ w ∈ wsJ90, w ∈ lw_tbl := by decide +kernel
theorem inJ0 : ∀ w ∈ wsJ00, w ∈ lw_tbl := by decide +kernel
theorem inJ1 : ∀ w ∈ wsJ10, w ∈ lw_tbl := by decide +kernel
theorem inJ2 : ∀ w ∈ wsJ20, w ∈ lw_tbl := by decide +kernel
theorem inJ3 : ∀ w ∈ wsJ30, w ∈ lw_tbl := by decide +kernel
abbrev vwCl : List vw_C := [(RX0, TX0, 3), (RX1, TX1, 7), (RX2, TX2, 2), (RX3, TX3, 5), (RX4, TX4, 2), (RX5, TX5, 8), (RX6, TX6, 2), (RX7, TX7, 7), (RX8, TX8, 19)]
end
section
theorem dX0_init_0 : decode cX0_init 0 = .ok (.aload_n 0, 1) := by decide +kernel
theorem dX0_init_1 : decode cX0_init 1 = .ok (.invokespecial 3, 3) := by decide +kernel
theorem dX0_init_4 : decode cX0_init 4 = .ok (.aload_n 0, 1) := by decide +kernel
theorem dX0_init_5 : decode cX0_init 5 = .ok (.bipush 6, 2) := by decide +kernel
theorem dX0_init_7 : decode cX0_init 7 = .ok (.anewarray 9, 3) := by decide +kernel
theorem dX0_init_10 : decode cX0_init 10 = .ok (.putfield 11, 3) := by decide +kernel
theorem dX0_init_13 : decode cX0_init 13 = .ok (.iconst 0, 1) := by decide +kernel
theorem dX0_init_14 : decode cX0_init 14 = .ok (.istore_n 1, 1) := by decide +kernel
theorem dX0_init_15 : decode cX0_init 15 = .ok (.iload_n 1, 1) := by decide +kernel
theorem dX0_init_16 : decode cX0_init 16 = .ok (.aload_n 0, 1) := by decide +kernel
theorem dX0_init_17 : decode cX0_init 17 = .ok (.getfield 11, 3) := by decide +kernel
theorem dX0_init_20 : decode cX0_init 20 = .ok (.arraylength, 1) := by decide +kernel
theorem dX0_init_21 : decode cX0_init 21 = .ok (.if_icmp .ge 22, 3) := by decide +kernel
theorem dX0_init_24 : decode cX0_init 24 = .ok (.aload_n 0, 1) := by decide +kernel
theorem dX0_init_25 : decode cX0_init 25 = .ok (.getfield 11, 3) := by decide +kernel
theorem dX0_init_28 : decode cX0_init 28 = .ok (.iload_n 1, 1) := by decide +kernel
theorem dX0_init_29 : decode cX0_init 29 = .ok (.new 9, 3) := by decide +kernel
theorem dX0_init_32 : decode cX0_init 32 = .ok (.dup, 1) := by decide +kernel
theorem dX0_init_33 : decode cX0_init 33 = .ok (.invokespecial 17, 3) := by decide +kernel
theorem dX0_init_36 : decode cX0_init 36 = .ok (.aastore, 1) := by decide +kernel
theorem dX0_init_37 : decode cX0_init 37 = .ok (.iinc 1 1, 3) := by decide +kernel
theorem dX0_init_40 : decode cX0_init 40 = .ok (.goto (-25), 3) := by decide +kernel
theorem dX0_init_43 : decode cX0_init 43 = .ok (.return_, 1) := by decide +kernel
theorem dX0_stateAt_0 : decode cX0_stateAt 0 = .ok (.iload_n 1, 1) := by decide +kernel
theorem dX0_stateAt_1 : decode cX0_stateAt 1 = .ok (.ifCond .lt 21, 3) := by decide +kernel
theorem dX0_stateAt_4 : decode cX0_stateAt 4 = .ok (.iload_n 1, 1) := by decide +kernel
theorem dX0_stateAt_5 : decode cX0_stateAt 5 = .ok (.aload_n 0, 1) := by decide +kernel
theorem dX0_stateAt_6 : decode cX0_stateAt 6 = .ok (.getfield 11, 3) := by decide +kernel
theorem dX0_stateAt_9 : decode cX0_stateAt 9 = .ok (.arraylength, 1) := by decide +kernel
theorem dX0_stateAt_10 : decode cX0_stateAt 10 = .ok (.if_icmp .ge 12, 3) := by decide +kernel
theorem dX0_stateAt_13 : decode cX0_stateAt 13 = .ok (.aload_n 0, 1) := by decide +kernel
theorem dX0_stateAt_14 : decode cX0_stateAt 14 = .ok (.getfield 11, 3) := by decide +kernel
theorem dX0_stateAt_17 : decode cX0_stateAt 17 = .ok (.iload_n 1, 1) := by decide +kernel
theorem dX0_stateAt_18 : decode cX0_stateAt 18 = .ok (.aaload, 1) := by decide +kernel
theorem dX0_stateAt_19 : decode cX0_stateAt 19 = .ok (.goto 4, 3) := by decide +kernel
theorem dX0_stateAt_22 : decode cX0_stateAt 22 = .ok (.aconst_null, 1) := by decide +kernel
theorem dX0_stateAt_23 : decode cX0_stateAt 23 = .ok (.areturn, 1) := by decide +kernel
theorem dX0_record_0 : decode cX0_record 0 = .ok (.aload_n 0, 1) := by decide +kernel
theorem dX0_record_1 : decode cX0_record 1 = .ok (.aload_n 0, 1) := by decide +kernel
theorem dX0_record_2 : decode cX0_record 2 = .ok (.getfield 18, 3) := by decide +kernel
theorem dX0_record_5 : decode cX0_record 5 = .ok (.invokevirtual 22, 3) := by decide +kernel
theorem dX0_record_8 : decode cX0_record 8 = .ok (.astore_n 2, 1) := by decide +kernel
theorem dX0_record_9 : decode cX0_record 9 = .ok (.aload_n 2, 1) := by decide +kernel
theorem dX0_record_10 : decode cX0_record 10 = .ok (.ifnonnull 4, 3) := by decide +kernel
theorem dX0_record_13 : decode cX0_record 13 = .ok (.return_, 1) := by decide +kernel
theorem dX0_record_14 : decode cX0_record 14 = .ok (.aload_n 2, 1) := by decide +kernel
theorem dX0_record_15 : decode cX0_record 15 = .ok (.aload_n 1, 1) := by decide +kernel
theorem dX0_record_16 : decode cX0_record 16 = .ok (.invokevirtual 26, 3) := by decide +kernel
theorem dX0_record_19 : decode cX0_record 19 = .ok (.aload_n 0, 1) := by decide +kernel
theorem dX0_record_20 : decode cX0_record 20 = .ok (.aload_n 0, 1) := by decide +kernel
theorem dX0_record_21 : decode cX0_record 21 = .ok (.getfield 18, 3) := by decide +kernel
theorem dX0_record_24 : decode cX0_record 24 = .ok (.iconst 1, 1) := by decide +kernel
theorem dX0_record_25 : decode cX0_record 25 = .ok (.iadd, 1) := by decide +kernel
theorem dX0_record_26 : decode cX0_record 26 = .ok (.aload_n 0, 1) := by decide +kernel
theorem dX0_record_27 : decode cX0_record 27 = .ok (.getfield 11, 3) := by decide +kernel
theorem dX0_record_30 : decode cX0_record 30 = .ok (.arraylength, 1) := by decide +kernel
theorem dX0_record_31 : decode cX0_record 31 = .ok (.if_icmp .ge 12, 3) := by decide +kernel
theorem dX0_record_34 : decode cX0_record 34 = .ok (.aload_n 0, 1) := by decide +kernel
theorem dX0_record_35 : decode cX0_record 35 = .ok (.getfield 18, 3) := by decide +kernel
theorem dX0_record_38 : decode cX0_record 38 = .ok (.iconst 1, 1) := by decide +kernel
theorem dX0_record_39 : decode cX0_record 39 = .ok (.iadd, 1) := by decide +kernel
theorem dX0_record_40 : decode cX0_record 40 = .ok (.goto 4, 3) := by decide +kernel
theorem dX0_record_43 : decode cX0_record 43 = .ok (.iconst 0, 1) := by decide +kernel
theorem dX0_record_44 : decode cX0_record 44 = .ok (.putfield 18, 3) := by decide +kernel
theorem dX0_record_47 : decode cX0_record 47 = .ok (.aload_n 0, 1) := by decide +kernel
theorem dX0_record_48 : decode cX0_record 48 = .ok (.aload_n 0, 1) := by decide +kernel
theorem dX0_record_49 : decode cX0_record 49 = .ok (.getfield 30, 3) := by decide +kernel
theorem dX0_record_52 : decode cX0_record 52 = .ok (.iconst 1, 1) := by decide +kernel
theorem dX0_record_53 : decode cX0_record 53 = .ok (.iadd, 1) := by decide +kernel
theorem dX0_record_54 : decode cX0_record 54 = .ok (.aload_n 0, 1) := by decide +kernel
theorem dX0_record_55 : decode cX0_record 55 = .ok (.getfield 11, 3) := by decide +kernel
theorem dX0_record_58 : decode cX0_record 58 = .ok (.arraylength, 1) := by decide +kernel
theorem dX0_record_59 : decode cX0_record 59 = .ok (.invokestatic 33, 3) := by decide +kernel
theorem dX0_record_62 : decode cX0_record 62 = .ok (.putfield 30, 3) := by decide +kernel
theorem dX0_record_65 : decode cX0_record 65 = .ok (.return_, 1) := by decide +kernel
theorem dX0_takeBack_0 : decode cX0_takeBack 0 = .ok (.aload_n 0, 1) := by decide +kernel
theorem dX0_takeBack_1 : decode cX0_takeBack 1 = .ok (.getfield 18, 3) := by decide +kernel
theorem dX0_takeBack_4 : decode cX0_takeBack 4 = .ok (.ifCond .le 12, 3) := by decide +kernel
theorem dX0_takeBack_7 : decode cX0_takeBack 7 = .ok (.aload_n 0, 1) := by decide +kernel
theorem dX0_takeBack_8 : decode cX0_takeBack 8 = .ok (.getfield 18, 3) := by decide +kernel
theorem dX0_takeBack_11 : decode cX0_takeBack 11 = .ok (.iconst 1, 1) := by decide +kernel
theorem dX0_takeBack_12 : decode cX0_takeBack 12 = .ok (.isub, 1) := by decide +kernel
theorem dX0_takeBack_13 : decode cX0_takeBack 13 = .ok (.goto 10, 3) := by decide +kernel
theorem dX0_takeBack_16 : decode cX0_takeBack 16 = .ok (.aload_n 0, 1) := by decide +kernel
theorem dX0_takeBack_17 : decode cX0_takeBack 17 = .ok (.getfield 11, 3) := by decide +kernel
theorem dX0_takeBack_20 : decode cX0_takeBack 20 = .ok (.arraylength, 1) := by decide +kernel
theorem dX0_takeBack_21 : decode cX0_takeBack 21 = .ok (.iconst 1, 1) := by decide +kernel
theorem dX0_takeBack_22 : decode cX0_takeBack 22 = .ok (.isub, 1) := by decide +kernel
theorem dX0_takeBack_23 : decode cX0_takeBack 23 = .ok (.istore_n 2, 1) := by decide +kernel
theorem dX0_takeBack_24 : decode cX0_takeBack 24 = .ok (.aload_n 0, 1) := by decide +kernel
theorem dX0_takeBack_25 : decode cX0_takeBack 25 = .ok (.iload_n 2, 1) := by decide +kernel
theorem dX0_takeBack_26 : decode cX0_takeBack 26 = .ok (.invokevirtual 22, 3) := by decide +kernel
theorem dX0_takeBack_29 : decode cX0_takeBack 29 = .ok (.astore_n 3, 1) := by decide +kernel
theorem dX0_takeBack_30 : decode cX0_takeBack 30 = .ok (.aload_n 0, 1) := by decide +kernel
theorem dX0_takeBack_31 : decode cX0_takeBack 31 = .ok (.getfield 30, 3) := by decide +kernel
theorem dX0_takeBack_34 : decode cX0_takeBack 34 = .ok (.ifCond .eq 7, 3) := by decide +kernel
theorem dX0_takeBack_37 : decode cX0_takeBack 37 = .ok (.aload_n 3, 1) := by decide +kernel
theorem dX0_takeBack_38 : decode cX0_takeBack 38 = .ok (.ifnonnull 4, 3) := by decide +kernel
theorem dX0_takeBack_41 : decode cX0_takeBack 41 = .ok (.return_, 1) := by decide +kernel
theorem dX0_takeBack_42 : decode cX0_takeBack 42 = .ok (.aload_n 1, 1) := by decide +kernel
theorem dX0_takeBack_43 : decode cX0_takeBack 43 = .ok (.aload_n 3, 1) := by decide +kernel
theorem dX0_takeBack_44 : decode cX0_takeBack 44 = .ok (.invokevirtual 26, 3) := by decide +kernel
theorem dX0_takeBack_47 : decode cX0_takeBack 47 = .ok (.aload_n 0, 1) := by decide +kernel
theorem dX0_takeBack_48 : decode cX0_takeBack 48 = .ok (.iload_n 2, 1) := by decide +kernel
theorem dX0_takeBack_49 : decode cX0_takeBack 49 = .ok (.putfield 18, 3) := by decide +kernel
theorem dX0_takeBack_52 : decode cX0_takeBack 52 = .ok (.aload_n 0, 1) := by decide +kernel
theorem dX0_takeBack_53 : decode cX0_takeBack 53 = .ok (.dup, 1) := by decide +kernel
theorem dX0_takeBack_54 : decode cX0_takeBack 54 = .ok (.getfield 30, 3) := by decide +kernel
theorem dX0_takeBack_57 : decode cX0_takeBack 57 = .ok (.iconst 1, 1) := by decide +kernel
theorem dX0_takeBack_58 : decode cX0_takeBack 58 = .ok (.isub, 1) := by decide +kernel
theorem dX0_takeBack_59 : decode cX0_takeBack 59 = .ok (.putfield 30, 3) := by decide +kernel
theorem dX0_takeBack_62 : decode cX0_takeBack 62 = .ok (.return_, 1) := by decide +kernel
theorem dX1_init_0 : decode cX1_init 0 = .ok (.aload_n 0, 1) := by decide +kernel
theorem dX1_init_1 : decode cX1_init 1 = .ok (.invokespecial 3, 3) := by decide +kernel
theorem dX1_init_4 : decode cX1_init 4 = .ok (.aload_n 0, 1) := by decide +kernel
theorem dX1_init_5 : decode cX1_init 5 = .ok (.bipush 6, 2) := by decide +kernel
theorem dX1_init_7 : decode cX1_init 7 = .ok (.newarray .int, 2) := by decide +kernel
theorem dX1_init_9 : decode cX1_init 9 = .ok (.putfield 9, 3) := by decide +kernel
theorem dX1_init_12 : decode cX1_init 12 = .ok (.aload_n 0, 1) := by decide +kernel
theorem dX1_init_13 : decode cX1_init 13 = .ok (.bipush 6, 2) := by decide +kernel
theorem dX1_init_15 : decode cX1_init 15 = .ok (.newarray .int, 2) := by decide +kernel
theorem dX1_init_17 : decode cX1_init 17 = .ok (.putfield 15, 3) := by decide +kernel
theorem dX1_init_20 : decode cX1_init 20 = .ok (.aload_n 0, 1) := by decide +kernel
theorem dX1_init_21 : decode cX1_init 21 = .ok (.bipush 6, 2) := by decide +kernel
theorem dX1_init_23 : decode cX1_init 23 = .ok (.newarray .int, 2) := by decide +kernel
theorem dX1_init_25 : decode cX1_init 25 = .ok (.putfield 18, 3) := by decide +kernel
theorem dX1_init_28 : decode cX1_init 28 = .ok (.aload_n 0, 1) := by decide +kernel
theorem dX1_init_29 : decode cX1_init 29 = .ok (.bipush 20, 2) := by decide +kernel
theorem dX1_init_31 : decode cX1_init 31 = .ok (.anewarray 21, 3) := by decide +kernel
theorem dX1_init_34 : decode cX1_init 34 = .ok (.putfield 23, 3) := by decide +kernel
theorem dX1_init_37 : decode cX1_init 37 = .ok (.iconst 0, 1) := by decide +kernel
theorem dX1_init_38 : decode cX1_init 38 = .ok (.istore_n 1, 1) := by decide +kernel
theorem dX1_init_39 : decode cX1_init 39 = .ok (.iload_n 1, 1) := by decide +kernel
theorem dX1_init_40 : decode cX1_init 40 = .ok (.aload_n 0, 1) := by decide +kernel
theorem dX1_init_41 : decode cX1_init 41 = .ok (.getfield 23, 3) := by decide +kernel
theorem dX1_init_44 : decode cX1_init 44 = .ok (.arraylength, 1) := by decide +kernel
theorem dX1_init_45 : decode cX1_init 45 = .ok (.if_icmp .ge 22, 3) := by decide +kernel
theorem dX1_init_48 : decode cX1_init 48 = .ok (.aload_n 0, 1) := by decide +kernel
theorem dX1_init_49 : decode cX1_init 49 = .ok (.getfield 23, 3) := by decide +kernel
theorem dX1_init_52 : decode cX1_init 52 = .ok (.iload_n 1, 1) := by decide +kernel
theorem dX1_init_53 : decode cX1_init 53 = .ok (.new 21, 3) := by decide +kernel
theorem dX1_init_56 : decode cX1_init 56 = .ok (.dup, 1) := by decide +kernel
theorem dX1_init_57 : decode cX1_init 57 = .ok (.invokespecial 27, 3) := by decide +kernel
theorem dX1_init_60 : decode cX1_init 60 = .ok (.aastore, 1) := by decide +kernel
theorem dX1_init_61 : decode cX1_init 61 = .ok (.iinc 1 1, 3) := by decide +kernel
theorem dX1_init_64 : decode cX1_init 64 = .ok (.goto (-25), 3) := by decide +kernel
theorem dX1_init_67 : decode cX1_init 67 = .ok (.return_, 1) := by decide +kernel
theorem dX1_arrange_0 : decode cX1_arrange 0 = .ok (.aload_n 0, 1) := by decide +kernel
theorem dX1_arrange_1 : decode cX1_arrange 1 = .ok (.iload_n 1, 1) := by decide +kernel
theorem dX1_arrange_2 : decode cX1_arrange 2 = .ok (.putfield 28, 3) := by decide +kernel
theorem dX1_arrange_5 : decode cX1_arrange 5 = .ok (.aload_n 0, 1) := by decide +kernel
theorem dX1_arrange_6 : decode cX1_arrange 6 = .ok (.iconst 0, 1) := by decide +kernel
theorem dX1_arrange_7 : decode cX1_arrange 7 = .ok (.putfield 32, 3) := by decide +kernel
theorem dX1_arrange_10 : decode cX1_arrange 10 = .ok (.aload_n 0, 1) := by decide +kernel
theorem dX1_arrange_11 : decode cX1_arrange 11 = .ok (.iconst 0, 1) := by decide +kernel
theorem dX1_arrange_12 : decode cX1_arrange 12 = .ok (.putfield 35, 3) := by decide +kernel
theorem dX1_arrange_15 : decode cX1_arrange 15 = .ok (.aload_n 0, 1) := by decide +kernel
theorem dX1_arrange_16 : decode cX1_arrange 16 = .ok (.getfield 15, 3) := by decide +kernel
theorem dX1_arrange_19 : decode cX1_arrange 19 = .ok (.iconst 0, 1) := by decide +kernel
theorem dX1_arrange_20 : decode cX1_arrange 20 = .ok (.invokestatic 38, 3) := by decide +kernel
theorem dX1_arrange_23 : decode cX1_arrange 23 = .ok (.aload_n 0, 1) := by decide +kernel
theorem dX1_arrange_24 : decode cX1_arrange 24 = .ok (.getfield 18, 3) := by decide +kernel
theorem dX1_arrange_27 : decode cX1_arrange 27 = .ok (.iconst 0, 1) := by decide +kernel
theorem dX1_arrange_28 : decode cX1_arrange 28 = .ok (.invokestatic 38, 3) := by decide +kernel
theorem dX1_arrange_31 : decode cX1_arrange 31 = .ok (.iconst 0, 1) := by decide +kernel
theorem dX1_arrange_32 : decode cX1_arrange 32 = .ok (.istore_n 2, 1) := by decide +kernel
theorem dX1_arrange_33 : decode cX1_arrange 33 = .ok (.iload_n 2, 1) := by decide +kernel
theorem dX1_arrange_34 : decode cX1_arrange 34 = .ok (.aload_n 0, 1) := by decide +kernel
theorem dX1_arrange_35 : decode cX1_arrange 35 = .ok (.getfield 9, 3) := by decide +kernel
theorem dX1_arrange_38 : decode cX1_arrange 38 = .ok (.arraylength, 1) := by decide +kernel
theorem dX1_arrange_39 : decode cX1_arrange 39 = .ok (.if_icmp .ge 44, 3) := by decide +kernel
theorem dX1_arrange_42 : decode cX1_arrange 42 = .ok (.aload_n 0, 1) := by decide +kernel
theorem dX1_arrange_43 : decode cX1_arrange 43 = .ok (.getfield 9, 3) := by decide +kernel
theorem dX1_arrange_46 : decode cX1_arrange 46 = .ok (.iload_n 2, 1) := by decide +kernel
theorem dX1_arrange_47 : decode cX1_arrange 47 = .ok (.iload_n 2, 1) := by decide +kernel
theorem dX1_arrange_48 : decode cX1_arrange 48 = .ok (.iconst 1, 1) := by decide +kernel
theorem dX1_arrange_49 : decode cX1_arrange 49 = .ok (.iadd, 1) := by decide +kernel
theorem dX1_arrange_50 : decode cX1_arrange 50 = .ok (.aload_n 0, 1) := by decide +kernel
theorem dX1_arrange_51 : decode cX1_arrange 51 = .ok (.getfield 28, 3) := by decide +kernel
theorem dX1_arrange_54 : decode cX1_arrange 54 = .ok (.if_icmp .ge 9, 3) := by decide +kernel
theorem dX1_arrange_57 : decode cX1_arrange 57 = .ok (.iload_n 2, 1) := by decide +kernel
theorem dX1_arrange_58 : decode cX1_arrange 58 = .ok (.iconst 1, 1) := by decide +kernel
theorem dX1_arrange_59 : decode cX1_arrange 59 = .ok (.iadd, 1) := by decide +kernel
theorem dX1_arrange_60 : decode cX1_arrange 60 = .ok (.goto 16, 3) := by decide +kernel
theorem dX1_arrange_63 : decode cX1_arrange 63 = .ok (.iload_n 2, 1) := by decide +kernel
theorem dX1_arrange_64 : decode cX1_arrange 64 = .ok (.aload_n 0, 1) := by decide +kernel
theorem dX1_arrange_65 : decode cX1_arrange 65 = .ok (.getfield 28, 3) := by decide +kernel
theorem dX1_arrange_68 : decode cX1_arrange 68 = .ok (.if_icmp .ge 7, 3) := by decide +kernel
theorem dX1_arrange_71 : decode cX1_arrange 71 = .ok (.iconst 0, 1) := by decide +kernel
theorem dX1_arrange_72 : decode cX1_arrange 72 = .ok (.goto 4, 3) := by decide +kernel
theorem dX1_arrange_75 : decode cX1_arrange 75 = .ok (.iconst (-1), 1) := by decide +kernel
theorem dX1_arrange_76 : decode cX1_arrange 76 = .ok (.iastore, 1) := by decide +kernel
theorem dX1_arrange_77 : decode cX1_arrange 77 = .ok (.iinc 2 1, 3) := by decide +kernel
theorem dX1_arrange_80 : decode cX1_arrange 80 = .ok (.goto (-47), 3) := by decide +kernel
theorem dX1_arrange_83 : decode cX1_arrange 83 = .ok (.return_, 1) := by decide +kernel
theorem dX1_copyFrom_0 : decode cX1_copyFrom 0 = .ok (.aload_n 0, 1) := by decide +kernel
theorem dX1_copyFrom_1 : decode cX1_copyFrom 1 = .ok (.aload_n 1, 1) := by decide +kernel
theorem dX1_copyFrom_2 : decode cX1_copyFrom 2 = .ok (.getfield 28, 3) := by decide +kernel
theorem dX1_copyFrom_5 : decode cX1_copyFrom 5 = .ok (.putfield 28, 3) := by decide +kernel
theorem dX1_copyFrom_8 : decode cX1_copyFrom 8 = .ok (.aload_n 0, 1) := by decide +kernel
theorem dX1_copyFrom_9 : decode cX1_copyFrom 9 = .ok (.aload_n 1, 1) := by decide +kernel
theorem dX1_copyFrom_10 : decode cX1_copyFrom 10 = .ok (.getfield 32, 3) := by decide +kernel
theorem dX1_copyFrom_13 : decode cX1_copyFrom 13 = .ok (.putfield 32, 3) := by decide +kernel
theorem dX1_copyFrom_16 : decode cX1_copyFrom 16 = .ok (.aload_n 0, 1) := by decide +kernel
theorem dX1_copyFrom_17 : decode cX1_copyFrom 17 = .ok (.aload_n 1, 1) := by decide +kernel
theorem dX1_copyFrom_18 : decode cX1_copyFrom 18 = .ok (.getfield 35, 3) := by decide +kernel
theorem dX1_copyFrom_21 : decode cX1_copyFrom 21 = .ok (.putfield 35, 3) := by decide +kernel
theorem dX1_copyFrom_24 : decode cX1_copyFrom 24 = .ok (.aload_n 1, 1) := by decide +kernel
theorem dX1_copyFrom_25 : decode cX1_copyFrom 25 = .ok (.getfield 9, 3) := by decide +kernel
theorem dX1_copyFrom_28 : decode cX1_copyFrom 28 = .ok (.aload_n 0, 1) := by decide +kernel
theorem dX1_copyFrom_29 : decode cX1_copyFrom 29 = .ok (.getfield 9, 3) := by decide +kernel
theorem dX1_copyFrom_32 : decode cX1_copyFrom 32 = .ok (.invokestatic 42, 3) := by decide +kernel
theorem dX1_copyFrom_35 : decode cX1_copyFrom 35 = .ok (.aload_n 1, 1) := by decide +kernel
theorem dX1_copyFrom_36 : decode cX1_copyFrom 36 = .ok (.getfield 15, 3) := by decide +kernel
theorem dX1_copyFrom_39 : decode cX1_copyFrom 39 = .ok (.aload_n 0, 1) := by decide +kernel
theorem dX1_copyFrom_40 : decode cX1_copyFrom 40 = .ok (.getfield 15, 3) := by decide +kernel
theorem dX1_copyFrom_43 : decode cX1_copyFrom 43 = .ok (.invokestatic 42, 3) := by decide +kernel
theorem dX1_copyFrom_46 : decode cX1_copyFrom 46 = .ok (.aload_n 1, 1) := by decide +kernel
theorem dX1_copyFrom_47 : decode cX1_copyFrom 47 = .ok (.getfield 18, 3) := by decide +kernel
theorem dX1_copyFrom_50 : decode cX1_copyFrom 50 = .ok (.aload_n 0, 1) := by decide +kernel
theorem dX1_copyFrom_51 : decode cX1_copyFrom 51 = .ok (.getfield 18, 3) := by decide +kernel
theorem dX1_copyFrom_54 : decode cX1_copyFrom 54 = .ok (.invokestatic 42, 3) := by decide +kernel
theorem dX1_copyFrom_57 : decode cX1_copyFrom 57 = .ok (.iconst 0, 1) := by decide +kernel
theorem dX1_copyFrom_58 : decode cX1_copyFrom 58 = .ok (.istore_n 2, 1) := by decide +kernel
theorem dX1_copyFrom_59 : decode cX1_copyFrom 59 = .ok (.iload_n 2, 1) := by decide +kernel
theorem dX1_copyFrom_60 : decode cX1_copyFrom 60 = .ok (.aload_n 0, 1) := by decide +kernel
theorem dX1_copyFrom_61 : decode cX1_copyFrom 61 = .ok (.getfield 35, 3) := by decide +kernel
theorem dX1_copyFrom_64 : decode cX1_copyFrom 64 = .ok (.if_icmp .ge 37, 3) := by decide +kernel
theorem dX1_copyFrom_67 : decode cX1_copyFrom 67 = .ok (.aload_n 0, 1) := by decide +kernel
theorem dX1_copyFrom_68 : decode cX1_copyFrom 68 = .ok (.iload_n 2, 1) := by decide +kernel
theorem dX1_copyFrom_69 : decode cX1_copyFrom 69 = .ok (.invokevirtual 46, 3) := by decide +kernel
theorem dX1_copyFrom_72 : decode cX1_copyFrom 72 = .ok (.astore_n 3, 1) := by decide +kernel
theorem dX1_copyFrom_73 : decode cX1_copyFrom 73 = .ok (.aload_n 1, 1) := by decide +kernel
theorem dX1_copyFrom_74 : decode cX1_copyFrom 74 = .ok (.iload_n 2, 1) := by decide +kernel
theorem dX1_copyFrom_75 : decode cX1_copyFrom 75 = .ok (.invokevirtual 46, 3) := by decide +kernel
theorem dX1_copyFrom_78 : decode cX1_copyFrom 78 = .ok (.astore 4, 2) := by decide +kernel
theorem dX1_copyFrom_80 : decode cX1_copyFrom 80 = .ok (.aload_n 3, 1) := by decide +kernel
theorem dX1_copyFrom_81 : decode cX1_copyFrom 81 = .ok (.ifnull 14, 3) := by decide +kernel
theorem dX1_copyFrom_84 : decode cX1_copyFrom 84 = .ok (.aload 4, 2) := by decide +kernel
theorem dX1_copyFrom_86 : decode cX1_copyFrom 86 = .ok (.ifnull 9, 3) := by decide +kernel
theorem dX1_copyFrom_89 : decode cX1_copyFrom 89 = .ok (.aload_n 3, 1) := by decide +kernel
theorem dX1_copyFrom_90 : decode cX1_copyFrom 90 = .ok (.aload 4, 2) := by decide +kernel
theorem dX1_copyFrom_92 : decode cX1_copyFrom 92 = .ok (.invokevirtual 50, 3) := by decide +kernel
theorem dX1_copyFrom_95 : decode cX1_copyFrom 95 = .ok (.iinc 2 1, 3) := by decide +kernel
theorem dX1_copyFrom_98 : decode cX1_copyFrom 98 = .ok (.goto (-39), 3) := by decide +kernel
theorem dX1_copyFrom_101 : decode cX1_copyFrom 101 = .ok (.return_, 1) := by decide +kernel
theorem dX1_hasBox_0 : decode cX1_hasBox 0 = .ok (.iload_n 1, 1) := by decide +kernel
theorem dX1_hasBox_1 : decode cX1_hasBox 1 = .ok (.ifCond .lt 15, 3) := by decide +kernel
theorem dX1_hasBox_4 : decode cX1_hasBox 4 = .ok (.iload_n 1, 1) := by decide +kernel
theorem dX1_hasBox_5 : decode cX1_hasBox 5 = .ok (.aload_n 0, 1) := by decide +kernel
theorem dX1_hasBox_6 : decode cX1_hasBox 6 = .ok (.getfield 28, 3) := by decide +kernel
theorem dX1_hasBox_9 : decode cX1_hasBox 9 = .ok (.if_icmp .ge 7, 3) := by decide +kernel
theorem dX1_hasBox_12 : decode cX1_hasBox 12 = .ok (.iconst 1, 1) := by decide +kernel
theorem dX1_hasBox_13 : decode cX1_hasBox 13 = .ok (.goto 4, 3) := by decide +kernel
theorem dX1_hasBox_16 : decode cX1_hasBox 16 = .ok (.iconst 0, 1) := by decide +kernel
theorem dX1_hasBox_17 : decode cX1_hasBox 17 = .ok (.ireturn, 1) := by decide +kernel
theorem dX1_suits_0 : decode cX1_suits 0 = .ok (.iload_n 1, 1) := by decide +kernel
theorem dX1_suits_1 : decode cX1_suits 1 = .ok (.ifCond .lt 16, 3) := by decide +kernel
theorem dX1_suits_4 : decode cX1_suits 4 = .ok (.iload_n 1, 1) := by decide +kernel
theorem dX1_suits_5 : decode cX1_suits 5 = .ok (.iconst 5, 1) := by decide +kernel
theorem dX1_suits_6 : decode cX1_suits 6 = .ok (.if_icmp .gt 11, 3) := by decide +kernel
theorem dX1_suits_9 : decode cX1_suits 9 = .ok (.aload_n 0, 1) := by decide +kernel
theorem dX1_suits_10 : decode cX1_suits 10 = .ok (.iload_n 2, 1) := by decide +kernel
theorem dX1_suits_11 : decode cX1_suits 11 = .ok (.invokevirtual 54, 3) := by decide +kernel
theorem dX1_suits_14 : decode cX1_suits 14 = .ok (.ifCond .ne 5, 3) := by decide +kernel
theorem dX1_suits_17 : decode cX1_suits 17 = .ok (.iconst 0, 1) := by decide +kernel
theorem dX1_suits_18 : decode cX1_suits 18 = .ok (.ireturn, 1) := by decide +kernel
theorem dX1_suits_19 : decode cX1_suits 19 = .ok (.iload_n 1, 1) := by decide +kernel
theorem dX1_suits_20 : decode cX1_suits 20 = .ok (.iconst 4, 1) := by decide +kernel
theorem dX1_suits_21 : decode cX1_suits 21 = .ok (.if_icmp .ne 19, 3) := by decide +kernel
theorem dX1_suits_24 : decode cX1_suits 24 = .ok (.iload_n 3, 1) := by decide +kernel
theorem dX1_suits_25 : decode cX1_suits 25 = .ok (.ifCond .lt 13, 3) := by decide +kernel
theorem dX1_suits_28 : decode cX1_suits 28 = .ok (.iload_n 3, 1) := by decide +kernel
theorem dX1_suits_29 : decode cX1_suits 29 = .ok (.bipush 6, 2) := by decide +kernel
theorem dX1_suits_31 : decode cX1_suits 31 = .ok (.if_icmp .gt 7, 3) := by decide +kernel
theorem dX1_suits_34 : decode cX1_suits 34 = .ok (.iconst 1, 1) := by decide +kernel
theorem dX1_suits_35 : decode cX1_suits 35 = .ok (.goto 4, 3) := by decide +kernel
theorem dX1_suits_38 : decode cX1_suits 38 = .ok (.iconst 0, 1) := by decide +kernel
theorem dX1_suits_39 : decode cX1_suits 39 = .ok (.ireturn, 1) := by decide +kernel
theorem dX1_suits_40 : decode cX1_suits 40 = .ok (.aload_n 0, 1) := by decide +kernel
theorem dX1_suits_41 : decode cX1_suits 41 = .ok (.iload_n 3, 1) := by decide +kernel
theorem dX1_suits_42 : decode cX1_suits 42 = .ok (.invokevirtual 54, 3) := by decide +kernel
theorem dX1_suits_45 : decode cX1_suits 45 = .ok (.ifCond .eq 17, 3) := by decide +kernel
theorem dX1_suits_48 : decode cX1_suits 48 = .ok (.iload_n 1, 1) := by decide +kernel
theorem dX1_suits_49 : decode cX1_suits 49 = .ok (.iconst 5, 1) := by decide +kernel
theorem dX1_suits_50 : decode cX1_suits 50 = .ok (.if_icmp .eq 8, 3) := by decide +kernel
theorem dX1_suits_53 : decode cX1_suits 53 = .ok (.iload_n 2, 1) := by decide +kernel
theorem dX1_suits_54 : decode cX1_suits 54 = .ok (.iload_n 3, 1) := by decide +kernel
theorem dX1_suits_55 : decode cX1_suits 55 = .ok (.if_icmp .eq 7, 3) := by decide +kernel
theorem dX1_suits_58 : decode cX1_suits 58 = .ok (.iconst 1, 1) := by decide +kernel
theorem dX1_suits_59 : decode cX1_suits 59 = .ok (.goto 4, 3) := by decide +kernel
theorem dX1_suits_62 : decode cX1_suits 62 = .ok (.iconst 0, 1) := by decide +kernel
theorem dX1_suits_63 : decode cX1_suits 63 = .ok (.ireturn, 1) := by decide +kernel
theorem dX1_hasRoomFor_0 : decode cX1_hasRoomFor 0 = .ok (.aload_n 0, 1) := by decide +kernel
theorem dX1_hasRoomFor_1 : decode cX1_hasRoomFor 1 = .ok (.getfield 35, 3) := by decide +kernel
theorem dX1_hasRoomFor_4 : decode cX1_hasRoomFor 4 = .ok (.iload_n 1, 1) := by decide +kernel
theorem dX1_hasRoomFor_5 : decode cX1_hasRoomFor 5 = .ok (.iadd, 1) := by decide +kernel
theorem dX1_hasRoomFor_6 : decode cX1_hasRoomFor 6 = .ok (.bipush 20, 2) := by decide +kernel
theorem dX1_hasRoomFor_8 : decode cX1_hasRoomFor 8 = .ok (.if_icmp .gt 7, 3) := by decide +kernel
theorem dX1_hasRoomFor_11 : decode cX1_hasRoomFor 11 = .ok (.iconst 1, 1) := by decide +kernel
theorem dX1_hasRoomFor_12 : decode cX1_hasRoomFor 12 = .ok (.goto 4, 3) := by decide +kernel
theorem dX1_hasRoomFor_15 : decode cX1_hasRoomFor 15 = .ok (.iconst 0, 1) := by decide +kernel
theorem dX1_hasRoomFor_16 : decode cX1_hasRoomFor 16 = .ok (.ireturn, 1) := by decide +kernel
theorem dX1_rumourAt_0 : decode cX1_rumourAt 0 = .ok (.iload_n 1, 1) := by decide +kernel
theorem dX1_rumourAt_1 : decode cX1_rumourAt 1 = .ok (.ifCond .lt 29, 3) := by decide +kernel
theorem dX1_rumourAt_4 : decode cX1_rumourAt 4 = .ok (.iload_n 1, 1) := by decide +kernel
theorem dX1_rumourAt_5 : decode cX1_rumourAt 5 = .ok (.aload_n 0, 1) := by decide +kernel
theorem dX1_rumourAt_6 : decode cX1_rumourAt 6 = .ok (.getfield 35, 3) := by decide +kernel
theorem dX1_rumourAt_9 : decode cX1_rumourAt 9 = .ok (.if_icmp .ge 21, 3) := by decide +kernel
theorem dX1_rumourAt_12 : decode cX1_rumourAt 12 = .ok (.iload_n 1, 1) := by decide +kernel
theorem dX1_rumourAt_13 : decode cX1_rumourAt 13 = .ok (.aload_n 0, 1) := by decide +kernel
theorem dX1_rumourAt_14 : decode cX1_rumourAt 14 = .ok (.getfield 23, 3) := by decide +kernel
theorem dX1_rumourAt_17 : decode cX1_rumourAt 17 = .ok (.arraylength, 1) := by decide +kernel
theorem dX1_rumourAt_18 : decode cX1_rumourAt 18 = .ok (.if_icmp .ge 12, 3) := by decide +kernel
theorem dX1_rumourAt_21 : decode cX1_rumourAt 21 = .ok (.aload_n 0, 1) := by decide +kernel
theorem dX1_rumourAt_22 : decode cX1_rumourAt 22 = .ok (.getfield 23, 3) := by decide +kernel
theorem dX1_rumourAt_25 : decode cX1_rumourAt 25 = .ok (.iload_n 1, 1) := by decide +kernel
theorem dX1_rumourAt_26 : decode cX1_rumourAt 26 = .ok (.aaload, 1) := by decide +kernel
theorem dX1_rumourAt_27 : decode cX1_rumourAt 27 = .ok (.goto 4, 3) := by decide +kernel
theorem dX1_rumourAt_30 : decode cX1_rumourAt 30 = .ok (.aconst_null, 1) := by decide +kernel
theorem dX1_rumourAt_31 : decode cX1_rumourAt 31 = .ok (.areturn, 1) := by decide +kernel
theorem dX1_addRumour_0 : decode cX1_addRumour 0 = .ok (.aload_n 0, 1) := by decide +kernel
theorem dX1_addRumour_1 : decode cX1_addRumour 1 = .ok (.iconst 1, 1) := by decide +kernel
theorem dX1_addRumour_2 : decode cX1_addRumour 2 = .ok (.invokevirtual 58, 3) := by decide +kernel
theorem dX1_addRumour_5 : decode cX1_addRumour 5 = .ok (.ifCond .ne 4, 3) := by decide +kernel
theorem dX1_addRumour_8 : decode cX1_addRumour 8 = .ok (.return_, 1) := by decide +kernel
theorem dX1_addRumour_9 : decode cX1_addRumour 9 = .ok (.aload_n 0, 1) := by decide +kernel
theorem dX1_addRumour_10 : decode cX1_addRumour 10 = .ok (.dup, 1) := by decide +kernel
theorem dX1_addRumour_11 : decode cX1_addRumour 11 = .ok (.getfield 35, 3) := by decide +kernel
theorem dX1_addRumour_14 : decode cX1_addRumour 14 = .ok (.iconst 1, 1) := by decide +kernel
theorem dX1_addRumour_15 : decode cX1_addRumour 15 = .ok (.iadd, 1) := by decide +kernel
theorem dX1_addRumour_16 : decode cX1_addRumour 16 = .ok (.putfield 35, 3) := by decide +kernel
theorem dX1_addRumour_19 : decode cX1_addRumour 19 = .ok (.aload_n 0, 1) := by decide +kernel
theorem dX1_addRumour_20 : decode cX1_addRumour 20 = .ok (.aload_n 0, 1) := by decide +kernel
theorem dX1_addRumour_21 : decode cX1_addRumour 21 = .ok (.getfield 35, 3) := by decide +kernel
theorem dX1_addRumour_24 : decode cX1_addRumour 24 = .ok (.iconst 1, 1) := by decide +kernel
theorem dX1_addRumour_25 : decode cX1_addRumour 25 = .ok (.isub, 1) := by decide +kernel
theorem dX1_addRumour_26 : decode cX1_addRumour 26 = .ok (.invokevirtual 46, 3) := by decide +kernel
theorem dX1_addRumour_29 : decode cX1_addRumour 29 = .ok (.astore 5, 2) := by decide +kernel
theorem dX1_addRumour_31 : decode cX1_addRumour 31 = .ok (.aload 5, 2) := by decide +kernel
theorem dX1_addRumour_33 : decode cX1_addRumour 33 = .ok (.ifnull 13, 3) := by decide +kernel
theorem dX1_addRumour_36 : decode cX1_addRumour 36 = .ok (.aload 5, 2) := by decide +kernel
theorem dX1_addRumour_38 : decode cX1_addRumour 38 = .ok (.iload_n 1, 1) := by decide +kernel
theorem dX1_addRumour_39 : decode cX1_addRumour 39 = .ok (.iload_n 2, 1) := by decide +kernel
theorem dX1_addRumour_40 : decode cX1_addRumour 40 = .ok (.iload_n 3, 1) := by decide +kernel
theorem dX1_addRumour_41 : decode cX1_addRumour 41 = .ok (.iload 4, 2) := by decide +kernel
theorem dX1_addRumour_43 : decode cX1_addRumour 43 = .ok (.invokevirtual 61, 3) := by decide +kernel
theorem dX1_addRumour_46 : decode cX1_addRumour 46 = .ok (.return_, 1) := by decide +kernel
theorem dX1_openRumours_0 : decode cX1_openRumours 0 = .ok (.iconst 0, 1) := by decide +kernel
theorem dX1_openRumours_1 : decode cX1_openRumours 1 = .ok (.istore_n 1, 1) := by decide +kernel
theorem dX1_openRumours_2 : decode cX1_openRumours 2 = .ok (.iconst 0, 1) := by decide +kernel
theorem dX1_openRumours_3 : decode cX1_openRumours 3 = .ok (.istore_n 2, 1) := by decide +kernel
theorem dX1_openRumours_4 : decode cX1_openRumours 4 = .ok (.iload_n 2, 1) := by decide +kernel
theorem dX1_openRumours_5 : decode cX1_openRumours 5 = .ok (.aload_n 0, 1) := by decide +kernel
theorem dX1_openRumours_6 : decode cX1_openRumours 6 = .ok (.getfield 35, 3) := by decide +kernel
theorem dX1_openRumours_9 : decode cX1_openRumours 9 = .ok (.if_icmp .ge 20, 3) := by decide +kernel
theorem dX1_openRumours_12 : decode cX1_openRumours 12 = .ok (.aload_n 0, 1) := by decide +kernel
theorem dX1_openRumours_13 : decode cX1_openRumours 13 = .ok (.iload_n 2, 1) := by decide +kernel
theorem dX1_openRumours_14 : decode cX1_openRumours 14 = .ok (.invokevirtual 65, 3) := by decide +kernel
theorem dX1_openRumours_17 : decode cX1_openRumours 17 = .ok (.ifCond .eq 6, 3) := by decide +kernel
theorem dX1_openRumours_20 : decode cX1_openRumours 20 = .ok (.iinc 1 1, 3) := by decide +kernel
theorem dX1_openRumours_23 : decode cX1_openRumours 23 = .ok (.iinc 2 1, 3) := by decide +kernel
theorem dX1_openRumours_26 : decode cX1_openRumours 26 = .ok (.goto (-22), 3) := by decide +kernel
theorem dX1_openRumours_29 : decode cX1_openRumours 29 = .ok (.iload_n 1, 1) := by decide +kernel
theorem dX1_openRumours_30 : decode cX1_openRumours 30 = .ok (.ireturn, 1) := by decide +kernel
theorem dX1_isOpen_0 : decode cX1_isOpen 0 = .ok (.aload_n 0, 1) := by decide +kernel
theorem dX1_isOpen_1 : decode cX1_isOpen 1 = .ok (.iload_n 1, 1) := by decide +kernel
theorem dX1_isOpen_2 : decode cX1_isOpen 2 = .ok (.invokevirtual 46, 3) := by decide +kernel
theorem dX1_isOpen_5 : decode cX1_isOpen 5 = .ok (.astore_n 2, 1) := by decide +kernel
theorem dX1_isOpen_6 : decode cX1_isOpen 6 = .ok (.aload_n 2, 1) := by decide +kernel
theorem dX1_isOpen_7 : decode cX1_isOpen 7 = .ok (.ifnull 14, 3) := by decide +kernel
theorem dX1_isOpen_10 : decode cX1_isOpen 10 = .ok (.aload_n 2, 1) := by decide +kernel
theorem dX1_isOpen_11 : decode cX1_isOpen 11 = .ok (.getfield 68, 3) := by decide +kernel
theorem dX1_isOpen_14 : decode cX1_isOpen 14 = .ok (.ifCond .ne 7, 3) := by decide +kernel
theorem dX1_isOpen_17 : decode cX1_isOpen 17 = .ok (.iconst 1, 1) := by decide +kernel
theorem dX1_isOpen_18 : decode cX1_isOpen 18 = .ok (.goto 4, 3) := by decide +kernel
theorem dX1_isOpen_21 : decode cX1_isOpen 21 = .ok (.iconst 0, 1) := by decide +kernel
theorem dX1_isOpen_22 : decode cX1_isOpen 22 = .ok (.ireturn, 1) := by decide +kernel
theorem dX1_isTrue_0 : decode cX1_isTrue 0 = .ok (.aload_n 0, 1) := by decide +kernel
theorem dX1_isTrue_1 : decode cX1_isTrue 1 = .ok (.iload_n 1, 1) := by decide +kernel
theorem dX1_isTrue_2 : decode cX1_isTrue 2 = .ok (.invokevirtual 46, 3) := by decide +kernel
theorem dX1_isTrue_5 : decode cX1_isTrue 5 = .ok (.astore_n 2, 1) := by decide +kernel
theorem dX1_isTrue_6 : decode cX1_isTrue 6 = .ok (.aload_n 2, 1) := by decide +kernel
theorem dX1_isTrue_7 : decode cX1_isTrue 7 = .ok (.ifnull 18, 3) := by decide +kernel
theorem dX1_isTrue_10 : decode cX1_isTrue 10 = .ok (.aload_n 2, 1) := by decide +kernel
theorem dX1_isTrue_11 : decode cX1_isTrue 11 = .ok (.aload_n 0, 1) := by decide +kernel
theorem dX1_isTrue_12 : decode cX1_isTrue 12 = .ok (.getfield 9, 3) := by decide +kernel
theorem dX1_isTrue_15 : decode cX1_isTrue 15 = .ok (.invokevirtual 71, 3) := by decide +kernel
theorem dX1_isTrue_18 : decode cX1_isTrue 18 = .ok (.ifCond .eq 7, 3) := by decide +kernel
theorem dX1_isTrue_21 : decode cX1_isTrue 21 = .ok (.iconst 1, 1) := by decide +kernel
theorem dX1_isTrue_22 : decode cX1_isTrue 22 = .ok (.goto 4, 3) := by decide +kernel
theorem dX1_isTrue_25 : decode cX1_isTrue 25 = .ok (.iconst 0, 1) := by decide +kernel
theorem dX1_isTrue_26 : decode cX1_isTrue 26 = .ok (.ireturn, 1) := by decide +kernel
theorem dX1_revealOpen_0 : decode cX1_revealOpen 0 = .ok (.iconst 0, 1) := by decide +kernel
theorem dX1_revealOpen_1 : decode cX1_revealOpen 1 = .ok (.istore_n 1, 1) := by decide +kernel
theorem dX1_revealOpen_2 : decode cX1_revealOpen 2 = .ok (.iconst 0, 1) := by decide +kernel
theorem dX1_revealOpen_3 : decode cX1_revealOpen 3 = .ok (.istore_n 2, 1) := by decide +kernel
theorem dX1_revealOpen_4 : decode cX1_revealOpen 4 = .ok (.iload_n 2, 1) := by decide +kernel
theorem dX1_revealOpen_5 : decode cX1_revealOpen 5 = .ok (.aload_n 0, 1) := by decide +kernel
theorem dX1_revealOpen_6 : decode cX1_revealOpen 6 = .ok (.getfield 35, 3) := by decide +kernel
theorem dX1_revealOpen_9 : decode cX1_revealOpen 9 = .ok (.if_icmp .ge 41, 3) := by decide +kernel
theorem dX1_revealOpen_12 : decode cX1_revealOpen 12 = .ok (.aload_n 0, 1) := by decide +kernel
theorem dX1_revealOpen_13 : decode cX1_revealOpen 13 = .ok (.iload_n 2, 1) := by decide +kernel
theorem dX1_revealOpen_14 : decode cX1_revealOpen 14 = .ok (.invokevirtual 46, 3) := by decide +kernel
theorem dX1_revealOpen_17 : decode cX1_revealOpen 17 = .ok (.astore_n 3, 1) := by decide +kernel
theorem dX1_revealOpen_18 : decode cX1_revealOpen 18 = .ok (.aload_n 3, 1) := by decide +kernel
theorem dX1_revealOpen_19 : decode cX1_revealOpen 19 = .ok (.ifnull 25, 3) := by decide +kernel
theorem dX1_revealOpen_22 : decode cX1_revealOpen 22 = .ok (.aload_n 3, 1) := by decide +kernel
theorem dX1_revealOpen_23 : decode cX1_revealOpen 23 = .ok (.getfield 68, 3) := by decide +kernel
theorem dX1_revealOpen_26 : decode cX1_revealOpen 26 = .ok (.ifCond .ne 18, 3) := by decide +kernel
theorem dX1_revealOpen_29 : decode cX1_revealOpen 29 = .ok (.aload_n 3, 1) := by decide +kernel
theorem dX1_revealOpen_30 : decode cX1_revealOpen 30 = .ok (.aload_n 3, 1) := by decide +kernel
theorem dX1_revealOpen_31 : decode cX1_revealOpen 31 = .ok (.aload_n 0, 1) := by decide +kernel
theorem dX1_revealOpen_32 : decode cX1_revealOpen 32 = .ok (.getfield 9, 3) := by decide +kernel
theorem dX1_revealOpen_35 : decode cX1_revealOpen 35 = .ok (.invokevirtual 71, 3) := by decide +kernel
theorem dX1_revealOpen_38 : decode cX1_revealOpen 38 = .ok (.invokevirtual 75, 3) := by decide +kernel
theorem dX1_revealOpen_41 : decode cX1_revealOpen 41 = .ok (.iinc 1 1, 3) := by decide +kernel
theorem dX1_revealOpen_44 : decode cX1_revealOpen 44 = .ok (.iinc 2 1, 3) := by decide +kernel
theorem dX1_revealOpen_47 : decode cX1_revealOpen 47 = .ok (.goto (-43), 3) := by decide +kernel
theorem dX1_revealOpen_50 : decode cX1_revealOpen 50 = .ok (.iload_n 1, 1) := by decide +kernel
theorem dX1_revealOpen_51 : decode cX1_revealOpen 51 = .ok (.ireturn, 1) := by decide +kernel
theorem dX1_finishAct_0 : decode cX1_finishAct 0 = .ok (.iconst 0, 1) := by decide +kernel
theorem dX1_finishAct_1 : decode cX1_finishAct 1 = .ok (.istore_n 1, 1) := by decide +kernel
theorem dX1_finishAct_2 : decode cX1_finishAct 2 = .ok (.iload_n 1, 1) := by decide +kernel
theorem dX1_finishAct_3 : decode cX1_finishAct 3 = .ok (.aload_n 0, 1) := by decide +kernel
theorem dX1_finishAct_4 : decode cX1_finishAct 4 = .ok (.getfield 35, 3) := by decide +kernel
theorem dX1_finishAct_7 : decode cX1_finishAct 7 = .ok (.if_icmp .ge 34, 3) := by decide +kernel
theorem dX1_finishAct_10 : decode cX1_finishAct 10 = .ok (.aload_n 0, 1) := by decide +kernel
theorem dX1_finishAct_11 : decode cX1_finishAct 11 = .ok (.getfield 15, 3) := by decide +kernel
theorem dX1_finishAct_14 : decode cX1_finishAct 14 = .ok (.aload_n 0, 1) := by decide +kernel
theorem dX1_finishAct_15 : decode cX1_finishAct 15 = .ok (.iload_n 1, 1) := by decide +kernel
theorem dX1_finishAct_16 : decode cX1_finishAct 16 = .ok (.invokevirtual 79, 3) := by decide +kernel
theorem dX1_finishAct_19 : decode cX1_finishAct 19 = .ok (.aload_n 0, 1) := by decide +kernel
theorem dX1_finishAct_20 : decode cX1_finishAct 20 = .ok (.iload_n 1, 1) := by decide +kernel
theorem dX1_finishAct_21 : decode cX1_finishAct 21 = .ok (.invokevirtual 83, 3) := by decide +kernel
theorem dX1_finishAct_24 : decode cX1_finishAct 24 = .ok (.ifCond .eq 7, 3) := by decide +kernel
theorem dX1_finishAct_27 : decode cX1_finishAct 27 = .ok (.iconst 1, 1) := by decide +kernel
theorem dX1_finishAct_28 : decode cX1_finishAct 28 = .ok (.goto 4, 3) := by decide +kernel
theorem dX1_finishAct_31 : decode cX1_finishAct 31 = .ok (.iconst (-1), 1) := by decide +kernel
theorem dX1_finishAct_32 : decode cX1_finishAct 32 = .ok (.invokestatic 86, 3) := by decide +kernel
theorem dX1_finishAct_35 : decode cX1_finishAct 35 = .ok (.iinc 1 1, 3) := by decide +kernel
theorem dX1_finishAct_38 : decode cX1_finishAct 38 = .ok (.goto (-36), 3) := by decide +kernel
theorem dX1_finishAct_41 : decode cX1_finishAct 41 = .ok (.aload_n 0, 1) := by decide +kernel
theorem dX1_finishAct_42 : decode cX1_finishAct 42 = .ok (.iconst 0, 1) := by decide +kernel
theorem dX1_finishAct_43 : decode cX1_finishAct 43 = .ok (.putfield 35, 3) := by decide +kernel
theorem dX1_finishAct_46 : decode cX1_finishAct 46 = .ok (.aload_n 0, 1) := by decide +kernel
theorem dX1_finishAct_47 : decode cX1_finishAct 47 = .ok (.getfield 18, 3) := by decide +kernel
theorem dX1_finishAct_50 : decode cX1_finishAct 50 = .ok (.iconst 0, 1) := by decide +kernel
theorem dX1_finishAct_51 : decode cX1_finishAct 51 = .ok (.invokestatic 38, 3) := by decide +kernel
theorem dX1_finishAct_54 : decode cX1_finishAct 54 = .ok (.aload_n 0, 1) := by decide +kernel
theorem dX1_finishAct_55 : decode cX1_finishAct 55 = .ok (.dup, 1) := by decide +kernel
theorem dX1_finishAct_56 : decode cX1_finishAct 56 = .ok (.getfield 32, 3) := by decide +kernel
theorem dX1_finishAct_59 : decode cX1_finishAct 59 = .ok (.iconst 1, 1) := by decide +kernel
theorem dX1_finishAct_60 : decode cX1_finishAct 60 = .ok (.iadd, 1) := by decide +kernel
theorem dX1_finishAct_61 : decode cX1_finishAct 61 = .ok (.putfield 32, 3) := by decide +kernel
theorem dX1_finishAct_64 : decode cX1_finishAct 64 = .ok (.return_, 1) := by decide +kernel
theorem dX1_tellerOf_0 : decode cX1_tellerOf 0 = .ok (.aload_n 0, 1) := by decide +kernel
theorem dX1_tellerOf_1 : decode cX1_tellerOf 1 = .ok (.iload_n 1, 1) := by decide +kernel
theorem dX1_tellerOf_2 : decode cX1_tellerOf 2 = .ok (.invokevirtual 46, 3) := by decide +kernel
theorem dX1_tellerOf_5 : decode cX1_tellerOf 5 = .ok (.astore_n 2, 1) := by decide +kernel
theorem dX1_tellerOf_6 : decode cX1_tellerOf 6 = .ok (.aload_n 2, 1) := by decide +kernel
theorem dX1_tellerOf_7 : decode cX1_tellerOf 7 = .ok (.ifnull 10, 3) := by decide +kernel
theorem dX1_tellerOf_10 : decode cX1_tellerOf 10 = .ok (.aload_n 2, 1) := by decide +kernel
theorem dX1_tellerOf_11 : decode cX1_tellerOf 11 = .ok (.getfield 90, 3) := by decide +kernel
theorem dX1_tellerOf_14 : decode cX1_tellerOf 14 = .ok (.goto 4, 3) := by decide +kernel
theorem dX1_tellerOf_17 : decode cX1_tellerOf 17 = .ok (.iconst (-1), 1) := by decide +kernel
theorem dX1_tellerOf_18 : decode cX1_tellerOf 18 = .ok (.ireturn, 1) := by decide +kernel
theorem dX1_toldBy_0 : decode cX1_toldBy 0 = .ok (.iconst 0, 1) := by decide +kernel
theorem dX1_toldBy_1 : decode cX1_toldBy 1 = .ok (.istore_n 2, 1) := by decide +kernel
theorem dX1_toldBy_2 : decode cX1_toldBy 2 = .ok (.iconst 0, 1) := by decide +kernel
theorem dX1_toldBy_3 : decode cX1_toldBy 3 = .ok (.istore_n 3, 1) := by decide +kernel
theorem dX1_toldBy_4 : decode cX1_toldBy 4 = .ok (.iload_n 3, 1) := by decide +kernel
theorem dX1_toldBy_5 : decode cX1_toldBy 5 = .ok (.aload_n 0, 1) := by decide +kernel
theorem dX1_toldBy_6 : decode cX1_toldBy 6 = .ok (.getfield 35, 3) := by decide +kernel
theorem dX1_toldBy_9 : decode cX1_toldBy 9 = .ok (.if_icmp .ge 21, 3) := by decide +kernel
theorem dX1_toldBy_12 : decode cX1_toldBy 12 = .ok (.aload_n 0, 1) := by decide +kernel
theorem dX1_toldBy_13 : decode cX1_toldBy 13 = .ok (.iload_n 3, 1) := by decide +kernel
theorem dX1_toldBy_14 : decode cX1_toldBy 14 = .ok (.invokevirtual 79, 3) := by decide +kernel
theorem dX1_toldBy_17 : decode cX1_toldBy 17 = .ok (.iload_n 1, 1) := by decide +kernel
theorem dX1_toldBy_18 : decode cX1_toldBy 18 = .ok (.if_icmp .ne 6, 3) := by decide +kernel
theorem dX1_toldBy_21 : decode cX1_toldBy 21 = .ok (.iinc 2 1, 3) := by decide +kernel
theorem dX1_toldBy_24 : decode cX1_toldBy 24 = .ok (.iinc 3 1, 3) := by decide +kernel
theorem dX1_toldBy_27 : decode cX1_toldBy 27 = .ok (.goto (-23), 3) := by decide +kernel
theorem dX1_toldBy_30 : decode cX1_toldBy 30 = .ok (.iload_n 2, 1) := by decide +kernel
theorem dX1_toldBy_31 : decode cX1_toldBy 31 = .ok (.ireturn, 1) := by decide +kernel
theorem dX1_toldTrulyBy_0 : decode cX1_toldTrulyBy 0 = .ok (.iconst 0, 1) := by decide +kernel
theorem dX1_toldTrulyBy_1 : decode cX1_toldTrulyBy 1 = .ok (.istore_n 2, 1) := by decide +kernel
theorem dX1_toldTrulyBy_2 : decode cX1_toldTrulyBy 2 = .ok (.iconst 0, 1) := by decide +kernel
theorem dX1_toldTrulyBy_3 : decode cX1_toldTrulyBy 3 = .ok (.istore_n 3, 1) := by decide +kernel
theorem dX1_toldTrulyBy_4 : decode cX1_toldTrulyBy 4 = .ok (.iload_n 3, 1) := by decide +kernel
theorem dX1_toldTrulyBy_5 : decode cX1_toldTrulyBy 5 = .ok (.aload_n 0, 1) := by decide +kernel
theorem dX1_toldTrulyBy_6 : decode cX1_toldTrulyBy 6 = .ok (.getfield 35, 3) := by decide +kernel
theorem dX1_toldTrulyBy_9 : decode cX1_toldTrulyBy 9 = .ok (.if_icmp .ge 29, 3) := by decide +kernel
theorem dX1_toldTrulyBy_12 : decode cX1_toldTrulyBy 12 = .ok (.aload_n 0, 1) := by decide +kernel
theorem dX1_toldTrulyBy_13 : decode cX1_toldTrulyBy 13 = .ok (.iload_n 3, 1) := by decide +kernel
theorem dX1_toldTrulyBy_14 : decode cX1_toldTrulyBy 14 = .ok (.invokevirtual 79, 3) := by decide +kernel
theorem dX1_toldTrulyBy_17 : decode cX1_toldTrulyBy 17 = .ok (.iload_n 1, 1) := by decide +kernel
theorem dX1_toldTrulyBy_18 : decode cX1_toldTrulyBy 18 = .ok (.if_icmp .ne 14, 3) := by decide +kernel
theorem dX1_toldTrulyBy_21 : decode cX1_toldTrulyBy 21 = .ok (.aload_n 0, 1) := by decide +kernel
theorem dX1_toldTrulyBy_22 : decode cX1_toldTrulyBy 22 = .ok (.iload_n 3, 1) := by decide +kernel
theorem dX1_toldTrulyBy_23 : decode cX1_toldTrulyBy 23 = .ok (.invokevirtual 83, 3) := by decide +kernel
theorem dX1_toldTrulyBy_26 : decode cX1_toldTrulyBy 26 = .ok (.ifCond .eq 6, 3) := by decide +kernel
theorem dX1_toldTrulyBy_29 : decode cX1_toldTrulyBy 29 = .ok (.iinc 2 1, 3) := by decide +kernel
theorem dX1_toldTrulyBy_32 : decode cX1_toldTrulyBy 32 = .ok (.iinc 3 1, 3) := by decide +kernel
theorem dX1_toldTrulyBy_35 : decode cX1_toldTrulyBy 35 = .ok (.goto (-31), 3) := by decide +kernel
theorem dX1_toldTrulyBy_38 : decode cX1_toldTrulyBy 38 = .ok (.iload_n 2, 1) := by decide +kernel
theorem dX1_toldTrulyBy_39 : decode cX1_toldTrulyBy 39 = .ok (.ireturn, 1) := by decide +kernel
theorem dX1_firstBroken_0 : decode cX1_firstBroken 0 = .ok (.iload_n 1, 1) := by decide +kernel
theorem dX1_firstBroken_1 : decode cX1_firstBroken 1 = .ok (.iconst 0, 1) := by decide +kernel
theorem dX1_firstBroken_2 : decode cX1_firstBroken 2 = .ok (.invokestatic 93, 3) := by decide +kernel
theorem dX1_firstBroken_5 : decode cX1_firstBroken 5 = .ok (.istore_n 3, 1) := by decide +kernel
theorem dX1_firstBroken_6 : decode cX1_firstBroken 6 = .ok (.iload_n 3, 1) := by decide +kernel
theorem dX1_firstBroken_7 : decode cX1_firstBroken 7 = .ok (.aload_n 0, 1) := by decide +kernel
theorem dX1_firstBroken_8 : decode cX1_firstBroken 8 = .ok (.getfield 35, 3) := by decide +kernel
theorem dX1_firstBroken_11 : decode cX1_firstBroken 11 = .ok (.if_icmp .ge 50, 3) := by decide +kernel
theorem dX1_firstBroken_14 : decode cX1_firstBroken 14 = .ok (.iload_n 3, 1) := by decide +kernel
theorem dX1_firstBroken_15 : decode cX1_firstBroken 15 = .ok (.aload_n 0, 1) := by decide +kernel
theorem dX1_firstBroken_16 : decode cX1_firstBroken 16 = .ok (.getfield 23, 3) := by decide +kernel
theorem dX1_firstBroken_19 : decode cX1_firstBroken 19 = .ok (.arraylength, 1) := by decide +kernel
theorem dX1_firstBroken_20 : decode cX1_firstBroken 20 = .ok (.if_icmp .ge 41, 3) := by decide +kernel
theorem dX1_firstBroken_23 : decode cX1_firstBroken 23 = .ok (.aload_n 0, 1) := by decide +kernel
theorem dX1_firstBroken_24 : decode cX1_firstBroken 24 = .ok (.getfield 23, 3) := by decide +kernel
theorem dX1_firstBroken_27 : decode cX1_firstBroken 27 = .ok (.iload_n 3, 1) := by decide +kernel
theorem dX1_firstBroken_28 : decode cX1_firstBroken 28 = .ok (.aaload, 1) := by decide +kernel
theorem dX1_firstBroken_29 : decode cX1_firstBroken 29 = .ok (.astore 4, 2) := by decide +kernel
theorem dX1_firstBroken_31 : decode cX1_firstBroken 31 = .ok (.aload 4, 2) := by decide +kernel
theorem dX1_firstBroken_33 : decode cX1_firstBroken 33 = .ok (.ifnull 22, 3) := by decide +kernel
theorem dX1_firstBroken_36 : decode cX1_firstBroken 36 = .ok (.aload 4, 2) := by decide +kernel
theorem dX1_firstBroken_38 : decode cX1_firstBroken 38 = .ok (.getfield 68, 3) := by decide +kernel
theorem dX1_firstBroken_41 : decode cX1_firstBroken 41 = .ok (.ifCond .eq 14, 3) := by decide +kernel
theorem dX1_firstBroken_44 : decode cX1_firstBroken 44 = .ok (.aload 4, 2) := by decide +kernel
theorem dX1_firstBroken_46 : decode cX1_firstBroken 46 = .ok (.aload_n 2, 1) := by decide +kernel
theorem dX1_firstBroken_47 : decode cX1_firstBroken 47 = .ok (.invokevirtual 99, 3) := by decide +kernel
theorem dX1_firstBroken_50 : decode cX1_firstBroken 50 = .ok (.ifCond .eq 5, 3) := by decide +kernel
theorem dX1_firstBroken_53 : decode cX1_firstBroken 53 = .ok (.iload_n 3, 1) := by decide +kernel
theorem dX1_firstBroken_54 : decode cX1_firstBroken 54 = .ok (.ireturn, 1) := by decide +kernel
theorem dX1_firstBroken_55 : decode cX1_firstBroken 55 = .ok (.iinc 3 1, 3) := by decide +kernel
theorem dX1_firstBroken_58 : decode cX1_firstBroken 58 = .ok (.goto (-52), 3) := by decide +kernel
theorem dX1_firstBroken_61 : decode cX1_firstBroken 61 = .ok (.bipush (-6), 2) := by decide +kernel
theorem dX1_firstBroken_63 : decode cX1_firstBroken 63 = .ok (.ireturn, 1) := by decide +kernel
theorem dX2_init_0 : decode cX2_init 0 = .ok (.aload_n 0, 1) := by decide +kernel
theorem dX2_init_1 : decode cX2_init 1 = .ok (.invokespecial 3, 3) := by decide +kernel
theorem dX2_init_4 : decode cX2_init 4 = .ok (.aload_n 0, 1) := by decide +kernel
theorem dX2_init_5 : decode cX2_init 5 = .ok (.bipush 60, 2) := by decide +kernel
theorem dX2_init_7 : decode cX2_init 7 = .ok (.newarray .char, 2) := by decide +kernel
theorem dX2_init_9 : decode cX2_init 9 = .ok (.putfield 9, 3) := by decide +kernel
theorem dX2_init_12 : decode cX2_init 12 = .ok (.return_, 1) := by decide +kernel
theorem dX2_append_0 : decode cX2_append 0 = .ok (.aload_n 0, 1) := by decide +kernel
theorem dX2_append_1 : decode cX2_append 1 = .ok (.getfield 15, 3) := by decide +kernel
theorem dX2_append_4 : decode cX2_append 4 = .ok (.ifCond .lt 35, 3) := by decide +kernel
theorem dX2_append_7 : decode cX2_append 7 = .ok (.aload_n 0, 1) := by decide +kernel
theorem dX2_append_8 : decode cX2_append 8 = .ok (.getfield 15, 3) := by decide +kernel
theorem dX2_append_11 : decode cX2_append 11 = .ok (.aload_n 0, 1) := by decide +kernel
theorem dX2_append_12 : decode cX2_append 12 = .ok (.getfield 9, 3) := by decide +kernel
theorem dX2_append_15 : decode cX2_append 15 = .ok (.arraylength, 1) := by decide +kernel
theorem dX2_append_16 : decode cX2_append 16 = .ok (.if_icmp .ge 23, 3) := by decide +kernel
theorem dX2_append_19 : decode cX2_append 19 = .ok (.aload_n 0, 1) := by decide +kernel
theorem dX2_append_20 : decode cX2_append 20 = .ok (.getfield 9, 3) := by decide +kernel
theorem dX2_append_23 : decode cX2_append 23 = .ok (.aload_n 0, 1) := by decide +kernel
theorem dX2_append_24 : decode cX2_append 24 = .ok (.getfield 15, 3) := by decide +kernel
theorem dX2_append_27 : decode cX2_append 27 = .ok (.iload_n 1, 1) := by decide +kernel
theorem dX2_append_28 : decode cX2_append 28 = .ok (.castore, 1) := by decide +kernel
theorem dX2_append_29 : decode cX2_append 29 = .ok (.aload_n 0, 1) := by decide +kernel
theorem dX2_append_30 : decode cX2_append 30 = .ok (.dup, 1) := by decide +kernel
theorem dX2_append_31 : decode cX2_append 31 = .ok (.getfield 15, 3) := by decide +kernel
theorem dX2_append_34 : decode cX2_append 34 = .ok (.iconst 1, 1) := by decide +kernel
theorem dX2_append_35 : decode cX2_append 35 = .ok (.iadd, 1) := by decide +kernel
theorem dX2_append_36 : decode cX2_append 36 = .ok (.putfield 15, 3) := by decide +kernel
theorem dX2_append_39 : decode cX2_append 39 = .ok (.return_, 1) := by decide +kernel
theorem dX2_empty_0 : decode cX2_empty 0 = .ok (.aload_n 0, 1) := by decide +kernel
theorem dX2_empty_1 : decode cX2_empty 1 = .ok (.iconst 0, 1) := by decide +kernel
theorem dX2_empty_2 : decode cX2_empty 2 = .ok (.putfield 15, 3) := by decide +kernel
theorem dX2_empty_5 : decode cX2_empty 5 = .ok (.return_, 1) := by decide +kernel
theorem dX2_characterAt_0 : decode cX2_characterAt 0 = .ok (.iload_n 1, 1) := by decide +kernel
theorem dX2_characterAt_1 : decode cX2_characterAt 1 = .ok (.ifCond .lt 29, 3) := by decide +kernel
theorem dX2_characterAt_4 : decode cX2_characterAt 4 = .ok (.iload_n 1, 1) := by decide +kernel
theorem dX2_characterAt_5 : decode cX2_characterAt 5 = .ok (.aload_n 0, 1) := by decide +kernel
theorem dX2_characterAt_6 : decode cX2_characterAt 6 = .ok (.getfield 15, 3) := by decide +kernel
theorem dX2_characterAt_9 : decode cX2_characterAt 9 = .ok (.if_icmp .ge 21, 3) := by decide +kernel
theorem dX2_characterAt_12 : decode cX2_characterAt 12 = .ok (.iload_n 1, 1) := by decide +kernel
theorem dX2_characterAt_13 : decode cX2_characterAt 13 = .ok (.aload_n 0, 1) := by decide +kernel
theorem dX2_characterAt_14 : decode cX2_characterAt 14 = .ok (.getfield 9, 3) := by decide +kernel
theorem dX2_characterAt_17 : decode cX2_characterAt 17 = .ok (.arraylength, 1) := by decide +kernel
theorem dX2_characterAt_18 : decode cX2_characterAt 18 = .ok (.if_icmp .ge 12, 3) := by decide +kernel
theorem dX2_characterAt_21 : decode cX2_characterAt 21 = .ok (.aload_n 0, 1) := by decide +kernel
theorem dX2_characterAt_22 : decode cX2_characterAt 22 = .ok (.getfield 9, 3) := by decide +kernel
theorem dX2_characterAt_25 : decode cX2_characterAt 25 = .ok (.iload_n 1, 1) := by decide +kernel
theorem dX2_characterAt_26 : decode cX2_characterAt 26 = .ok (.caload, 1) := by decide +kernel
theorem dX2_characterAt_27 : decode cX2_characterAt 27 = .ok (.goto 4, 3) := by decide +kernel
theorem dX2_characterAt_30 : decode cX2_characterAt 30 = .ok (.iconst 0, 1) := by decide +kernel
theorem dX2_characterAt_31 : decode cX2_characterAt 31 = .ok (.ireturn, 1) := by decide +kernel
theorem dX2_firstFault_0 : decode cX2_firstFault 0 = .ok (.iconst 0, 1) := by decide +kernel
theorem dX2_firstFault_1 : decode cX2_firstFault 1 = .ok (.istore_n 1, 1) := by decide +kernel
theorem dX2_firstFault_2 : decode cX2_firstFault 2 = .ok (.iload_n 1, 1) := by decide +kernel
theorem dX2_firstFault_3 : decode cX2_firstFault 3 = .ok (.aload_n 0, 1) := by decide +kernel
theorem dX2_firstFault_4 : decode cX2_firstFault 4 = .ok (.getfield 15, 3) := by decide +kernel
theorem dX2_firstFault_7 : decode cX2_firstFault 7 = .ok (.if_icmp .ge 19, 3) := by decide +kernel
theorem dX2_firstFault_10 : decode cX2_firstFault 10 = .ok (.aload_n 0, 1) := by decide +kernel
theorem dX2_firstFault_11 : decode cX2_firstFault 11 = .ok (.iload_n 1, 1) := by decide +kernel
theorem dX2_firstFault_12 : decode cX2_firstFault 12 = .ok (.invokevirtual 19, 3) := by decide +kernel
theorem dX2_firstFault_15 : decode cX2_firstFault 15 = .ok (.ifCond .ne 5, 3) := by decide +kernel
theorem dX2_firstFault_18 : decode cX2_firstFault 18 = .ok (.iload_n 1, 1) := by decide +kernel
theorem dX2_firstFault_19 : decode cX2_firstFault 19 = .ok (.ireturn, 1) := by decide +kernel
theorem dX2_firstFault_20 : decode cX2_firstFault 20 = .ok (.iinc 1 1, 3) := by decide +kernel
theorem dX2_firstFault_23 : decode cX2_firstFault 23 = .ok (.goto (-21), 3) := by decide +kernel
theorem dX2_firstFault_26 : decode cX2_firstFault 26 = .ok (.aload_n 0, 1) := by decide +kernel
theorem dX2_firstFault_27 : decode cX2_firstFault 27 = .ok (.getfield 15, 3) := by decide +kernel
theorem dX2_firstFault_30 : decode cX2_firstFault 30 = .ok (.bipush 6, 2) := by decide +kernel
theorem dX2_firstFault_32 : decode cX2_firstFault 32 = .ok (.irem, 1) := by decide +kernel
theorem dX2_firstFault_33 : decode cX2_firstFault 33 = .ok (.iconst 5, 1) := by decide +kernel
theorem dX2_firstFault_34 : decode cX2_firstFault 34 = .ok (.if_icmp .ne 8, 3) := by decide +kernel
theorem dX2_firstFault_37 : decode cX2_firstFault 37 = .ok (.bipush (-6), 2) := by decide +kernel
theorem dX2_firstFault_39 : decode cX2_firstFault 39 = .ok (.goto 7, 3) := by decide +kernel
theorem dX2_firstFault_42 : decode cX2_firstFault 42 = .ok (.aload_n 0, 1) := by decide +kernel
theorem dX2_firstFault_43 : decode cX2_firstFault 43 = .ok (.getfield 15, 3) := by decide +kernel
theorem dX2_firstFault_46 : decode cX2_firstFault 46 = .ok (.ireturn, 1) := by decide +kernel
theorem dX2_canStandAt_0 : decode cX2_canStandAt 0 = .ok (.aload_n 0, 1) := by decide +kernel
theorem dX2_canStandAt_1 : decode cX2_canStandAt 1 = .ok (.iload_n 1, 1) := by decide +kernel
theorem dX2_canStandAt_2 : decode cX2_canStandAt 2 = .ok (.invokevirtual 23, 3) := by decide +kernel
theorem dX2_canStandAt_5 : decode cX2_canStandAt 5 = .ok (.istore_n 2, 1) := by decide +kernel
theorem dX2_canStandAt_6 : decode cX2_canStandAt 6 = .ok (.iload_n 1, 1) := by decide +kernel
theorem dX2_canStandAt_7 : decode cX2_canStandAt 7 = .ok (.bipush 6, 2) := by decide +kernel
theorem dX2_canStandAt_9 : decode cX2_canStandAt 9 = .ok (.irem, 1) := by decide +kernel
theorem dX2_canStandAt_10 : decode cX2_canStandAt 10 = .ok (.tableswitch 97 0 4 #[34, 40, 52, 58, 73], 34) := by decide +kernel
theorem dX2_canStandAt_44 : decode cX2_canStandAt 44 = .ok (.iload_n 2, 1) := by decide +kernel
theorem dX2_canStandAt_45 : decode cX2_canStandAt 45 = .ok (.iconst 5, 1) := by decide +kernel
theorem dX2_canStandAt_46 : decode cX2_canStandAt 46 = .ok (.invokestatic 27, 3) := by decide +kernel
theorem dX2_canStandAt_49 : decode cX2_canStandAt 49 = .ok (.ireturn, 1) := by decide +kernel
theorem dX2_canStandAt_50 : decode cX2_canStandAt 50 = .ok (.iload_n 2, 1) := by decide +kernel
theorem dX2_canStandAt_51 : decode cX2_canStandAt 51 = .ok (.bipush 58, 2) := by decide +kernel
theorem dX2_canStandAt_53 : decode cX2_canStandAt 53 = .ok (.if_icmp .ne 7, 3) := by decide +kernel
theorem dX2_canStandAt_56 : decode cX2_canStandAt 56 = .ok (.iconst 1, 1) := by decide +kernel
theorem dX2_canStandAt_57 : decode cX2_canStandAt 57 = .ok (.goto 4, 3) := by decide +kernel
theorem dX2_canStandAt_60 : decode cX2_canStandAt 60 = .ok (.iconst 0, 1) := by decide +kernel
theorem dX2_canStandAt_61 : decode cX2_canStandAt 61 = .ok (.ireturn, 1) := by decide +kernel
theorem dX2_canStandAt_62 : decode cX2_canStandAt 62 = .ok (.iload_n 2, 1) := by decide +kernel
theorem dX2_canStandAt_63 : decode cX2_canStandAt 63 = .ok (.iconst 5, 1) := by decide +kernel
theorem dX2_canStandAt_64 : decode cX2_canStandAt 64 = .ok (.invokestatic 27, 3) := by decide +kernel
theorem dX2_canStandAt_67 : decode cX2_canStandAt 67 = .ok (.ireturn, 1) := by decide +kernel
theorem dX2_canStandAt_68 : decode cX2_canStandAt 68 = .ok (.ldc 31, 2) := by decide +kernel
theorem dX2_canStandAt_70 : decode cX2_canStandAt 70 = .ok (.iload_n 2, 1) := by decide +kernel
theorem dX2_canStandAt_71 : decode cX2_canStandAt 71 = .ok (.invokevirtual 33, 3) := by decide +kernel
theorem dX2_canStandAt_74 : decode cX2_canStandAt 74 = .ok (.ifCond .lt 7, 3) := by decide +kernel
theorem dX2_canStandAt_77 : decode cX2_canStandAt 77 = .ok (.iconst 1, 1) := by decide +kernel
theorem dX2_canStandAt_78 : decode cX2_canStandAt 78 = .ok (.goto 4, 3) := by decide +kernel
theorem dX2_canStandAt_81 : decode cX2_canStandAt 81 = .ok (.iconst 0, 1) := by decide +kernel
theorem dX2_canStandAt_82 : decode cX2_canStandAt 82 = .ok (.ireturn, 1) := by decide +kernel
theorem dX2_canStandAt_83 : decode cX2_canStandAt 83 = .ok (.iload_n 2, 1) := by decide +kernel
theorem dX2_canStandAt_84 : decode cX2_canStandAt 84 = .ok (.aload_n 0, 1) := by decide +kernel
theorem dX2_canStandAt_85 : decode cX2_canStandAt 85 = .ok (.iload_n 1, 1) := by decide +kernel
theorem dX2_canStandAt_86 : decode cX2_canStandAt 86 = .ok (.iconst 2, 1) := by decide +kernel
theorem dX2_canStandAt_87 : decode cX2_canStandAt 87 = .ok (.isub, 1) := by decide +kernel
theorem dX2_canStandAt_88 : decode cX2_canStandAt 88 = .ok (.invokevirtual 23, 3) := by decide +kernel
theorem dX2_canStandAt_91 : decode cX2_canStandAt 91 = .ok (.ldc 31, 2) := by decide +kernel
theorem dX2_canStandAt_93 : decode cX2_canStandAt 93 = .ok (.aload_n 0, 1) := by decide +kernel
theorem dX2_canStandAt_94 : decode cX2_canStandAt 94 = .ok (.iload_n 1, 1) := by decide +kernel
theorem dX2_canStandAt_95 : decode cX2_canStandAt 95 = .ok (.iconst 1, 1) := by decide +kernel
theorem dX2_canStandAt_96 : decode cX2_canStandAt 96 = .ok (.isub, 1) := by decide +kernel
theorem dX2_canStandAt_97 : decode cX2_canStandAt 97 = .ok (.invokevirtual 23, 3) := by decide +kernel
theorem dX2_canStandAt_100 : decode cX2_canStandAt 100 = .ok (.invokevirtual 33, 3) := by decide +kernel
theorem dX2_canStandAt_103 : decode cX2_canStandAt 103 = .ok (.invokestatic 39, 3) := by decide +kernel
theorem dX2_canStandAt_106 : decode cX2_canStandAt 106 = .ok (.ireturn, 1) := by decide +kernel
theorem dX2_canStandAt_107 : decode cX2_canStandAt 107 = .ok (.iload_n 2, 1) := by decide +kernel
theorem dX2_canStandAt_108 : decode cX2_canStandAt 108 = .ok (.bipush 44, 2) := by decide +kernel
theorem dX2_canStandAt_110 : decode cX2_canStandAt 110 = .ok (.if_icmp .ne 7, 3) := by decide +kernel
theorem dX2_canStandAt_113 : decode cX2_canStandAt 113 = .ok (.iconst 1, 1) := by decide +kernel
theorem dX2_canStandAt_114 : decode cX2_canStandAt 114 = .ok (.goto 4, 3) := by decide +kernel
theorem dX2_canStandAt_117 : decode cX2_canStandAt 117 = .ok (.iconst 0, 1) := by decide +kernel
theorem dX2_canStandAt_118 : decode cX2_canStandAt 118 = .ok (.ireturn, 1) := by decide +kernel
theorem dX2_canBeB_0 : decode cX2_canBeB 0 = .ok (.iload_n 2, 1) := by decide +kernel
theorem dX2_canBeB_1 : decode cX2_canBeB 1 = .ok (.iconst 4, 1) := by decide +kernel
theorem dX2_canBeB_2 : decode cX2_canBeB 2 = .ok (.if_icmp .ne 10, 3) := by decide +kernel
theorem dX2_canBeB_5 : decode cX2_canBeB 5 = .ok (.iload_n 0, 1) := by decide +kernel
theorem dX2_canBeB_6 : decode cX2_canBeB 6 = .ok (.bipush 6, 2) := by decide +kernel
theorem dX2_canBeB_8 : decode cX2_canBeB 8 = .ok (.invokestatic 27, 3) := by decide +kernel
theorem dX2_canBeB_11 : decode cX2_canBeB 11 = .ok (.ireturn, 1) := by decide +kernel
theorem dX2_canBeB_12 : decode cX2_canBeB 12 = .ok (.iload_n 0, 1) := by decide +kernel
theorem dX2_canBeB_13 : decode cX2_canBeB 13 = .ok (.iconst 5, 1) := by decide +kernel
theorem dX2_canBeB_14 : decode cX2_canBeB 14 = .ok (.invokestatic 27, 3) := by decide +kernel
theorem dX2_canBeB_17 : decode cX2_canBeB 17 = .ok (.ifCond .eq 17, 3) := by decide +kernel
theorem dX2_canBeB_20 : decode cX2_canBeB 20 = .ok (.iload_n 2, 1) := by decide +kernel
theorem dX2_canBeB_21 : decode cX2_canBeB 21 = .ok (.iconst 5, 1) := by decide +kernel
theorem dX2_canBeB_22 : decode cX2_canBeB 22 = .ok (.if_icmp .eq 8, 3) := by decide +kernel
theorem dX2_canBeB_25 : decode cX2_canBeB 25 = .ok (.iload_n 0, 1) := by decide +kernel
theorem dX2_canBeB_26 : decode cX2_canBeB 26 = .ok (.iload_n 1, 1) := by decide +kernel
theorem dX2_canBeB_27 : decode cX2_canBeB 27 = .ok (.if_icmp .eq 7, 3) := by decide +kernel
theorem dX2_canBeB_30 : decode cX2_canBeB 30 = .ok (.iconst 1, 1) := by decide +kernel
theorem dX2_canBeB_31 : decode cX2_canBeB 31 = .ok (.goto 4, 3) := by decide +kernel
theorem dX2_canBeB_34 : decode cX2_canBeB 34 = .ok (.iconst 0, 1) := by decide +kernel
theorem dX2_canBeB_35 : decode cX2_canBeB 35 = .ok (.ireturn, 1) := by decide +kernel
theorem dX2_isDigit_0 : decode cX2_isDigit 0 = .ok (.iload_n 0, 1) := by decide +kernel
theorem dX2_isDigit_1 : decode cX2_isDigit 1 = .ok (.bipush 48, 2) := by decide +kernel
theorem dX2_isDigit_3 : decode cX2_isDigit 3 = .ok (.if_icmp .lt 15, 3) := by decide +kernel
theorem dX2_isDigit_6 : decode cX2_isDigit 6 = .ok (.iload_n 0, 1) := by decide +kernel
theorem dX2_isDigit_7 : decode cX2_isDigit 7 = .ok (.bipush 48, 2) := by decide +kernel
theorem dX2_isDigit_9 : decode cX2_isDigit 9 = .ok (.iload_n 1, 1) := by decide +kernel
theorem dX2_isDigit_10 : decode cX2_isDigit 10 = .ok (.iadd, 1) := by decide +kernel
theorem dX2_isDigit_11 : decode cX2_isDigit 11 = .ok (.if_icmp .gt 7, 3) := by decide +kernel
theorem dX2_isDigit_14 : decode cX2_isDigit 14 = .ok (.iconst 1, 1) := by decide +kernel
theorem dX2_isDigit_15 : decode cX2_isDigit 15 = .ok (.goto 4, 3) := by decide +kernel
theorem dX2_isDigit_18 : decode cX2_isDigit 18 = .ok (.iconst 0, 1) := by decide +kernel
theorem dX2_isDigit_19 : decode cX2_isDigit 19 = .ok (.ireturn, 1) := by decide +kernel
theorem dX2_rumours_0 : decode cX2_rumours 0 = .ok (.aload_n 0, 1) := by decide +kernel
theorem dX2_rumours_1 : decode cX2_rumours 1 = .ok (.getfield 15, 3) := by decide +kernel
theorem dX2_rumours_4 : decode cX2_rumours 4 = .ok (.iconst 1, 1) := by decide +kernel
theorem dX2_rumours_5 : decode cX2_rumours 5 = .ok (.iadd, 1) := by decide +kernel
theorem dX2_rumours_6 : decode cX2_rumours 6 = .ok (.bipush 6, 2) := by decide +kernel
theorem dX2_rumours_8 : decode cX2_rumours 8 = .ok (.idiv, 1) := by decide +kernel
theorem dX2_rumours_9 : decode cX2_rumours 9 = .ok (.ireturn, 1) := by decide +kernel
theorem dX2_tellerOf_0 : decode cX2_tellerOf 0 = .ok (.aload_n 0, 1) := by decide +kernel
theorem dX2_tellerOf_1 : decode cX2_tellerOf 1 = .ok (.iload_n 1, 1) := by decide +kernel
theorem dX2_tellerOf_2 : decode cX2_tellerOf 2 = .ok (.bipush 6, 2) := by decide +kernel
theorem dX2_tellerOf_4 : decode cX2_tellerOf 4 = .ok (.imul, 1) := by decide +kernel
theorem dX2_tellerOf_5 : decode cX2_tellerOf 5 = .ok (.iconst 0, 1) := by decide +kernel
theorem dX2_tellerOf_6 : decode cX2_tellerOf 6 = .ok (.iadd, 1) := by decide +kernel
theorem dX2_tellerOf_7 : decode cX2_tellerOf 7 = .ok (.invokevirtual 43, 3) := by decide +kernel
theorem dX2_tellerOf_10 : decode cX2_tellerOf 10 = .ok (.ireturn, 1) := by decide +kernel
theorem dX2_kindOf_0 : decode cX2_kindOf 0 = .ok (.ldc 31, 2) := by decide +kernel
theorem dX2_kindOf_2 : decode cX2_kindOf 2 = .ok (.aload_n 0, 1) := by decide +kernel
theorem dX2_kindOf_3 : decode cX2_kindOf 3 = .ok (.iload_n 1, 1) := by decide +kernel
theorem dX2_kindOf_4 : decode cX2_kindOf 4 = .ok (.bipush 6, 2) := by decide +kernel
theorem dX2_kindOf_6 : decode cX2_kindOf 6 = .ok (.imul, 1) := by decide +kernel
theorem dX2_kindOf_7 : decode cX2_kindOf 7 = .ok (.iconst 3, 1) := by decide +kernel
theorem dX2_kindOf_8 : decode cX2_kindOf 8 = .ok (.iadd, 1) := by decide +kernel
theorem dX2_kindOf_9 : decode cX2_kindOf 9 = .ok (.invokevirtual 23, 3) := by decide +kernel
theorem dX2_kindOf_12 : decode cX2_kindOf 12 = .ok (.invokevirtual 33, 3) := by decide +kernel
theorem dX2_kindOf_15 : decode cX2_kindOf 15 = .ok (.ireturn, 1) := by decide +kernel
theorem dX2_aOf_0 : decode cX2_aOf 0 = .ok (.aload_n 0, 1) := by decide +kernel
theorem dX2_aOf_1 : decode cX2_aOf 1 = .ok (.iload_n 1, 1) := by decide +kernel
theorem dX2_aOf_2 : decode cX2_aOf 2 = .ok (.bipush 6, 2) := by decide +kernel
theorem dX2_aOf_4 : decode cX2_aOf 4 = .ok (.imul, 1) := by decide +kernel
theorem dX2_aOf_5 : decode cX2_aOf 5 = .ok (.iconst 2, 1) := by decide +kernel
theorem dX2_aOf_6 : decode cX2_aOf 6 = .ok (.iadd, 1) := by decide +kernel
theorem dX2_aOf_7 : decode cX2_aOf 7 = .ok (.invokevirtual 43, 3) := by decide +kernel
theorem dX2_aOf_10 : decode cX2_aOf 10 = .ok (.ireturn, 1) := by decide +kernel
theorem dX2_bOf_0 : decode cX2_bOf 0 = .ok (.aload_n 0, 1) := by decide +kernel
theorem dX2_bOf_1 : decode cX2_bOf 1 = .ok (.iload_n 1, 1) := by decide +kernel
theorem dX2_bOf_2 : decode cX2_bOf 2 = .ok (.bipush 6, 2) := by decide +kernel
theorem dX2_bOf_4 : decode cX2_bOf 4 = .ok (.imul, 1) := by decide +kernel
theorem dX2_bOf_5 : decode cX2_bOf 5 = .ok (.iconst 4, 1) := by decide +kernel
theorem dX2_bOf_6 : decode cX2_bOf 6 = .ok (.iadd, 1) := by decide +kernel
theorem dX2_bOf_7 : decode cX2_bOf 7 = .ok (.invokevirtual 43, 3) := by decide +kernel
theorem dX2_bOf_10 : decode cX2_bOf 10 = .ok (.ireturn, 1) := by decide +kernel
theorem dX2_digitAt_0 : decode cX2_digitAt 0 = .ok (.aload_n 0, 1) := by decide +kernel
theorem dX2_digitAt_1 : decode cX2_digitAt 1 = .ok (.iload_n 1, 1) := by decide +kernel
theorem dX2_digitAt_2 : decode cX2_digitAt 2 = .ok (.invokevirtual 23, 3) := by decide +kernel
theorem dX2_digitAt_5 : decode cX2_digitAt 5 = .ok (.bipush 48, 2) := by decide +kernel
theorem dX2_digitAt_7 : decode cX2_digitAt 7 = .ok (.isub, 1) := by decide +kernel
theorem dX2_digitAt_8 : decode cX2_digitAt 8 = .ok (.ireturn, 1) := by decide +kernel
theorem dX3_init_0 : decode cX3_init 0 = .ok (.aload_n 0, 1) := by decide +kernel
theorem dX3_init_1 : decode cX3_init 1 = .ok (.invokespecial 3, 3) := by decide +kernel
theorem dX3_init_4 : decode cX3_init 4 = .ok (.return_, 1) := by decide +kernel
theorem dX3_become_0 : decode cX3_become 0 = .ok (.aload_n 0, 1) := by decide +kernel
theorem dX3_become_1 : decode cX3_become 1 = .ok (.iload_n 1, 1) := by decide +kernel
theorem dX3_become_2 : decode cX3_become 2 = .ok (.putfield 9, 3) := by decide +kernel
theorem dX3_become_5 : decode cX3_become 5 = .ok (.aload_n 0, 1) := by decide +kernel
theorem dX3_become_6 : decode cX3_become 6 = .ok (.iload_n 2, 1) := by decide +kernel
theorem dX3_become_7 : decode cX3_become 7 = .ok (.putfield 15, 3) := by decide +kernel
theorem dX3_become_10 : decode cX3_become 10 = .ok (.aload_n 0, 1) := by decide +kernel
theorem dX3_become_11 : decode cX3_become 11 = .ok (.iload_n 3, 1) := by decide +kernel
theorem dX3_become_12 : decode cX3_become 12 = .ok (.putfield 18, 3) := by decide +kernel
theorem dX3_become_15 : decode cX3_become 15 = .ok (.aload_n 0, 1) := by decide +kernel
theorem dX3_become_16 : decode cX3_become 16 = .ok (.iload 4, 2) := by decide +kernel
theorem dX3_become_18 : decode cX3_become 18 = .ok (.putfield 21, 3) := by decide +kernel
theorem dX3_become_21 : decode cX3_become 21 = .ok (.aload_n 0, 1) := by decide +kernel
theorem dX3_become_22 : decode cX3_become 22 = .ok (.iconst 0, 1) := by decide +kernel
theorem dX3_become_23 : decode cX3_become 23 = .ok (.putfield 24, 3) := by decide +kernel
theorem dX3_become_26 : decode cX3_become 26 = .ok (.return_, 1) := by decide +kernel
theorem dX3_copyFrom_0 : decode cX3_copyFrom 0 = .ok (.aload_n 0, 1) := by decide +kernel
theorem dX3_copyFrom_1 : decode cX3_copyFrom 1 = .ok (.aload_n 1, 1) := by decide +kernel
theorem dX3_copyFrom_2 : decode cX3_copyFrom 2 = .ok (.getfield 9, 3) := by decide +kernel
theorem dX3_copyFrom_5 : decode cX3_copyFrom 5 = .ok (.aload_n 1, 1) := by decide +kernel
theorem dX3_copyFrom_6 : decode cX3_copyFrom 6 = .ok (.getfield 15, 3) := by decide +kernel
theorem dX3_copyFrom_9 : decode cX3_copyFrom 9 = .ok (.aload_n 1, 1) := by decide +kernel
theorem dX3_copyFrom_10 : decode cX3_copyFrom 10 = .ok (.getfield 18, 3) := by decide +kernel
theorem dX3_copyFrom_13 : decode cX3_copyFrom 13 = .ok (.aload_n 1, 1) := by decide +kernel
theorem dX3_copyFrom_14 : decode cX3_copyFrom 14 = .ok (.getfield 21, 3) := by decide +kernel
theorem dX3_copyFrom_17 : decode cX3_copyFrom 17 = .ok (.invokevirtual 27, 3) := by decide +kernel
theorem dX3_copyFrom_20 : decode cX3_copyFrom 20 = .ok (.aload_n 0, 1) := by decide +kernel
theorem dX3_copyFrom_21 : decode cX3_copyFrom 21 = .ok (.aload_n 1, 1) := by decide +kernel
theorem dX3_copyFrom_22 : decode cX3_copyFrom 22 = .ok (.getfield 24, 3) := by decide +kernel
theorem dX3_copyFrom_25 : decode cX3_copyFrom 25 = .ok (.putfield 24, 3) := by decide +kernel
theorem dX3_copyFrom_28 : decode cX3_copyFrom 28 = .ok (.return_, 1) := by decide +kernel
theorem dX3_decide_0 : decode cX3_decide 0 = .ok (.aload_n 0, 1) := by decide +kernel
theorem dX3_decide_1 : decode cX3_decide 1 = .ok (.iload_n 1, 1) := by decide +kernel
theorem dX3_decide_2 : decode cX3_decide 2 = .ok (.ifCond .eq 7, 3) := by decide +kernel
theorem dX3_decide_5 : decode cX3_decide 5 = .ok (.iconst 1, 1) := by decide +kernel
theorem dX3_decide_6 : decode cX3_decide 6 = .ok (.goto 4, 3) := by decide +kernel
theorem dX3_decide_9 : decode cX3_decide 9 = .ok (.iconst 2, 1) := by decide +kernel
theorem dX3_decide_10 : decode cX3_decide 10 = .ok (.putfield 24, 3) := by decide +kernel
theorem dX3_decide_13 : decode cX3_decide 13 = .ok (.return_, 1) := by decide +kernel
theorem dX3_holdsIn_0 : decode cX3_holdsIn 0 = .ok (.aload_n 1, 1) := by decide +kernel
theorem dX3_holdsIn_1 : decode cX3_holdsIn 1 = .ok (.aload_n 0, 1) := by decide +kernel
theorem dX3_holdsIn_2 : decode cX3_holdsIn 2 = .ok (.getfield 18, 3) := by decide +kernel
theorem dX3_holdsIn_5 : decode cX3_holdsIn 5 = .ok (.invokestatic 31, 3) := by decide +kernel
theorem dX3_holdsIn_8 : decode cX3_holdsIn 8 = .ok (.istore_n 2, 1) := by decide +kernel
theorem dX3_holdsIn_9 : decode cX3_holdsIn 9 = .ok (.aload_n 0, 1) := by decide +kernel
theorem dX3_holdsIn_10 : decode cX3_holdsIn 10 = .ok (.getfield 15, 3) := by decide +kernel
theorem dX3_holdsIn_13 : decode cX3_holdsIn 13 = .ok (.tableswitch 131 0 4 #[35, 49, 63, 92, 110], 35) := by decide +kernel
theorem dX3_holdsIn_48 : decode cX3_holdsIn 48 = .ok (.iload_n 2, 1) := by decide +kernel
theorem dX3_holdsIn_49 : decode cX3_holdsIn 49 = .ok (.aload_n 0, 1) := by decide +kernel
theorem dX3_holdsIn_50 : decode cX3_holdsIn 50 = .ok (.getfield 21, 3) := by decide +kernel
theorem dX3_holdsIn_53 : decode cX3_holdsIn 53 = .ok (.if_icmp .ne 7, 3) := by decide +kernel
theorem dX3_holdsIn_56 : decode cX3_holdsIn 56 = .ok (.iconst 1, 1) := by decide +kernel
theorem dX3_holdsIn_57 : decode cX3_holdsIn 57 = .ok (.goto 4, 3) := by decide +kernel
theorem dX3_holdsIn_60 : decode cX3_holdsIn 60 = .ok (.iconst 0, 1) := by decide +kernel
theorem dX3_holdsIn_61 : decode cX3_holdsIn 61 = .ok (.ireturn, 1) := by decide +kernel
theorem dX3_holdsIn_62 : decode cX3_holdsIn 62 = .ok (.iload_n 2, 1) := by decide +kernel
theorem dX3_holdsIn_63 : decode cX3_holdsIn 63 = .ok (.aload_n 0, 1) := by decide +kernel
theorem dX3_holdsIn_64 : decode cX3_holdsIn 64 = .ok (.getfield 21, 3) := by decide +kernel
theorem dX3_holdsIn_67 : decode cX3_holdsIn 67 = .ok (.if_icmp .eq 7, 3) := by decide +kernel
theorem dX3_holdsIn_70 : decode cX3_holdsIn 70 = .ok (.iconst 1, 1) := by decide +kernel
theorem dX3_holdsIn_71 : decode cX3_holdsIn 71 = .ok (.goto 4, 3) := by decide +kernel
theorem dX3_holdsIn_74 : decode cX3_holdsIn 74 = .ok (.iconst 0, 1) := by decide +kernel
theorem dX3_holdsIn_75 : decode cX3_holdsIn 75 = .ok (.ireturn, 1) := by decide +kernel
theorem dX3_holdsIn_76 : decode cX3_holdsIn 76 = .ok (.iload_n 2, 1) := by decide +kernel
theorem dX3_holdsIn_77 : decode cX3_holdsIn 77 = .ok (.aload_n 0, 1) := by decide +kernel
theorem dX3_holdsIn_78 : decode cX3_holdsIn 78 = .ok (.getfield 21, 3) := by decide +kernel
theorem dX3_holdsIn_81 : decode cX3_holdsIn 81 = .ok (.if_icmp .ne 22, 3) := by decide +kernel
theorem dX3_holdsIn_84 : decode cX3_holdsIn 84 = .ok (.aload_n 1, 1) := by decide +kernel
theorem dX3_holdsIn_85 : decode cX3_holdsIn 85 = .ok (.aload_n 0, 1) := by decide +kernel
theorem dX3_holdsIn_86 : decode cX3_holdsIn 86 = .ok (.getfield 21, 3) := by decide +kernel
theorem dX3_holdsIn_89 : decode cX3_holdsIn 89 = .ok (.invokestatic 31, 3) := by decide +kernel
theorem dX3_holdsIn_92 : decode cX3_holdsIn 92 = .ok (.aload_n 0, 1) := by decide +kernel
theorem dX3_holdsIn_93 : decode cX3_holdsIn 93 = .ok (.getfield 18, 3) := by decide +kernel
theorem dX3_holdsIn_96 : decode cX3_holdsIn 96 = .ok (.if_icmp .ne 7, 3) := by decide +kernel
theorem dX3_holdsIn_99 : decode cX3_holdsIn 99 = .ok (.iconst 1, 1) := by decide +kernel
theorem dX3_holdsIn_100 : decode cX3_holdsIn 100 = .ok (.goto 4, 3) := by decide +kernel
theorem dX3_holdsIn_103 : decode cX3_holdsIn 103 = .ok (.iconst 0, 1) := by decide +kernel
theorem dX3_holdsIn_104 : decode cX3_holdsIn 104 = .ok (.ireturn, 1) := by decide +kernel
theorem dX3_holdsIn_105 : decode cX3_holdsIn 105 = .ok (.iload_n 2, 1) := by decide +kernel
theorem dX3_holdsIn_106 : decode cX3_holdsIn 106 = .ok (.aload_n 1, 1) := by decide +kernel
theorem dX3_holdsIn_107 : decode cX3_holdsIn 107 = .ok (.aload_n 0, 1) := by decide +kernel
theorem dX3_holdsIn_108 : decode cX3_holdsIn 108 = .ok (.getfield 21, 3) := by decide +kernel
theorem dX3_holdsIn_111 : decode cX3_holdsIn 111 = .ok (.invokestatic 31, 3) := by decide +kernel
theorem dX3_holdsIn_114 : decode cX3_holdsIn 114 = .ok (.if_icmp .ne 7, 3) := by decide +kernel
theorem dX3_holdsIn_117 : decode cX3_holdsIn 117 = .ok (.iconst 1, 1) := by decide +kernel
theorem dX3_holdsIn_118 : decode cX3_holdsIn 118 = .ok (.goto 4, 3) := by decide +kernel
theorem dX3_holdsIn_121 : decode cX3_holdsIn 121 = .ok (.iconst 0, 1) := by decide +kernel
theorem dX3_holdsIn_122 : decode cX3_holdsIn 122 = .ok (.ireturn, 1) := by decide +kernel
theorem dX3_holdsIn_123 : decode cX3_holdsIn 123 = .ok (.aload_n 1, 1) := by decide +kernel
theorem dX3_holdsIn_124 : decode cX3_holdsIn 124 = .ok (.aload_n 0, 1) := by decide +kernel
theorem dX3_holdsIn_125 : decode cX3_holdsIn 125 = .ok (.getfield 18, 3) := by decide +kernel
theorem dX3_holdsIn_128 : decode cX3_holdsIn 128 = .ok (.invokestatic 35, 3) := by decide +kernel
theorem dX3_holdsIn_131 : decode cX3_holdsIn 131 = .ok (.aload_n 0, 1) := by decide +kernel
theorem dX3_holdsIn_132 : decode cX3_holdsIn 132 = .ok (.getfield 21, 3) := by decide +kernel
theorem dX3_holdsIn_135 : decode cX3_holdsIn 135 = .ok (.if_icmp .ne 7, 3) := by decide +kernel
theorem dX3_holdsIn_138 : decode cX3_holdsIn 138 = .ok (.iconst 1, 1) := by decide +kernel
theorem dX3_holdsIn_139 : decode cX3_holdsIn 139 = .ok (.goto 4, 3) := by decide +kernel
theorem dX3_holdsIn_142 : decode cX3_holdsIn 142 = .ok (.iconst 0, 1) := by decide +kernel
theorem dX3_holdsIn_143 : decode cX3_holdsIn 143 = .ok (.ireturn, 1) := by decide +kernel
theorem dX3_holdsIn_144 : decode cX3_holdsIn 144 = .ok (.aload_n 1, 1) := by decide +kernel
theorem dX3_holdsIn_145 : decode cX3_holdsIn 145 = .ok (.iload_n 2, 1) := by decide +kernel
theorem dX3_holdsIn_146 : decode cX3_holdsIn 146 = .ok (.invokestatic 31, 3) := by decide +kernel
theorem dX3_holdsIn_149 : decode cX3_holdsIn 149 = .ok (.aload_n 0, 1) := by decide +kernel
theorem dX3_holdsIn_150 : decode cX3_holdsIn 150 = .ok (.getfield 21, 3) := by decide +kernel
theorem dX3_holdsIn_153 : decode cX3_holdsIn 153 = .ok (.if_icmp .ne 7, 3) := by decide +kernel
theorem dX3_holdsIn_156 : decode cX3_holdsIn 156 = .ok (.iconst 1, 1) := by decide +kernel
theorem dX3_holdsIn_157 : decode cX3_holdsIn 157 = .ok (.goto 4, 3) := by decide +kernel
theorem dX3_holdsIn_160 : decode cX3_holdsIn 160 = .ok (.iconst 0, 1) := by decide +kernel
theorem dX3_holdsIn_161 : decode cX3_holdsIn 161 = .ok (.ireturn, 1) := by decide +kernel
theorem dX3_isBrokenIn_0 : decode cX3_isBrokenIn 0 = .ok (.aload_n 0, 1) := by decide +kernel
theorem dX3_isBrokenIn_1 : decode cX3_isBrokenIn 1 = .ok (.aload_n 1, 1) := by decide +kernel
theorem dX3_isBrokenIn_2 : decode cX3_isBrokenIn 2 = .ok (.invokevirtual 38, 3) := by decide +kernel
theorem dX3_isBrokenIn_5 : decode cX3_isBrokenIn 5 = .ok (.ifCond .eq 19, 3) := by decide +kernel
theorem dX3_isBrokenIn_8 : decode cX3_isBrokenIn 8 = .ok (.aload_n 0, 1) := by decide +kernel
theorem dX3_isBrokenIn_9 : decode cX3_isBrokenIn 9 = .ok (.getfield 24, 3) := by decide +kernel
theorem dX3_isBrokenIn_12 : decode cX3_isBrokenIn 12 = .ok (.iconst 2, 1) := by decide +kernel
theorem dX3_isBrokenIn_13 : decode cX3_isBrokenIn 13 = .ok (.if_icmp .ne 7, 3) := by decide +kernel
theorem dX3_isBrokenIn_16 : decode cX3_isBrokenIn 16 = .ok (.iconst 1, 1) := by decide +kernel
theorem dX3_isBrokenIn_17 : decode cX3_isBrokenIn 17 = .ok (.goto 20, 3) := by decide +kernel
theorem dX3_isBrokenIn_20 : decode cX3_isBrokenIn 20 = .ok (.iconst 0, 1) := by decide +kernel
theorem dX3_isBrokenIn_21 : decode cX3_isBrokenIn 21 = .ok (.goto 16, 3) := by decide +kernel
theorem dX3_isBrokenIn_24 : decode cX3_isBrokenIn 24 = .ok (.aload_n 0, 1) := by decide +kernel
theorem dX3_isBrokenIn_25 : decode cX3_isBrokenIn 25 = .ok (.getfield 24, 3) := by decide +kernel
theorem dX3_isBrokenIn_28 : decode cX3_isBrokenIn 28 = .ok (.iconst 1, 1) := by decide +kernel
theorem dX3_isBrokenIn_29 : decode cX3_isBrokenIn 29 = .ok (.if_icmp .ne 7, 3) := by decide +kernel
theorem dX3_isBrokenIn_32 : decode cX3_isBrokenIn 32 = .ok (.iconst 1, 1) := by decide +kernel
theorem dX3_isBrokenIn_33 : decode cX3_isBrokenIn 33 = .ok (.goto 4, 3) := by decide +kernel
theorem dX3_isBrokenIn_36 : decode cX3_isBrokenIn 36 = .ok (.iconst 0, 1) := by decide +kernel
theorem dX3_isBrokenIn_37 : decode cX3_isBrokenIn 37 = .ok (.ireturn, 1) := by decide +kernel
theorem dX4_init_0 : decode cX4_init 0 = .ok (.aload_n 0, 1) := by decide +kernel
theorem dX4_init_1 : decode cX4_init 1 = .ok (.invokespecial 1, 3) := by decide +kernel
theorem dX4_init_4 : decode cX4_init 4 = .ok (.aload_n 0, 1) := by decide +kernel
theorem dX4_init_5 : decode cX4_init 5 = .ok (.new 7, 3) := by decide +kernel
theorem dX4_init_8 : decode cX4_init 8 = .ok (.dup, 1) := by decide +kernel
theorem dX4_init_9 : decode cX4_init 9 = .ok (.invokespecial 9, 3) := by decide +kernel
theorem dX4_init_12 : decode cX4_init 12 = .ok (.putfield 10, 3) := by decide +kernel
theorem dX4_init_15 : decode cX4_init 15 = .ok (.return_, 1) := by decide +kernel
theorem dX5_init_0 : decode cX5_init 0 = .ok (.aload_n 0, 1) := by decide +kernel
theorem dX5_init_1 : decode cX5_init 1 = .ok (.invokespecial 3, 3) := by decide +kernel
theorem dX5_init_4 : decode cX5_init 4 = .ok (.aload_n 0, 1) := by decide +kernel
theorem dX5_init_5 : decode cX5_init 5 = .ok (.new 9, 3) := by decide +kernel
theorem dX5_init_8 : decode cX5_init 8 = .ok (.dup, 1) := by decide +kernel
theorem dX5_init_9 : decode cX5_init 9 = .ok (.invokespecial 11, 3) := by decide +kernel
theorem dX5_init_12 : decode cX5_init 12 = .ok (.putfield 12, 3) := by decide +kernel
theorem dX5_init_15 : decode cX5_init 15 = .ok (.aload_n 0, 1) := by decide +kernel
theorem dX5_init_16 : decode cX5_init 16 = .ok (.bipush 36, 2) := by decide +kernel
theorem dX5_init_18 : decode cX5_init 18 = .ok (.newarray .int, 2) := by decide +kernel
theorem dX5_init_20 : decode cX5_init 20 = .ok (.putfield 18, 3) := by decide +kernel
theorem dX5_init_23 : decode cX5_init 23 = .ok (.aload_n 0, 1) := by decide +kernel
theorem dX5_init_24 : decode cX5_init 24 = .ok (.bipush 20, 2) := by decide +kernel
theorem dX5_init_26 : decode cX5_init 26 = .ok (.newarray .int, 2) := by decide +kernel
theorem dX5_init_28 : decode cX5_init 28 = .ok (.putfield 22, 3) := by decide +kernel
theorem dX5_init_31 : decode cX5_init 31 = .ok (.aload_n 0, 1) := by decide +kernel
theorem dX5_init_32 : decode cX5_init 32 = .ok (.bipush 20, 2) := by decide +kernel
theorem dX5_init_34 : decode cX5_init 34 = .ok (.newarray .int, 2) := by decide +kernel
theorem dX5_init_36 : decode cX5_init 36 = .ok (.putfield 25, 3) := by decide +kernel
theorem dX5_init_39 : decode cX5_init 39 = .ok (.aload_n 0, 1) := by decide +kernel
theorem dX5_init_40 : decode cX5_init 40 = .ok (.new 28, 3) := by decide +kernel
theorem dX5_init_43 : decode cX5_init 43 = .ok (.dup, 1) := by decide +kernel
theorem dX5_init_44 : decode cX5_init 44 = .ok (.invokespecial 30, 3) := by decide +kernel
theorem dX5_init_47 : decode cX5_init 47 = .ok (.putfield 31, 3) := by decide +kernel
theorem dX5_init_50 : decode cX5_init 50 = .ok (.return_, 1) := by decide +kernel
theorem dX5_take_0 : decode cX5_take 0 = .ok (.aload_n 0, 1) := by decide +kernel
theorem dX5_take_1 : decode cX5_take 1 = .ok (.invokevirtual 35, 3) := by decide +kernel
theorem dX5_take_4 : decode cX5_take 4 = .ok (.aload_n 0, 1) := by decide +kernel
theorem dX5_take_5 : decode cX5_take 5 = .ok (.getfield 12, 3) := by decide +kernel
theorem dX5_take_8 : decode cX5_take 8 = .ok (.aload_n 1, 1) := by decide +kernel
theorem dX5_take_9 : decode cX5_take 9 = .ok (.getfield 38, 3) := by decide +kernel
theorem dX5_take_12 : decode cX5_take 12 = .ok (.invokevirtual 44, 3) := by decide +kernel
theorem dX5_take_15 : decode cX5_take 15 = .ok (.istore_n 2, 1) := by decide +kernel
theorem dX5_take_16 : decode cX5_take 16 = .ok (.iload_n 2, 1) := by decide +kernel
theorem dX5_take_17 : decode cX5_take 17 = .ok (.ifCond .le 71, 3) := by decide +kernel
theorem dX5_take_20 : decode cX5_take 20 = .ok (.aload_n 1, 1) := by decide +kernel
theorem dX5_take_21 : decode cX5_take 21 = .ok (.iconst 0, 1) := by decide +kernel
theorem dX5_take_22 : decode cX5_take 22 = .ok (.aload_n 0, 1) := by decide +kernel
theorem dX5_take_23 : decode cX5_take 23 = .ok (.getfield 12, 3) := by decide +kernel
theorem dX5_take_26 : decode cX5_take 26 = .ok (.getfield 48, 3) := by decide +kernel
theorem dX5_take_29 : decode cX5_take 29 = .ok (.invokevirtual 51, 3) := by decide +kernel
theorem dX5_take_32 : decode cX5_take 32 = .ok (.istore_n 3, 1) := by decide +kernel
theorem dX5_take_33 : decode cX5_take 33 = .ok (.iload_n 3, 1) := by decide +kernel
theorem dX5_take_34 : decode cX5_take 34 = .ok (.bipush (-6), 2) := by decide +kernel
theorem dX5_take_36 : decode cX5_take 36 = .ok (.if_icmp .ne 11, 3) := by decide +kernel
theorem dX5_take_39 : decode cX5_take 39 = .ok (.aload_n 0, 1) := by decide +kernel
theorem dX5_take_40 : decode cX5_take 40 = .ok (.aload_n 1, 1) := by decide +kernel
theorem dX5_take_41 : decode cX5_take 41 = .ok (.invokevirtual 55, 3) := by decide +kernel
theorem dX5_take_44 : decode cX5_take 44 = .ok (.goto 31, 3) := by decide +kernel
theorem dX5_take_47 : decode cX5_take 47 = .ok (.aload_n 1, 1) := by decide +kernel
theorem dX5_take_48 : decode cX5_take 48 = .ok (.iload_n 3, 1) := by decide +kernel
theorem dX5_take_49 : decode cX5_take 49 = .ok (.iconst 1, 1) := by decide +kernel
theorem dX5_take_50 : decode cX5_take 50 = .ok (.iadd, 1) := by decide +kernel
theorem dX5_take_51 : decode cX5_take 51 = .ok (.aload_n 0, 1) := by decide +kernel
theorem dX5_take_52 : decode cX5_take 52 = .ok (.getfield 12, 3) := by decide +kernel
theorem dX5_take_55 : decode cX5_take 55 = .ok (.getfield 48, 3) := by decide +kernel
theorem dX5_take_58 : decode cX5_take 58 = .ok (.invokevirtual 51, 3) := by decide +kernel
theorem dX5_take_61 : decode cX5_take 61 = .ok (.bipush (-6), 2) := by decide +kernel
theorem dX5_take_63 : decode cX5_take 63 = .ok (.if_icmp .ne 12, 3) := by decide +kernel
theorem dX5_take_66 : decode cX5_take 66 = .ok (.aload_n 0, 1) := by decide +kernel
theorem dX5_take_67 : decode cX5_take 67 = .ok (.getfield 25, 3) := by decide +kernel
theorem dX5_take_70 : decode cX5_take 70 = .ok (.iload_n 3, 1) := by decide +kernel
theorem dX5_take_71 : decode cX5_take 71 = .ok (.iconst 1, 1) := by decide +kernel
theorem dX5_take_72 : decode cX5_take 72 = .ok (.invokestatic 59, 3) := by decide +kernel
theorem dX5_take_75 : decode cX5_take 75 = .ok (.aload_n 0, 1) := by decide +kernel
theorem dX5_take_76 : decode cX5_take 76 = .ok (.getfield 12, 3) := by decide +kernel
theorem dX5_take_79 : decode cX5_take 79 = .ok (.invokevirtual 63, 3) := by decide +kernel
theorem dX5_take_82 : decode cX5_take 82 = .ok (.iinc 2 (-1), 3) := by decide +kernel
theorem dX5_take_85 : decode cX5_take 85 = .ok (.goto (-69), 3) := by decide +kernel
theorem dX5_take_88 : decode cX5_take 88 = .ok (.return_, 1) := by decide +kernel
theorem dX5_forget_0 : decode cX5_forget 0 = .ok (.aload_n 0, 1) := by decide +kernel
theorem dX5_forget_1 : decode cX5_forget 1 = .ok (.iconst 0, 1) := by decide +kernel
theorem dX5_forget_2 : decode cX5_forget 2 = .ok (.putfield 66, 3) := by decide +kernel
theorem dX5_forget_5 : decode cX5_forget 5 = .ok (.aload_n 0, 1) := by decide +kernel
theorem dX5_forget_6 : decode cX5_forget 6 = .ok (.getfield 18, 3) := by decide +kernel
theorem dX5_forget_9 : decode cX5_forget 9 = .ok (.iconst 0, 1) := by decide +kernel
theorem dX5_forget_10 : decode cX5_forget 10 = .ok (.invokestatic 69, 3) := by decide +kernel
theorem dX5_forget_13 : decode cX5_forget 13 = .ok (.aload_n 0, 1) := by decide +kernel
theorem dX5_forget_14 : decode cX5_forget 14 = .ok (.getfield 22, 3) := by decide +kernel
theorem dX5_forget_17 : decode cX5_forget 17 = .ok (.iconst 0, 1) := by decide +kernel
theorem dX5_forget_18 : decode cX5_forget 18 = .ok (.invokestatic 69, 3) := by decide +kernel
theorem dX5_forget_21 : decode cX5_forget 21 = .ok (.aload_n 0, 1) := by decide +kernel
theorem dX5_forget_22 : decode cX5_forget 22 = .ok (.getfield 25, 3) := by decide +kernel
theorem dX5_forget_25 : decode cX5_forget 25 = .ok (.iconst 0, 1) := by decide +kernel
theorem dX5_forget_26 : decode cX5_forget 26 = .ok (.invokestatic 69, 3) := by decide +kernel
theorem dX5_forget_29 : decode cX5_forget 29 = .ok (.return_, 1) := by decide +kernel
theorem dX5_tally_0 : decode cX5_tally 0 = .ok (.aload_n 0, 1) := by decide +kernel
theorem dX5_tally_1 : decode cX5_tally 1 = .ok (.dup, 1) := by decide +kernel
theorem dX5_tally_2 : decode cX5_tally 2 = .ok (.getfield 66, 3) := by decide +kernel
theorem dX5_tally_5 : decode cX5_tally 5 = .ok (.iconst 1, 1) := by decide +kernel
theorem dX5_tally_6 : decode cX5_tally 6 = .ok (.iadd, 1) := by decide +kernel
theorem dX5_tally_7 : decode cX5_tally 7 = .ok (.putfield 66, 3) := by decide +kernel
theorem dX5_tally_10 : decode cX5_tally 10 = .ok (.iconst 0, 1) := by decide +kernel
theorem dX5_tally_11 : decode cX5_tally 11 = .ok (.istore_n 2, 1) := by decide +kernel
theorem dX5_tally_12 : decode cX5_tally 12 = .ok (.iload_n 2, 1) := by decide +kernel
theorem dX5_tally_13 : decode cX5_tally 13 = .ok (.aload_n 1, 1) := by decide +kernel
theorem dX5_tally_14 : decode cX5_tally 14 = .ok (.getfield 38, 3) := by decide +kernel
theorem dX5_tally_17 : decode cX5_tally 17 = .ok (.if_icmp .ge 33, 3) := by decide +kernel
theorem dX5_tally_20 : decode cX5_tally 20 = .ok (.aload_n 0, 1) := by decide +kernel
theorem dX5_tally_21 : decode cX5_tally 21 = .ok (.getfield 18, 3) := by decide +kernel
theorem dX5_tally_24 : decode cX5_tally 24 = .ok (.iload_n 2, 1) := by decide +kernel
theorem dX5_tally_25 : decode cX5_tally 25 = .ok (.bipush 6, 2) := by decide +kernel
theorem dX5_tally_27 : decode cX5_tally 27 = .ok (.imul, 1) := by decide +kernel
theorem dX5_tally_28 : decode cX5_tally 28 = .ok (.aload_n 0, 1) := by decide +kernel
theorem dX5_tally_29 : decode cX5_tally 29 = .ok (.getfield 12, 3) := by decide +kernel
theorem dX5_tally_32 : decode cX5_tally 32 = .ok (.getfield 48, 3) := by decide +kernel
theorem dX5_tally_35 : decode cX5_tally 35 = .ok (.iload_n 2, 1) := by decide +kernel
theorem dX5_tally_36 : decode cX5_tally 36 = .ok (.invokestatic 73, 3) := by decide +kernel
theorem dX5_tally_39 : decode cX5_tally 39 = .ok (.iadd, 1) := by decide +kernel
theorem dX5_tally_40 : decode cX5_tally 40 = .ok (.iconst 1, 1) := by decide +kernel
theorem dX5_tally_41 : decode cX5_tally 41 = .ok (.invokestatic 59, 3) := by decide +kernel
theorem dX5_tally_44 : decode cX5_tally 44 = .ok (.iinc 2 1, 3) := by decide +kernel
theorem dX5_tally_47 : decode cX5_tally 47 = .ok (.goto (-35), 3) := by decide +kernel
theorem dX5_tally_50 : decode cX5_tally 50 = .ok (.iconst 0, 1) := by decide +kernel
theorem dX5_tally_51 : decode cX5_tally 51 = .ok (.istore_n 2, 1) := by decide +kernel
theorem dX5_tally_52 : decode cX5_tally 52 = .ok (.iload_n 2, 1) := by decide +kernel
theorem dX5_tally_53 : decode cX5_tally 53 = .ok (.aload_n 1, 1) := by decide +kernel
theorem dX5_tally_54 : decode cX5_tally 54 = .ok (.getfield 77, 3) := by decide +kernel
theorem dX5_tally_57 : decode cX5_tally 57 = .ok (.if_icmp .ge 42, 3) := by decide +kernel
theorem dX5_tally_60 : decode cX5_tally 60 = .ok (.aload_n 1, 1) := by decide +kernel
theorem dX5_tally_61 : decode cX5_tally 61 = .ok (.iload_n 2, 1) := by decide +kernel
theorem dX5_tally_62 : decode cX5_tally 62 = .ok (.invokevirtual 80, 3) := by decide +kernel
theorem dX5_tally_65 : decode cX5_tally 65 = .ok (.astore_n 3, 1) := by decide +kernel
theorem dX5_tally_66 : decode cX5_tally 66 = .ok (.aload_n 3, 1) := by decide +kernel
theorem dX5_tally_67 : decode cX5_tally 67 = .ok (.ifnull 26, 3) := by decide +kernel
theorem dX5_tally_70 : decode cX5_tally 70 = .ok (.aload_n 3, 1) := by decide +kernel
theorem dX5_tally_71 : decode cX5_tally 71 = .ok (.aload_n 0, 1) := by decide +kernel
theorem dX5_tally_72 : decode cX5_tally 72 = .ok (.getfield 12, 3) := by decide +kernel
theorem dX5_tally_75 : decode cX5_tally 75 = .ok (.getfield 48, 3) := by decide +kernel
theorem dX5_tally_78 : decode cX5_tally 78 = .ok (.invokevirtual 84, 3) := by decide +kernel
theorem dX5_tally_81 : decode cX5_tally 81 = .ok (.ifCond .eq 12, 3) := by decide +kernel
theorem dX5_tally_84 : decode cX5_tally 84 = .ok (.aload_n 0, 1) := by decide +kernel
theorem dX5_tally_85 : decode cX5_tally 85 = .ok (.getfield 22, 3) := by decide +kernel
theorem dX5_tally_88 : decode cX5_tally 88 = .ok (.iload_n 2, 1) := by decide +kernel
theorem dX5_tally_89 : decode cX5_tally 89 = .ok (.iconst 1, 1) := by decide +kernel
theorem dX5_tally_90 : decode cX5_tally 90 = .ok (.invokestatic 59, 3) := by decide +kernel
theorem dX5_tally_93 : decode cX5_tally 93 = .ok (.iinc 2 1, 3) := by decide +kernel
theorem dX5_tally_96 : decode cX5_tally 96 = .ok (.goto (-44), 3) := by decide +kernel
theorem dX5_tally_99 : decode cX5_tally 99 = .ok (.return_, 1) := by decide +kernel
theorem dX5_lookingAt_0 : decode cX5_lookingAt 0 = .ok (.aload_n 0, 1) := by decide +kernel
theorem dX5_lookingAt_1 : decode cX5_lookingAt 1 = .ok (.getfield 18, 3) := by decide +kernel
theorem dX5_lookingAt_4 : decode cX5_lookingAt 4 = .ok (.iload_n 1, 1) := by decide +kernel
theorem dX5_lookingAt_5 : decode cX5_lookingAt 5 = .ok (.bipush 6, 2) := by decide +kernel
theorem dX5_lookingAt_7 : decode cX5_lookingAt 7 = .ok (.imul, 1) := by decide +kernel
theorem dX5_lookingAt_8 : decode cX5_lookingAt 8 = .ok (.iload_n 2, 1) := by decide +kernel
theorem dX5_lookingAt_9 : decode cX5_lookingAt 9 = .ok (.iadd, 1) := by decide +kernel
theorem dX5_lookingAt_10 : decode cX5_lookingAt 10 = .ok (.invokestatic 73, 3) := by decide +kernel
theorem dX5_lookingAt_13 : decode cX5_lookingAt 13 = .ok (.ireturn, 1) := by decide +kernel
theorem dX5_isCertain_0 : decode cX5_isCertain 0 = .ok (.aload_n 0, 1) := by decide +kernel
theorem dX5_isCertain_1 : decode cX5_isCertain 1 = .ok (.getfield 66, 3) := by decide +kernel
theorem dX5_isCertain_4 : decode cX5_isCertain 4 = .ok (.ifCond .le 15, 3) := by decide +kernel
theorem dX5_isCertain_7 : decode cX5_isCertain 7 = .ok (.iload_n 1, 1) := by decide +kernel
theorem dX5_isCertain_8 : decode cX5_isCertain 8 = .ok (.aload_n 0, 1) := by decide +kernel
theorem dX5_isCertain_9 : decode cX5_isCertain 9 = .ok (.getfield 66, 3) := by decide +kernel
theorem dX5_isCertain_12 : decode cX5_isCertain 12 = .ok (.if_icmp .ne 7, 3) := by decide +kernel
theorem dX5_isCertain_15 : decode cX5_isCertain 15 = .ok (.iconst 1, 1) := by decide +kernel
theorem dX5_isCertain_16 : decode cX5_isCertain 16 = .ok (.goto 4, 3) := by decide +kernel
theorem dX5_isCertain_19 : decode cX5_isCertain 19 = .ok (.iconst 0, 1) := by decide +kernel
theorem dX5_isCertain_20 : decode cX5_isCertain 20 = .ok (.ireturn, 1) := by decide +kernel
theorem dX5_isRuledOut_0 : decode cX5_isRuledOut 0 = .ok (.aload_n 0, 1) := by decide +kernel
theorem dX5_isRuledOut_1 : decode cX5_isRuledOut 1 = .ok (.getfield 66, 3) := by decide +kernel
theorem dX5_isRuledOut_4 : decode cX5_isRuledOut 4 = .ok (.ifCond .le 11, 3) := by decide +kernel
theorem dX5_isRuledOut_7 : decode cX5_isRuledOut 7 = .ok (.iload_n 1, 1) := by decide +kernel
theorem dX5_isRuledOut_8 : decode cX5_isRuledOut 8 = .ok (.ifCond .ne 7, 3) := by decide +kernel
theorem dX5_isRuledOut_11 : decode cX5_isRuledOut 11 = .ok (.iconst 1, 1) := by decide +kernel
theorem dX5_isRuledOut_12 : decode cX5_isRuledOut 12 = .ok (.goto 4, 3) := by decide +kernel
theorem dX5_isRuledOut_15 : decode cX5_isRuledOut 15 = .ok (.iconst 0, 1) := by decide +kernel
theorem dX5_isRuledOut_16 : decode cX5_isRuledOut 16 = .ok (.ireturn, 1) := by decide +kernel
theorem dX5_certainBox_0 : decode cX5_certainBox 0 = .ok (.iconst 0, 1) := by decide +kernel
theorem dX5_certainBox_1 : decode cX5_certainBox 1 = .ok (.istore_n 2, 1) := by decide +kernel
theorem dX5_certainBox_2 : decode cX5_certainBox 2 = .ok (.iload_n 2, 1) := by decide +kernel
theorem dX5_certainBox_3 : decode cX5_certainBox 3 = .ok (.bipush 6, 2) := by decide +kernel
theorem dX5_certainBox_5 : decode cX5_certainBox 5 = .ok (.if_icmp .ge 24, 3) := by decide +kernel
theorem dX5_certainBox_8 : decode cX5_certainBox 8 = .ok (.aload_n 0, 1) := by decide +kernel
theorem dX5_certainBox_9 : decode cX5_certainBox 9 = .ok (.aload_n 0, 1) := by decide +kernel
theorem dX5_certainBox_10 : decode cX5_certainBox 10 = .ok (.iload_n 1, 1) := by decide +kernel
theorem dX5_certainBox_11 : decode cX5_certainBox 11 = .ok (.iload_n 2, 1) := by decide +kernel
theorem dX5_certainBox_12 : decode cX5_certainBox 12 = .ok (.invokevirtual 88, 3) := by decide +kernel
theorem dX5_certainBox_15 : decode cX5_certainBox 15 = .ok (.invokevirtual 92, 3) := by decide +kernel
theorem dX5_certainBox_18 : decode cX5_certainBox 18 = .ok (.ifCond .eq 5, 3) := by decide +kernel
theorem dX5_certainBox_21 : decode cX5_certainBox 21 = .ok (.iload_n 2, 1) := by decide +kernel
theorem dX5_certainBox_22 : decode cX5_certainBox 22 = .ok (.ireturn, 1) := by decide +kernel
theorem dX5_certainBox_23 : decode cX5_certainBox 23 = .ok (.iinc 2 1, 3) := by decide +kernel
theorem dX5_certainBox_26 : decode cX5_certainBox 26 = .ok (.goto (-24), 3) := by decide +kernel
theorem dX5_certainBox_29 : decode cX5_certainBox 29 = .ok (.bipush (-6), 2) := by decide +kernel
theorem dX5_certainBox_31 : decode cX5_certainBox 31 = .ok (.ireturn, 1) := by decide +kernel
theorem dX5_certainPersons_0 : decode cX5_certainPersons 0 = .ok (.iconst 0, 1) := by decide +kernel
theorem dX5_certainPersons_1 : decode cX5_certainPersons 1 = .ok (.istore_n 2, 1) := by decide +kernel
theorem dX5_certainPersons_2 : decode cX5_certainPersons 2 = .ok (.iconst 0, 1) := by decide +kernel
theorem dX5_certainPersons_3 : decode cX5_certainPersons 3 = .ok (.istore_n 3, 1) := by decide +kernel
theorem dX5_certainPersons_4 : decode cX5_certainPersons 4 = .ok (.iload_n 3, 1) := by decide +kernel
theorem dX5_certainPersons_5 : decode cX5_certainPersons 5 = .ok (.iload_n 1, 1) := by decide +kernel
theorem dX5_certainPersons_6 : decode cX5_certainPersons 6 = .ok (.if_icmp .ge 22, 3) := by decide +kernel
theorem dX5_certainPersons_9 : decode cX5_certainPersons 9 = .ok (.aload_n 0, 1) := by decide +kernel
theorem dX5_certainPersons_10 : decode cX5_certainPersons 10 = .ok (.iload_n 3, 1) := by decide +kernel
theorem dX5_certainPersons_11 : decode cX5_certainPersons 11 = .ok (.invokevirtual 96, 3) := by decide +kernel
theorem dX5_certainPersons_14 : decode cX5_certainPersons 14 = .ok (.bipush (-6), 2) := by decide +kernel
theorem dX5_certainPersons_16 : decode cX5_certainPersons 16 = .ok (.if_icmp .eq 6, 3) := by decide +kernel
theorem dX5_certainPersons_19 : decode cX5_certainPersons 19 = .ok (.iinc 2 1, 3) := by decide +kernel
theorem dX5_certainPersons_22 : decode cX5_certainPersons 22 = .ok (.iinc 3 1, 3) := by decide +kernel
theorem dX5_certainPersons_25 : decode cX5_certainPersons 25 = .ok (.goto (-21), 3) := by decide +kernel
theorem dX5_certainPersons_28 : decode cX5_certainPersons 28 = .ok (.iload_n 2, 1) := by decide +kernel
theorem dX5_certainPersons_29 : decode cX5_certainPersons 29 = .ok (.ireturn, 1) := by decide +kernel
theorem dX5_openCertain_0 : decode cX5_openCertain 0 = .ok (.iconst 0, 1) := by decide +kernel
theorem dX5_openCertain_1 : decode cX5_openCertain 1 = .ok (.istore_n 2, 1) := by decide +kernel
theorem dX5_openCertain_2 : decode cX5_openCertain 2 = .ok (.iconst 0, 1) := by decide +kernel
theorem dX5_openCertain_3 : decode cX5_openCertain 3 = .ok (.istore_n 3, 1) := by decide +kernel
theorem dX5_openCertain_4 : decode cX5_openCertain 4 = .ok (.iload_n 3, 1) := by decide +kernel
theorem dX5_openCertain_5 : decode cX5_openCertain 5 = .ok (.aload_n 1, 1) := by decide +kernel
theorem dX5_openCertain_6 : decode cX5_openCertain 6 = .ok (.getfield 77, 3) := by decide +kernel
theorem dX5_openCertain_9 : decode cX5_openCertain 9 = .ok (.if_icmp .ge 35, 3) := by decide +kernel
theorem dX5_openCertain_12 : decode cX5_openCertain 12 = .ok (.aload_n 1, 1) := by decide +kernel
theorem dX5_openCertain_13 : decode cX5_openCertain 13 = .ok (.iload_n 3, 1) := by decide +kernel
theorem dX5_openCertain_14 : decode cX5_openCertain 14 = .ok (.invokevirtual 99, 3) := by decide +kernel
theorem dX5_openCertain_17 : decode cX5_openCertain 17 = .ok (.ifCond .eq 21, 3) := by decide +kernel
theorem dX5_openCertain_20 : decode cX5_openCertain 20 = .ok (.aload_n 0, 1) := by decide +kernel
theorem dX5_openCertain_21 : decode cX5_openCertain 21 = .ok (.aload_n 0, 1) := by decide +kernel
theorem dX5_openCertain_22 : decode cX5_openCertain 22 = .ok (.getfield 22, 3) := by decide +kernel
theorem dX5_openCertain_25 : decode cX5_openCertain 25 = .ok (.iload_n 3, 1) := by decide +kernel
theorem dX5_openCertain_26 : decode cX5_openCertain 26 = .ok (.invokestatic 73, 3) := by decide +kernel
theorem dX5_openCertain_29 : decode cX5_openCertain 29 = .ok (.invokevirtual 92, 3) := by decide +kernel
theorem dX5_openCertain_32 : decode cX5_openCertain 32 = .ok (.ifCond .eq 6, 3) := by decide +kernel
theorem dX5_openCertain_35 : decode cX5_openCertain 35 = .ok (.iinc 2 1, 3) := by decide +kernel
theorem dX5_openCertain_38 : decode cX5_openCertain 38 = .ok (.iinc 3 1, 3) := by decide +kernel
theorem dX5_openCertain_41 : decode cX5_openCertain 41 = .ok (.goto (-37), 3) := by decide +kernel
theorem dX5_openCertain_44 : decode cX5_openCertain 44 = .ok (.iload_n 2, 1) := by decide +kernel
theorem dX5_openCertain_45 : decode cX5_openCertain 45 = .ok (.ireturn, 1) := by decide +kernel
theorem dX5_openRuledOut_0 : decode cX5_openRuledOut 0 = .ok (.iconst 0, 1) := by decide +kernel
theorem dX5_openRuledOut_1 : decode cX5_openRuledOut 1 = .ok (.istore_n 2, 1) := by decide +kernel
theorem dX5_openRuledOut_2 : decode cX5_openRuledOut 2 = .ok (.iconst 0, 1) := by decide +kernel
theorem dX5_openRuledOut_3 : decode cX5_openRuledOut 3 = .ok (.istore_n 3, 1) := by decide +kernel
theorem dX5_openRuledOut_4 : decode cX5_openRuledOut 4 = .ok (.iload_n 3, 1) := by decide +kernel
theorem dX5_openRuledOut_5 : decode cX5_openRuledOut 5 = .ok (.aload_n 1, 1) := by decide +kernel
theorem dX5_openRuledOut_6 : decode cX5_openRuledOut 6 = .ok (.getfield 77, 3) := by decide +kernel
theorem dX5_openRuledOut_9 : decode cX5_openRuledOut 9 = .ok (.if_icmp .ge 35, 3) := by decide +kernel
theorem dX5_openRuledOut_12 : decode cX5_openRuledOut 12 = .ok (.aload_n 1, 1) := by decide +kernel
theorem dX5_openRuledOut_13 : decode cX5_openRuledOut 13 = .ok (.iload_n 3, 1) := by decide +kernel
theorem dX5_openRuledOut_14 : decode cX5_openRuledOut 14 = .ok (.invokevirtual 99, 3) := by decide +kernel
theorem dX5_openRuledOut_17 : decode cX5_openRuledOut 17 = .ok (.ifCond .eq 21, 3) := by decide +kernel
theorem dX5_openRuledOut_20 : decode cX5_openRuledOut 20 = .ok (.aload_n 0, 1) := by decide +kernel
theorem dX5_openRuledOut_21 : decode cX5_openRuledOut 21 = .ok (.aload_n 0, 1) := by decide +kernel
theorem dX5_openRuledOut_22 : decode cX5_openRuledOut 22 = .ok (.getfield 22, 3) := by decide +kernel
theorem dX5_openRuledOut_25 : decode cX5_openRuledOut 25 = .ok (.iload_n 3, 1) := by decide +kernel
theorem dX5_openRuledOut_26 : decode cX5_openRuledOut 26 = .ok (.invokestatic 73, 3) := by decide +kernel
theorem dX5_openRuledOut_29 : decode cX5_openRuledOut 29 = .ok (.invokevirtual 102, 3) := by decide +kernel
theorem dX5_openRuledOut_32 : decode cX5_openRuledOut 32 = .ok (.ifCond .eq 6, 3) := by decide +kernel
theorem dX5_openRuledOut_35 : decode cX5_openRuledOut 35 = .ok (.iinc 2 1, 3) := by decide +kernel
theorem dX5_openRuledOut_38 : decode cX5_openRuledOut 38 = .ok (.iinc 3 1, 3) := by decide +kernel
theorem dX5_openRuledOut_41 : decode cX5_openRuledOut 41 = .ok (.goto (-37), 3) := by decide +kernel
theorem dX5_openRuledOut_44 : decode cX5_openRuledOut 44 = .ok (.iload_n 2, 1) := by decide +kernel
theorem dX5_openRuledOut_45 : decode cX5_openRuledOut 45 = .ok (.ireturn, 1) := by decide +kernel
theorem dX5_worseOutcome_0 : decode cX5_worseOutcome 0 = .ok (.aload_n 0, 1) := by decide +kernel
theorem dX5_worseOutcome_1 : decode cX5_worseOutcome 1 = .ok (.getfield 22, 3) := by decide +kernel
theorem dX5_worseOutcome_4 : decode cX5_worseOutcome 4 = .ok (.iload_n 1, 1) := by decide +kernel
theorem dX5_worseOutcome_5 : decode cX5_worseOutcome 5 = .ok (.invokestatic 73, 3) := by decide +kernel
theorem dX5_worseOutcome_8 : decode cX5_worseOutcome 8 = .ok (.istore_n 2, 1) := by decide +kernel
theorem dX5_worseOutcome_9 : decode cX5_worseOutcome 9 = .ok (.iload_n 2, 1) := by decide +kernel
theorem dX5_worseOutcome_10 : decode cX5_worseOutcome 10 = .ok (.aload_n 0, 1) := by decide +kernel
theorem dX5_worseOutcome_11 : decode cX5_worseOutcome 11 = .ok (.getfield 66, 3) := by decide +kernel
theorem dX5_worseOutcome_14 : decode cX5_worseOutcome 14 = .ok (.iload_n 2, 1) := by decide +kernel
theorem dX5_worseOutcome_15 : decode cX5_worseOutcome 15 = .ok (.isub, 1) := by decide +kernel
theorem dX5_worseOutcome_16 : decode cX5_worseOutcome 16 = .ok (.invokestatic 105, 3) := by decide +kernel
theorem dX5_worseOutcome_19 : decode cX5_worseOutcome 19 = .ok (.ireturn, 1) := by decide +kernel
theorem dX5_sharpestRumour_0 : decode cX5_sharpestRumour 0 = .ok (.bipush (-6), 2) := by decide +kernel
theorem dX5_sharpestRumour_2 : decode cX5_sharpestRumour 2 = .ok (.istore_n 2, 1) := by decide +kernel
theorem dX5_sharpestRumour_3 : decode cX5_sharpestRumour 3 = .ok (.iconst 0, 1) := by decide +kernel
theorem dX5_sharpestRumour_4 : decode cX5_sharpestRumour 4 = .ok (.istore_n 3, 1) := by decide +kernel
theorem dX5_sharpestRumour_5 : decode cX5_sharpestRumour 5 = .ok (.iload_n 3, 1) := by decide +kernel
theorem dX5_sharpestRumour_6 : decode cX5_sharpestRumour 6 = .ok (.aload_n 1, 1) := by decide +kernel
theorem dX5_sharpestRumour_7 : decode cX5_sharpestRumour 7 = .ok (.getfield 77, 3) := by decide +kernel
theorem dX5_sharpestRumour_10 : decode cX5_sharpestRumour 10 = .ok (.if_icmp .ge 38, 3) := by decide +kernel
theorem dX5_sharpestRumour_13 : decode cX5_sharpestRumour 13 = .ok (.aload_n 1, 1) := by decide +kernel
theorem dX5_sharpestRumour_14 : decode cX5_sharpestRumour 14 = .ok (.iload_n 3, 1) := by decide +kernel
theorem dX5_sharpestRumour_15 : decode cX5_sharpestRumour 15 = .ok (.invokevirtual 99, 3) := by decide +kernel
theorem dX5_sharpestRumour_18 : decode cX5_sharpestRumour 18 = .ok (.ifCond .eq 24, 3) := by decide +kernel
theorem dX5_sharpestRumour_21 : decode cX5_sharpestRumour 21 = .ok (.iload_n 2, 1) := by decide +kernel
theorem dX5_sharpestRumour_22 : decode cX5_sharpestRumour 22 = .ok (.bipush (-6), 2) := by decide +kernel
theorem dX5_sharpestRumour_24 : decode cX5_sharpestRumour 24 = .ok (.if_icmp .eq 16, 3) := by decide +kernel
theorem dX5_sharpestRumour_27 : decode cX5_sharpestRumour 27 = .ok (.aload_n 0, 1) := by decide +kernel
theorem dX5_sharpestRumour_28 : decode cX5_sharpestRumour 28 = .ok (.iload_n 3, 1) := by decide +kernel
theorem dX5_sharpestRumour_29 : decode cX5_sharpestRumour 29 = .ok (.invokevirtual 110, 3) := by decide +kernel
theorem dX5_sharpestRumour_32 : decode cX5_sharpestRumour 32 = .ok (.aload_n 0, 1) := by decide +kernel
theorem dX5_sharpestRumour_33 : decode cX5_sharpestRumour 33 = .ok (.iload_n 2, 1) := by decide +kernel
theorem dX5_sharpestRumour_34 : decode cX5_sharpestRumour 34 = .ok (.invokevirtual 110, 3) := by decide +kernel
theorem dX5_sharpestRumour_37 : decode cX5_sharpestRumour 37 = .ok (.if_icmp .ge 5, 3) := by decide +kernel
theorem dX5_sharpestRumour_40 : decode cX5_sharpestRumour 40 = .ok (.iload_n 3, 1) := by decide +kernel
theorem dX5_sharpestRumour_41 : decode cX5_sharpestRumour 41 = .ok (.istore_n 2, 1) := by decide +kernel
theorem dX5_sharpestRumour_42 : decode cX5_sharpestRumour 42 = .ok (.iinc 3 1, 3) := by decide +kernel
theorem dX5_sharpestRumour_45 : decode cX5_sharpestRumour 45 = .ok (.goto (-40), 3) := by decide +kernel
theorem dX5_sharpestRumour_48 : decode cX5_sharpestRumour 48 = .ok (.iload_n 2, 1) := by decide +kernel
theorem dX5_sharpestRumour_49 : decode cX5_sharpestRumour 49 = .ok (.ireturn, 1) := by decide +kernel
theorem dX5_mostToBlame_0 : decode cX5_mostToBlame 0 = .ok (.bipush (-6), 2) := by decide +kernel
theorem dX5_mostToBlame_2 : decode cX5_mostToBlame 2 = .ok (.istore_n 2, 1) := by decide +kernel
theorem dX5_mostToBlame_3 : decode cX5_mostToBlame 3 = .ok (.iconst 0, 1) := by decide +kernel
theorem dX5_mostToBlame_4 : decode cX5_mostToBlame 4 = .ok (.istore_n 3, 1) := by decide +kernel
theorem dX5_mostToBlame_5 : decode cX5_mostToBlame 5 = .ok (.iload_n 3, 1) := by decide +kernel
theorem dX5_mostToBlame_6 : decode cX5_mostToBlame 6 = .ok (.aload_n 1, 1) := by decide +kernel
theorem dX5_mostToBlame_7 : decode cX5_mostToBlame 7 = .ok (.getfield 77, 3) := by decide +kernel
theorem dX5_mostToBlame_10 : decode cX5_mostToBlame 10 = .ok (.if_icmp .ge 44, 3) := by decide +kernel
theorem dX5_mostToBlame_13 : decode cX5_mostToBlame 13 = .ok (.aload_n 1, 1) := by decide +kernel
theorem dX5_mostToBlame_14 : decode cX5_mostToBlame 14 = .ok (.iload_n 3, 1) := by decide +kernel
theorem dX5_mostToBlame_15 : decode cX5_mostToBlame 15 = .ok (.invokevirtual 99, 3) := by decide +kernel
theorem dX5_mostToBlame_18 : decode cX5_mostToBlame 18 = .ok (.ifCond .ne 30, 3) := by decide +kernel
theorem dX5_mostToBlame_21 : decode cX5_mostToBlame 21 = .ok (.iload_n 2, 1) := by decide +kernel
theorem dX5_mostToBlame_22 : decode cX5_mostToBlame 22 = .ok (.bipush (-6), 2) := by decide +kernel
theorem dX5_mostToBlame_24 : decode cX5_mostToBlame 24 = .ok (.if_icmp .eq 22, 3) := by decide +kernel
theorem dX5_mostToBlame_27 : decode cX5_mostToBlame 27 = .ok (.aload_n 0, 1) := by decide +kernel
theorem dX5_mostToBlame_28 : decode cX5_mostToBlame 28 = .ok (.getfield 25, 3) := by decide +kernel
theorem dX5_mostToBlame_31 : decode cX5_mostToBlame 31 = .ok (.iload_n 3, 1) := by decide +kernel
theorem dX5_mostToBlame_32 : decode cX5_mostToBlame 32 = .ok (.invokestatic 73, 3) := by decide +kernel
theorem dX5_mostToBlame_35 : decode cX5_mostToBlame 35 = .ok (.aload_n 0, 1) := by decide +kernel
theorem dX5_mostToBlame_36 : decode cX5_mostToBlame 36 = .ok (.getfield 25, 3) := by decide +kernel
theorem dX5_mostToBlame_39 : decode cX5_mostToBlame 39 = .ok (.iload_n 2, 1) := by decide +kernel
theorem dX5_mostToBlame_40 : decode cX5_mostToBlame 40 = .ok (.invokestatic 73, 3) := by decide +kernel
theorem dX5_mostToBlame_43 : decode cX5_mostToBlame 43 = .ok (.if_icmp .le 5, 3) := by decide +kernel
theorem dX5_mostToBlame_46 : decode cX5_mostToBlame 46 = .ok (.iload_n 3, 1) := by decide +kernel
theorem dX5_mostToBlame_47 : decode cX5_mostToBlame 47 = .ok (.istore_n 2, 1) := by decide +kernel
theorem dX5_mostToBlame_48 : decode cX5_mostToBlame 48 = .ok (.iinc 3 1, 3) := by decide +kernel
theorem dX5_mostToBlame_51 : decode cX5_mostToBlame 51 = .ok (.goto (-46), 3) := by decide +kernel
theorem dX5_mostToBlame_54 : decode cX5_mostToBlame 54 = .ok (.iload_n 2, 1) := by decide +kernel
theorem dX5_mostToBlame_55 : decode cX5_mostToBlame 55 = .ok (.ireturn, 1) := by decide +kernel
theorem dX5_worldsWith_0 : decode cX5_worldsWith 0 = .ok (.aload_n 0, 1) := by decide +kernel
theorem dX5_worldsWith_1 : decode cX5_worldsWith 1 = .ok (.getfield 31, 3) := by decide +kernel
theorem dX5_worldsWith_4 : decode cX5_worldsWith 4 = .ok (.iconst (-1), 1) := by decide +kernel
theorem dX5_worldsWith_5 : decode cX5_worldsWith 5 = .ok (.iload_n 2, 1) := by decide +kernel
theorem dX5_worldsWith_6 : decode cX5_worldsWith 6 = .ok (.iload_n 3, 1) := by decide +kernel
theorem dX5_worldsWith_7 : decode cX5_worldsWith 7 = .ok (.iload 4, 2) := by decide +kernel
theorem dX5_worldsWith_9 : decode cX5_worldsWith 9 = .ok (.invokevirtual 113, 3) := by decide +kernel
theorem dX5_worldsWith_12 : decode cX5_worldsWith 12 = .ok (.iconst 0, 1) := by decide +kernel
theorem dX5_worldsWith_13 : decode cX5_worldsWith 13 = .ok (.istore 5, 2) := by decide +kernel
theorem dX5_worldsWith_15 : decode cX5_worldsWith 15 = .ok (.aload_n 0, 1) := by decide +kernel
theorem dX5_worldsWith_16 : decode cX5_worldsWith 16 = .ok (.getfield 12, 3) := by decide +kernel
theorem dX5_worldsWith_19 : decode cX5_worldsWith 19 = .ok (.aload_n 1, 1) := by decide +kernel
theorem dX5_worldsWith_20 : decode cX5_worldsWith 20 = .ok (.getfield 38, 3) := by decide +kernel
theorem dX5_worldsWith_23 : decode cX5_worldsWith 23 = .ok (.invokevirtual 44, 3) := by decide +kernel
theorem dX5_worldsWith_26 : decode cX5_worldsWith 26 = .ok (.istore 6, 2) := by decide +kernel
theorem dX5_worldsWith_28 : decode cX5_worldsWith 28 = .ok (.iload 6, 2) := by decide +kernel
theorem dX5_worldsWith_30 : decode cX5_worldsWith 30 = .ok (.ifCond .le 53, 3) := by decide +kernel
theorem dX5_worldsWith_33 : decode cX5_worldsWith 33 = .ok (.aload_n 0, 1) := by decide +kernel
theorem dX5_worldsWith_34 : decode cX5_worldsWith 34 = .ok (.getfield 31, 3) := by decide +kernel
theorem dX5_worldsWith_37 : decode cX5_worldsWith 37 = .ok (.aload_n 0, 1) := by decide +kernel
theorem dX5_worldsWith_38 : decode cX5_worldsWith 38 = .ok (.getfield 12, 3) := by decide +kernel
theorem dX5_worldsWith_41 : decode cX5_worldsWith 41 = .ok (.getfield 48, 3) := by decide +kernel
theorem dX5_worldsWith_44 : decode cX5_worldsWith 44 = .ok (.invokevirtual 84, 3) := by decide +kernel
theorem dX5_worldsWith_47 : decode cX5_worldsWith 47 = .ok (.ifCond .eq 23, 3) := by decide +kernel
theorem dX5_worldsWith_50 : decode cX5_worldsWith 50 = .ok (.aload_n 1, 1) := by decide +kernel
theorem dX5_worldsWith_51 : decode cX5_worldsWith 51 = .ok (.iconst 0, 1) := by decide +kernel
theorem dX5_worldsWith_52 : decode cX5_worldsWith 52 = .ok (.aload_n 0, 1) := by decide +kernel
theorem dX5_worldsWith_53 : decode cX5_worldsWith 53 = .ok (.getfield 12, 3) := by decide +kernel
theorem dX5_worldsWith_56 : decode cX5_worldsWith 56 = .ok (.getfield 48, 3) := by decide +kernel
theorem dX5_worldsWith_59 : decode cX5_worldsWith 59 = .ok (.invokevirtual 51, 3) := by decide +kernel
theorem dX5_worldsWith_62 : decode cX5_worldsWith 62 = .ok (.bipush (-6), 2) := by decide +kernel
theorem dX5_worldsWith_64 : decode cX5_worldsWith 64 = .ok (.if_icmp .ne 6, 3) := by decide +kernel
theorem dX5_worldsWith_67 : decode cX5_worldsWith 67 = .ok (.iinc 5 1, 3) := by decide +kernel
theorem dX5_worldsWith_70 : decode cX5_worldsWith 70 = .ok (.aload_n 0, 1) := by decide +kernel
theorem dX5_worldsWith_71 : decode cX5_worldsWith 71 = .ok (.getfield 12, 3) := by decide +kernel
theorem dX5_worldsWith_74 : decode cX5_worldsWith 74 = .ok (.invokevirtual 63, 3) := by decide +kernel
theorem dX5_worldsWith_77 : decode cX5_worldsWith 77 = .ok (.iinc 6 (-1), 3) := by decide +kernel
theorem dX5_worldsWith_80 : decode cX5_worldsWith 80 = .ok (.goto (-52), 3) := by decide +kernel
theorem dX5_worldsWith_83 : decode cX5_worldsWith 83 = .ok (.iload 5, 2) := by decide +kernel
theorem dX5_worldsWith_85 : decode cX5_worldsWith 85 = .ok (.ireturn, 1) := by decide +kernel
theorem dX5_findMostWatched_0 : decode cX5_findMostWatched 0 = .ok (.aload_n 0, 1) := by decide +kernel
theorem dX5_findMostWatched_1 : decode cX5_findMostWatched 1 = .ok (.iconst 0, 1) := by decide +kernel
theorem dX5_findMostWatched_2 : decode cX5_findMostWatched 2 = .ok (.putfield 117, 3) := by decide +kernel
theorem dX5_findMostWatched_5 : decode cX5_findMostWatched 5 = .ok (.aload_n 0, 1) := by decide +kernel
theorem dX5_findMostWatched_6 : decode cX5_findMostWatched 6 = .ok (.iconst 0, 1) := by decide +kernel
theorem dX5_findMostWatched_7 : decode cX5_findMostWatched 7 = .ok (.putfield 120, 3) := by decide +kernel
theorem dX5_findMostWatched_10 : decode cX5_findMostWatched 10 = .ok (.aload_n 0, 1) := by decide +kernel
theorem dX5_findMostWatched_11 : decode cX5_findMostWatched 11 = .ok (.getfield 12, 3) := by decide +kernel
theorem dX5_findMostWatched_14 : decode cX5_findMostWatched 14 = .ok (.aload_n 1, 1) := by decide +kernel
theorem dX5_findMostWatched_15 : decode cX5_findMostWatched 15 = .ok (.getfield 38, 3) := by decide +kernel
theorem dX5_findMostWatched_18 : decode cX5_findMostWatched 18 = .ok (.invokevirtual 44, 3) := by decide +kernel
theorem dX5_findMostWatched_21 : decode cX5_findMostWatched 21 = .ok (.istore_n 2, 1) := by decide +kernel
theorem dX5_findMostWatched_22 : decode cX5_findMostWatched 22 = .ok (.iload_n 2, 1) := by decide +kernel
theorem dX5_findMostWatched_23 : decode cX5_findMostWatched 23 = .ok (.ifCond .le 65, 3) := by decide +kernel
theorem dX5_findMostWatched_26 : decode cX5_findMostWatched 26 = .ok (.aload_n 1, 1) := by decide +kernel
theorem dX5_findMostWatched_27 : decode cX5_findMostWatched 27 = .ok (.iconst 0, 1) := by decide +kernel
theorem dX5_findMostWatched_28 : decode cX5_findMostWatched 28 = .ok (.aload_n 0, 1) := by decide +kernel
theorem dX5_findMostWatched_29 : decode cX5_findMostWatched 29 = .ok (.getfield 12, 3) := by decide +kernel
theorem dX5_findMostWatched_32 : decode cX5_findMostWatched 32 = .ok (.getfield 48, 3) := by decide +kernel
theorem dX5_findMostWatched_35 : decode cX5_findMostWatched 35 = .ok (.invokevirtual 51, 3) := by decide +kernel
theorem dX5_findMostWatched_38 : decode cX5_findMostWatched 38 = .ok (.bipush (-6), 2) := by decide +kernel
theorem dX5_findMostWatched_40 : decode cX5_findMostWatched 40 = .ok (.if_icmp .ne 35, 3) := by decide +kernel
theorem dX5_findMostWatched_43 : decode cX5_findMostWatched 43 = .ok (.iconst 0, 1) := by decide +kernel
theorem dX5_findMostWatched_44 : decode cX5_findMostWatched 44 = .ok (.istore_n 3, 1) := by decide +kernel
theorem dX5_findMostWatched_45 : decode cX5_findMostWatched 45 = .ok (.iload_n 3, 1) := by decide +kernel
theorem dX5_findMostWatched_46 : decode cX5_findMostWatched 46 = .ok (.aload_n 1, 1) := by decide +kernel
theorem dX5_findMostWatched_47 : decode cX5_findMostWatched 47 = .ok (.getfield 38, 3) := by decide +kernel
theorem dX5_findMostWatched_50 : decode cX5_findMostWatched 50 = .ok (.if_icmp .ge 25, 3) := by decide +kernel
theorem dX5_findMostWatched_53 : decode cX5_findMostWatched 53 = .ok (.aload_n 0, 1) := by decide +kernel
theorem dX5_findMostWatched_54 : decode cX5_findMostWatched 54 = .ok (.iload_n 3, 1) := by decide +kernel
theorem dX5_findMostWatched_55 : decode cX5_findMostWatched 55 = .ok (.aload_n 0, 1) := by decide +kernel
theorem dX5_findMostWatched_56 : decode cX5_findMostWatched 56 = .ok (.getfield 12, 3) := by decide +kernel
theorem dX5_findMostWatched_59 : decode cX5_findMostWatched 59 = .ok (.getfield 48, 3) := by decide +kernel
theorem dX5_findMostWatched_62 : decode cX5_findMostWatched 62 = .ok (.iload_n 3, 1) := by decide +kernel
theorem dX5_findMostWatched_63 : decode cX5_findMostWatched 63 = .ok (.invokestatic 123, 3) := by decide +kernel
theorem dX5_findMostWatched_66 : decode cX5_findMostWatched 66 = .ok (.invokevirtual 126, 3) := by decide +kernel
theorem dX5_findMostWatched_69 : decode cX5_findMostWatched 69 = .ok (.iinc 3 1, 3) := by decide +kernel
theorem dX5_findMostWatched_72 : decode cX5_findMostWatched 72 = .ok (.goto (-27), 3) := by decide +kernel
theorem dX5_findMostWatched_75 : decode cX5_findMostWatched 75 = .ok (.aload_n 0, 1) := by decide +kernel
theorem dX5_findMostWatched_76 : decode cX5_findMostWatched 76 = .ok (.getfield 12, 3) := by decide +kernel
theorem dX5_findMostWatched_79 : decode cX5_findMostWatched 79 = .ok (.invokevirtual 63, 3) := by decide +kernel
theorem dX5_findMostWatched_82 : decode cX5_findMostWatched 82 = .ok (.iinc 2 (-1), 3) := by decide +kernel
theorem dX5_findMostWatched_85 : decode cX5_findMostWatched 85 = .ok (.goto (-63), 3) := by decide +kernel
theorem dX5_findMostWatched_88 : decode cX5_findMostWatched 88 = .ok (.return_, 1) := by decide +kernel
theorem dX5_compareWatchers_0 : decode cX5_compareWatchers 0 = .ok (.iload_n 2, 1) := by decide +kernel
theorem dX5_compareWatchers_1 : decode cX5_compareWatchers 1 = .ok (.aload_n 0, 1) := by decide +kernel
theorem dX5_compareWatchers_2 : decode cX5_compareWatchers 2 = .ok (.getfield 120, 3) := by decide +kernel
theorem dX5_compareWatchers_5 : decode cX5_compareWatchers 5 = .ok (.if_icmp .gt 19, 3) := by decide +kernel
theorem dX5_compareWatchers_8 : decode cX5_compareWatchers 8 = .ok (.iload_n 2, 1) := by decide +kernel
theorem dX5_compareWatchers_9 : decode cX5_compareWatchers 9 = .ok (.aload_n 0, 1) := by decide +kernel
theorem dX5_compareWatchers_10 : decode cX5_compareWatchers 10 = .ok (.getfield 120, 3) := by decide +kernel
theorem dX5_compareWatchers_13 : decode cX5_compareWatchers 13 = .ok (.if_icmp .ne 21, 3) := by decide +kernel
theorem dX5_compareWatchers_16 : decode cX5_compareWatchers 16 = .ok (.iload_n 1, 1) := by decide +kernel
theorem dX5_compareWatchers_17 : decode cX5_compareWatchers 17 = .ok (.aload_n 0, 1) := by decide +kernel
theorem dX5_compareWatchers_18 : decode cX5_compareWatchers 18 = .ok (.getfield 117, 3) := by decide +kernel
theorem dX5_compareWatchers_21 : decode cX5_compareWatchers 21 = .ok (.if_icmp .ge 13, 3) := by decide +kernel
theorem dX5_compareWatchers_24 : decode cX5_compareWatchers 24 = .ok (.aload_n 0, 1) := by decide +kernel
theorem dX5_compareWatchers_25 : decode cX5_compareWatchers 25 = .ok (.iload_n 2, 1) := by decide +kernel
theorem dX5_compareWatchers_26 : decode cX5_compareWatchers 26 = .ok (.putfield 120, 3) := by decide +kernel
theorem dX5_compareWatchers_29 : decode cX5_compareWatchers 29 = .ok (.aload_n 0, 1) := by decide +kernel
theorem dX5_compareWatchers_30 : decode cX5_compareWatchers 30 = .ok (.iload_n 1, 1) := by decide +kernel
theorem dX5_compareWatchers_31 : decode cX5_compareWatchers 31 = .ok (.putfield 117, 3) := by decide +kernel
theorem dX5_compareWatchers_34 : decode cX5_compareWatchers 34 = .ok (.return_, 1) := by decide +kernel
theorem dX5_boxInWorld_0 : decode cX5_boxInWorld 0 = .ok (.iconst 0, 1) := by decide +kernel
theorem dX5_boxInWorld_1 : decode cX5_boxInWorld 1 = .ok (.istore 4, 2) := by decide +kernel
theorem dX5_boxInWorld_3 : decode cX5_boxInWorld 3 = .ok (.aload_n 0, 1) := by decide +kernel
theorem dX5_boxInWorld_4 : decode cX5_boxInWorld 4 = .ok (.getfield 12, 3) := by decide +kernel
theorem dX5_boxInWorld_7 : decode cX5_boxInWorld 7 = .ok (.aload_n 1, 1) := by decide +kernel
theorem dX5_boxInWorld_8 : decode cX5_boxInWorld 8 = .ok (.getfield 38, 3) := by decide +kernel
theorem dX5_boxInWorld_11 : decode cX5_boxInWorld 11 = .ok (.invokevirtual 44, 3) := by decide +kernel
theorem dX5_boxInWorld_14 : decode cX5_boxInWorld 14 = .ok (.istore 5, 2) := by decide +kernel
theorem dX5_boxInWorld_16 : decode cX5_boxInWorld 16 = .ok (.iload 5, 2) := by decide +kernel
theorem dX5_boxInWorld_18 : decode cX5_boxInWorld 18 = .ok (.ifCond .le 54, 3) := by decide +kernel
theorem dX5_boxInWorld_21 : decode cX5_boxInWorld 21 = .ok (.aload_n 1, 1) := by decide +kernel
theorem dX5_boxInWorld_22 : decode cX5_boxInWorld 22 = .ok (.iconst 0, 1) := by decide +kernel
theorem dX5_boxInWorld_23 : decode cX5_boxInWorld 23 = .ok (.aload_n 0, 1) := by decide +kernel
theorem dX5_boxInWorld_24 : decode cX5_boxInWorld 24 = .ok (.getfield 12, 3) := by decide +kernel
theorem dX5_boxInWorld_27 : decode cX5_boxInWorld 27 = .ok (.getfield 48, 3) := by decide +kernel
theorem dX5_boxInWorld_30 : decode cX5_boxInWorld 30 = .ok (.invokevirtual 51, 3) := by decide +kernel
theorem dX5_boxInWorld_33 : decode cX5_boxInWorld 33 = .ok (.bipush (-6), 2) := by decide +kernel
theorem dX5_boxInWorld_35 : decode cX5_boxInWorld 35 = .ok (.if_icmp .ne 24, 3) := by decide +kernel
theorem dX5_boxInWorld_38 : decode cX5_boxInWorld 38 = .ok (.iload 4, 2) := by decide +kernel
theorem dX5_boxInWorld_40 : decode cX5_boxInWorld 40 = .ok (.iload_n 2, 1) := by decide +kernel
theorem dX5_boxInWorld_41 : decode cX5_boxInWorld 41 = .ok (.if_icmp .ne 15, 3) := by decide +kernel
theorem dX5_boxInWorld_44 : decode cX5_boxInWorld 44 = .ok (.aload_n 0, 1) := by decide +kernel
theorem dX5_boxInWorld_45 : decode cX5_boxInWorld 45 = .ok (.getfield 12, 3) := by decide +kernel
theorem dX5_boxInWorld_48 : decode cX5_boxInWorld 48 = .ok (.getfield 48, 3) := by decide +kernel
theorem dX5_boxInWorld_51 : decode cX5_boxInWorld 51 = .ok (.iload_n 3, 1) := by decide +kernel
theorem dX5_boxInWorld_52 : decode cX5_boxInWorld 52 = .ok (.invokestatic 73, 3) := by decide +kernel
theorem dX5_boxInWorld_55 : decode cX5_boxInWorld 55 = .ok (.ireturn, 1) := by decide +kernel
theorem dX5_boxInWorld_56 : decode cX5_boxInWorld 56 = .ok (.iinc 4 1, 3) := by decide +kernel
theorem dX5_boxInWorld_59 : decode cX5_boxInWorld 59 = .ok (.aload_n 0, 1) := by decide +kernel
end
section
theorem dX5_boxInWorld_60 : decode cX5_boxInWorld 60 = .ok (.getfield 12, 3) := by decide +kernel
theorem dX5_boxInWorld_63 : decode cX5_boxInWorld 63 = .ok (.invokevirtual 63, 3) := by decide +kernel
theorem dX5_boxInWorld_66 : decode cX5_boxInWorld 66 = .ok (.iinc 5 (-1), 3) := by decide +kernel
theorem dX5_boxInWorld_69 : decode cX5_boxInWorld 69 = .ok (.goto (-53), 3) := by decide +kernel
theorem dX5_boxInWorld_72 : decode cX5_boxInWorld 72 = .ok (.iconst (-1), 1) := by decide +kernel
theorem dX5_boxInWorld_73 : decode cX5_boxInWorld 73 = .ok (.ireturn, 1) := by decide +kernel
theorem dX6_init_0 : decode cX6_init 0 = .ok (.aload_n 0, 1) := by decide +kernel
theorem dX6_init_1 : decode cX6_init 1 = .ok (.invokespecial 3, 3) := by decide +kernel
theorem dX6_init_4 : decode cX6_init 4 = .ok (.aload_n 0, 1) := by decide +kernel
theorem dX6_init_5 : decode cX6_init 5 = .ok (.bipush 6, 2) := by decide +kernel
theorem dX6_init_7 : decode cX6_init 7 = .ok (.newarray .int, 2) := by decide +kernel
theorem dX6_init_9 : decode cX6_init 9 = .ok (.putfield 9, 3) := by decide +kernel
theorem dX6_init_12 : decode cX6_init 12 = .ok (.return_, 1) := by decide +kernel
theorem dX6_begin_0 : decode cX6_begin 0 = .ok (.aload_n 0, 1) := by decide +kernel
theorem dX6_begin_1 : decode cX6_begin 1 = .ok (.iload_n 1, 1) := by decide +kernel
theorem dX6_begin_2 : decode cX6_begin 2 = .ok (.putfield 15, 3) := by decide +kernel
theorem dX6_begin_5 : decode cX6_begin 5 = .ok (.iconst 1, 1) := by decide +kernel
theorem dX6_begin_6 : decode cX6_begin 6 = .ok (.istore_n 2, 1) := by decide +kernel
theorem dX6_begin_7 : decode cX6_begin 7 = .ok (.iconst 0, 1) := by decide +kernel
theorem dX6_begin_8 : decode cX6_begin 8 = .ok (.istore_n 3, 1) := by decide +kernel
theorem dX6_begin_9 : decode cX6_begin 9 = .ok (.iload_n 3, 1) := by decide +kernel
theorem dX6_begin_10 : decode cX6_begin 10 = .ok (.aload_n 0, 1) := by decide +kernel
theorem dX6_begin_11 : decode cX6_begin 11 = .ok (.getfield 9, 3) := by decide +kernel
theorem dX6_begin_14 : decode cX6_begin 14 = .ok (.arraylength, 1) := by decide +kernel
theorem dX6_begin_15 : decode cX6_begin 15 = .ok (.if_icmp .ge 52, 3) := by decide +kernel
theorem dX6_begin_18 : decode cX6_begin 18 = .ok (.aload_n 0, 1) := by decide +kernel
theorem dX6_begin_19 : decode cX6_begin 19 = .ok (.getfield 9, 3) := by decide +kernel
theorem dX6_begin_22 : decode cX6_begin 22 = .ok (.iload_n 3, 1) := by decide +kernel
theorem dX6_begin_23 : decode cX6_begin 23 = .ok (.iload_n 3, 1) := by decide +kernel
theorem dX6_begin_24 : decode cX6_begin 24 = .ok (.aload_n 0, 1) := by decide +kernel
theorem dX6_begin_25 : decode cX6_begin 25 = .ok (.getfield 15, 3) := by decide +kernel
theorem dX6_begin_28 : decode cX6_begin 28 = .ok (.if_icmp .ge 10, 3) := by decide +kernel
theorem dX6_begin_31 : decode cX6_begin 31 = .ok (.iload_n 3, 1) := by decide +kernel
theorem dX6_begin_32 : decode cX6_begin 32 = .ok (.invokestatic 19, 3) := by decide +kernel
theorem dX6_begin_35 : decode cX6_begin 35 = .ok (.goto 4, 3) := by decide +kernel
theorem dX6_begin_38 : decode cX6_begin 38 = .ok (.iconst (-1), 1) := by decide +kernel
theorem dX6_begin_39 : decode cX6_begin 39 = .ok (.iastore, 1) := by decide +kernel
theorem dX6_begin_40 : decode cX6_begin 40 = .ok (.iload_n 2, 1) := by decide +kernel
theorem dX6_begin_41 : decode cX6_begin 41 = .ok (.iload_n 3, 1) := by decide +kernel
theorem dX6_begin_42 : decode cX6_begin 42 = .ok (.aload_n 0, 1) := by decide +kernel
theorem dX6_begin_43 : decode cX6_begin 43 = .ok (.getfield 15, 3) := by decide +kernel
theorem dX6_begin_46 : decode cX6_begin 46 = .ok (.if_icmp .ge 12, 3) := by decide +kernel
theorem dX6_begin_49 : decode cX6_begin 49 = .ok (.aload_n 0, 1) := by decide +kernel
theorem dX6_begin_50 : decode cX6_begin 50 = .ok (.getfield 15, 3) := by decide +kernel
theorem dX6_begin_53 : decode cX6_begin 53 = .ok (.iconst 1, 1) := by decide +kernel
theorem dX6_begin_54 : decode cX6_begin 54 = .ok (.isub, 1) := by decide +kernel
theorem dX6_begin_55 : decode cX6_begin 55 = .ok (.goto 4, 3) := by decide +kernel
theorem dX6_begin_58 : decode cX6_begin 58 = .ok (.iconst 1, 1) := by decide +kernel
theorem dX6_begin_59 : decode cX6_begin 59 = .ok (.imul, 1) := by decide +kernel
theorem dX6_begin_60 : decode cX6_begin 60 = .ok (.istore_n 2, 1) := by decide +kernel
theorem dX6_begin_61 : decode cX6_begin 61 = .ok (.iinc 3 1, 3) := by decide +kernel
theorem dX6_begin_64 : decode cX6_begin 64 = .ok (.goto (-55), 3) := by decide +kernel
theorem dX6_begin_67 : decode cX6_begin 67 = .ok (.iload_n 2, 1) := by decide +kernel
theorem dX6_begin_68 : decode cX6_begin 68 = .ok (.ireturn, 1) := by decide +kernel
theorem dX6_step_0 : decode cX6_step 0 = .ok (.aload_n 0, 1) := by decide +kernel
theorem dX6_step_1 : decode cX6_step 1 = .ok (.getfield 15, 3) := by decide +kernel
theorem dX6_step_4 : decode cX6_step 4 = .ok (.iconst 1, 1) := by decide +kernel
theorem dX6_step_5 : decode cX6_step 5 = .ok (.isub, 1) := by decide +kernel
theorem dX6_step_6 : decode cX6_step 6 = .ok (.istore_n 1, 1) := by decide +kernel
theorem dX6_step_7 : decode cX6_step 7 = .ok (.iload_n 1, 1) := by decide +kernel
theorem dX6_step_8 : decode cX6_step 8 = .ok (.ifCond .lt 58, 3) := by decide +kernel
theorem dX6_step_11 : decode cX6_step 11 = .ok (.aload_n 0, 1) := by decide +kernel
theorem dX6_step_12 : decode cX6_step 12 = .ok (.getfield 9, 3) := by decide +kernel
theorem dX6_step_15 : decode cX6_step 15 = .ok (.iload_n 1, 1) := by decide +kernel
theorem dX6_step_16 : decode cX6_step 16 = .ok (.invokestatic 23, 3) := by decide +kernel
theorem dX6_step_19 : decode cX6_step 19 = .ok (.iconst 1, 1) := by decide +kernel
theorem dX6_step_20 : decode cX6_step 20 = .ok (.iadd, 1) := by decide +kernel
theorem dX6_step_21 : decode cX6_step 21 = .ok (.istore_n 2, 1) := by decide +kernel
theorem dX6_step_22 : decode cX6_step 22 = .ok (.iload_n 2, 1) := by decide +kernel
theorem dX6_step_23 : decode cX6_step 23 = .ok (.iload_n 1, 1) := by decide +kernel
theorem dX6_step_24 : decode cX6_step 24 = .ok (.if_icmp .ne 6, 3) := by decide +kernel
theorem dX6_step_27 : decode cX6_step 27 = .ok (.iinc 2 1, 3) := by decide +kernel
theorem dX6_step_30 : decode cX6_step 30 = .ok (.iload_n 2, 1) := by decide +kernel
theorem dX6_step_31 : decode cX6_step 31 = .ok (.aload_n 0, 1) := by decide +kernel
theorem dX6_step_32 : decode cX6_step 32 = .ok (.getfield 15, 3) := by decide +kernel
theorem dX6_step_35 : decode cX6_step 35 = .ok (.if_icmp .ge 13, 3) := by decide +kernel
theorem dX6_step_38 : decode cX6_step 38 = .ok (.aload_n 0, 1) := by decide +kernel
theorem dX6_step_39 : decode cX6_step 39 = .ok (.getfield 9, 3) := by decide +kernel
theorem dX6_step_42 : decode cX6_step 42 = .ok (.iload_n 1, 1) := by decide +kernel
theorem dX6_step_43 : decode cX6_step 43 = .ok (.iload_n 2, 1) := by decide +kernel
theorem dX6_step_44 : decode cX6_step 44 = .ok (.invokestatic 27, 3) := by decide +kernel
theorem dX6_step_47 : decode cX6_step 47 = .ok (.return_, 1) := by decide +kernel
theorem dX6_step_48 : decode cX6_step 48 = .ok (.aload_n 0, 1) := by decide +kernel
theorem dX6_step_49 : decode cX6_step 49 = .ok (.getfield 9, 3) := by decide +kernel
theorem dX6_step_52 : decode cX6_step 52 = .ok (.iload_n 1, 1) := by decide +kernel
theorem dX6_step_53 : decode cX6_step 53 = .ok (.iload_n 1, 1) := by decide +kernel
theorem dX6_step_54 : decode cX6_step 54 = .ok (.invokestatic 19, 3) := by decide +kernel
theorem dX6_step_57 : decode cX6_step 57 = .ok (.invokestatic 27, 3) := by decide +kernel
theorem dX6_step_60 : decode cX6_step 60 = .ok (.iinc 1 (-1), 3) := by decide +kernel
theorem dX6_step_63 : decode cX6_step 63 = .ok (.goto (-56), 3) := by decide +kernel
theorem dX6_step_66 : decode cX6_step 66 = .ok (.return_, 1) := by decide +kernel
theorem dX6_firstBoxFor_0 : decode cX6_firstBoxFor 0 = .ok (.iload_n 0, 1) := by decide +kernel
theorem dX6_firstBoxFor_1 : decode cX6_firstBoxFor 1 = .ok (.ifCond .ne 7, 3) := by decide +kernel
theorem dX6_firstBoxFor_4 : decode cX6_firstBoxFor 4 = .ok (.iconst 1, 1) := by decide +kernel
theorem dX6_firstBoxFor_5 : decode cX6_firstBoxFor 5 = .ok (.goto 4, 3) := by decide +kernel
theorem dX6_firstBoxFor_8 : decode cX6_firstBoxFor 8 = .ok (.iconst 0, 1) := by decide +kernel
theorem dX6_firstBoxFor_9 : decode cX6_firstBoxFor 9 = .ok (.ireturn, 1) := by decide +kernel
theorem dX7_init_0 : decode cX7_init 0 = .ok (.aload_n 0, 1) := by decide +kernel
theorem dX7_init_1 : decode cX7_init 1 = .ok (.invokespecial 1, 3) := by decide +kernel
theorem dX7_init_4 : decode cX7_init 4 = .ok (.aload_n 0, 1) := by decide +kernel
theorem dX7_init_5 : decode cX7_init 5 = .ok (.new 7, 3) := by decide +kernel
theorem dX7_init_8 : decode cX7_init 8 = .ok (.dup, 1) := by decide +kernel
theorem dX7_init_9 : decode cX7_init 9 = .ok (.invokespecial 9, 3) := by decide +kernel
theorem dX7_init_12 : decode cX7_init 12 = .ok (.putfield 10, 3) := by decide +kernel
theorem dX7_init_15 : decode cX7_init 15 = .ok (.aload_n 0, 1) := by decide +kernel
theorem dX7_init_16 : decode cX7_init 16 = .ok (.new 16, 3) := by decide +kernel
theorem dX7_init_19 : decode cX7_init 19 = .ok (.dup, 1) := by decide +kernel
theorem dX7_init_20 : decode cX7_init 20 = .ok (.invokespecial 18, 3) := by decide +kernel
theorem dX7_init_23 : decode cX7_init 23 = .ok (.putfield 19, 3) := by decide +kernel
theorem dX7_init_26 : decode cX7_init 26 = .ok (.aload_n 0, 1) := by decide +kernel
theorem dX7_init_27 : decode cX7_init 27 = .ok (.new 23, 3) := by decide +kernel
theorem dX7_init_30 : decode cX7_init 30 = .ok (.dup, 1) := by decide +kernel
theorem dX7_init_31 : decode cX7_init 31 = .ok (.invokespecial 25, 3) := by decide +kernel
theorem dX7_init_34 : decode cX7_init 34 = .ok (.putfield 26, 3) := by decide +kernel
theorem dX7_init_37 : decode cX7_init 37 = .ok (.aload_n 0, 1) := by decide +kernel
theorem dX7_init_38 : decode cX7_init 38 = .ok (.new 23, 3) := by decide +kernel
theorem dX7_init_41 : decode cX7_init 41 = .ok (.dup, 1) := by decide +kernel
theorem dX7_init_42 : decode cX7_init 42 = .ok (.invokespecial 25, 3) := by decide +kernel
theorem dX7_init_45 : decode cX7_init 45 = .ok (.putfield 30, 3) := by decide +kernel
theorem dX7_init_48 : decode cX7_init 48 = .ok (.aload_n 0, 1) := by decide +kernel
theorem dX7_init_49 : decode cX7_init 49 = .ok (.new 33, 3) := by decide +kernel
theorem dX7_init_52 : decode cX7_init 52 = .ok (.dup, 1) := by decide +kernel
theorem dX7_init_53 : decode cX7_init 53 = .ok (.invokespecial 35, 3) := by decide +kernel
theorem dX7_init_56 : decode cX7_init 56 = .ok (.putfield 36, 3) := by decide +kernel
theorem dX7_init_59 : decode cX7_init 59 = .ok (.aload_n 0, 1) := by decide +kernel
theorem dX7_init_60 : decode cX7_init 60 = .ok (.new 40, 3) := by decide +kernel
theorem dX7_init_63 : decode cX7_init 63 = .ok (.dup, 1) := by decide +kernel
theorem dX7_init_64 : decode cX7_init 64 = .ok (.invokespecial 42, 3) := by decide +kernel
theorem dX7_init_67 : decode cX7_init 67 = .ok (.putfield 43, 3) := by decide +kernel
theorem dX7_init_70 : decode cX7_init 70 = .ok (.aload_n 0, 1) := by decide +kernel
theorem dX7_init_71 : decode cX7_init 71 = .ok (.getfield 10, 3) := by decide +kernel
theorem dX7_init_74 : decode cX7_init 74 = .ok (.iconst 4, 1) := by decide +kernel
theorem dX7_init_75 : decode cX7_init 75 = .ok (.invokevirtual 47, 3) := by decide +kernel
theorem dX7_init_78 : decode cX7_init 78 = .ok (.return_, 1) := by decide +kernel
theorem dX7_open_0 : decode cX7_open 0 = .ok (.iload_n 1, 1) := by decide +kernel
theorem dX7_open_1 : decode cX7_open 1 = .ok (.iconst 3, 1) := by decide +kernel
theorem dX7_open_2 : decode cX7_open 2 = .ok (.if_icmp .lt 9, 3) := by decide +kernel
theorem dX7_open_5 : decode cX7_open 5 = .ok (.iload_n 1, 1) := by decide +kernel
theorem dX7_open_6 : decode cX7_open 6 = .ok (.bipush 6, 2) := by decide +kernel
theorem dX7_open_8 : decode cX7_open 8 = .ok (.if_icmp .le 6, 3) := by decide +kernel
theorem dX7_open_11 : decode cX7_open 11 = .ok (.bipush (-2), 2) := by decide +kernel
theorem dX7_open_13 : decode cX7_open 13 = .ok (.ireturn, 1) := by decide +kernel
theorem dX7_open_14 : decode cX7_open 14 = .ok (.aload_n 0, 1) := by decide +kernel
theorem dX7_open_15 : decode cX7_open 15 = .ok (.getfield 10, 3) := by decide +kernel
theorem dX7_open_18 : decode cX7_open 18 = .ok (.getfield 51, 3) := by decide +kernel
theorem dX7_open_21 : decode cX7_open 21 = .ok (.istore_n 2, 1) := by decide +kernel
theorem dX7_open_22 : decode cX7_open 22 = .ok (.aload_n 0, 1) := by decide +kernel
theorem dX7_open_23 : decode cX7_open 23 = .ok (.invokevirtual 55, 3) := by decide +kernel
theorem dX7_open_26 : decode cX7_open 26 = .ok (.aload_n 0, 1) := by decide +kernel
theorem dX7_open_27 : decode cX7_open 27 = .ok (.getfield 10, 3) := by decide +kernel
theorem dX7_open_30 : decode cX7_open 30 = .ok (.iload_n 1, 1) := by decide +kernel
theorem dX7_open_31 : decode cX7_open 31 = .ok (.invokevirtual 47, 3) := by decide +kernel
theorem dX7_open_34 : decode cX7_open 34 = .ok (.iload_n 2, 1) := by decide +kernel
theorem dX7_open_35 : decode cX7_open 35 = .ok (.ireturn, 1) := by decide +kernel
theorem dX7_look_0 : decode cX7_look 0 = .ok (.aload_n 0, 1) := by decide +kernel
theorem dX7_look_1 : decode cX7_look 1 = .ok (.getfield 10, 3) := by decide +kernel
theorem dX7_look_4 : decode cX7_look 4 = .ok (.iload_n 1, 1) := by decide +kernel
theorem dX7_look_5 : decode cX7_look 5 = .ok (.invokevirtual 58, 3) := by decide +kernel
theorem dX7_look_8 : decode cX7_look 8 = .ok (.ifCond .eq 14, 3) := by decide +kernel
theorem dX7_look_11 : decode cX7_look 11 = .ok (.aload_n 0, 1) := by decide +kernel
theorem dX7_look_12 : decode cX7_look 12 = .ok (.getfield 10, 3) := by decide +kernel
theorem dX7_look_15 : decode cX7_look 15 = .ok (.iload_n 2, 1) := by decide +kernel
theorem dX7_look_16 : decode cX7_look 16 = .ok (.invokevirtual 58, 3) := by decide +kernel
theorem dX7_look_19 : decode cX7_look 19 = .ok (.ifCond .ne 5, 3) := by decide +kernel
theorem dX7_look_22 : decode cX7_look 22 = .ok (.iconst (-1), 1) := by decide +kernel
theorem dX7_look_23 : decode cX7_look 23 = .ok (.ireturn, 1) := by decide +kernel
theorem dX7_look_24 : decode cX7_look 24 = .ok (.iload_n 1, 1) := by decide +kernel
theorem dX7_look_25 : decode cX7_look 25 = .ok (.iload_n 2, 1) := by decide +kernel
theorem dX7_look_26 : decode cX7_look 26 = .ok (.if_icmp .ne 6, 3) := by decide +kernel
theorem dX7_look_29 : decode cX7_look 29 = .ok (.bipush (-2), 2) := by decide +kernel
theorem dX7_look_31 : decode cX7_look 31 = .ok (.ireturn, 1) := by decide +kernel
theorem dX7_look_32 : decode cX7_look 32 = .ok (.aload_n 0, 1) := by decide +kernel
theorem dX7_look_33 : decode cX7_look 33 = .ok (.getfield 10, 3) := by decide +kernel
theorem dX7_look_36 : decode cX7_look 36 = .ok (.getfield 62, 3) := by decide +kernel
theorem dX7_look_39 : decode cX7_look 39 = .ok (.iload_n 1, 1) := by decide +kernel
theorem dX7_look_40 : decode cX7_look 40 = .ok (.invokestatic 66, 3) := by decide +kernel
theorem dX7_look_43 : decode cX7_look 43 = .ok (.istore_n 3, 1) := by decide +kernel
theorem dX7_look_44 : decode cX7_look 44 = .ok (.aload_n 0, 1) := by decide +kernel
theorem dX7_look_45 : decode cX7_look 45 = .ok (.invokevirtual 55, 3) := by decide +kernel
theorem dX7_look_48 : decode cX7_look 48 = .ok (.aload_n 0, 1) := by decide +kernel
theorem dX7_look_49 : decode cX7_look 49 = .ok (.getfield 10, 3) := by decide +kernel
theorem dX7_look_52 : decode cX7_look 52 = .ok (.getfield 62, 3) := by decide +kernel
theorem dX7_look_55 : decode cX7_look 55 = .ok (.iload_n 1, 1) := by decide +kernel
theorem dX7_look_56 : decode cX7_look 56 = .ok (.iload_n 2, 1) := by decide +kernel
theorem dX7_look_57 : decode cX7_look 57 = .ok (.invokestatic 70, 3) := by decide +kernel
theorem dX7_look_60 : decode cX7_look 60 = .ok (.iload_n 3, 1) := by decide +kernel
theorem dX7_look_61 : decode cX7_look 61 = .ok (.ireturn, 1) := by decide +kernel
theorem dX7_tell_0 : decode cX7_tell 0 = .ok (.aload_n 0, 1) := by decide +kernel
theorem dX7_tell_1 : decode cX7_tell 1 = .ok (.getfield 10, 3) := by decide +kernel
theorem dX7_tell_4 : decode cX7_tell 4 = .ok (.iload_n 1, 1) := by decide +kernel
theorem dX7_tell_5 : decode cX7_tell 5 = .ok (.invokevirtual 58, 3) := by decide +kernel
theorem dX7_tell_8 : decode cX7_tell 8 = .ok (.ifCond .ne 5, 3) := by decide +kernel
theorem dX7_tell_11 : decode cX7_tell 11 = .ok (.iconst (-1), 1) := by decide +kernel
theorem dX7_tell_12 : decode cX7_tell 12 = .ok (.ireturn, 1) := by decide +kernel
theorem dX7_tell_13 : decode cX7_tell 13 = .ok (.aload_n 0, 1) := by decide +kernel
theorem dX7_tell_14 : decode cX7_tell 14 = .ok (.getfield 10, 3) := by decide +kernel
theorem dX7_tell_17 : decode cX7_tell 17 = .ok (.iload_n 2, 1) := by decide +kernel
theorem dX7_tell_18 : decode cX7_tell 18 = .ok (.iload_n 3, 1) := by decide +kernel
theorem dX7_tell_19 : decode cX7_tell 19 = .ok (.iload 4, 2) := by decide +kernel
theorem dX7_tell_21 : decode cX7_tell 21 = .ok (.invokevirtual 74, 3) := by decide +kernel
theorem dX7_tell_24 : decode cX7_tell 24 = .ok (.ifCond .ne 6, 3) := by decide +kernel
theorem dX7_tell_27 : decode cX7_tell 27 = .ok (.bipush (-2), 2) := by decide +kernel
theorem dX7_tell_29 : decode cX7_tell 29 = .ok (.ireturn, 1) := by decide +kernel
theorem dX7_tell_30 : decode cX7_tell 30 = .ok (.aload_n 0, 1) := by decide +kernel
theorem dX7_tell_31 : decode cX7_tell 31 = .ok (.getfield 10, 3) := by decide +kernel
theorem dX7_tell_34 : decode cX7_tell 34 = .ok (.iconst 1, 1) := by decide +kernel
theorem dX7_tell_35 : decode cX7_tell 35 = .ok (.invokevirtual 78, 3) := by decide +kernel
theorem dX7_tell_38 : decode cX7_tell 38 = .ok (.ifCond .ne 6, 3) := by decide +kernel
theorem dX7_tell_41 : decode cX7_tell 41 = .ok (.bipush (-4), 2) := by decide +kernel
theorem dX7_tell_43 : decode cX7_tell 43 = .ok (.ireturn, 1) := by decide +kernel
theorem dX7_tell_44 : decode cX7_tell 44 = .ok (.aload_n 0, 1) := by decide +kernel
theorem dX7_tell_45 : decode cX7_tell 45 = .ok (.invokevirtual 55, 3) := by decide +kernel
theorem dX7_tell_48 : decode cX7_tell 48 = .ok (.aload_n 0, 1) := by decide +kernel
theorem dX7_tell_49 : decode cX7_tell 49 = .ok (.getfield 10, 3) := by decide +kernel
theorem dX7_tell_52 : decode cX7_tell 52 = .ok (.iload_n 1, 1) := by decide +kernel
theorem dX7_tell_53 : decode cX7_tell 53 = .ok (.iload_n 2, 1) := by decide +kernel
theorem dX7_tell_54 : decode cX7_tell 54 = .ok (.iload_n 3, 1) := by decide +kernel
theorem dX7_tell_55 : decode cX7_tell 55 = .ok (.iload 4, 2) := by decide +kernel
theorem dX7_tell_57 : decode cX7_tell 57 = .ok (.invokevirtual 81, 3) := by decide +kernel
theorem dX7_tell_60 : decode cX7_tell 60 = .ok (.aload_n 0, 1) := by decide +kernel
theorem dX7_tell_61 : decode cX7_tell 61 = .ok (.getfield 10, 3) := by decide +kernel
theorem dX7_tell_64 : decode cX7_tell 64 = .ok (.getfield 85, 3) := by decide +kernel
theorem dX7_tell_67 : decode cX7_tell 67 = .ok (.iconst 1, 1) := by decide +kernel
theorem dX7_tell_68 : decode cX7_tell 68 = .ok (.isub, 1) := by decide +kernel
theorem dX7_tell_69 : decode cX7_tell 69 = .ok (.ireturn, 1) := by decide +kernel
theorem dX7_tellAll_0 : decode cX7_tellAll 0 = .ok (.aload_n 0, 1) := by decide +kernel
theorem dX7_tellAll_1 : decode cX7_tellAll 1 = .ok (.getfield 36, 3) := by decide +kernel
theorem dX7_tellAll_4 : decode cX7_tellAll 4 = .ok (.invokevirtual 88, 3) := by decide +kernel
theorem dX7_tellAll_7 : decode cX7_tellAll 7 = .ok (.bipush (-6), 2) := by decide +kernel
theorem dX7_tellAll_9 : decode cX7_tellAll 9 = .ok (.if_icmp .eq 6, 3) := by decide +kernel
theorem dX7_tellAll_12 : decode cX7_tellAll 12 = .ok (.bipush (-3), 2) := by decide +kernel
theorem dX7_tellAll_14 : decode cX7_tellAll 14 = .ok (.ireturn, 1) := by decide +kernel
theorem dX7_tellAll_15 : decode cX7_tellAll 15 = .ok (.aload_n 0, 1) := by decide +kernel
theorem dX7_tellAll_16 : decode cX7_tellAll 16 = .ok (.invokevirtual 92, 3) := by decide +kernel
theorem dX7_tellAll_19 : decode cX7_tellAll 19 = .ok (.ifCond .ne 5, 3) := by decide +kernel
theorem dX7_tellAll_22 : decode cX7_tellAll 22 = .ok (.iconst (-1), 1) := by decide +kernel
theorem dX7_tellAll_23 : decode cX7_tellAll 23 = .ok (.ireturn, 1) := by decide +kernel
theorem dX7_tellAll_24 : decode cX7_tellAll 24 = .ok (.aload_n 0, 1) := by decide +kernel
theorem dX7_tellAll_25 : decode cX7_tellAll 25 = .ok (.invokevirtual 96, 3) := by decide +kernel
theorem dX7_tellAll_28 : decode cX7_tellAll 28 = .ok (.ifCond .ne 6, 3) := by decide +kernel
theorem dX7_tellAll_31 : decode cX7_tellAll 31 = .ok (.bipush (-2), 2) := by decide +kernel
theorem dX7_tellAll_33 : decode cX7_tellAll 33 = .ok (.ireturn, 1) := by decide +kernel
theorem dX7_tellAll_34 : decode cX7_tellAll 34 = .ok (.aload_n 0, 1) := by decide +kernel
theorem dX7_tellAll_35 : decode cX7_tellAll 35 = .ok (.getfield 36, 3) := by decide +kernel
theorem dX7_tellAll_38 : decode cX7_tellAll 38 = .ok (.invokevirtual 99, 3) := by decide +kernel
theorem dX7_tellAll_41 : decode cX7_tellAll 41 = .ok (.istore_n 1, 1) := by decide +kernel
theorem dX7_tellAll_42 : decode cX7_tellAll 42 = .ok (.aload_n 0, 1) := by decide +kernel
theorem dX7_tellAll_43 : decode cX7_tellAll 43 = .ok (.getfield 10, 3) := by decide +kernel
theorem dX7_tellAll_46 : decode cX7_tellAll 46 = .ok (.iload_n 1, 1) := by decide +kernel
theorem dX7_tellAll_47 : decode cX7_tellAll 47 = .ok (.invokevirtual 78, 3) := by decide +kernel
theorem dX7_tellAll_50 : decode cX7_tellAll 50 = .ok (.ifCond .ne 6, 3) := by decide +kernel
theorem dX7_tellAll_53 : decode cX7_tellAll 53 = .ok (.bipush (-4), 2) := by decide +kernel
theorem dX7_tellAll_55 : decode cX7_tellAll 55 = .ok (.ireturn, 1) := by decide +kernel
theorem dX7_tellAll_56 : decode cX7_tellAll 56 = .ok (.aload_n 0, 1) := by decide +kernel
theorem dX7_tellAll_57 : decode cX7_tellAll 57 = .ok (.invokevirtual 55, 3) := by decide +kernel
theorem dX7_tellAll_60 : decode cX7_tellAll 60 = .ok (.iconst 0, 1) := by decide +kernel
theorem dX7_tellAll_61 : decode cX7_tellAll 61 = .ok (.istore_n 2, 1) := by decide +kernel
theorem dX7_tellAll_62 : decode cX7_tellAll 62 = .ok (.iload_n 2, 1) := by decide +kernel
theorem dX7_tellAll_63 : decode cX7_tellAll 63 = .ok (.iload_n 1, 1) := by decide +kernel
theorem dX7_tellAll_64 : decode cX7_tellAll 64 = .ok (.if_icmp .ge 48, 3) := by decide +kernel
theorem dX7_tellAll_67 : decode cX7_tellAll 67 = .ok (.aload_n 0, 1) := by decide +kernel
theorem dX7_tellAll_68 : decode cX7_tellAll 68 = .ok (.getfield 10, 3) := by decide +kernel
theorem dX7_tellAll_71 : decode cX7_tellAll 71 = .ok (.aload_n 0, 1) := by decide +kernel
theorem dX7_tellAll_72 : decode cX7_tellAll 72 = .ok (.getfield 36, 3) := by decide +kernel
theorem dX7_tellAll_75 : decode cX7_tellAll 75 = .ok (.iload_n 2, 1) := by decide +kernel
theorem dX7_tellAll_76 : decode cX7_tellAll 76 = .ok (.invokevirtual 102, 3) := by decide +kernel
theorem dX7_tellAll_79 : decode cX7_tellAll 79 = .ok (.aload_n 0, 1) := by decide +kernel
theorem dX7_tellAll_80 : decode cX7_tellAll 80 = .ok (.getfield 36, 3) := by decide +kernel
theorem dX7_tellAll_83 : decode cX7_tellAll 83 = .ok (.iload_n 2, 1) := by decide +kernel
theorem dX7_tellAll_84 : decode cX7_tellAll 84 = .ok (.invokevirtual 106, 3) := by decide +kernel
theorem dX7_tellAll_87 : decode cX7_tellAll 87 = .ok (.aload_n 0, 1) := by decide +kernel
theorem dX7_tellAll_88 : decode cX7_tellAll 88 = .ok (.getfield 36, 3) := by decide +kernel
theorem dX7_tellAll_91 : decode cX7_tellAll 91 = .ok (.iload_n 2, 1) := by decide +kernel
theorem dX7_tellAll_92 : decode cX7_tellAll 92 = .ok (.invokevirtual 109, 3) := by decide +kernel
theorem dX7_tellAll_95 : decode cX7_tellAll 95 = .ok (.aload_n 0, 1) := by decide +kernel
theorem dX7_tellAll_96 : decode cX7_tellAll 96 = .ok (.getfield 36, 3) := by decide +kernel
theorem dX7_tellAll_99 : decode cX7_tellAll 99 = .ok (.iload_n 2, 1) := by decide +kernel
theorem dX7_tellAll_100 : decode cX7_tellAll 100 = .ok (.invokevirtual 112, 3) := by decide +kernel
theorem dX7_tellAll_103 : decode cX7_tellAll 103 = .ok (.invokevirtual 81, 3) := by decide +kernel
theorem dX7_tellAll_106 : decode cX7_tellAll 106 = .ok (.iinc 2 1, 3) := by decide +kernel
theorem dX7_tellAll_109 : decode cX7_tellAll 109 = .ok (.goto (-47), 3) := by decide +kernel
theorem dX7_tellAll_112 : decode cX7_tellAll 112 = .ok (.aload_n 0, 1) := by decide +kernel
theorem dX7_tellAll_113 : decode cX7_tellAll 113 = .ok (.getfield 36, 3) := by decide +kernel
theorem dX7_tellAll_116 : decode cX7_tellAll 116 = .ok (.invokevirtual 115, 3) := by decide +kernel
theorem dX7_tellAll_119 : decode cX7_tellAll 119 = .ok (.iload_n 1, 1) := by decide +kernel
theorem dX7_tellAll_120 : decode cX7_tellAll 120 = .ok (.ireturn, 1) := by decide +kernel
theorem dX7_prove_0 : decode cX7_prove 0 = .ok (.aload_n 0, 1) := by decide +kernel
theorem dX7_prove_1 : decode cX7_prove 1 = .ok (.getfield 10, 3) := by decide +kernel
theorem dX7_prove_4 : decode cX7_prove 4 = .ok (.iload_n 1, 1) := by decide +kernel
theorem dX7_prove_5 : decode cX7_prove 5 = .ok (.invokevirtual 118, 3) := by decide +kernel
theorem dX7_prove_8 : decode cX7_prove 8 = .ok (.astore_n 3, 1) := by decide +kernel
theorem dX7_prove_9 : decode cX7_prove 9 = .ok (.aload_n 3, 1) := by decide +kernel
theorem dX7_prove_10 : decode cX7_prove 10 = .ok (.ifnonnull 5, 3) := by decide +kernel
theorem dX7_prove_13 : decode cX7_prove 13 = .ok (.iconst (-1), 1) := by decide +kernel
theorem dX7_prove_14 : decode cX7_prove 14 = .ok (.ireturn, 1) := by decide +kernel
theorem dX7_prove_15 : decode cX7_prove 15 = .ok (.aload_n 3, 1) := by decide +kernel
theorem dX7_prove_16 : decode cX7_prove 16 = .ok (.getfield 122, 3) := by decide +kernel
theorem dX7_prove_19 : decode cX7_prove 19 = .ok (.ifCond .eq 6, 3) := by decide +kernel
theorem dX7_prove_22 : decode cX7_prove 22 = .ok (.bipush (-5), 2) := by decide +kernel
theorem dX7_prove_24 : decode cX7_prove 24 = .ok (.ireturn, 1) := by decide +kernel
theorem dX7_prove_25 : decode cX7_prove 25 = .ok (.aload_n 0, 1) := by decide +kernel
theorem dX7_prove_26 : decode cX7_prove 26 = .ok (.invokevirtual 55, 3) := by decide +kernel
theorem dX7_prove_29 : decode cX7_prove 29 = .ok (.aload_n 3, 1) := by decide +kernel
theorem dX7_prove_30 : decode cX7_prove 30 = .ok (.iload_n 2, 1) := by decide +kernel
theorem dX7_prove_31 : decode cX7_prove 31 = .ok (.invokevirtual 127, 3) := by decide +kernel
theorem dX7_prove_34 : decode cX7_prove 34 = .ok (.aload_n 0, 1) := by decide +kernel
theorem dX7_prove_35 : decode cX7_prove 35 = .ok (.invokevirtual 131, 3) := by decide +kernel
theorem dX7_prove_38 : decode cX7_prove 38 = .ok (.getfield 135, 3) := by decide +kernel
theorem dX7_prove_41 : decode cX7_prove 41 = .ok (.ireturn, 1) := by decide +kernel
theorem dX7_reveal_0 : decode cX7_reveal 0 = .ok (.aload_n 0, 1) := by decide +kernel
theorem dX7_reveal_1 : decode cX7_reveal 1 = .ok (.invokevirtual 55, 3) := by decide +kernel
theorem dX7_reveal_4 : decode cX7_reveal 4 = .ok (.aload_n 0, 1) := by decide +kernel
theorem dX7_reveal_5 : decode cX7_reveal 5 = .ok (.getfield 10, 3) := by decide +kernel
theorem dX7_reveal_8 : decode cX7_reveal 8 = .ok (.invokevirtual 138, 3) := by decide +kernel
theorem dX7_reveal_11 : decode cX7_reveal 11 = .ok (.ireturn, 1) := by decide +kernel
theorem dX7_doubt_0 : decode cX7_doubt 0 = .ok (.aload_n 0, 1) := by decide +kernel
theorem dX7_doubt_1 : decode cX7_doubt 1 = .ok (.getfield 10, 3) := by decide +kernel
theorem dX7_doubt_4 : decode cX7_doubt 4 = .ok (.iload_n 1, 1) := by decide +kernel
theorem dX7_doubt_5 : decode cX7_doubt 5 = .ok (.invokevirtual 118, 3) := by decide +kernel
theorem dX7_doubt_8 : decode cX7_doubt 8 = .ok (.astore_n 2, 1) := by decide +kernel
theorem dX7_doubt_9 : decode cX7_doubt 9 = .ok (.aload_n 2, 1) := by decide +kernel
theorem dX7_doubt_10 : decode cX7_doubt 10 = .ok (.ifnonnull 5, 3) := by decide +kernel
theorem dX7_doubt_13 : decode cX7_doubt 13 = .ok (.iconst (-1), 1) := by decide +kernel
theorem dX7_doubt_14 : decode cX7_doubt 14 = .ok (.ireturn, 1) := by decide +kernel
theorem dX7_doubt_15 : decode cX7_doubt 15 = .ok (.aload_n 2, 1) := by decide +kernel
theorem dX7_doubt_16 : decode cX7_doubt 16 = .ok (.getfield 122, 3) := by decide +kernel
theorem dX7_doubt_19 : decode cX7_doubt 19 = .ok (.ifCond .ne 6, 3) := by decide +kernel
theorem dX7_doubt_22 : decode cX7_doubt 22 = .ok (.bipush (-5), 2) := by decide +kernel
theorem dX7_doubt_24 : decode cX7_doubt 24 = .ok (.ireturn, 1) := by decide +kernel
theorem dX7_doubt_25 : decode cX7_doubt 25 = .ok (.aload_n 0, 1) := by decide +kernel
theorem dX7_doubt_26 : decode cX7_doubt 26 = .ok (.invokevirtual 55, 3) := by decide +kernel
theorem dX7_doubt_29 : decode cX7_doubt 29 = .ok (.aload_n 2, 1) := by decide +kernel
theorem dX7_doubt_30 : decode cX7_doubt 30 = .ok (.iconst 0, 1) := by decide +kernel
theorem dX7_doubt_31 : decode cX7_doubt 31 = .ok (.putfield 122, 3) := by decide +kernel
theorem dX7_doubt_34 : decode cX7_doubt 34 = .ok (.aload_n 0, 1) := by decide +kernel
theorem dX7_doubt_35 : decode cX7_doubt 35 = .ok (.invokevirtual 131, 3) := by decide +kernel
theorem dX7_doubt_38 : decode cX7_doubt 38 = .ok (.getfield 135, 3) := by decide +kernel
theorem dX7_doubt_41 : decode cX7_doubt 41 = .ok (.ireturn, 1) := by decide +kernel
theorem dX7_guess_0 : decode cX7_guess 0 = .ok (.aload_n 0, 1) := by decide +kernel
theorem dX7_guess_1 : decode cX7_guess 1 = .ok (.getfield 10, 3) := by decide +kernel
theorem dX7_guess_4 : decode cX7_guess 4 = .ok (.iload_n 1, 1) := by decide +kernel
theorem dX7_guess_5 : decode cX7_guess 5 = .ok (.invokevirtual 58, 3) := by decide +kernel
theorem dX7_guess_8 : decode cX7_guess 8 = .ok (.ifCond .eq 25, 3) := by decide +kernel
theorem dX7_guess_11 : decode cX7_guess 11 = .ok (.aload_n 0, 1) := by decide +kernel
theorem dX7_guess_12 : decode cX7_guess 12 = .ok (.getfield 10, 3) := by decide +kernel
theorem dX7_guess_15 : decode cX7_guess 15 = .ok (.iload_n 2, 1) := by decide +kernel
theorem dX7_guess_16 : decode cX7_guess 16 = .ok (.invokevirtual 58, 3) := by decide +kernel
theorem dX7_guess_19 : decode cX7_guess 19 = .ok (.ifCond .eq 14, 3) := by decide +kernel
theorem dX7_guess_22 : decode cX7_guess 22 = .ok (.aload_n 0, 1) := by decide +kernel
theorem dX7_guess_23 : decode cX7_guess 23 = .ok (.getfield 10, 3) := by decide +kernel
theorem dX7_guess_26 : decode cX7_guess 26 = .ok (.iload_n 3, 1) := by decide +kernel
theorem dX7_guess_27 : decode cX7_guess 27 = .ok (.invokevirtual 58, 3) := by decide +kernel
theorem dX7_guess_30 : decode cX7_guess 30 = .ok (.ifCond .ne 5, 3) := by decide +kernel
theorem dX7_guess_33 : decode cX7_guess 33 = .ok (.iconst (-1), 1) := by decide +kernel
theorem dX7_guess_34 : decode cX7_guess 34 = .ok (.ireturn, 1) := by decide +kernel
theorem dX7_guess_35 : decode cX7_guess 35 = .ok (.iload_n 1, 1) := by decide +kernel
theorem dX7_guess_36 : decode cX7_guess 36 = .ok (.iload_n 2, 1) := by decide +kernel
theorem dX7_guess_37 : decode cX7_guess 37 = .ok (.if_icmp .eq 8, 3) := by decide +kernel
theorem dX7_guess_40 : decode cX7_guess 40 = .ok (.iload_n 2, 1) := by decide +kernel
theorem dX7_guess_41 : decode cX7_guess 41 = .ok (.iload_n 3, 1) := by decide +kernel
theorem dX7_guess_42 : decode cX7_guess 42 = .ok (.if_icmp .ne 6, 3) := by decide +kernel
theorem dX7_guess_45 : decode cX7_guess 45 = .ok (.bipush (-2), 2) := by decide +kernel
theorem dX7_guess_47 : decode cX7_guess 47 = .ok (.ireturn, 1) := by decide +kernel
theorem dX7_guess_48 : decode cX7_guess 48 = .ok (.aload_n 0, 1) := by decide +kernel
theorem dX7_guess_49 : decode cX7_guess 49 = .ok (.getfield 10, 3) := by decide +kernel
theorem dX7_guess_52 : decode cX7_guess 52 = .ok (.getfield 141, 3) := by decide +kernel
theorem dX7_guess_55 : decode cX7_guess 55 = .ok (.iload_n 1, 1) := by decide +kernel
theorem dX7_guess_56 : decode cX7_guess 56 = .ok (.invokestatic 66, 3) := by decide +kernel
theorem dX7_guess_59 : decode cX7_guess 59 = .ok (.ifCond .eq 6, 3) := by decide +kernel
theorem dX7_guess_62 : decode cX7_guess 62 = .ok (.bipush (-5), 2) := by decide +kernel
theorem dX7_guess_64 : decode cX7_guess 64 = .ok (.ireturn, 1) := by decide +kernel
theorem dX7_guess_65 : decode cX7_guess 65 = .ok (.aload_n 0, 1) := by decide +kernel
theorem dX7_guess_66 : decode cX7_guess 66 = .ok (.aload_n 0, 1) := by decide +kernel
theorem dX7_guess_67 : decode cX7_guess 67 = .ok (.invokevirtual 131, 3) := by decide +kernel
theorem dX7_guess_70 : decode cX7_guess 70 = .ok (.iload_n 2, 1) := by decide +kernel
theorem dX7_guess_71 : decode cX7_guess 71 = .ok (.iload_n 3, 1) := by decide +kernel
theorem dX7_guess_72 : decode cX7_guess 72 = .ok (.invokevirtual 144, 3) := by decide +kernel
theorem dX7_guess_75 : decode cX7_guess 75 = .ok (.istore 4, 2) := by decide +kernel
theorem dX7_guess_77 : decode cX7_guess 77 = .ok (.aload_n 0, 1) := by decide +kernel
theorem dX7_guess_78 : decode cX7_guess 78 = .ok (.invokevirtual 55, 3) := by decide +kernel
theorem dX7_guess_81 : decode cX7_guess 81 = .ok (.aload_n 0, 1) := by decide +kernel
theorem dX7_guess_82 : decode cX7_guess 82 = .ok (.getfield 10, 3) := by decide +kernel
theorem dX7_guess_85 : decode cX7_guess 85 = .ok (.getfield 148, 3) := by decide +kernel
theorem dX7_guess_88 : decode cX7_guess 88 = .ok (.iload_n 1, 1) := by decide +kernel
theorem dX7_guess_89 : decode cX7_guess 89 = .ok (.iload 4, 2) := by decide +kernel
theorem dX7_guess_91 : decode cX7_guess 91 = .ok (.invokestatic 151, 3) := by decide +kernel
theorem dX7_guess_94 : decode cX7_guess 94 = .ok (.aload_n 0, 1) := by decide +kernel
theorem dX7_guess_95 : decode cX7_guess 95 = .ok (.getfield 10, 3) := by decide +kernel
theorem dX7_guess_98 : decode cX7_guess 98 = .ok (.getfield 141, 3) := by decide +kernel
theorem dX7_guess_101 : decode cX7_guess 101 = .ok (.iload_n 1, 1) := by decide +kernel
theorem dX7_guess_102 : decode cX7_guess 102 = .ok (.iconst 1, 1) := by decide +kernel
theorem dX7_guess_103 : decode cX7_guess 103 = .ok (.invokestatic 70, 3) := by decide +kernel
theorem dX7_guess_106 : decode cX7_guess 106 = .ok (.sipush 1000, 3) := by decide +kernel
theorem dX7_guess_109 : decode cX7_guess 109 = .ok (.aload_n 0, 1) := by decide +kernel
theorem dX7_guess_110 : decode cX7_guess 110 = .ok (.getfield 10, 3) := by decide +kernel
theorem dX7_guess_113 : decode cX7_guess 113 = .ok (.getfield 148, 3) := by decide +kernel
theorem dX7_guess_116 : decode cX7_guess 116 = .ok (.iload_n 1, 1) := by decide +kernel
theorem dX7_guess_117 : decode cX7_guess 117 = .ok (.invokestatic 66, 3) := by decide +kernel
theorem dX7_guess_120 : decode cX7_guess 120 = .ok (.iadd, 1) := by decide +kernel
theorem dX7_guess_121 : decode cX7_guess 121 = .ok (.ireturn, 1) := by decide +kernel
theorem dX7_endAct_0 : decode cX7_endAct 0 = .ok (.aload_n 0, 1) := by decide +kernel
theorem dX7_endAct_1 : decode cX7_endAct 1 = .ok (.invokevirtual 55, 3) := by decide +kernel
theorem dX7_endAct_4 : decode cX7_endAct 4 = .ok (.aload_n 0, 1) := by decide +kernel
theorem dX7_endAct_5 : decode cX7_endAct 5 = .ok (.getfield 10, 3) := by decide +kernel
theorem dX7_endAct_8 : decode cX7_endAct 8 = .ok (.invokevirtual 154, 3) := by decide +kernel
theorem dX7_endAct_11 : decode cX7_endAct 11 = .ok (.aload_n 0, 1) := by decide +kernel
theorem dX7_endAct_12 : decode cX7_endAct 12 = .ok (.getfield 10, 3) := by decide +kernel
theorem dX7_endAct_15 : decode cX7_endAct 15 = .ok (.getfield 157, 3) := by decide +kernel
theorem dX7_endAct_18 : decode cX7_endAct 18 = .ok (.ireturn, 1) := by decide +kernel
theorem dX7_person_0 : decode cX7_person 0 = .ok (.aload_n 0, 1) := by decide +kernel
theorem dX7_person_1 : decode cX7_person 1 = .ok (.getfield 10, 3) := by decide +kernel
theorem dX7_person_4 : decode cX7_person 4 = .ok (.iload_n 1, 1) := by decide +kernel
theorem dX7_person_5 : decode cX7_person 5 = .ok (.invokevirtual 58, 3) := by decide +kernel
theorem dX7_person_8 : decode cX7_person 8 = .ok (.ifCond .ne 5, 3) := by decide +kernel
theorem dX7_person_11 : decode cX7_person 11 = .ok (.iconst (-1), 1) := by decide +kernel
theorem dX7_person_12 : decode cX7_person 12 = .ok (.ireturn, 1) := by decide +kernel
theorem dX7_person_13 : decode cX7_person 13 = .ok (.iload_n 2, 1) := by decide +kernel
theorem dX7_person_14 : decode cX7_person 14 = .ok (.tableswitch 108 0 5 #[38, 50, 66, 78, 87, 96], 38) := by decide +kernel
theorem dX7_person_52 : decode cX7_person 52 = .ok (.aload_n 0, 1) := by decide +kernel
theorem dX7_person_53 : decode cX7_person 53 = .ok (.getfield 10, 3) := by decide +kernel
theorem dX7_person_56 : decode cX7_person 56 = .ok (.getfield 62, 3) := by decide +kernel
theorem dX7_person_59 : decode cX7_person 59 = .ok (.iload_n 1, 1) := by decide +kernel
theorem dX7_person_60 : decode cX7_person 60 = .ok (.invokestatic 66, 3) := by decide +kernel
theorem dX7_person_63 : decode cX7_person 63 = .ok (.ireturn, 1) := by decide +kernel
theorem dX7_person_64 : decode cX7_person 64 = .ok (.sipush 1000, 3) := by decide +kernel
theorem dX7_person_67 : decode cX7_person 67 = .ok (.aload_n 0, 1) := by decide +kernel
theorem dX7_person_68 : decode cX7_person 68 = .ok (.getfield 10, 3) := by decide +kernel
theorem dX7_person_71 : decode cX7_person 71 = .ok (.getfield 148, 3) := by decide +kernel
theorem dX7_person_74 : decode cX7_person 74 = .ok (.iload_n 1, 1) := by decide +kernel
theorem dX7_person_75 : decode cX7_person 75 = .ok (.invokestatic 66, 3) := by decide +kernel
theorem dX7_person_78 : decode cX7_person 78 = .ok (.iadd, 1) := by decide +kernel
theorem dX7_person_79 : decode cX7_person 79 = .ok (.ireturn, 1) := by decide +kernel
theorem dX7_person_80 : decode cX7_person 80 = .ok (.aload_n 0, 1) := by decide +kernel
theorem dX7_person_81 : decode cX7_person 81 = .ok (.getfield 10, 3) := by decide +kernel
theorem dX7_person_84 : decode cX7_person 84 = .ok (.getfield 141, 3) := by decide +kernel
theorem dX7_person_87 : decode cX7_person 87 = .ok (.iload_n 1, 1) := by decide +kernel
theorem dX7_person_88 : decode cX7_person 88 = .ok (.invokestatic 66, 3) := by decide +kernel
theorem dX7_person_91 : decode cX7_person 91 = .ok (.ireturn, 1) := by decide +kernel
theorem dX7_person_92 : decode cX7_person 92 = .ok (.aload_n 0, 1) := by decide +kernel
theorem dX7_person_93 : decode cX7_person 93 = .ok (.getfield 10, 3) := by decide +kernel
theorem dX7_person_96 : decode cX7_person 96 = .ok (.iload_n 1, 1) := by decide +kernel
theorem dX7_person_97 : decode cX7_person 97 = .ok (.invokevirtual 160, 3) := by decide +kernel
theorem dX7_person_100 : decode cX7_person 100 = .ok (.ireturn, 1) := by decide +kernel
theorem dX7_person_101 : decode cX7_person 101 = .ok (.aload_n 0, 1) := by decide +kernel
theorem dX7_person_102 : decode cX7_person 102 = .ok (.getfield 10, 3) := by decide +kernel
theorem dX7_person_105 : decode cX7_person 105 = .ok (.iload_n 1, 1) := by decide +kernel
theorem dX7_person_106 : decode cX7_person 106 = .ok (.invokevirtual 163, 3) := by decide +kernel
theorem dX7_person_109 : decode cX7_person 109 = .ok (.ireturn, 1) := by decide +kernel
theorem dX7_person_110 : decode cX7_person 110 = .ok (.aload_n 0, 1) := by decide +kernel
theorem dX7_person_111 : decode cX7_person 111 = .ok (.getfield 10, 3) := by decide +kernel
theorem dX7_person_114 : decode cX7_person 114 = .ok (.getfield 62, 3) := by decide +kernel
theorem dX7_person_117 : decode cX7_person 117 = .ok (.iload_n 1, 1) := by decide +kernel
theorem dX7_person_118 : decode cX7_person 118 = .ok (.invokestatic 166, 3) := by decide +kernel
theorem dX7_person_121 : decode cX7_person 121 = .ok (.ireturn, 1) := by decide +kernel
theorem dX7_person_122 : decode cX7_person 122 = .ok (.bipush (-2), 2) := by decide +kernel
theorem dX7_person_124 : decode cX7_person 124 = .ok (.ireturn, 1) := by decide +kernel
theorem dX7_rumour_0 : decode cX7_rumour 0 = .ok (.aload_n 0, 1) := by decide +kernel
theorem dX7_rumour_1 : decode cX7_rumour 1 = .ok (.getfield 10, 3) := by decide +kernel
theorem dX7_rumour_4 : decode cX7_rumour 4 = .ok (.iload_n 1, 1) := by decide +kernel
theorem dX7_rumour_5 : decode cX7_rumour 5 = .ok (.invokevirtual 118, 3) := by decide +kernel
theorem dX7_rumour_8 : decode cX7_rumour 8 = .ok (.astore_n 3, 1) := by decide +kernel
theorem dX7_rumour_9 : decode cX7_rumour 9 = .ok (.aload_n 3, 1) := by decide +kernel
theorem dX7_rumour_10 : decode cX7_rumour 10 = .ok (.ifnonnull 5, 3) := by decide +kernel
theorem dX7_rumour_13 : decode cX7_rumour 13 = .ok (.iconst (-1), 1) := by decide +kernel
theorem dX7_rumour_14 : decode cX7_rumour 14 = .ok (.ireturn, 1) := by decide +kernel
theorem dX7_rumour_15 : decode cX7_rumour 15 = .ok (.iload_n 2, 1) := by decide +kernel
theorem dX7_rumour_16 : decode cX7_rumour 16 = .ok (.tableswitch 101 0 6 #[44, 49, 54, 59, 64, 69, 89], 44) := by decide +kernel
theorem dX7_rumour_60 : decode cX7_rumour 60 = .ok (.aload_n 3, 1) := by decide +kernel
theorem dX7_rumour_61 : decode cX7_rumour 61 = .ok (.getfield 169, 3) := by decide +kernel
theorem dX7_rumour_64 : decode cX7_rumour 64 = .ok (.ireturn, 1) := by decide +kernel
theorem dX7_rumour_65 : decode cX7_rumour 65 = .ok (.aload_n 3, 1) := by decide +kernel
theorem dX7_rumour_66 : decode cX7_rumour 66 = .ok (.getfield 172, 3) := by decide +kernel
theorem dX7_rumour_69 : decode cX7_rumour 69 = .ok (.ireturn, 1) := by decide +kernel
theorem dX7_rumour_70 : decode cX7_rumour 70 = .ok (.aload_n 3, 1) := by decide +kernel
theorem dX7_rumour_71 : decode cX7_rumour 71 = .ok (.getfield 175, 3) := by decide +kernel
theorem dX7_rumour_74 : decode cX7_rumour 74 = .ok (.ireturn, 1) := by decide +kernel
theorem dX7_rumour_75 : decode cX7_rumour 75 = .ok (.aload_n 3, 1) := by decide +kernel
theorem dX7_rumour_76 : decode cX7_rumour 76 = .ok (.getfield 178, 3) := by decide +kernel
theorem dX7_rumour_79 : decode cX7_rumour 79 = .ok (.ireturn, 1) := by decide +kernel
theorem dX7_rumour_80 : decode cX7_rumour 80 = .ok (.aload_n 3, 1) := by decide +kernel
theorem dX7_rumour_81 : decode cX7_rumour 81 = .ok (.getfield 122, 3) := by decide +kernel
theorem dX7_rumour_84 : decode cX7_rumour 84 = .ok (.ireturn, 1) := by decide +kernel
theorem dX7_rumour_85 : decode cX7_rumour 85 = .ok (.aload_n 3, 1) := by decide +kernel
theorem dX7_rumour_86 : decode cX7_rumour 86 = .ok (.aload_n 0, 1) := by decide +kernel
theorem dX7_rumour_87 : decode cX7_rumour 87 = .ok (.getfield 10, 3) := by decide +kernel
theorem dX7_rumour_90 : decode cX7_rumour 90 = .ok (.getfield 62, 3) := by decide +kernel
theorem dX7_rumour_93 : decode cX7_rumour 93 = .ok (.invokevirtual 181, 3) := by decide +kernel
theorem dX7_rumour_96 : decode cX7_rumour 96 = .ok (.ifCond .eq 7, 3) := by decide +kernel
theorem dX7_rumour_99 : decode cX7_rumour 99 = .ok (.iconst 1, 1) := by decide +kernel
theorem dX7_rumour_100 : decode cX7_rumour 100 = .ok (.goto 4, 3) := by decide +kernel
theorem dX7_rumour_103 : decode cX7_rumour 103 = .ok (.iconst 0, 1) := by decide +kernel
theorem dX7_rumour_104 : decode cX7_rumour 104 = .ok (.ireturn, 1) := by decide +kernel
theorem dX7_rumour_105 : decode cX7_rumour 105 = .ok (.aload_n 0, 1) := by decide +kernel
theorem dX7_rumour_106 : decode cX7_rumour 106 = .ok (.invokevirtual 131, 3) := by decide +kernel
theorem dX7_rumour_109 : decode cX7_rumour 109 = .ok (.getfield 185, 3) := by decide +kernel
theorem dX7_rumour_112 : decode cX7_rumour 112 = .ok (.iload_n 1, 1) := by decide +kernel
theorem dX7_rumour_113 : decode cX7_rumour 113 = .ok (.invokestatic 66, 3) := by decide +kernel
theorem dX7_rumour_116 : decode cX7_rumour 116 = .ok (.ireturn, 1) := by decide +kernel
theorem dX7_rumour_117 : decode cX7_rumour 117 = .ok (.bipush (-2), 2) := by decide +kernel
theorem dX7_rumour_119 : decode cX7_rumour 119 = .ok (.ireturn, 1) := by decide +kernel
theorem dX7_count_0 : decode cX7_count 0 = .ok (.iload_n 1, 1) := by decide +kernel
theorem dX7_count_1 : decode cX7_count 1 = .ok (.tableswitch 180 0 10 #[59, 67, 75, 83, 91, 117, 125, 140, 152, 164, 172], 59) := by decide +kernel
theorem dX7_count_60 : decode cX7_count 60 = .ok (.aload_n 0, 1) := by decide +kernel
theorem dX7_count_61 : decode cX7_count 61 = .ok (.getfield 10, 3) := by decide +kernel
theorem dX7_count_64 : decode cX7_count 64 = .ok (.getfield 51, 3) := by decide +kernel
theorem dX7_count_67 : decode cX7_count 67 = .ok (.ireturn, 1) := by decide +kernel
theorem dX7_count_68 : decode cX7_count 68 = .ok (.aload_n 0, 1) := by decide +kernel
theorem dX7_count_69 : decode cX7_count 69 = .ok (.getfield 10, 3) := by decide +kernel
theorem dX7_count_72 : decode cX7_count 72 = .ok (.getfield 85, 3) := by decide +kernel
theorem dX7_count_75 : decode cX7_count 75 = .ok (.ireturn, 1) := by decide +kernel
theorem dX7_count_76 : decode cX7_count 76 = .ok (.aload_n 0, 1) := by decide +kernel
theorem dX7_count_77 : decode cX7_count 77 = .ok (.getfield 10, 3) := by decide +kernel
theorem dX7_count_80 : decode cX7_count 80 = .ok (.invokevirtual 188, 3) := by decide +kernel
theorem dX7_count_83 : decode cX7_count 83 = .ok (.ireturn, 1) := by decide +kernel
theorem dX7_count_84 : decode cX7_count 84 = .ok (.aload_n 0, 1) := by decide +kernel
theorem dX7_count_85 : decode cX7_count 85 = .ok (.invokevirtual 131, 3) := by decide +kernel
theorem dX7_count_88 : decode cX7_count 88 = .ok (.getfield 135, 3) := by decide +kernel
theorem dX7_count_91 : decode cX7_count 91 = .ok (.ireturn, 1) := by decide +kernel
theorem dX7_count_92 : decode cX7_count 92 = .ok (.aload_n 0, 1) := by decide +kernel
theorem dX7_count_93 : decode cX7_count 93 = .ok (.getfield 10, 3) := by decide +kernel
theorem dX7_count_96 : decode cX7_count 96 = .ok (.iconst 0, 1) := by decide +kernel
theorem dX7_count_97 : decode cX7_count 97 = .ok (.aload_n 0, 1) := by decide +kernel
theorem dX7_count_98 : decode cX7_count 98 = .ok (.getfield 10, 3) := by decide +kernel
theorem dX7_count_101 : decode cX7_count 101 = .ok (.getfield 62, 3) := by decide +kernel
theorem dX7_count_104 : decode cX7_count 104 = .ok (.invokevirtual 191, 3) := by decide +kernel
theorem dX7_count_107 : decode cX7_count 107 = .ok (.bipush (-6), 2) := by decide +kernel
theorem dX7_count_109 : decode cX7_count 109 = .ok (.if_icmp .ne 7, 3) := by decide +kernel
theorem dX7_count_112 : decode cX7_count 112 = .ok (.iconst 1, 1) := by decide +kernel
theorem dX7_count_113 : decode cX7_count 113 = .ok (.goto 4, 3) := by decide +kernel
theorem dX7_count_116 : decode cX7_count 116 = .ok (.iconst 0, 1) := by decide +kernel
theorem dX7_count_117 : decode cX7_count 117 = .ok (.ireturn, 1) := by decide +kernel
theorem dX7_count_118 : decode cX7_count 118 = .ok (.aload_n 0, 1) := by decide +kernel
theorem dX7_count_119 : decode cX7_count 119 = .ok (.getfield 10, 3) := by decide +kernel
theorem dX7_count_122 : decode cX7_count 122 = .ok (.getfield 157, 3) := by decide +kernel
theorem dX7_count_125 : decode cX7_count 125 = .ok (.ireturn, 1) := by decide +kernel
theorem dX7_count_126 : decode cX7_count 126 = .ok (.aload_n 0, 1) := by decide +kernel
theorem dX7_count_127 : decode cX7_count 127 = .ok (.invokevirtual 131, 3) := by decide +kernel
theorem dX7_count_130 : decode cX7_count 130 = .ok (.aload_n 0, 1) := by decide +kernel
theorem dX7_count_131 : decode cX7_count 131 = .ok (.getfield 10, 3) := by decide +kernel
theorem dX7_count_134 : decode cX7_count 134 = .ok (.getfield 51, 3) := by decide +kernel
theorem dX7_count_137 : decode cX7_count 137 = .ok (.invokevirtual 195, 3) := by decide +kernel
theorem dX7_count_140 : decode cX7_count 140 = .ok (.ireturn, 1) := by decide +kernel
theorem dX7_count_141 : decode cX7_count 141 = .ok (.aload_n 0, 1) := by decide +kernel
theorem dX7_count_142 : decode cX7_count 142 = .ok (.invokevirtual 131, 3) := by decide +kernel
theorem dX7_count_145 : decode cX7_count 145 = .ok (.aload_n 0, 1) := by decide +kernel
theorem dX7_count_146 : decode cX7_count 146 = .ok (.getfield 10, 3) := by decide +kernel
theorem dX7_count_149 : decode cX7_count 149 = .ok (.invokevirtual 198, 3) := by decide +kernel
theorem dX7_count_152 : decode cX7_count 152 = .ok (.ireturn, 1) := by decide +kernel
theorem dX7_count_153 : decode cX7_count 153 = .ok (.aload_n 0, 1) := by decide +kernel
theorem dX7_count_154 : decode cX7_count 154 = .ok (.invokevirtual 131, 3) := by decide +kernel
theorem dX7_count_157 : decode cX7_count 157 = .ok (.aload_n 0, 1) := by decide +kernel
theorem dX7_count_158 : decode cX7_count 158 = .ok (.getfield 10, 3) := by decide +kernel
theorem dX7_count_161 : decode cX7_count 161 = .ok (.invokevirtual 202, 3) := by decide +kernel
theorem dX7_count_164 : decode cX7_count 164 = .ok (.ireturn, 1) := by decide +kernel
theorem dX7_count_165 : decode cX7_count 165 = .ok (.aload_n 0, 1) := by decide +kernel
theorem dX7_count_166 : decode cX7_count 166 = .ok (.getfield 36, 3) := by decide +kernel
theorem dX7_count_169 : decode cX7_count 169 = .ok (.getfield 205, 3) := by decide +kernel
theorem dX7_count_172 : decode cX7_count 172 = .ok (.ireturn, 1) := by decide +kernel
theorem dX7_count_173 : decode cX7_count 173 = .ok (.aload_n 0, 1) := by decide +kernel
theorem dX7_count_174 : decode cX7_count 174 = .ok (.getfield 19, 3) := by decide +kernel
theorem dX7_count_177 : decode cX7_count 177 = .ok (.getfield 208, 3) := by decide +kernel
theorem dX7_count_180 : decode cX7_count 180 = .ok (.ireturn, 1) := by decide +kernel
theorem dX7_count_181 : decode cX7_count 181 = .ok (.bipush (-2), 2) := by decide +kernel
theorem dX7_count_183 : decode cX7_count 183 = .ok (.ireturn, 1) := by decide +kernel
theorem dX7_possible_0 : decode cX7_possible 0 = .ok (.aload_n 0, 1) := by decide +kernel
theorem dX7_possible_1 : decode cX7_possible 1 = .ok (.getfield 10, 3) := by decide +kernel
theorem dX7_possible_4 : decode cX7_possible 4 = .ok (.iload_n 1, 1) := by decide +kernel
theorem dX7_possible_5 : decode cX7_possible 5 = .ok (.invokevirtual 58, 3) := by decide +kernel
theorem dX7_possible_8 : decode cX7_possible 8 = .ok (.ifCond .eq 14, 3) := by decide +kernel
theorem dX7_possible_11 : decode cX7_possible 11 = .ok (.aload_n 0, 1) := by decide +kernel
theorem dX7_possible_12 : decode cX7_possible 12 = .ok (.getfield 10, 3) := by decide +kernel
theorem dX7_possible_15 : decode cX7_possible 15 = .ok (.iload_n 2, 1) := by decide +kernel
theorem dX7_possible_16 : decode cX7_possible 16 = .ok (.invokevirtual 58, 3) := by decide +kernel
theorem dX7_possible_19 : decode cX7_possible 19 = .ok (.ifCond .ne 5, 3) := by decide +kernel
theorem dX7_possible_22 : decode cX7_possible 22 = .ok (.iconst (-1), 1) := by decide +kernel
theorem dX7_possible_23 : decode cX7_possible 23 = .ok (.ireturn, 1) := by decide +kernel
theorem dX7_possible_24 : decode cX7_possible 24 = .ok (.aload_n 0, 1) := by decide +kernel
theorem dX7_possible_25 : decode cX7_possible 25 = .ok (.invokevirtual 131, 3) := by decide +kernel
theorem dX7_possible_28 : decode cX7_possible 28 = .ok (.iload_n 1, 1) := by decide +kernel
theorem dX7_possible_29 : decode cX7_possible 29 = .ok (.iload_n 2, 1) := by decide +kernel
theorem dX7_possible_30 : decode cX7_possible 30 = .ok (.invokevirtual 211, 3) := by decide +kernel
theorem dX7_possible_33 : decode cX7_possible 33 = .ok (.ireturn, 1) := by decide +kernel
theorem dX7_certain_0 : decode cX7_certain 0 = .ok (.aload_n 0, 1) := by decide +kernel
theorem dX7_certain_1 : decode cX7_certain 1 = .ok (.getfield 10, 3) := by decide +kernel
theorem dX7_certain_4 : decode cX7_certain 4 = .ok (.iload_n 1, 1) := by decide +kernel
theorem dX7_certain_5 : decode cX7_certain 5 = .ok (.invokevirtual 58, 3) := by decide +kernel
theorem dX7_certain_8 : decode cX7_certain 8 = .ok (.ifCond .ne 5, 3) := by decide +kernel
theorem dX7_certain_11 : decode cX7_certain 11 = .ok (.iconst (-1), 1) := by decide +kernel
theorem dX7_certain_12 : decode cX7_certain 12 = .ok (.ireturn, 1) := by decide +kernel
theorem dX7_certain_13 : decode cX7_certain 13 = .ok (.aload_n 0, 1) := by decide +kernel
theorem dX7_certain_14 : decode cX7_certain 14 = .ok (.invokevirtual 131, 3) := by decide +kernel
theorem dX7_certain_17 : decode cX7_certain 17 = .ok (.iload_n 1, 1) := by decide +kernel
theorem dX7_certain_18 : decode cX7_certain 18 = .ok (.invokevirtual 215, 3) := by decide +kernel
theorem dX7_certain_21 : decode cX7_certain 21 = .ok (.ireturn, 1) := by decide +kernel
theorem dX7_world_0 : decode cX7_world 0 = .ok (.aload_n 0, 1) := by decide +kernel
theorem dX7_world_1 : decode cX7_world 1 = .ok (.getfield 10, 3) := by decide +kernel
theorem dX7_world_4 : decode cX7_world 4 = .ok (.iload_n 2, 1) := by decide +kernel
theorem dX7_world_5 : decode cX7_world 5 = .ok (.invokevirtual 58, 3) := by decide +kernel
theorem dX7_world_8 : decode cX7_world 8 = .ok (.ifCond .ne 5, 3) := by decide +kernel
theorem dX7_world_11 : decode cX7_world 11 = .ok (.iconst (-1), 1) := by decide +kernel
theorem dX7_world_12 : decode cX7_world 12 = .ok (.ireturn, 1) := by decide +kernel
theorem dX7_world_13 : decode cX7_world 13 = .ok (.aload_n 0, 1) := by decide +kernel
theorem dX7_world_14 : decode cX7_world 14 = .ok (.getfield 43, 3) := by decide +kernel
theorem dX7_world_17 : decode cX7_world 17 = .ok (.aload_n 0, 1) := by decide +kernel
theorem dX7_world_18 : decode cX7_world 18 = .ok (.getfield 10, 3) := by decide +kernel
theorem dX7_world_21 : decode cX7_world 21 = .ok (.iload_n 1, 1) := by decide +kernel
theorem dX7_world_22 : decode cX7_world 22 = .ok (.iload_n 2, 1) := by decide +kernel
theorem dX7_world_23 : decode cX7_world 23 = .ok (.invokevirtual 218, 3) := by decide +kernel
theorem dX7_world_26 : decode cX7_world 26 = .ok (.ireturn, 1) := by decide +kernel
theorem dX7_ifProved_0 : decode cX7_ifProved 0 = .ok (.aload_n 0, 1) := by decide +kernel
theorem dX7_ifProved_1 : decode cX7_ifProved 1 = .ok (.getfield 10, 3) := by decide +kernel
theorem dX7_ifProved_4 : decode cX7_ifProved 4 = .ok (.iload_n 1, 1) := by decide +kernel
theorem dX7_ifProved_5 : decode cX7_ifProved 5 = .ok (.iload_n 2, 1) := by decide +kernel
theorem dX7_ifProved_6 : decode cX7_ifProved 6 = .ok (.iload_n 3, 1) := by decide +kernel
theorem dX7_ifProved_7 : decode cX7_ifProved 7 = .ok (.invokevirtual 74, 3) := by decide +kernel
theorem dX7_ifProved_10 : decode cX7_ifProved 10 = .ok (.ifCond .ne 6, 3) := by decide +kernel
theorem dX7_ifProved_13 : decode cX7_ifProved 13 = .ok (.bipush (-2), 2) := by decide +kernel
theorem dX7_ifProved_15 : decode cX7_ifProved 15 = .ok (.ireturn, 1) := by decide +kernel
theorem dX7_ifProved_16 : decode cX7_ifProved 16 = .ok (.aload_n 0, 1) := by decide +kernel
theorem dX7_ifProved_17 : decode cX7_ifProved 17 = .ok (.getfield 43, 3) := by decide +kernel
theorem dX7_ifProved_20 : decode cX7_ifProved 20 = .ok (.aload_n 0, 1) := by decide +kernel
theorem dX7_ifProved_21 : decode cX7_ifProved 21 = .ok (.getfield 10, 3) := by decide +kernel
theorem dX7_ifProved_24 : decode cX7_ifProved 24 = .ok (.iload_n 1, 1) := by decide +kernel
theorem dX7_ifProved_25 : decode cX7_ifProved 25 = .ok (.iload_n 2, 1) := by decide +kernel
theorem dX7_ifProved_26 : decode cX7_ifProved 26 = .ok (.iload_n 3, 1) := by decide +kernel
theorem dX7_ifProved_27 : decode cX7_ifProved 27 = .ok (.invokevirtual 222, 3) := by decide +kernel
theorem dX7_ifProved_30 : decode cX7_ifProved 30 = .ok (.ireturn, 1) := by decide +kernel
theorem dX7_sharpest_0 : decode cX7_sharpest 0 = .ok (.iload_n 1, 1) := by decide +kernel
theorem dX7_sharpest_1 : decode cX7_sharpest 1 = .ok (.ifCond .eq 11, 3) := by decide +kernel
theorem dX7_sharpest_4 : decode cX7_sharpest 4 = .ok (.iload_n 1, 1) := by decide +kernel
theorem dX7_sharpest_5 : decode cX7_sharpest 5 = .ok (.iconst 1, 1) := by decide +kernel
theorem dX7_sharpest_6 : decode cX7_sharpest 6 = .ok (.if_icmp .eq 6, 3) := by decide +kernel
theorem dX7_sharpest_9 : decode cX7_sharpest 9 = .ok (.bipush (-2), 2) := by decide +kernel
theorem dX7_sharpest_11 : decode cX7_sharpest 11 = .ok (.ireturn, 1) := by decide +kernel
theorem dX7_sharpest_12 : decode cX7_sharpest 12 = .ok (.aload_n 0, 1) := by decide +kernel
theorem dX7_sharpest_13 : decode cX7_sharpest 13 = .ok (.invokevirtual 131, 3) := by decide +kernel
theorem dX7_sharpest_16 : decode cX7_sharpest 16 = .ok (.aload_n 0, 1) := by decide +kernel
theorem dX7_sharpest_17 : decode cX7_sharpest 17 = .ok (.getfield 10, 3) := by decide +kernel
theorem dX7_sharpest_20 : decode cX7_sharpest 20 = .ok (.invokevirtual 226, 3) := by decide +kernel
theorem dX7_sharpest_23 : decode cX7_sharpest 23 = .ok (.istore_n 2, 1) := by decide +kernel
theorem dX7_sharpest_24 : decode cX7_sharpest 24 = .ok (.iload_n 2, 1) := by decide +kernel
theorem dX7_sharpest_25 : decode cX7_sharpest 25 = .ok (.bipush (-6), 2) := by decide +kernel
theorem dX7_sharpest_27 : decode cX7_sharpest 27 = .ok (.if_icmp .eq 7, 3) := by decide +kernel
theorem dX7_sharpest_30 : decode cX7_sharpest 30 = .ok (.iload_n 1, 1) := by decide +kernel
theorem dX7_sharpest_31 : decode cX7_sharpest 31 = .ok (.ifCond .ne 5, 3) := by decide +kernel
theorem dX7_sharpest_34 : decode cX7_sharpest 34 = .ok (.iload_n 2, 1) := by decide +kernel
theorem dX7_sharpest_35 : decode cX7_sharpest 35 = .ok (.ireturn, 1) := by decide +kernel
theorem dX7_sharpest_36 : decode cX7_sharpest 36 = .ok (.aload_n 0, 1) := by decide +kernel
theorem dX7_sharpest_37 : decode cX7_sharpest 37 = .ok (.getfield 43, 3) := by decide +kernel
theorem dX7_sharpest_40 : decode cX7_sharpest 40 = .ok (.iload_n 2, 1) := by decide +kernel
theorem dX7_sharpest_41 : decode cX7_sharpest 41 = .ok (.invokevirtual 229, 3) := by decide +kernel
theorem dX7_sharpest_44 : decode cX7_sharpest 44 = .ok (.ireturn, 1) := by decide +kernel
theorem dX7_blame_0 : decode cX7_blame 0 = .ok (.iload_n 1, 1) := by decide +kernel
theorem dX7_blame_1 : decode cX7_blame 1 = .ok (.ifCond .eq 11, 3) := by decide +kernel
theorem dX7_blame_4 : decode cX7_blame 4 = .ok (.iload_n 1, 1) := by decide +kernel
theorem dX7_blame_5 : decode cX7_blame 5 = .ok (.iconst 1, 1) := by decide +kernel
theorem dX7_blame_6 : decode cX7_blame 6 = .ok (.if_icmp .eq 6, 3) := by decide +kernel
theorem dX7_blame_9 : decode cX7_blame 9 = .ok (.bipush (-2), 2) := by decide +kernel
theorem dX7_blame_11 : decode cX7_blame 11 = .ok (.ireturn, 1) := by decide +kernel
theorem dX7_blame_12 : decode cX7_blame 12 = .ok (.aload_n 0, 1) := by decide +kernel
theorem dX7_blame_13 : decode cX7_blame 13 = .ok (.invokevirtual 131, 3) := by decide +kernel
theorem dX7_blame_16 : decode cX7_blame 16 = .ok (.getfield 135, 3) := by decide +kernel
theorem dX7_blame_19 : decode cX7_blame 19 = .ok (.ifCond .le 6, 3) := by decide +kernel
theorem dX7_blame_22 : decode cX7_blame 22 = .ok (.bipush (-6), 2) := by decide +kernel
theorem dX7_blame_24 : decode cX7_blame 24 = .ok (.ireturn, 1) := by decide +kernel
theorem dX7_blame_25 : decode cX7_blame 25 = .ok (.aload_n 0, 1) := by decide +kernel
theorem dX7_blame_26 : decode cX7_blame 26 = .ok (.getfield 43, 3) := by decide +kernel
theorem dX7_blame_29 : decode cX7_blame 29 = .ok (.aload_n 0, 1) := by decide +kernel
theorem dX7_blame_30 : decode cX7_blame 30 = .ok (.getfield 10, 3) := by decide +kernel
theorem dX7_blame_33 : decode cX7_blame 33 = .ok (.invokevirtual 232, 3) := by decide +kernel
theorem dX7_blame_36 : decode cX7_blame 36 = .ok (.istore_n 2, 1) := by decide +kernel
theorem dX7_blame_37 : decode cX7_blame 37 = .ok (.iload_n 2, 1) := by decide +kernel
theorem dX7_blame_38 : decode cX7_blame 38 = .ok (.bipush (-6), 2) := by decide +kernel
theorem dX7_blame_40 : decode cX7_blame 40 = .ok (.if_icmp .eq 7, 3) := by decide +kernel
theorem dX7_blame_43 : decode cX7_blame 43 = .ok (.iload_n 1, 1) := by decide +kernel
theorem dX7_blame_44 : decode cX7_blame 44 = .ok (.ifCond .ne 5, 3) := by decide +kernel
theorem dX7_blame_47 : decode cX7_blame 47 = .ok (.iload_n 2, 1) := by decide +kernel
theorem dX7_blame_48 : decode cX7_blame 48 = .ok (.ireturn, 1) := by decide +kernel
theorem dX7_blame_49 : decode cX7_blame 49 = .ok (.aload_n 0, 1) := by decide +kernel
theorem dX7_blame_50 : decode cX7_blame 50 = .ok (.getfield 43, 3) := by decide +kernel
theorem dX7_blame_53 : decode cX7_blame 53 = .ok (.getfield 235, 3) := by decide +kernel
theorem dX7_blame_56 : decode cX7_blame 56 = .ok (.iload_n 2, 1) := by decide +kernel
theorem dX7_blame_57 : decode cX7_blame 57 = .ok (.invokestatic 66, 3) := by decide +kernel
theorem dX7_blame_60 : decode cX7_blame 60 = .ok (.ireturn, 1) := by decide +kernel
theorem dX7_mostWatched_0 : decode cX7_mostWatched 0 = .ok (.iload_n 1, 1) := by decide +kernel
theorem dX7_mostWatched_1 : decode cX7_mostWatched 1 = .ok (.ifCond .eq 11, 3) := by decide +kernel
theorem dX7_mostWatched_4 : decode cX7_mostWatched 4 = .ok (.iload_n 1, 1) := by decide +kernel
theorem dX7_mostWatched_5 : decode cX7_mostWatched 5 = .ok (.iconst 1, 1) := by decide +kernel
theorem dX7_mostWatched_6 : decode cX7_mostWatched 6 = .ok (.if_icmp .eq 6, 3) := by decide +kernel
theorem dX7_mostWatched_9 : decode cX7_mostWatched 9 = .ok (.bipush (-2), 2) := by decide +kernel
theorem dX7_mostWatched_11 : decode cX7_mostWatched 11 = .ok (.ireturn, 1) := by decide +kernel
theorem dX7_mostWatched_12 : decode cX7_mostWatched 12 = .ok (.aload_n 0, 1) := by decide +kernel
theorem dX7_mostWatched_13 : decode cX7_mostWatched 13 = .ok (.getfield 43, 3) := by decide +kernel
theorem dX7_mostWatched_16 : decode cX7_mostWatched 16 = .ok (.aload_n 0, 1) := by decide +kernel
theorem dX7_mostWatched_17 : decode cX7_mostWatched 17 = .ok (.getfield 10, 3) := by decide +kernel
theorem dX7_mostWatched_20 : decode cX7_mostWatched 20 = .ok (.invokevirtual 238, 3) := by decide +kernel
theorem dX7_mostWatched_23 : decode cX7_mostWatched 23 = .ok (.aload_n 0, 1) := by decide +kernel
theorem dX7_mostWatched_24 : decode cX7_mostWatched 24 = .ok (.getfield 43, 3) := by decide +kernel
theorem dX7_mostWatched_27 : decode cX7_mostWatched 27 = .ok (.getfield 242, 3) := by decide +kernel
theorem dX7_mostWatched_30 : decode cX7_mostWatched 30 = .ok (.ifCond .ne 6, 3) := by decide +kernel
theorem dX7_mostWatched_33 : decode cX7_mostWatched 33 = .ok (.bipush (-6), 2) := by decide +kernel
theorem dX7_mostWatched_35 : decode cX7_mostWatched 35 = .ok (.ireturn, 1) := by decide +kernel
theorem dX7_mostWatched_36 : decode cX7_mostWatched 36 = .ok (.iload_n 1, 1) := by decide +kernel
theorem dX7_mostWatched_37 : decode cX7_mostWatched 37 = .ok (.ifCond .ne 13, 3) := by decide +kernel
theorem dX7_mostWatched_40 : decode cX7_mostWatched 40 = .ok (.aload_n 0, 1) := by decide +kernel
theorem dX7_mostWatched_41 : decode cX7_mostWatched 41 = .ok (.getfield 43, 3) := by decide +kernel
theorem dX7_mostWatched_44 : decode cX7_mostWatched 44 = .ok (.getfield 245, 3) := by decide +kernel
theorem dX7_mostWatched_47 : decode cX7_mostWatched 47 = .ok (.goto 10, 3) := by decide +kernel
theorem dX7_mostWatched_50 : decode cX7_mostWatched 50 = .ok (.aload_n 0, 1) := by decide +kernel
theorem dX7_mostWatched_51 : decode cX7_mostWatched 51 = .ok (.getfield 43, 3) := by decide +kernel
theorem dX7_mostWatched_54 : decode cX7_mostWatched 54 = .ok (.getfield 242, 3) := by decide +kernel
theorem dX7_mostWatched_57 : decode cX7_mostWatched 57 = .ok (.ireturn, 1) := by decide +kernel
theorem dX7_put_0 : decode cX7_put 0 = .ok (.lload_n 1, 1) := by decide +kernel
theorem dX7_put_1 : decode cX7_put 1 = .ok (.invokestatic 248, 3) := by decide +kernel
theorem dX7_put_4 : decode cX7_put 4 = .ok (.istore_n 3, 1) := by decide +kernel
theorem dX7_put_5 : decode cX7_put 5 = .ok (.iload_n 3, 1) := by decide +kernel
theorem dX7_put_6 : decode cX7_put 6 = .ok (.ifCond .ne 6, 3) := by decide +kernel
theorem dX7_put_9 : decode cX7_put 9 = .ok (.bipush (-2), 2) := by decide +kernel
theorem dX7_put_11 : decode cX7_put 11 = .ok (.ireturn, 1) := by decide +kernel
theorem dX7_put_12 : decode cX7_put 12 = .ok (.aload_n 0, 1) := by decide +kernel
theorem dX7_put_13 : decode cX7_put 13 = .ok (.getfield 36, 3) := by decide +kernel
theorem dX7_put_16 : decode cX7_put 16 = .ok (.getfield 205, 3) := by decide +kernel
theorem dX7_put_19 : decode cX7_put 19 = .ok (.iload_n 3, 1) := by decide +kernel
theorem dX7_put_20 : decode cX7_put 20 = .ok (.iadd, 1) := by decide +kernel
theorem dX7_put_21 : decode cX7_put 21 = .ok (.bipush 60, 2) := by decide +kernel
theorem dX7_put_23 : decode cX7_put 23 = .ok (.if_icmp .le 6, 3) := by decide +kernel
theorem dX7_put_26 : decode cX7_put 26 = .ok (.bipush (-4), 2) := by decide +kernel
theorem dX7_put_28 : decode cX7_put 28 = .ok (.ireturn, 1) := by decide +kernel
theorem dX7_put_29 : decode cX7_put 29 = .ok (.iload_n 3, 1) := by decide +kernel
theorem dX7_put_30 : decode cX7_put 30 = .ok (.iconst 1, 1) := by decide +kernel
theorem dX7_put_31 : decode cX7_put 31 = .ok (.isub, 1) := by decide +kernel
theorem dX7_put_32 : decode cX7_put 32 = .ok (.istore 4, 2) := by decide +kernel
theorem dX7_put_34 : decode cX7_put 34 = .ok (.iload 4, 2) := by decide +kernel
theorem dX7_put_36 : decode cX7_put 36 = .ok (.ifCond .lt 29, 3) := by decide +kernel
theorem dX7_put_39 : decode cX7_put 39 = .ok (.aload_n 0, 1) := by decide +kernel
theorem dX7_put_40 : decode cX7_put 40 = .ok (.getfield 36, 3) := by decide +kernel
theorem dX7_put_43 : decode cX7_put 43 = .ok (.lload_n 1, 1) := by decide +kernel
theorem dX7_put_44 : decode cX7_put 44 = .ok (.bipush 8, 2) := by decide +kernel
theorem dX7_put_46 : decode cX7_put 46 = .ok (.iload 4, 2) := by decide +kernel
theorem dX7_put_48 : decode cX7_put 48 = .ok (.imul, 1) := by decide +kernel
theorem dX7_put_49 : decode cX7_put 49 = .ok (.lushr, 1) := by decide +kernel
theorem dX7_put_50 : decode cX7_put 50 = .ok (.ldc2_w 252, 3) := by decide +kernel
theorem dX7_put_53 : decode cX7_put 53 = .ok (.land, 1) := by decide +kernel
theorem dX7_put_54 : decode cX7_put 54 = .ok (.l2i, 1) := by decide +kernel
theorem dX7_put_55 : decode cX7_put 55 = .ok (.i2c, 1) := by decide +kernel
theorem dX7_put_56 : decode cX7_put 56 = .ok (.invokevirtual 254, 3) := by decide +kernel
theorem dX7_put_59 : decode cX7_put 59 = .ok (.iinc 4 (-1), 3) := by decide +kernel
theorem dX7_put_62 : decode cX7_put 62 = .ok (.goto (-28), 3) := by decide +kernel
theorem dX7_put_65 : decode cX7_put 65 = .ok (.aload_n 0, 1) := by decide +kernel
theorem dX7_put_66 : decode cX7_put 66 = .ok (.getfield 36, 3) := by decide +kernel
theorem dX7_put_69 : decode cX7_put 69 = .ok (.getfield 205, 3) := by decide +kernel
theorem dX7_put_72 : decode cX7_put 72 = .ok (.ireturn, 1) := by decide +kernel
theorem dX7_wipe_0 : decode cX7_wipe 0 = .ok (.aload_n 0, 1) := by decide +kernel
theorem dX7_wipe_1 : decode cX7_wipe 1 = .ok (.getfield 36, 3) := by decide +kernel
theorem dX7_wipe_4 : decode cX7_wipe 4 = .ok (.getfield 205, 3) := by decide +kernel
theorem dX7_wipe_7 : decode cX7_wipe 7 = .ok (.istore_n 1, 1) := by decide +kernel
theorem dX7_wipe_8 : decode cX7_wipe 8 = .ok (.aload_n 0, 1) := by decide +kernel
theorem dX7_wipe_9 : decode cX7_wipe 9 = .ok (.getfield 36, 3) := by decide +kernel
theorem dX7_wipe_12 : decode cX7_wipe 12 = .ok (.invokevirtual 115, 3) := by decide +kernel
theorem dX7_wipe_15 : decode cX7_wipe 15 = .ok (.iload_n 1, 1) := by decide +kernel
theorem dX7_wipe_16 : decode cX7_wipe 16 = .ok (.ireturn, 1) := by decide +kernel
theorem dX7_fault_0 : decode cX7_fault 0 = .ok (.aload_n 0, 1) := by decide +kernel
theorem dX7_fault_1 : decode cX7_fault 1 = .ok (.getfield 36, 3) := by decide +kernel
theorem dX7_fault_4 : decode cX7_fault 4 = .ok (.invokevirtual 88, 3) := by decide +kernel
theorem dX7_fault_7 : decode cX7_fault 7 = .ok (.ireturn, 1) := by decide +kernel
theorem dX7_undo_0 : decode cX7_undo 0 = .ok (.aload_n 0, 1) := by decide +kernel
theorem dX7_undo_1 : decode cX7_undo 1 = .ok (.getfield 19, 3) := by decide +kernel
theorem dX7_undo_4 : decode cX7_undo 4 = .ok (.getfield 208, 3) := by decide +kernel
theorem dX7_undo_7 : decode cX7_undo 7 = .ok (.ifCond .ne 6, 3) := by decide +kernel
theorem dX7_undo_10 : decode cX7_undo 10 = .ok (.bipush (-5), 2) := by decide +kernel
theorem dX7_undo_12 : decode cX7_undo 12 = .ok (.ireturn, 1) := by decide +kernel
theorem dX7_undo_13 : decode cX7_undo 13 = .ok (.aload_n 0, 1) := by decide +kernel
theorem dX7_undo_14 : decode cX7_undo 14 = .ok (.getfield 19, 3) := by decide +kernel
theorem dX7_undo_17 : decode cX7_undo 17 = .ok (.aload_n 0, 1) := by decide +kernel
theorem dX7_undo_18 : decode cX7_undo 18 = .ok (.getfield 10, 3) := by decide +kernel
theorem dX7_undo_21 : decode cX7_undo 21 = .ok (.invokevirtual 258, 3) := by decide +kernel
theorem dX7_undo_24 : decode cX7_undo 24 = .ok (.aload_n 0, 1) := by decide +kernel
theorem dX7_undo_25 : decode cX7_undo 25 = .ok (.iconst 0, 1) := by decide +kernel
theorem dX7_undo_26 : decode cX7_undo 26 = .ok (.putfield 261, 3) := by decide +kernel
theorem dX7_undo_29 : decode cX7_undo 29 = .ok (.aload_n 0, 1) := by decide +kernel
theorem dX7_undo_30 : decode cX7_undo 30 = .ok (.getfield 19, 3) := by decide +kernel
theorem dX7_undo_33 : decode cX7_undo 33 = .ok (.getfield 208, 3) := by decide +kernel
theorem dX7_undo_36 : decode cX7_undo 36 = .ok (.ireturn, 1) := by decide +kernel
theorem dX7_save_0 : decode cX7_save 0 = .ok (.aload_n 0, 1) := by decide +kernel
theorem dX7_save_1 : decode cX7_save 1 = .ok (.iload_n 1, 1) := by decide +kernel
theorem dX7_save_2 : decode cX7_save 2 = .ok (.invokevirtual 265, 3) := by decide +kernel
theorem dX7_save_5 : decode cX7_save 5 = .ok (.astore_n 2, 1) := by decide +kernel
theorem dX7_save_6 : decode cX7_save 6 = .ok (.aload_n 2, 1) := by decide +kernel
theorem dX7_save_7 : decode cX7_save 7 = .ok (.ifnonnull 6, 3) := by decide +kernel
theorem dX7_save_10 : decode cX7_save 10 = .ok (.bipush (-2), 2) := by decide +kernel
theorem dX7_save_12 : decode cX7_save 12 = .ok (.ireturn, 1) := by decide +kernel
theorem dX7_save_13 : decode cX7_save 13 = .ok (.aload_n 2, 1) := by decide +kernel
theorem dX7_save_14 : decode cX7_save 14 = .ok (.getfield 269, 3) := by decide +kernel
theorem dX7_save_17 : decode cX7_save 17 = .ok (.aload_n 0, 1) := by decide +kernel
theorem dX7_save_18 : decode cX7_save 18 = .ok (.getfield 10, 3) := by decide +kernel
theorem dX7_save_21 : decode cX7_save 21 = .ok (.invokevirtual 272, 3) := by decide +kernel
theorem dX7_save_24 : decode cX7_save 24 = .ok (.aload_n 2, 1) := by decide +kernel
theorem dX7_save_25 : decode cX7_save 25 = .ok (.iconst 1, 1) := by decide +kernel
theorem dX7_save_26 : decode cX7_save 26 = .ok (.putfield 275, 3) := by decide +kernel
theorem dX7_save_29 : decode cX7_save 29 = .ok (.aload_n 0, 1) := by decide +kernel
theorem dX7_save_30 : decode cX7_save 30 = .ok (.getfield 10, 3) := by decide +kernel
theorem dX7_save_33 : decode cX7_save 33 = .ok (.getfield 85, 3) := by decide +kernel
theorem dX7_save_36 : decode cX7_save 36 = .ok (.ireturn, 1) := by decide +kernel
theorem dX7_restore_0 : decode cX7_restore 0 = .ok (.aload_n 0, 1) := by decide +kernel
theorem dX7_restore_1 : decode cX7_restore 1 = .ok (.iload_n 1, 1) := by decide +kernel
theorem dX7_restore_2 : decode cX7_restore 2 = .ok (.invokevirtual 265, 3) := by decide +kernel
theorem dX7_restore_5 : decode cX7_restore 5 = .ok (.astore_n 2, 1) := by decide +kernel
theorem dX7_restore_6 : decode cX7_restore 6 = .ok (.aload_n 2, 1) := by decide +kernel
theorem dX7_restore_7 : decode cX7_restore 7 = .ok (.ifnonnull 6, 3) := by decide +kernel
theorem dX7_restore_10 : decode cX7_restore 10 = .ok (.bipush (-2), 2) := by decide +kernel
theorem dX7_restore_12 : decode cX7_restore 12 = .ok (.ireturn, 1) := by decide +kernel
theorem dX7_restore_13 : decode cX7_restore 13 = .ok (.aload_n 2, 1) := by decide +kernel
theorem dX7_restore_14 : decode cX7_restore 14 = .ok (.getfield 275, 3) := by decide +kernel
theorem dX7_restore_17 : decode cX7_restore 17 = .ok (.ifCond .ne 6, 3) := by decide +kernel
theorem dX7_restore_20 : decode cX7_restore 20 = .ok (.bipush (-5), 2) := by decide +kernel
theorem dX7_restore_22 : decode cX7_restore 22 = .ok (.ireturn, 1) := by decide +kernel
theorem dX7_restore_23 : decode cX7_restore 23 = .ok (.aload_n 0, 1) := by decide +kernel
theorem dX7_restore_24 : decode cX7_restore 24 = .ok (.invokevirtual 55, 3) := by decide +kernel
theorem dX7_restore_27 : decode cX7_restore 27 = .ok (.aload_n 0, 1) := by decide +kernel
theorem dX7_restore_28 : decode cX7_restore 28 = .ok (.getfield 10, 3) := by decide +kernel
theorem dX7_restore_31 : decode cX7_restore 31 = .ok (.aload_n 2, 1) := by decide +kernel
theorem dX7_restore_32 : decode cX7_restore 32 = .ok (.getfield 269, 3) := by decide +kernel
theorem dX7_restore_35 : decode cX7_restore 35 = .ok (.invokevirtual 272, 3) := by decide +kernel
theorem dX7_restore_38 : decode cX7_restore 38 = .ok (.aload_n 0, 1) := by decide +kernel
theorem dX7_restore_39 : decode cX7_restore 39 = .ok (.getfield 10, 3) := by decide +kernel
theorem dX7_restore_42 : decode cX7_restore 42 = .ok (.getfield 85, 3) := by decide +kernel
theorem dX7_restore_45 : decode cX7_restore 45 = .ok (.ireturn, 1) := by decide +kernel
theorem dX7_beginChange_0 : decode cX7_beginChange 0 = .ok (.aload_n 0, 1) := by decide +kernel
theorem dX7_beginChange_1 : decode cX7_beginChange 1 = .ok (.getfield 19, 3) := by decide +kernel
theorem dX7_beginChange_4 : decode cX7_beginChange 4 = .ok (.aload_n 0, 1) := by decide +kernel
theorem dX7_beginChange_5 : decode cX7_beginChange 5 = .ok (.getfield 10, 3) := by decide +kernel
theorem dX7_beginChange_8 : decode cX7_beginChange 8 = .ok (.invokevirtual 278, 3) := by decide +kernel
theorem dX7_beginChange_11 : decode cX7_beginChange 11 = .ok (.aload_n 0, 1) := by decide +kernel
theorem dX7_beginChange_12 : decode cX7_beginChange 12 = .ok (.iconst 0, 1) := by decide +kernel
theorem dX7_beginChange_13 : decode cX7_beginChange 13 = .ok (.putfield 261, 3) := by decide +kernel
theorem dX7_beginChange_16 : decode cX7_beginChange 16 = .ok (.return_, 1) := by decide +kernel
theorem dX7_surveyNow_0 : decode cX7_surveyNow 0 = .ok (.aload_n 0, 1) := by decide +kernel
theorem dX7_surveyNow_1 : decode cX7_surveyNow 1 = .ok (.getfield 261, 3) := by decide +kernel
theorem dX7_surveyNow_4 : decode cX7_surveyNow 4 = .ok (.ifCond .ne 19, 3) := by decide +kernel
theorem dX7_surveyNow_7 : decode cX7_surveyNow 7 = .ok (.aload_n 0, 1) := by decide +kernel
theorem dX7_surveyNow_8 : decode cX7_surveyNow 8 = .ok (.getfield 43, 3) := by decide +kernel
theorem dX7_surveyNow_11 : decode cX7_surveyNow 11 = .ok (.aload_n 0, 1) := by decide +kernel
theorem dX7_surveyNow_12 : decode cX7_surveyNow 12 = .ok (.getfield 10, 3) := by decide +kernel
theorem dX7_surveyNow_15 : decode cX7_surveyNow 15 = .ok (.invokevirtual 281, 3) := by decide +kernel
theorem dX7_surveyNow_18 : decode cX7_surveyNow 18 = .ok (.aload_n 0, 1) := by decide +kernel
theorem dX7_surveyNow_19 : decode cX7_surveyNow 19 = .ok (.iconst 1, 1) := by decide +kernel
theorem dX7_surveyNow_20 : decode cX7_surveyNow 20 = .ok (.putfield 261, 3) := by decide +kernel
theorem dX7_surveyNow_23 : decode cX7_surveyNow 23 = .ok (.aload_n 0, 1) := by decide +kernel
theorem dX7_surveyNow_24 : decode cX7_surveyNow 24 = .ok (.getfield 43, 3) := by decide +kernel
theorem dX7_surveyNow_27 : decode cX7_surveyNow 27 = .ok (.areturn, 1) := by decide +kernel
theorem dX7_slotAt_0 : decode cX7_slotAt 0 = .ok (.iload_n 1, 1) := by decide +kernel
theorem dX7_slotAt_1 : decode cX7_slotAt 1 = .ok (.lookupswitch 37 #[(0, 27), (1, 32)], 27) := by decide +kernel
theorem dX7_slotAt_28 : decode cX7_slotAt 28 = .ok (.aload_n 0, 1) := by decide +kernel
theorem dX7_slotAt_29 : decode cX7_slotAt 29 = .ok (.getfield 26, 3) := by decide +kernel
theorem dX7_slotAt_32 : decode cX7_slotAt 32 = .ok (.areturn, 1) := by decide +kernel
theorem dX7_slotAt_33 : decode cX7_slotAt 33 = .ok (.aload_n 0, 1) := by decide +kernel
theorem dX7_slotAt_34 : decode cX7_slotAt 34 = .ok (.getfield 30, 3) := by decide +kernel
theorem dX7_slotAt_37 : decode cX7_slotAt 37 = .ok (.areturn, 1) := by decide +kernel
theorem dX7_slotAt_38 : decode cX7_slotAt 38 = .ok (.aconst_null, 1) := by decide +kernel
theorem dX7_slotAt_39 : decode cX7_slotAt 39 = .ok (.areturn, 1) := by decide +kernel
theorem dX7_allTellersAreThere_0 : decode cX7_allTellersAreThere 0 = .ok (.iconst 0, 1) := by decide +kernel
theorem dX7_allTellersAreThere_1 : decode cX7_allTellersAreThere 1 = .ok (.istore_n 1, 1) := by decide +kernel
theorem dX7_allTellersAreThere_2 : decode cX7_allTellersAreThere 2 = .ok (.iload_n 1, 1) := by decide +kernel
theorem dX7_allTellersAreThere_3 : decode cX7_allTellersAreThere 3 = .ok (.aload_n 0, 1) := by decide +kernel
theorem dX7_allTellersAreThere_4 : decode cX7_allTellersAreThere 4 = .ok (.getfield 36, 3) := by decide +kernel
theorem dX7_allTellersAreThere_7 : decode cX7_allTellersAreThere 7 = .ok (.invokevirtual 99, 3) := by decide +kernel
theorem dX7_allTellersAreThere_10 : decode cX7_allTellersAreThere 10 = .ok (.if_icmp .ge 29, 3) := by decide +kernel
theorem dX7_allTellersAreThere_13 : decode cX7_allTellersAreThere 13 = .ok (.aload_n 0, 1) := by decide +kernel
theorem dX7_allTellersAreThere_14 : decode cX7_allTellersAreThere 14 = .ok (.getfield 10, 3) := by decide +kernel
theorem dX7_allTellersAreThere_17 : decode cX7_allTellersAreThere 17 = .ok (.aload_n 0, 1) := by decide +kernel
theorem dX7_allTellersAreThere_18 : decode cX7_allTellersAreThere 18 = .ok (.getfield 36, 3) := by decide +kernel
theorem dX7_allTellersAreThere_21 : decode cX7_allTellersAreThere 21 = .ok (.iload_n 1, 1) := by decide +kernel
theorem dX7_allTellersAreThere_22 : decode cX7_allTellersAreThere 22 = .ok (.invokevirtual 102, 3) := by decide +kernel
theorem dX7_allTellersAreThere_25 : decode cX7_allTellersAreThere 25 = .ok (.invokevirtual 58, 3) := by decide +kernel
theorem dX7_allTellersAreThere_28 : decode cX7_allTellersAreThere 28 = .ok (.ifCond .ne 5, 3) := by decide +kernel
theorem dX7_allTellersAreThere_31 : decode cX7_allTellersAreThere 31 = .ok (.iconst 0, 1) := by decide +kernel
theorem dX7_allTellersAreThere_32 : decode cX7_allTellersAreThere 32 = .ok (.ireturn, 1) := by decide +kernel
theorem dX7_allTellersAreThere_33 : decode cX7_allTellersAreThere 33 = .ok (.iinc 1 1, 3) := by decide +kernel
theorem dX7_allTellersAreThere_36 : decode cX7_allTellersAreThere 36 = .ok (.goto (-34), 3) := by decide +kernel
theorem dX7_allTellersAreThere_39 : decode cX7_allTellersAreThere 39 = .ok (.iconst 1, 1) := by decide +kernel
theorem dX7_allTellersAreThere_40 : decode cX7_allTellersAreThere 40 = .ok (.ireturn, 1) := by decide +kernel
theorem dX7_allOnPadSuit_0 : decode cX7_allOnPadSuit 0 = .ok (.iconst 0, 1) := by decide +kernel
theorem dX7_allOnPadSuit_1 : decode cX7_allOnPadSuit 1 = .ok (.istore_n 1, 1) := by decide +kernel
theorem dX7_allOnPadSuit_2 : decode cX7_allOnPadSuit 2 = .ok (.iload_n 1, 1) := by decide +kernel
theorem dX7_allOnPadSuit_3 : decode cX7_allOnPadSuit 3 = .ok (.aload_n 0, 1) := by decide +kernel
theorem dX7_allOnPadSuit_4 : decode cX7_allOnPadSuit 4 = .ok (.getfield 36, 3) := by decide +kernel
theorem dX7_allOnPadSuit_7 : decode cX7_allOnPadSuit 7 = .ok (.invokevirtual 99, 3) := by decide +kernel
theorem dX7_allOnPadSuit_10 : decode cX7_allOnPadSuit 10 = .ok (.if_icmp .ge 45, 3) := by decide +kernel
theorem dX7_allOnPadSuit_13 : decode cX7_allOnPadSuit 13 = .ok (.aload_n 0, 1) := by decide +kernel
theorem dX7_allOnPadSuit_14 : decode cX7_allOnPadSuit 14 = .ok (.getfield 10, 3) := by decide +kernel
theorem dX7_allOnPadSuit_17 : decode cX7_allOnPadSuit 17 = .ok (.aload_n 0, 1) := by decide +kernel
theorem dX7_allOnPadSuit_18 : decode cX7_allOnPadSuit 18 = .ok (.getfield 36, 3) := by decide +kernel
theorem dX7_allOnPadSuit_21 : decode cX7_allOnPadSuit 21 = .ok (.iload_n 1, 1) := by decide +kernel
theorem dX7_allOnPadSuit_22 : decode cX7_allOnPadSuit 22 = .ok (.invokevirtual 106, 3) := by decide +kernel
theorem dX7_allOnPadSuit_25 : decode cX7_allOnPadSuit 25 = .ok (.aload_n 0, 1) := by decide +kernel
theorem dX7_allOnPadSuit_26 : decode cX7_allOnPadSuit 26 = .ok (.getfield 36, 3) := by decide +kernel
theorem dX7_allOnPadSuit_29 : decode cX7_allOnPadSuit 29 = .ok (.iload_n 1, 1) := by decide +kernel
theorem dX7_allOnPadSuit_30 : decode cX7_allOnPadSuit 30 = .ok (.invokevirtual 109, 3) := by decide +kernel
theorem dX7_allOnPadSuit_33 : decode cX7_allOnPadSuit 33 = .ok (.aload_n 0, 1) := by decide +kernel
theorem dX7_allOnPadSuit_34 : decode cX7_allOnPadSuit 34 = .ok (.getfield 36, 3) := by decide +kernel
theorem dX7_allOnPadSuit_37 : decode cX7_allOnPadSuit 37 = .ok (.iload_n 1, 1) := by decide +kernel
theorem dX7_allOnPadSuit_38 : decode cX7_allOnPadSuit 38 = .ok (.invokevirtual 112, 3) := by decide +kernel
theorem dX7_allOnPadSuit_41 : decode cX7_allOnPadSuit 41 = .ok (.invokevirtual 74, 3) := by decide +kernel
theorem dX7_allOnPadSuit_44 : decode cX7_allOnPadSuit 44 = .ok (.ifCond .ne 5, 3) := by decide +kernel
theorem dX7_allOnPadSuit_47 : decode cX7_allOnPadSuit 47 = .ok (.iconst 0, 1) := by decide +kernel
theorem dX7_allOnPadSuit_48 : decode cX7_allOnPadSuit 48 = .ok (.ireturn, 1) := by decide +kernel
theorem dX7_allOnPadSuit_49 : decode cX7_allOnPadSuit 49 = .ok (.iinc 1 1, 3) := by decide +kernel
theorem dX7_allOnPadSuit_52 : decode cX7_allOnPadSuit 52 = .ok (.goto (-50), 3) := by decide +kernel
theorem dX7_allOnPadSuit_55 : decode cX7_allOnPadSuit 55 = .ok (.iconst 1, 1) := by decide +kernel
theorem dX7_allOnPadSuit_56 : decode cX7_allOnPadSuit 56 = .ok (.ireturn, 1) := by decide +kernel
theorem dX7_pointsOfGuess_0 : decode cX7_pointsOfGuess 0 = .ok (.aload_n 0, 1) := by decide +kernel
theorem dX7_pointsOfGuess_1 : decode cX7_pointsOfGuess 1 = .ok (.getfield 10, 3) := by decide +kernel
theorem dX7_pointsOfGuess_4 : decode cX7_pointsOfGuess 4 = .ok (.getfield 62, 3) := by decide +kernel
theorem dX7_pointsOfGuess_7 : decode cX7_pointsOfGuess 7 = .ok (.iload_n 2, 1) := by decide +kernel
theorem dX7_pointsOfGuess_8 : decode cX7_pointsOfGuess 8 = .ok (.invokestatic 66, 3) := by decide +kernel
theorem dX7_pointsOfGuess_11 : decode cX7_pointsOfGuess 11 = .ok (.iload_n 3, 1) := by decide +kernel
theorem dX7_pointsOfGuess_12 : decode cX7_pointsOfGuess 12 = .ok (.if_icmp .ne 22, 3) := by decide +kernel
theorem dX7_pointsOfGuess_15 : decode cX7_pointsOfGuess 15 = .ok (.aload_n 1, 1) := by decide +kernel
theorem dX7_pointsOfGuess_16 : decode cX7_pointsOfGuess 16 = .ok (.aload_n 1, 1) := by decide +kernel
theorem dX7_pointsOfGuess_17 : decode cX7_pointsOfGuess 17 = .ok (.iload_n 2, 1) := by decide +kernel
theorem dX7_pointsOfGuess_18 : decode cX7_pointsOfGuess 18 = .ok (.iload_n 3, 1) := by decide +kernel
theorem dX7_pointsOfGuess_19 : decode cX7_pointsOfGuess 19 = .ok (.invokevirtual 211, 3) := by decide +kernel
theorem dX7_pointsOfGuess_22 : decode cX7_pointsOfGuess 22 = .ok (.invokevirtual 284, 3) := by decide +kernel
theorem dX7_pointsOfGuess_25 : decode cX7_pointsOfGuess 25 = .ok (.ifCond .eq 7, 3) := by decide +kernel
theorem dX7_pointsOfGuess_28 : decode cX7_pointsOfGuess 28 = .ok (.iconst 3, 1) := by decide +kernel
theorem dX7_pointsOfGuess_29 : decode cX7_pointsOfGuess 29 = .ok (.goto 4, 3) := by decide +kernel
theorem dX7_pointsOfGuess_32 : decode cX7_pointsOfGuess 32 = .ok (.iconst 5, 1) := by decide +kernel
theorem dX7_pointsOfGuess_33 : decode cX7_pointsOfGuess 33 = .ok (.ireturn, 1) := by decide +kernel
theorem dX7_pointsOfGuess_34 : decode cX7_pointsOfGuess 34 = .ok (.aload_n 1, 1) := by decide +kernel
theorem dX7_pointsOfGuess_35 : decode cX7_pointsOfGuess 35 = .ok (.aload_n 1, 1) := by decide +kernel
theorem dX7_pointsOfGuess_36 : decode cX7_pointsOfGuess 36 = .ok (.iload_n 2, 1) := by decide +kernel
theorem dX7_pointsOfGuess_37 : decode cX7_pointsOfGuess 37 = .ok (.iload_n 3, 1) := by decide +kernel
theorem dX7_pointsOfGuess_38 : decode cX7_pointsOfGuess 38 = .ok (.invokevirtual 211, 3) := by decide +kernel
theorem dX7_pointsOfGuess_41 : decode cX7_pointsOfGuess 41 = .ok (.invokevirtual 287, 3) := by decide +kernel
theorem dX7_pointsOfGuess_44 : decode cX7_pointsOfGuess 44 = .ok (.ifCond .eq 8, 3) := by decide +kernel
theorem dX7_pointsOfGuess_47 : decode cX7_pointsOfGuess 47 = .ok (.bipush (-4), 2) := by decide +kernel
theorem dX7_pointsOfGuess_49 : decode cX7_pointsOfGuess 49 = .ok (.goto 5, 3) := by decide +kernel
theorem dX7_pointsOfGuess_52 : decode cX7_pointsOfGuess 52 = .ok (.bipush (-2), 2) := by decide +kernel
theorem dX7_pointsOfGuess_54 : decode cX7_pointsOfGuess 54 = .ok (.ireturn, 1) := by decide +kernel
theorem dX7_lengthOfText_0 : decode cX7_lengthOfText 0 = .ok (.lload_n 0, 1) := by decide +kernel
theorem dX7_lengthOfText_1 : decode cX7_lengthOfText 1 = .ok (.lstore_n 2, 1) := by decide +kernel
theorem dX7_lengthOfText_2 : decode cX7_lengthOfText 2 = .ok (.iconst 0, 1) := by decide +kernel
theorem dX7_lengthOfText_3 : decode cX7_lengthOfText 3 = .ok (.istore 4, 2) := by decide +kernel
theorem dX7_lengthOfText_5 : decode cX7_lengthOfText 5 = .ok (.iload 4, 2) := by decide +kernel
theorem dX7_lengthOfText_7 : decode cX7_lengthOfText 7 = .ok (.bipush 8, 2) := by decide +kernel
theorem dX7_lengthOfText_9 : decode cX7_lengthOfText 9 = .ok (.if_icmp .ge 51, 3) := by decide +kernel
theorem dX7_lengthOfText_12 : decode cX7_lengthOfText 12 = .ok (.lload_n 2, 1) := by decide +kernel
theorem dX7_lengthOfText_13 : decode cX7_lengthOfText 13 = .ok (.ldc2_w 252, 3) := by decide +kernel
theorem dX7_lengthOfText_16 : decode cX7_lengthOfText 16 = .ok (.land, 1) := by decide +kernel
theorem dX7_lengthOfText_17 : decode cX7_lengthOfText 17 = .ok (.lconst 0, 1) := by decide +kernel
theorem dX7_lengthOfText_18 : decode cX7_lengthOfText 18 = .ok (.lcmp, 1) := by decide +kernel
theorem dX7_lengthOfText_19 : decode cX7_lengthOfText 19 = .ok (.ifCond .eq 41, 3) := by decide +kernel
theorem dX7_lengthOfText_22 : decode cX7_lengthOfText 22 = .ok (.lload_n 2, 1) := by decide +kernel
theorem dX7_lengthOfText_23 : decode cX7_lengthOfText 23 = .ok (.ldc2_w 252, 3) := by decide +kernel
theorem dX7_lengthOfText_26 : decode cX7_lengthOfText 26 = .ok (.land, 1) := by decide +kernel
theorem dX7_lengthOfText_27 : decode cX7_lengthOfText 27 = .ok (.lstore 5, 2) := by decide +kernel
theorem dX7_lengthOfText_29 : decode cX7_lengthOfText 29 = .ok (.lload 5, 2) := by decide +kernel
theorem dX7_lengthOfText_31 : decode cX7_lengthOfText 31 = .ok (.ldc2_w 290, 3) := by decide +kernel
theorem dX7_lengthOfText_34 : decode cX7_lengthOfText 34 = .ok (.lcmp, 1) := by decide +kernel
theorem dX7_lengthOfText_35 : decode cX7_lengthOfText 35 = .ok (.ifCond .lt 12, 3) := by decide +kernel
theorem dX7_lengthOfText_38 : decode cX7_lengthOfText 38 = .ok (.lload 5, 2) := by decide +kernel
theorem dX7_lengthOfText_40 : decode cX7_lengthOfText 40 = .ok (.ldc2_w 292, 3) := by decide +kernel
theorem dX7_lengthOfText_43 : decode cX7_lengthOfText 43 = .ok (.lcmp, 1) := by decide +kernel
theorem dX7_lengthOfText_44 : decode cX7_lengthOfText 44 = .ok (.ifCond .le 5, 3) := by decide +kernel
theorem dX7_lengthOfText_47 : decode cX7_lengthOfText 47 = .ok (.iconst 0, 1) := by decide +kernel
theorem dX7_lengthOfText_48 : decode cX7_lengthOfText 48 = .ok (.ireturn, 1) := by decide +kernel
theorem dX7_lengthOfText_49 : decode cX7_lengthOfText 49 = .ok (.lload_n 2, 1) := by decide +kernel
theorem dX7_lengthOfText_50 : decode cX7_lengthOfText 50 = .ok (.bipush 8, 2) := by decide +kernel
theorem dX7_lengthOfText_52 : decode cX7_lengthOfText 52 = .ok (.lushr, 1) := by decide +kernel
theorem dX7_lengthOfText_53 : decode cX7_lengthOfText 53 = .ok (.lstore_n 2, 1) := by decide +kernel
theorem dX7_lengthOfText_54 : decode cX7_lengthOfText 54 = .ok (.iinc 4 1, 3) := by decide +kernel
theorem dX7_lengthOfText_57 : decode cX7_lengthOfText 57 = .ok (.goto (-52), 3) := by decide +kernel
theorem dX7_lengthOfText_60 : decode cX7_lengthOfText 60 = .ok (.lload_n 2, 1) := by decide +kernel
theorem dX7_lengthOfText_61 : decode cX7_lengthOfText 61 = .ok (.lconst 0, 1) := by decide +kernel
theorem dX7_lengthOfText_62 : decode cX7_lengthOfText 62 = .ok (.lcmp, 1) := by decide +kernel
theorem dX7_lengthOfText_63 : decode cX7_lengthOfText 63 = .ok (.ifCond .ne 8, 3) := by decide +kernel
theorem dX7_lengthOfText_66 : decode cX7_lengthOfText 66 = .ok (.iload 4, 2) := by decide +kernel
theorem dX7_lengthOfText_68 : decode cX7_lengthOfText 68 = .ok (.goto 4, 3) := by decide +kernel
theorem dX7_lengthOfText_71 : decode cX7_lengthOfText 71 = .ok (.iconst 0, 1) := by decide +kernel
theorem dX7_lengthOfText_72 : decode cX7_lengthOfText 72 = .ok (.ireturn, 1) := by decide +kernel
theorem dX7_watchers_0 : decode cX7_watchers 0 = .ok (.iconst 0, 1) := by decide +kernel
theorem dX7_watchers_1 : decode cX7_watchers 1 = .ok (.istore_n 2, 1) := by decide +kernel
theorem dX7_watchers_2 : decode cX7_watchers 2 = .ok (.iconst 0, 1) := by decide +kernel
theorem dX7_watchers_3 : decode cX7_watchers 3 = .ok (.istore_n 3, 1) := by decide +kernel
theorem dX7_watchers_4 : decode cX7_watchers 4 = .ok (.iload_n 3, 1) := by decide +kernel
theorem dX7_watchers_5 : decode cX7_watchers 5 = .ok (.aload_n 0, 1) := by decide +kernel
theorem dX7_watchers_6 : decode cX7_watchers 6 = .ok (.arraylength, 1) := by decide +kernel
theorem dX7_watchers_7 : decode cX7_watchers 7 = .ok (.if_icmp .ge 19, 3) := by decide +kernel
theorem dX7_watchers_10 : decode cX7_watchers 10 = .ok (.aload_n 0, 1) := by decide +kernel
theorem dX7_watchers_11 : decode cX7_watchers 11 = .ok (.iload_n 3, 1) := by decide +kernel
theorem dX7_watchers_12 : decode cX7_watchers 12 = .ok (.iaload, 1) := by decide +kernel
theorem dX7_watchers_13 : decode cX7_watchers 13 = .ok (.iload_n 1, 1) := by decide +kernel
theorem dX7_watchers_14 : decode cX7_watchers 14 = .ok (.if_icmp .ne 6, 3) := by decide +kernel
theorem dX7_watchers_17 : decode cX7_watchers 17 = .ok (.iinc 2 1, 3) := by decide +kernel
theorem dX7_watchers_20 : decode cX7_watchers 20 = .ok (.iinc 3 1, 3) := by decide +kernel
theorem dX7_watchers_23 : decode cX7_watchers 23 = .ok (.goto (-19), 3) := by decide +kernel
theorem dX7_watchers_26 : decode cX7_watchers 26 = .ok (.iload_n 2, 1) := by decide +kernel
theorem dX7_watchers_27 : decode cX7_watchers 27 = .ok (.ireturn, 1) := by decide +kernel
theorem dX7_at_0 : decode cX7_at 0 = .ok (.iload_n 1, 1) := by decide +kernel
theorem dX7_at_1 : decode cX7_at 1 = .ok (.ifCond .lt 15, 3) := by decide +kernel
theorem dX7_at_4 : decode cX7_at 4 = .ok (.iload_n 1, 1) := by decide +kernel
theorem dX7_at_5 : decode cX7_at 5 = .ok (.aload_n 0, 1) := by decide +kernel
theorem dX7_at_6 : decode cX7_at 6 = .ok (.arraylength, 1) := by decide +kernel
theorem dX7_at_7 : decode cX7_at 7 = .ok (.if_icmp .ge 9, 3) := by decide +kernel
theorem dX7_at_10 : decode cX7_at 10 = .ok (.aload_n 0, 1) := by decide +kernel
theorem dX7_at_11 : decode cX7_at 11 = .ok (.iload_n 1, 1) := by decide +kernel
theorem dX7_at_12 : decode cX7_at 12 = .ok (.iaload, 1) := by decide +kernel
theorem dX7_at_13 : decode cX7_at 13 = .ok (.goto 4, 3) := by decide +kernel
theorem dX7_at_16 : decode cX7_at 16 = .ok (.iconst (-1), 1) := by decide +kernel
theorem dX7_at_17 : decode cX7_at 17 = .ok (.ireturn, 1) := by decide +kernel
theorem dX7_setAt_0 : decode cX7_setAt 0 = .ok (.iload_n 1, 1) := by decide +kernel
theorem dX7_setAt_1 : decode cX7_setAt 1 = .ok (.ifCond .lt 13, 3) := by decide +kernel
theorem dX7_setAt_4 : decode cX7_setAt 4 = .ok (.iload_n 1, 1) := by decide +kernel
theorem dX7_setAt_5 : decode cX7_setAt 5 = .ok (.aload_n 0, 1) := by decide +kernel
theorem dX7_setAt_6 : decode cX7_setAt 6 = .ok (.arraylength, 1) := by decide +kernel
theorem dX7_setAt_7 : decode cX7_setAt 7 = .ok (.if_icmp .ge 7, 3) := by decide +kernel
theorem dX7_setAt_10 : decode cX7_setAt 10 = .ok (.aload_n 0, 1) := by decide +kernel
theorem dX7_setAt_11 : decode cX7_setAt 11 = .ok (.iload_n 1, 1) := by decide +kernel
theorem dX7_setAt_12 : decode cX7_setAt 12 = .ok (.iload_n 2, 1) := by decide +kernel
theorem dX7_setAt_13 : decode cX7_setAt 13 = .ok (.iastore, 1) := by decide +kernel
theorem dX7_setAt_14 : decode cX7_setAt 14 = .ok (.return_, 1) := by decide +kernel
theorem dX7_addAt_0 : decode cX7_addAt 0 = .ok (.iload_n 1, 1) := by decide +kernel
theorem dX7_addAt_1 : decode cX7_addAt 1 = .ok (.ifCond .lt 16, 3) := by decide +kernel
theorem dX7_addAt_4 : decode cX7_addAt 4 = .ok (.iload_n 1, 1) := by decide +kernel
theorem dX7_addAt_5 : decode cX7_addAt 5 = .ok (.aload_n 0, 1) := by decide +kernel
theorem dX7_addAt_6 : decode cX7_addAt 6 = .ok (.arraylength, 1) := by decide +kernel
theorem dX7_addAt_7 : decode cX7_addAt 7 = .ok (.if_icmp .ge 10, 3) := by decide +kernel
theorem dX7_addAt_10 : decode cX7_addAt 10 = .ok (.aload_n 0, 1) := by decide +kernel
theorem dX7_addAt_11 : decode cX7_addAt 11 = .ok (.iload_n 1, 1) := by decide +kernel
theorem dX7_addAt_12 : decode cX7_addAt 12 = .ok (.dup2, 1) := by decide +kernel
theorem dX7_addAt_13 : decode cX7_addAt 13 = .ok (.iaload, 1) := by decide +kernel
theorem dX7_addAt_14 : decode cX7_addAt 14 = .ok (.iload_n 2, 1) := by decide +kernel
theorem dX7_addAt_15 : decode cX7_addAt 15 = .ok (.iadd, 1) := by decide +kernel
theorem dX7_addAt_16 : decode cX7_addAt 16 = .ok (.iastore, 1) := by decide +kernel
theorem dX7_addAt_17 : decode cX7_addAt 17 = .ok (.return_, 1) := by decide +kernel
theorem dX7_fillRow_0 : decode cX7_fillRow 0 = .ok (.iconst 0, 1) := by decide +kernel
theorem dX7_fillRow_1 : decode cX7_fillRow 1 = .ok (.istore_n 2, 1) := by decide +kernel
theorem dX7_fillRow_2 : decode cX7_fillRow 2 = .ok (.iload_n 2, 1) := by decide +kernel
theorem dX7_fillRow_3 : decode cX7_fillRow 3 = .ok (.aload_n 0, 1) := by decide +kernel
theorem dX7_fillRow_4 : decode cX7_fillRow 4 = .ok (.arraylength, 1) := by decide +kernel
theorem dX7_fillRow_5 : decode cX7_fillRow 5 = .ok (.if_icmp .ge 13, 3) := by decide +kernel
theorem dX7_fillRow_8 : decode cX7_fillRow 8 = .ok (.aload_n 0, 1) := by decide +kernel
theorem dX7_fillRow_9 : decode cX7_fillRow 9 = .ok (.iload_n 2, 1) := by decide +kernel
theorem dX7_fillRow_10 : decode cX7_fillRow 10 = .ok (.iload_n 1, 1) := by decide +kernel
theorem dX7_fillRow_11 : decode cX7_fillRow 11 = .ok (.iastore, 1) := by decide +kernel
theorem dX7_fillRow_12 : decode cX7_fillRow 12 = .ok (.iinc 2 1, 3) := by decide +kernel
theorem dX7_fillRow_15 : decode cX7_fillRow 15 = .ok (.goto (-13), 3) := by decide +kernel
theorem dX7_fillRow_18 : decode cX7_fillRow 18 = .ok (.return_, 1) := by decide +kernel
theorem dX7_copyRow_0 : decode cX7_copyRow 0 = .ok (.iconst 0, 1) := by decide +kernel
theorem dX7_copyRow_1 : decode cX7_copyRow 1 = .ok (.istore_n 2, 1) := by decide +kernel
theorem dX7_copyRow_2 : decode cX7_copyRow 2 = .ok (.iload_n 2, 1) := by decide +kernel
theorem dX7_copyRow_3 : decode cX7_copyRow 3 = .ok (.aload_n 0, 1) := by decide +kernel
theorem dX7_copyRow_4 : decode cX7_copyRow 4 = .ok (.arraylength, 1) := by decide +kernel
theorem dX7_copyRow_5 : decode cX7_copyRow 5 = .ok (.if_icmp .ge 21, 3) := by decide +kernel
theorem dX7_copyRow_8 : decode cX7_copyRow 8 = .ok (.iload_n 2, 1) := by decide +kernel
theorem dX7_copyRow_9 : decode cX7_copyRow 9 = .ok (.aload_n 1, 1) := by decide +kernel
theorem dX7_copyRow_10 : decode cX7_copyRow 10 = .ok (.arraylength, 1) := by decide +kernel
theorem dX7_copyRow_11 : decode cX7_copyRow 11 = .ok (.if_icmp .ge 15, 3) := by decide +kernel
theorem dX7_copyRow_14 : decode cX7_copyRow 14 = .ok (.aload_n 1, 1) := by decide +kernel
theorem dX7_copyRow_15 : decode cX7_copyRow 15 = .ok (.iload_n 2, 1) := by decide +kernel
theorem dX7_copyRow_16 : decode cX7_copyRow 16 = .ok (.aload_n 0, 1) := by decide +kernel
theorem dX7_copyRow_17 : decode cX7_copyRow 17 = .ok (.iload_n 2, 1) := by decide +kernel
theorem dX7_copyRow_18 : decode cX7_copyRow 18 = .ok (.iaload, 1) := by decide +kernel
theorem dX7_copyRow_19 : decode cX7_copyRow 19 = .ok (.iastore, 1) := by decide +kernel
theorem dX7_copyRow_20 : decode cX7_copyRow 20 = .ok (.iinc 2 1, 3) := by decide +kernel
theorem dX7_copyRow_23 : decode cX7_copyRow 23 = .ok (.goto (-21), 3) := by decide +kernel
theorem dX7_copyRow_26 : decode cX7_copyRow 26 = .ok (.return_, 1) := by decide +kernel
theorem dX8_init_0 : decode cX8_init 0 = .ok (.aload_n 0, 1) := by decide +kernel
theorem dX8_init_1 : decode cX8_init 1 = .ok (.invokespecial 1, 3) := by decide +kernel
theorem dX8_init_4 : decode cX8_init 4 = .ok (.aload_n 0, 1) := by decide +kernel
theorem dX8_init_5 : decode cX8_init 5 = .ok (.bipush 121, 2) := by decide +kernel
theorem dX8_init_7 : decode cX8_init 7 = .ok (.newarray .int, 2) := by decide +kernel
theorem dX8_init_9 : decode cX8_init 9 = .ok (.putfield 7, 3) := by decide +kernel
theorem dX8_init_12 : decode cX8_init 12 = .ok (.aload_n 0, 1) := by decide +kernel
theorem dX8_init_13 : decode cX8_init 13 = .ok (.sipush 726, 3) := by decide +kernel
theorem dX8_init_16 : decode cX8_init 16 = .ok (.newarray .int, 2) := by decide +kernel
theorem dX8_init_18 : decode cX8_init 18 = .ok (.putfield 13, 3) := by decide +kernel
theorem dX8_init_21 : decode cX8_init 21 = .ok (.aload_n 0, 1) := by decide +kernel
theorem dX8_init_22 : decode cX8_init 22 = .ok (.sipush 242, 3) := by decide +kernel
theorem dX8_init_25 : decode cX8_init 25 = .ok (.newarray .int, 2) := by decide +kernel
theorem dX8_init_27 : decode cX8_init 27 = .ok (.putfield 16, 3) := by decide +kernel
theorem dX8_init_30 : decode cX8_init 30 = .ok (.aload_n 0, 1) := by decide +kernel
theorem dX8_init_31 : decode cX8_init 31 = .ok (.iconst 2, 1) := by decide +kernel
theorem dX8_init_32 : decode cX8_init 32 = .ok (.newarray .int, 2) := by decide +kernel
theorem dX8_init_34 : decode cX8_init 34 = .ok (.putfield 19, 3) := by decide +kernel
theorem dX8_init_37 : decode cX8_init 37 = .ok (.aload_n 0, 1) := by decide +kernel
theorem dX8_init_38 : decode cX8_init 38 = .ok (.bipush 60, 2) := by decide +kernel
theorem dX8_init_40 : decode cX8_init 40 = .ok (.newarray .int, 2) := by decide +kernel
theorem dX8_init_42 : decode cX8_init 42 = .ok (.putfield 22, 3) := by decide +kernel
theorem dX8_init_45 : decode cX8_init 45 = .ok (.aload_n 0, 1) := by decide +kernel
theorem dX8_init_46 : decode cX8_init 46 = .ok (.bipush 6, 2) := by decide +kernel
theorem dX8_init_48 : decode cX8_init 48 = .ok (.newarray .int, 2) := by decide +kernel
theorem dX8_init_50 : decode cX8_init 50 = .ok (.putfield 25, 3) := by decide +kernel
theorem dX8_init_53 : decode cX8_init 53 = .ok (.aload_n 0, 1) := by decide +kernel
theorem dX8_init_54 : decode cX8_init 54 = .ok (.bipush 36, 2) := by decide +kernel
theorem dX8_init_56 : decode cX8_init 56 = .ok (.newarray .int, 2) := by decide +kernel
theorem dX8_init_58 : decode cX8_init 58 = .ok (.putfield 28, 3) := by decide +kernel
theorem dX8_init_61 : decode cX8_init 61 = .ok (.aload_n 0, 1) := by decide +kernel
theorem dX8_init_62 : decode cX8_init 62 = .ok (.bipush 20, 2) := by decide +kernel
theorem dX8_init_64 : decode cX8_init 64 = .ok (.newarray .int, 2) := by decide +kernel
theorem dX8_init_66 : decode cX8_init 66 = .ok (.putfield 31, 3) := by decide +kernel
theorem dX8_init_69 : decode cX8_init 69 = .ok (.aload_n 0, 1) := by decide +kernel
theorem dX8_init_70 : decode cX8_init 70 = .ok (.bipush 20, 2) := by decide +kernel
theorem dX8_init_72 : decode cX8_init 72 = .ok (.newarray .int, 2) := by decide +kernel
theorem dX8_init_74 : decode cX8_init 74 = .ok (.putfield 34, 3) := by decide +kernel
theorem dX8_init_77 : decode cX8_init 77 = .ok (.aload_n 0, 1) := by decide +kernel
theorem dX8_init_78 : decode cX8_init 78 = .ok (.iconst 4, 1) := by decide +kernel
theorem dX8_init_79 : decode cX8_init 79 = .ok (.invokevirtual 37, 3) := by decide +kernel
theorem dX8_init_82 : decode cX8_init 82 = .ok (.return_, 1) := by decide +kernel
theorem dX8_moves_0 : decode cX8_moves 0 = .ok (.iconst 0, 1) := by decide +kernel
theorem dX8_moves_1 : decode cX8_moves 1 = .ok (.istore 4, 2) := by decide +kernel
theorem dX8_moves_3 : decode cX8_moves 3 = .ok (.iload 4, 2) := by decide +kernel
theorem dX8_moves_5 : decode cX8_moves 5 = .ok (.bipush 121, 2) := by decide +kernel
theorem dX8_moves_7 : decode cX8_moves 7 = .ok (.if_icmp .ge 21, 3) := by decide +kernel
theorem dX8_moves_10 : decode cX8_moves 10 = .ok (.aload_n 2, 1) := by decide +kernel
theorem dX8_moves_11 : decode cX8_moves 11 = .ok (.iload_n 3, 1) := by decide +kernel
theorem dX8_moves_12 : decode cX8_moves 12 = .ok (.iload 4, 2) := by decide +kernel
theorem dX8_moves_14 : decode cX8_moves 14 = .ok (.iadd, 1) := by decide +kernel
theorem dX8_moves_15 : decode cX8_moves 15 = .ok (.aload_n 0, 1) := by decide +kernel
theorem dX8_moves_16 : decode cX8_moves 16 = .ok (.iload_n 1, 1) := by decide +kernel
theorem dX8_moves_17 : decode cX8_moves 17 = .ok (.iload 4, 2) := by decide +kernel
theorem dX8_moves_19 : decode cX8_moves 19 = .ok (.iadd, 1) := by decide +kernel
theorem dX8_moves_20 : decode cX8_moves 20 = .ok (.iaload, 1) := by decide +kernel
theorem dX8_moves_21 : decode cX8_moves 21 = .ok (.iastore, 1) := by decide +kernel
theorem dX8_moves_22 : decode cX8_moves 22 = .ok (.iinc 4 1, 3) := by decide +kernel
theorem dX8_moves_25 : decode cX8_moves 25 = .ok (.goto (-22), 3) := by decide +kernel
theorem dX8_moves_28 : decode cX8_moves 28 = .ok (.return_, 1) := by decide +kernel
theorem dX8_within_0 : decode cX8_within 0 = .ok (.iload_n 0, 1) := by decide +kernel
theorem dX8_within_1 : decode cX8_within 1 = .ok (.iload_n 1, 1) := by decide +kernel
theorem dX8_within_2 : decode cX8_within 2 = .ok (.if_icmp .lt 12, 3) := by decide +kernel
theorem dX8_within_5 : decode cX8_within 5 = .ok (.iload_n 0, 1) := by decide +kernel
theorem dX8_within_6 : decode cX8_within 6 = .ok (.iload_n 2, 1) := by decide +kernel
theorem dX8_within_7 : decode cX8_within 7 = .ok (.if_icmp .gt 7, 3) := by decide +kernel
theorem dX8_within_10 : decode cX8_within 10 = .ok (.iconst 1, 1) := by decide +kernel
theorem dX8_within_11 : decode cX8_within 11 = .ok (.goto 4, 3) := by decide +kernel
theorem dX8_within_14 : decode cX8_within 14 = .ok (.iconst 0, 1) := by decide +kernel
theorem dX8_within_15 : decode cX8_within 15 = .ok (.ireturn, 1) := by decide +kernel
theorem dX8_record_0 : decode cX8_record 0 = .ok (.aload_n 0, 1) := by decide +kernel
theorem dX8_record_1 : decode cX8_record 1 = .ok (.getfield 41, 3) := by decide +kernel
theorem dX8_record_4 : decode cX8_record 4 = .ok (.bipush 6, 2) := by decide +kernel
theorem dX8_record_6 : decode cX8_record 6 = .ok (.if_icmp .ne 43, 3) := by decide +kernel
theorem dX8_record_9 : decode cX8_record 9 = .ok (.iconst 0, 1) := by decide +kernel
theorem dX8_record_10 : decode cX8_record 10 = .ok (.istore_n 1, 1) := by decide +kernel
theorem dX8_record_11 : decode cX8_record 11 = .ok (.iload_n 1, 1) := by decide +kernel
theorem dX8_record_12 : decode cX8_record 12 = .ok (.sipush 605, 3) := by decide +kernel
theorem dX8_record_15 : decode cX8_record 15 = .ok (.if_icmp .ge 24, 3) := by decide +kernel
theorem dX8_record_18 : decode cX8_record 18 = .ok (.aload_n 0, 1) := by decide +kernel
theorem dX8_record_19 : decode cX8_record 19 = .ok (.getfield 13, 3) := by decide +kernel
theorem dX8_record_22 : decode cX8_record 22 = .ok (.iload_n 1, 1) := by decide +kernel
theorem dX8_record_23 : decode cX8_record 23 = .ok (.aload_n 0, 1) := by decide +kernel
theorem dX8_record_24 : decode cX8_record 24 = .ok (.getfield 13, 3) := by decide +kernel
theorem dX8_record_27 : decode cX8_record 27 = .ok (.iload_n 1, 1) := by decide +kernel
theorem dX8_record_28 : decode cX8_record 28 = .ok (.bipush 121, 2) := by decide +kernel
theorem dX8_record_30 : decode cX8_record 30 = .ok (.iadd, 1) := by decide +kernel
theorem dX8_record_31 : decode cX8_record 31 = .ok (.iaload, 1) := by decide +kernel
theorem dX8_record_32 : decode cX8_record 32 = .ok (.iastore, 1) := by decide +kernel
theorem dX8_record_33 : decode cX8_record 33 = .ok (.iinc 1 1, 3) := by decide +kernel
theorem dX8_record_36 : decode cX8_record 36 = .ok (.goto (-25), 3) := by decide +kernel
theorem dX8_record_39 : decode cX8_record 39 = .ok (.aload_n 0, 1) := by decide +kernel
theorem dX8_record_40 : decode cX8_record 40 = .ok (.dup, 1) := by decide +kernel
theorem dX8_record_41 : decode cX8_record 41 = .ok (.getfield 41, 3) := by decide +kernel
theorem dX8_record_44 : decode cX8_record 44 = .ok (.iconst 1, 1) := by decide +kernel
theorem dX8_record_45 : decode cX8_record 45 = .ok (.isub, 1) := by decide +kernel
theorem dX8_record_46 : decode cX8_record 46 = .ok (.putfield 41, 3) := by decide +kernel
theorem dX8_record_49 : decode cX8_record 49 = .ok (.aload_n 0, 1) := by decide +kernel
theorem dX8_record_50 : decode cX8_record 50 = .ok (.getfield 7, 3) := by decide +kernel
theorem dX8_record_53 : decode cX8_record 53 = .ok (.iconst 0, 1) := by decide +kernel
theorem dX8_record_54 : decode cX8_record 54 = .ok (.aload_n 0, 1) := by decide +kernel
theorem dX8_record_55 : decode cX8_record 55 = .ok (.getfield 13, 3) := by decide +kernel
theorem dX8_record_58 : decode cX8_record 58 = .ok (.aload_n 0, 1) := by decide +kernel
theorem dX8_record_59 : decode cX8_record 59 = .ok (.getfield 41, 3) := by decide +kernel
theorem dX8_record_62 : decode cX8_record 62 = .ok (.bipush 121, 2) := by decide +kernel
theorem dX8_record_64 : decode cX8_record 64 = .ok (.imul, 1) := by decide +kernel
theorem dX8_record_65 : decode cX8_record 65 = .ok (.invokestatic 45, 3) := by decide +kernel
theorem dX8_record_68 : decode cX8_record 68 = .ok (.aload_n 0, 1) := by decide +kernel
theorem dX8_record_69 : decode cX8_record 69 = .ok (.dup, 1) := by decide +kernel
theorem dX8_record_70 : decode cX8_record 70 = .ok (.getfield 41, 3) := by decide +kernel
theorem dX8_record_73 : decode cX8_record 73 = .ok (.iconst 1, 1) := by decide +kernel
theorem dX8_record_74 : decode cX8_record 74 = .ok (.iadd, 1) := by decide +kernel
theorem dX8_record_75 : decode cX8_record 75 = .ok (.putfield 41, 3) := by decide +kernel
theorem dX8_record_78 : decode cX8_record 78 = .ok (.return_, 1) := by decide +kernel
theorem dX8_begins_0 : decode cX8_begins 0 = .ok (.iconst 0, 1) := by decide +kernel
theorem dX8_begins_1 : decode cX8_begins 1 = .ok (.istore_n 2, 1) := by decide +kernel
theorem dX8_begins_2 : decode cX8_begins 2 = .ok (.iload_n 2, 1) := by decide +kernel
theorem dX8_begins_3 : decode cX8_begins 3 = .ok (.bipush 121, 2) := by decide +kernel
theorem dX8_begins_5 : decode cX8_begins 5 = .ok (.if_icmp .ge 16, 3) := by decide +kernel
theorem dX8_begins_8 : decode cX8_begins 8 = .ok (.aload_n 0, 1) := by decide +kernel
theorem dX8_begins_9 : decode cX8_begins 9 = .ok (.getfield 7, 3) := by decide +kernel
theorem dX8_begins_12 : decode cX8_begins 12 = .ok (.iload_n 2, 1) := by decide +kernel
theorem dX8_begins_13 : decode cX8_begins 13 = .ok (.iconst 0, 1) := by decide +kernel
theorem dX8_begins_14 : decode cX8_begins 14 = .ok (.iastore, 1) := by decide +kernel
theorem dX8_begins_15 : decode cX8_begins 15 = .ok (.iinc 2 1, 3) := by decide +kernel
theorem dX8_begins_18 : decode cX8_begins 18 = .ok (.goto (-16), 3) := by decide +kernel
theorem dX8_begins_21 : decode cX8_begins 21 = .ok (.aload_n 0, 1) := by decide +kernel
theorem dX8_begins_22 : decode cX8_begins 22 = .ok (.getfield 7, 3) := by decide +kernel
theorem dX8_begins_25 : decode cX8_begins 25 = .ok (.iconst 0, 1) := by decide +kernel
theorem dX8_begins_26 : decode cX8_begins 26 = .ok (.iload_n 1, 1) := by decide +kernel
theorem dX8_begins_27 : decode cX8_begins 27 = .ok (.iastore, 1) := by decide +kernel
theorem dX8_begins_28 : decode cX8_begins 28 = .ok (.iconst 0, 1) := by decide +kernel
theorem dX8_begins_29 : decode cX8_begins 29 = .ok (.istore_n 2, 1) := by decide +kernel
theorem dX8_begins_30 : decode cX8_begins 30 = .ok (.iload_n 2, 1) := by decide +kernel
theorem dX8_begins_31 : decode cX8_begins 31 = .ok (.iload_n 1, 1) := by decide +kernel
theorem dX8_begins_32 : decode cX8_begins 32 = .ok (.if_icmp .ge 22, 3) := by decide +kernel
theorem dX8_begins_35 : decode cX8_begins 35 = .ok (.aload_n 0, 1) := by decide +kernel
theorem dX8_begins_36 : decode cX8_begins 36 = .ok (.getfield 7, 3) := by decide +kernel
theorem dX8_begins_39 : decode cX8_begins 39 = .ok (.iconst 3, 1) := by decide +kernel
theorem dX8_begins_40 : decode cX8_begins 40 = .ok (.iload_n 2, 1) := by decide +kernel
theorem dX8_begins_41 : decode cX8_begins 41 = .ok (.iadd, 1) := by decide +kernel
theorem dX8_begins_42 : decode cX8_begins 42 = .ok (.iload_n 2, 1) := by decide +kernel
theorem dX8_begins_43 : decode cX8_begins 43 = .ok (.iconst 1, 1) := by decide +kernel
theorem dX8_begins_44 : decode cX8_begins 44 = .ok (.iadd, 1) := by decide +kernel
theorem dX8_begins_45 : decode cX8_begins 45 = .ok (.iload_n 1, 1) := by decide +kernel
theorem dX8_begins_46 : decode cX8_begins 46 = .ok (.irem, 1) := by decide +kernel
theorem dX8_begins_47 : decode cX8_begins 47 = .ok (.iastore, 1) := by decide +kernel
theorem dX8_begins_48 : decode cX8_begins 48 = .ok (.iinc 2 1, 3) := by decide +kernel
theorem dX8_begins_51 : decode cX8_begins 51 = .ok (.goto (-21), 3) := by decide +kernel
theorem dX8_begins_54 : decode cX8_begins 54 = .ok (.return_, 1) := by decide +kernel
theorem dX8_isBox_0 : decode cX8_isBox 0 = .ok (.iload_n 1, 1) := by decide +kernel
theorem dX8_isBox_1 : decode cX8_isBox 1 = .ok (.iconst 0, 1) := by decide +kernel
theorem dX8_isBox_2 : decode cX8_isBox 2 = .ok (.aload_n 0, 1) := by decide +kernel
theorem dX8_isBox_3 : decode cX8_isBox 3 = .ok (.getfield 7, 3) := by decide +kernel
theorem dX8_isBox_6 : decode cX8_isBox 6 = .ok (.iconst 0, 1) := by decide +kernel
theorem dX8_isBox_7 : decode cX8_isBox 7 = .ok (.iaload, 1) := by decide +kernel
theorem dX8_isBox_8 : decode cX8_isBox 8 = .ok (.iconst 1, 1) := by decide +kernel
theorem dX8_isBox_9 : decode cX8_isBox 9 = .ok (.isub, 1) := by decide +kernel
theorem dX8_isBox_10 : decode cX8_isBox 10 = .ok (.invokestatic 49, 3) := by decide +kernel
theorem dX8_isBox_13 : decode cX8_isBox 13 = .ok (.ireturn, 1) := by decide +kernel
theorem dX8_isRumour_0 : decode cX8_isRumour 0 = .ok (.iload_n 1, 1) := by decide +kernel
theorem dX8_isRumour_1 : decode cX8_isRumour 1 = .ok (.iconst 0, 1) := by decide +kernel
theorem dX8_isRumour_2 : decode cX8_isRumour 2 = .ok (.aload_n 0, 1) := by decide +kernel
theorem dX8_isRumour_3 : decode cX8_isRumour 3 = .ok (.getfield 7, 3) := by decide +kernel
theorem dX8_isRumour_6 : decode cX8_isRumour 6 = .ok (.iconst 1, 1) := by decide +kernel
theorem dX8_isRumour_7 : decode cX8_isRumour 7 = .ok (.iaload, 1) := by decide +kernel
theorem dX8_isRumour_8 : decode cX8_isRumour 8 = .ok (.iconst 1, 1) := by decide +kernel
theorem dX8_isRumour_9 : decode cX8_isRumour 9 = .ok (.isub, 1) := by decide +kernel
theorem dX8_isRumour_10 : decode cX8_isRumour 10 = .ok (.invokestatic 49, 3) := by decide +kernel
theorem dX8_isRumour_13 : decode cX8_isRumour 13 = .ok (.ireturn, 1) := by decide +kernel
theorem dX8_part_0 : decode cX8_part 0 = .ok (.aload_n 0, 1) := by decide +kernel
theorem dX8_part_1 : decode cX8_part 1 = .ok (.getfield 7, 3) := by decide +kernel
theorem dX8_part_4 : decode cX8_part 4 = .ok (.bipush 21, 2) := by decide +kernel
theorem dX8_part_6 : decode cX8_part 6 = .ok (.iconst 5, 1) := by decide +kernel
theorem dX8_part_7 : decode cX8_part 7 = .ok (.iload_n 1, 1) := by decide +kernel
theorem dX8_part_8 : decode cX8_part 8 = .ok (.imul, 1) := by decide +kernel
theorem dX8_part_9 : decode cX8_part 9 = .ok (.iadd, 1) := by decide +kernel
theorem dX8_part_10 : decode cX8_part 10 = .ok (.iload_n 2, 1) := by decide +kernel
theorem dX8_part_11 : decode cX8_part 11 = .ok (.iadd, 1) := by decide +kernel
theorem dX8_part_12 : decode cX8_part 12 = .ok (.iaload, 1) := by decide +kernel
theorem dX8_part_13 : decode cX8_part 13 = .ok (.ireturn, 1) := by decide +kernel
theorem dX8_setHow_0 : decode cX8_setHow 0 = .ok (.aload_n 0, 1) := by decide +kernel
theorem dX8_setHow_1 : decode cX8_setHow 1 = .ok (.getfield 7, 3) := by decide +kernel
theorem dX8_setHow_4 : decode cX8_setHow 4 = .ok (.bipush 21, 2) := by decide +kernel
theorem dX8_setHow_6 : decode cX8_setHow 6 = .ok (.iconst 5, 1) := by decide +kernel
theorem dX8_setHow_7 : decode cX8_setHow 7 = .ok (.iload_n 1, 1) := by decide +kernel
theorem dX8_setHow_8 : decode cX8_setHow 8 = .ok (.imul, 1) := by decide +kernel
theorem dX8_setHow_9 : decode cX8_setHow 9 = .ok (.iadd, 1) := by decide +kernel
theorem dX8_setHow_10 : decode cX8_setHow 10 = .ok (.iconst 4, 1) := by decide +kernel
theorem dX8_setHow_11 : decode cX8_setHow 11 = .ok (.iadd, 1) := by decide +kernel
theorem dX8_setHow_12 : decode cX8_setHow 12 = .ok (.iload_n 2, 1) := by decide +kernel
theorem dX8_setHow_13 : decode cX8_setHow 13 = .ok (.iastore, 1) := by decide +kernel
theorem dX8_setHow_14 : decode cX8_setHow 14 = .ok (.return_, 1) := by decide +kernel
theorem dX8_isOpen_0 : decode cX8_isOpen 0 = .ok (.aload_n 0, 1) := by decide +kernel
theorem dX8_isOpen_1 : decode cX8_isOpen 1 = .ok (.iload_n 1, 1) := by decide +kernel
theorem dX8_isOpen_2 : decode cX8_isOpen 2 = .ok (.iconst 4, 1) := by decide +kernel
theorem dX8_isOpen_3 : decode cX8_isOpen 3 = .ok (.invokevirtual 53, 3) := by decide +kernel
theorem dX8_isOpen_6 : decode cX8_isOpen 6 = .ok (.ifCond .ne 7, 3) := by decide +kernel
theorem dX8_isOpen_9 : decode cX8_isOpen 9 = .ok (.iconst 1, 1) := by decide +kernel
theorem dX8_isOpen_10 : decode cX8_isOpen 10 = .ok (.goto 4, 3) := by decide +kernel
theorem dX8_isOpen_13 : decode cX8_isOpen 13 = .ok (.iconst 0, 1) := by decide +kernel
theorem dX8_isOpen_14 : decode cX8_isOpen 14 = .ok (.ireturn, 1) := by decide +kernel
theorem dX8_suits_0 : decode cX8_suits 0 = .ok (.iload_n 1, 1) := by decide +kernel
theorem dX8_suits_1 : decode cX8_suits 1 = .ok (.iconst 0, 1) := by decide +kernel
theorem dX8_suits_2 : decode cX8_suits 2 = .ok (.iconst 5, 1) := by decide +kernel
theorem dX8_suits_3 : decode cX8_suits 3 = .ok (.invokestatic 49, 3) := by decide +kernel
theorem dX8_suits_6 : decode cX8_suits 6 = .ok (.ifCond .ne 5, 3) := by decide +kernel
theorem dX8_suits_9 : decode cX8_suits 9 = .ok (.iconst 0, 1) := by decide +kernel
theorem dX8_suits_10 : decode cX8_suits 10 = .ok (.ireturn, 1) := by decide +kernel
theorem dX8_suits_11 : decode cX8_suits 11 = .ok (.aload_n 0, 1) := by decide +kernel
theorem dX8_suits_12 : decode cX8_suits 12 = .ok (.iload_n 2, 1) := by decide +kernel
theorem dX8_suits_13 : decode cX8_suits 13 = .ok (.invokevirtual 57, 3) := by decide +kernel
theorem dX8_suits_16 : decode cX8_suits 16 = .ok (.ifCond .eq 43, 3) := by decide +kernel
theorem dX8_suits_19 : decode cX8_suits 19 = .ok (.iload_n 1, 1) := by decide +kernel
theorem dX8_suits_20 : decode cX8_suits 20 = .ok (.iconst 4, 1) := by decide +kernel
theorem dX8_suits_21 : decode cX8_suits 21 = .ok (.if_icmp .ne 16, 3) := by decide +kernel
theorem dX8_suits_24 : decode cX8_suits 24 = .ok (.iload_n 3, 1) := by decide +kernel
theorem dX8_suits_25 : decode cX8_suits 25 = .ok (.iconst 0, 1) := by decide +kernel
theorem dX8_suits_26 : decode cX8_suits 26 = .ok (.bipush 6, 2) := by decide +kernel
theorem dX8_suits_28 : decode cX8_suits 28 = .ok (.invokestatic 49, 3) := by decide +kernel
theorem dX8_suits_31 : decode cX8_suits 31 = .ok (.ifCond .eq 28, 3) := by decide +kernel
theorem dX8_suits_34 : decode cX8_suits 34 = .ok (.goto 21, 3) := by decide +kernel
theorem dX8_suits_37 : decode cX8_suits 37 = .ok (.aload_n 0, 1) := by decide +kernel
theorem dX8_suits_38 : decode cX8_suits 38 = .ok (.iload_n 3, 1) := by decide +kernel
theorem dX8_suits_39 : decode cX8_suits 39 = .ok (.invokevirtual 57, 3) := by decide +kernel
theorem dX8_suits_42 : decode cX8_suits 42 = .ok (.ifCond .eq 17, 3) := by decide +kernel
theorem dX8_suits_45 : decode cX8_suits 45 = .ok (.iload_n 1, 1) := by decide +kernel
theorem dX8_suits_46 : decode cX8_suits 46 = .ok (.iconst 5, 1) := by decide +kernel
theorem dX8_suits_47 : decode cX8_suits 47 = .ok (.if_icmp .eq 8, 3) := by decide +kernel
theorem dX8_suits_50 : decode cX8_suits 50 = .ok (.iload_n 2, 1) := by decide +kernel
theorem dX8_suits_51 : decode cX8_suits 51 = .ok (.iload_n 3, 1) := by decide +kernel
theorem dX8_suits_52 : decode cX8_suits 52 = .ok (.if_icmp .eq 7, 3) := by decide +kernel
theorem dX8_suits_55 : decode cX8_suits 55 = .ok (.iconst 1, 1) := by decide +kernel
theorem dX8_suits_56 : decode cX8_suits 56 = .ok (.goto 4, 3) := by decide +kernel
theorem dX8_suits_59 : decode cX8_suits 59 = .ok (.iconst 0, 1) := by decide +kernel
theorem dX8_suits_60 : decode cX8_suits 60 = .ok (.ireturn, 1) := by decide +kernel
theorem dX8_lookers_0 : decode cX8_lookers 0 = .ok (.iconst 0, 1) := by decide +kernel
theorem dX8_lookers_1 : decode cX8_lookers 1 = .ok (.istore_n 2, 1) := by decide +kernel
theorem dX8_lookers_2 : decode cX8_lookers 2 = .ok (.iconst 0, 1) := by decide +kernel
theorem dX8_lookers_3 : decode cX8_lookers 3 = .ok (.istore_n 3, 1) := by decide +kernel
theorem dX8_lookers_4 : decode cX8_lookers 4 = .ok (.iload_n 3, 1) := by decide +kernel
theorem dX8_lookers_5 : decode cX8_lookers 5 = .ok (.aload_n 0, 1) := by decide +kernel
theorem dX8_lookers_6 : decode cX8_lookers 6 = .ok (.getfield 7, 3) := by decide +kernel
theorem dX8_lookers_9 : decode cX8_lookers 9 = .ok (.iconst 0, 1) := by decide +kernel
theorem dX8_lookers_10 : decode cX8_lookers 10 = .ok (.iaload, 1) := by decide +kernel
theorem dX8_lookers_11 : decode cX8_lookers 11 = .ok (.if_icmp .ge 27, 3) := by decide +kernel
theorem dX8_lookers_14 : decode cX8_lookers 14 = .ok (.iload_n 2, 1) := by decide +kernel
theorem dX8_lookers_15 : decode cX8_lookers 15 = .ok (.aload_n 0, 1) := by decide +kernel
theorem dX8_lookers_16 : decode cX8_lookers 16 = .ok (.getfield 25, 3) := by decide +kernel
theorem dX8_lookers_19 : decode cX8_lookers 19 = .ok (.iload_n 3, 1) := by decide +kernel
theorem dX8_lookers_20 : decode cX8_lookers 20 = .ok (.iaload, 1) := by decide +kernel
theorem dX8_lookers_21 : decode cX8_lookers 21 = .ok (.iload_n 1, 1) := by decide +kernel
theorem dX8_lookers_22 : decode cX8_lookers 22 = .ok (.if_icmp .ne 7, 3) := by decide +kernel
theorem dX8_lookers_25 : decode cX8_lookers 25 = .ok (.iconst 1, 1) := by decide +kernel
theorem dX8_lookers_26 : decode cX8_lookers 26 = .ok (.goto 4, 3) := by decide +kernel
theorem dX8_lookers_29 : decode cX8_lookers 29 = .ok (.iconst 0, 1) := by decide +kernel
theorem dX8_lookers_30 : decode cX8_lookers 30 = .ok (.iadd, 1) := by decide +kernel
theorem dX8_lookers_31 : decode cX8_lookers 31 = .ok (.istore_n 2, 1) := by decide +kernel
theorem dX8_lookers_32 : decode cX8_lookers 32 = .ok (.iinc 3 1, 3) := by decide +kernel
theorem dX8_lookers_35 : decode cX8_lookers 35 = .ok (.goto (-31), 3) := by decide +kernel
theorem dX8_lookers_38 : decode cX8_lookers 38 = .ok (.iload_n 2, 1) := by decide +kernel
theorem dX8_lookers_39 : decode cX8_lookers 39 = .ok (.ireturn, 1) := by decide +kernel
theorem dX8_holds_0 : decode cX8_holds 0 = .ok (.iload_n 1, 1) := by decide +kernel
theorem dX8_holds_1 : decode cX8_holds 1 = .ok (.tableswitch 129 0 4 #[35, 51, 67, 93, 114], 35) := by decide +kernel
theorem dX8_holds_36 : decode cX8_holds 36 = .ok (.aload_n 0, 1) := by decide +kernel
theorem dX8_holds_37 : decode cX8_holds 37 = .ok (.getfield 25, 3) := by decide +kernel
theorem dX8_holds_40 : decode cX8_holds 40 = .ok (.iload_n 2, 1) := by decide +kernel
theorem dX8_holds_41 : decode cX8_holds 41 = .ok (.iaload, 1) := by decide +kernel
theorem dX8_holds_42 : decode cX8_holds 42 = .ok (.iload_n 3, 1) := by decide +kernel
theorem dX8_holds_43 : decode cX8_holds 43 = .ok (.if_icmp .ne 7, 3) := by decide +kernel
theorem dX8_holds_46 : decode cX8_holds 46 = .ok (.iconst 1, 1) := by decide +kernel
theorem dX8_holds_47 : decode cX8_holds 47 = .ok (.goto 4, 3) := by decide +kernel
theorem dX8_holds_50 : decode cX8_holds 50 = .ok (.iconst 0, 1) := by decide +kernel
theorem dX8_holds_51 : decode cX8_holds 51 = .ok (.ireturn, 1) := by decide +kernel
theorem dX8_holds_52 : decode cX8_holds 52 = .ok (.aload_n 0, 1) := by decide +kernel
theorem dX8_holds_53 : decode cX8_holds 53 = .ok (.getfield 25, 3) := by decide +kernel
end
section
theorem dX8_holds_56 : decode cX8_holds 56 = .ok (.iload_n 2, 1) := by decide +kernel
theorem dX8_holds_57 : decode cX8_holds 57 = .ok (.iaload, 1) := by decide +kernel
theorem dX8_holds_58 : decode cX8_holds 58 = .ok (.iload_n 3, 1) := by decide +kernel
theorem dX8_holds_59 : decode cX8_holds 59 = .ok (.if_icmp .eq 7, 3) := by decide +kernel
theorem dX8_holds_62 : decode cX8_holds 62 = .ok (.iconst 1, 1) := by decide +kernel
theorem dX8_holds_63 : decode cX8_holds 63 = .ok (.goto 4, 3) := by decide +kernel
theorem dX8_holds_66 : decode cX8_holds 66 = .ok (.iconst 0, 1) := by decide +kernel
theorem dX8_holds_67 : decode cX8_holds 67 = .ok (.ireturn, 1) := by decide +kernel
theorem dX8_holds_68 : decode cX8_holds 68 = .ok (.aload_n 0, 1) := by decide +kernel
theorem dX8_holds_69 : decode cX8_holds 69 = .ok (.getfield 25, 3) := by decide +kernel
theorem dX8_holds_72 : decode cX8_holds 72 = .ok (.iload_n 2, 1) := by decide +kernel
theorem dX8_holds_73 : decode cX8_holds 73 = .ok (.iaload, 1) := by decide +kernel
theorem dX8_holds_74 : decode cX8_holds 74 = .ok (.iload_n 3, 1) := by decide +kernel
theorem dX8_holds_75 : decode cX8_holds 75 = .ok (.if_icmp .ne 17, 3) := by decide +kernel
theorem dX8_holds_78 : decode cX8_holds 78 = .ok (.aload_n 0, 1) := by decide +kernel
theorem dX8_holds_79 : decode cX8_holds 79 = .ok (.getfield 25, 3) := by decide +kernel
theorem dX8_holds_82 : decode cX8_holds 82 = .ok (.iload_n 3, 1) := by decide +kernel
theorem dX8_holds_83 : decode cX8_holds 83 = .ok (.iaload, 1) := by decide +kernel
theorem dX8_holds_84 : decode cX8_holds 84 = .ok (.iload_n 2, 1) := by decide +kernel
theorem dX8_holds_85 : decode cX8_holds 85 = .ok (.if_icmp .ne 7, 3) := by decide +kernel
theorem dX8_holds_88 : decode cX8_holds 88 = .ok (.iconst 1, 1) := by decide +kernel
theorem dX8_holds_89 : decode cX8_holds 89 = .ok (.goto 4, 3) := by decide +kernel
theorem dX8_holds_92 : decode cX8_holds 92 = .ok (.iconst 0, 1) := by decide +kernel
theorem dX8_holds_93 : decode cX8_holds 93 = .ok (.ireturn, 1) := by decide +kernel
theorem dX8_holds_94 : decode cX8_holds 94 = .ok (.aload_n 0, 1) := by decide +kernel
theorem dX8_holds_95 : decode cX8_holds 95 = .ok (.getfield 25, 3) := by decide +kernel
theorem dX8_holds_98 : decode cX8_holds 98 = .ok (.iload_n 2, 1) := by decide +kernel
theorem dX8_holds_99 : decode cX8_holds 99 = .ok (.iaload, 1) := by decide +kernel
theorem dX8_holds_100 : decode cX8_holds 100 = .ok (.aload_n 0, 1) := by decide +kernel
theorem dX8_holds_101 : decode cX8_holds 101 = .ok (.getfield 25, 3) := by decide +kernel
theorem dX8_holds_104 : decode cX8_holds 104 = .ok (.iload_n 3, 1) := by decide +kernel
theorem dX8_holds_105 : decode cX8_holds 105 = .ok (.iaload, 1) := by decide +kernel
theorem dX8_holds_106 : decode cX8_holds 106 = .ok (.if_icmp .ne 7, 3) := by decide +kernel
theorem dX8_holds_109 : decode cX8_holds 109 = .ok (.iconst 1, 1) := by decide +kernel
theorem dX8_holds_110 : decode cX8_holds 110 = .ok (.goto 4, 3) := by decide +kernel
theorem dX8_holds_113 : decode cX8_holds 113 = .ok (.iconst 0, 1) := by decide +kernel
theorem dX8_holds_114 : decode cX8_holds 114 = .ok (.ireturn, 1) := by decide +kernel
theorem dX8_holds_115 : decode cX8_holds 115 = .ok (.aload_n 0, 1) := by decide +kernel
theorem dX8_holds_116 : decode cX8_holds 116 = .ok (.iload_n 2, 1) := by decide +kernel
theorem dX8_holds_117 : decode cX8_holds 117 = .ok (.invokevirtual 61, 3) := by decide +kernel
theorem dX8_holds_120 : decode cX8_holds 120 = .ok (.iload_n 3, 1) := by decide +kernel
theorem dX8_holds_121 : decode cX8_holds 121 = .ok (.if_icmp .ne 7, 3) := by decide +kernel
theorem dX8_holds_124 : decode cX8_holds 124 = .ok (.iconst 1, 1) := by decide +kernel
theorem dX8_holds_125 : decode cX8_holds 125 = .ok (.goto 4, 3) := by decide +kernel
theorem dX8_holds_128 : decode cX8_holds 128 = .ok (.iconst 0, 1) := by decide +kernel
theorem dX8_holds_129 : decode cX8_holds 129 = .ok (.ireturn, 1) := by decide +kernel
theorem dX8_holds_130 : decode cX8_holds 130 = .ok (.aload_n 0, 1) := by decide +kernel
theorem dX8_holds_131 : decode cX8_holds 131 = .ok (.getfield 25, 3) := by decide +kernel
theorem dX8_holds_134 : decode cX8_holds 134 = .ok (.aload_n 0, 1) := by decide +kernel
theorem dX8_holds_135 : decode cX8_holds 135 = .ok (.getfield 25, 3) := by decide +kernel
theorem dX8_holds_138 : decode cX8_holds 138 = .ok (.iload_n 2, 1) := by decide +kernel
theorem dX8_holds_139 : decode cX8_holds 139 = .ok (.iaload, 1) := by decide +kernel
theorem dX8_holds_140 : decode cX8_holds 140 = .ok (.iaload, 1) := by decide +kernel
theorem dX8_holds_141 : decode cX8_holds 141 = .ok (.iload_n 3, 1) := by decide +kernel
theorem dX8_holds_142 : decode cX8_holds 142 = .ok (.if_icmp .ne 7, 3) := by decide +kernel
theorem dX8_holds_145 : decode cX8_holds 145 = .ok (.iconst 1, 1) := by decide +kernel
theorem dX8_holds_146 : decode cX8_holds 146 = .ok (.goto 4, 3) := by decide +kernel
theorem dX8_holds_149 : decode cX8_holds 149 = .ok (.iconst 0, 1) := by decide +kernel
theorem dX8_holds_150 : decode cX8_holds 150 = .ok (.ireturn, 1) := by decide +kernel
theorem dX8_holdsRumour_0 : decode cX8_holdsRumour 0 = .ok (.aload_n 0, 1) := by decide +kernel
theorem dX8_holdsRumour_1 : decode cX8_holdsRumour 1 = .ok (.aload_n 0, 1) := by decide +kernel
theorem dX8_holdsRumour_2 : decode cX8_holdsRumour 2 = .ok (.iload_n 1, 1) := by decide +kernel
theorem dX8_holdsRumour_3 : decode cX8_holdsRumour 3 = .ok (.iconst 1, 1) := by decide +kernel
theorem dX8_holdsRumour_4 : decode cX8_holdsRumour 4 = .ok (.invokevirtual 53, 3) := by decide +kernel
theorem dX8_holdsRumour_7 : decode cX8_holdsRumour 7 = .ok (.aload_n 0, 1) := by decide +kernel
theorem dX8_holdsRumour_8 : decode cX8_holdsRumour 8 = .ok (.iload_n 1, 1) := by decide +kernel
theorem dX8_holdsRumour_9 : decode cX8_holdsRumour 9 = .ok (.iconst 2, 1) := by decide +kernel
theorem dX8_holdsRumour_10 : decode cX8_holdsRumour 10 = .ok (.invokevirtual 53, 3) := by decide +kernel
theorem dX8_holdsRumour_13 : decode cX8_holdsRumour 13 = .ok (.aload_n 0, 1) := by decide +kernel
theorem dX8_holdsRumour_14 : decode cX8_holdsRumour 14 = .ok (.iload_n 1, 1) := by decide +kernel
theorem dX8_holdsRumour_15 : decode cX8_holdsRumour 15 = .ok (.iconst 3, 1) := by decide +kernel
theorem dX8_holdsRumour_16 : decode cX8_holdsRumour 16 = .ok (.invokevirtual 53, 3) := by decide +kernel
theorem dX8_holdsRumour_19 : decode cX8_holdsRumour 19 = .ok (.invokevirtual 65, 3) := by decide +kernel
theorem dX8_holdsRumour_22 : decode cX8_holdsRumour 22 = .ok (.ireturn, 1) := by decide +kernel
theorem dX8_takeTruth_0 : decode cX8_takeTruth 0 = .ok (.iconst 0, 1) := by decide +kernel
theorem dX8_takeTruth_1 : decode cX8_takeTruth 1 = .ok (.istore_n 1, 1) := by decide +kernel
theorem dX8_takeTruth_2 : decode cX8_takeTruth 2 = .ok (.iload_n 1, 1) := by decide +kernel
theorem dX8_takeTruth_3 : decode cX8_takeTruth 3 = .ok (.aload_n 0, 1) := by decide +kernel
theorem dX8_takeTruth_4 : decode cX8_takeTruth 4 = .ok (.getfield 7, 3) := by decide +kernel
theorem dX8_takeTruth_7 : decode cX8_takeTruth 7 = .ok (.iconst 0, 1) := by decide +kernel
theorem dX8_takeTruth_8 : decode cX8_takeTruth 8 = .ok (.iaload, 1) := by decide +kernel
theorem dX8_takeTruth_9 : decode cX8_takeTruth 9 = .ok (.if_icmp .ge 23, 3) := by decide +kernel
theorem dX8_takeTruth_12 : decode cX8_takeTruth 12 = .ok (.aload_n 0, 1) := by decide +kernel
theorem dX8_takeTruth_13 : decode cX8_takeTruth 13 = .ok (.getfield 25, 3) := by decide +kernel
theorem dX8_takeTruth_16 : decode cX8_takeTruth 16 = .ok (.iload_n 1, 1) := by decide +kernel
theorem dX8_takeTruth_17 : decode cX8_takeTruth 17 = .ok (.aload_n 0, 1) := by decide +kernel
theorem dX8_takeTruth_18 : decode cX8_takeTruth 18 = .ok (.getfield 7, 3) := by decide +kernel
theorem dX8_takeTruth_21 : decode cX8_takeTruth 21 = .ok (.iconst 3, 1) := by decide +kernel
theorem dX8_takeTruth_22 : decode cX8_takeTruth 22 = .ok (.iload_n 1, 1) := by decide +kernel
theorem dX8_takeTruth_23 : decode cX8_takeTruth 23 = .ok (.iadd, 1) := by decide +kernel
theorem dX8_takeTruth_24 : decode cX8_takeTruth 24 = .ok (.iaload, 1) := by decide +kernel
theorem dX8_takeTruth_25 : decode cX8_takeTruth 25 = .ok (.iastore, 1) := by decide +kernel
theorem dX8_takeTruth_26 : decode cX8_takeTruth 26 = .ok (.iinc 1 1, 3) := by decide +kernel
theorem dX8_takeTruth_29 : decode cX8_takeTruth 29 = .ok (.goto (-27), 3) := by decide +kernel
theorem dX8_takeTruth_32 : decode cX8_takeTruth 32 = .ok (.return_, 1) := by decide +kernel
theorem dX8_isTrue_0 : decode cX8_isTrue 0 = .ok (.aload_n 0, 1) := by decide +kernel
theorem dX8_isTrue_1 : decode cX8_isTrue 1 = .ok (.invokevirtual 68, 3) := by decide +kernel
theorem dX8_isTrue_4 : decode cX8_isTrue 4 = .ok (.aload_n 0, 1) := by decide +kernel
theorem dX8_isTrue_5 : decode cX8_isTrue 5 = .ok (.iload_n 1, 1) := by decide +kernel
theorem dX8_isTrue_6 : decode cX8_isTrue 6 = .ok (.invokevirtual 71, 3) := by decide +kernel
theorem dX8_isTrue_9 : decode cX8_isTrue 9 = .ok (.ireturn, 1) := by decide +kernel
theorem dX8_worldsInAll_0 : decode cX8_worldsInAll 0 = .ok (.iconst 1, 1) := by decide +kernel
theorem dX8_worldsInAll_1 : decode cX8_worldsInAll 1 = .ok (.istore_n 1, 1) := by decide +kernel
theorem dX8_worldsInAll_2 : decode cX8_worldsInAll 2 = .ok (.iconst 0, 1) := by decide +kernel
theorem dX8_worldsInAll_3 : decode cX8_worldsInAll 3 = .ok (.istore_n 2, 1) := by decide +kernel
theorem dX8_worldsInAll_4 : decode cX8_worldsInAll 4 = .ok (.iload_n 2, 1) := by decide +kernel
theorem dX8_worldsInAll_5 : decode cX8_worldsInAll 5 = .ok (.aload_n 0, 1) := by decide +kernel
theorem dX8_worldsInAll_6 : decode cX8_worldsInAll 6 = .ok (.getfield 7, 3) := by decide +kernel
theorem dX8_worldsInAll_9 : decode cX8_worldsInAll 9 = .ok (.iconst 0, 1) := by decide +kernel
theorem dX8_worldsInAll_10 : decode cX8_worldsInAll 10 = .ok (.iaload, 1) := by decide +kernel
theorem dX8_worldsInAll_11 : decode cX8_worldsInAll 11 = .ok (.if_icmp .ge 20, 3) := by decide +kernel
theorem dX8_worldsInAll_14 : decode cX8_worldsInAll 14 = .ok (.iload_n 1, 1) := by decide +kernel
theorem dX8_worldsInAll_15 : decode cX8_worldsInAll 15 = .ok (.aload_n 0, 1) := by decide +kernel
theorem dX8_worldsInAll_16 : decode cX8_worldsInAll 16 = .ok (.getfield 7, 3) := by decide +kernel
theorem dX8_worldsInAll_19 : decode cX8_worldsInAll 19 = .ok (.iconst 0, 1) := by decide +kernel
theorem dX8_worldsInAll_20 : decode cX8_worldsInAll 20 = .ok (.iaload, 1) := by decide +kernel
theorem dX8_worldsInAll_21 : decode cX8_worldsInAll 21 = .ok (.iconst 1, 1) := by decide +kernel
theorem dX8_worldsInAll_22 : decode cX8_worldsInAll 22 = .ok (.isub, 1) := by decide +kernel
theorem dX8_worldsInAll_23 : decode cX8_worldsInAll 23 = .ok (.imul, 1) := by decide +kernel
theorem dX8_worldsInAll_24 : decode cX8_worldsInAll 24 = .ok (.istore_n 1, 1) := by decide +kernel
theorem dX8_worldsInAll_25 : decode cX8_worldsInAll 25 = .ok (.iinc 2 1, 3) := by decide +kernel
theorem dX8_worldsInAll_28 : decode cX8_worldsInAll 28 = .ok (.goto (-24), 3) := by decide +kernel
theorem dX8_worldsInAll_31 : decode cX8_worldsInAll 31 = .ok (.iload_n 1, 1) := by decide +kernel
theorem dX8_worldsInAll_32 : decode cX8_worldsInAll 32 = .ok (.ireturn, 1) := by decide +kernel
theorem dX8_takeWorld_0 : decode cX8_takeWorld 0 = .ok (.iload_n 1, 1) := by decide +kernel
theorem dX8_takeWorld_1 : decode cX8_takeWorld 1 = .ok (.istore_n 2, 1) := by decide +kernel
theorem dX8_takeWorld_2 : decode cX8_takeWorld 2 = .ok (.aload_n 0, 1) := by decide +kernel
theorem dX8_takeWorld_3 : decode cX8_takeWorld 3 = .ok (.getfield 7, 3) := by decide +kernel
theorem dX8_takeWorld_6 : decode cX8_takeWorld 6 = .ok (.iconst 0, 1) := by decide +kernel
theorem dX8_takeWorld_7 : decode cX8_takeWorld 7 = .ok (.iaload, 1) := by decide +kernel
theorem dX8_takeWorld_8 : decode cX8_takeWorld 8 = .ok (.iconst 1, 1) := by decide +kernel
theorem dX8_takeWorld_9 : decode cX8_takeWorld 9 = .ok (.isub, 1) := by decide +kernel
theorem dX8_takeWorld_10 : decode cX8_takeWorld 10 = .ok (.istore_n 3, 1) := by decide +kernel
theorem dX8_takeWorld_11 : decode cX8_takeWorld 11 = .ok (.iload_n 3, 1) := by decide +kernel
theorem dX8_takeWorld_12 : decode cX8_takeWorld 12 = .ok (.ifCond .lt 53, 3) := by decide +kernel
theorem dX8_takeWorld_15 : decode cX8_takeWorld 15 = .ok (.iload_n 2, 1) := by decide +kernel
theorem dX8_takeWorld_16 : decode cX8_takeWorld 16 = .ok (.aload_n 0, 1) := by decide +kernel
theorem dX8_takeWorld_17 : decode cX8_takeWorld 17 = .ok (.getfield 7, 3) := by decide +kernel
theorem dX8_takeWorld_20 : decode cX8_takeWorld 20 = .ok (.iconst 0, 1) := by decide +kernel
theorem dX8_takeWorld_21 : decode cX8_takeWorld 21 = .ok (.iaload, 1) := by decide +kernel
theorem dX8_takeWorld_22 : decode cX8_takeWorld 22 = .ok (.iconst 1, 1) := by decide +kernel
theorem dX8_takeWorld_23 : decode cX8_takeWorld 23 = .ok (.isub, 1) := by decide +kernel
theorem dX8_takeWorld_24 : decode cX8_takeWorld 24 = .ok (.irem, 1) := by decide +kernel
theorem dX8_takeWorld_25 : decode cX8_takeWorld 25 = .ok (.istore 4, 2) := by decide +kernel
theorem dX8_takeWorld_27 : decode cX8_takeWorld 27 = .ok (.iload_n 2, 1) := by decide +kernel
theorem dX8_takeWorld_28 : decode cX8_takeWorld 28 = .ok (.aload_n 0, 1) := by decide +kernel
theorem dX8_takeWorld_29 : decode cX8_takeWorld 29 = .ok (.getfield 7, 3) := by decide +kernel
theorem dX8_takeWorld_32 : decode cX8_takeWorld 32 = .ok (.iconst 0, 1) := by decide +kernel
theorem dX8_takeWorld_33 : decode cX8_takeWorld 33 = .ok (.iaload, 1) := by decide +kernel
theorem dX8_takeWorld_34 : decode cX8_takeWorld 34 = .ok (.iconst 1, 1) := by decide +kernel
theorem dX8_takeWorld_35 : decode cX8_takeWorld 35 = .ok (.isub, 1) := by decide +kernel
theorem dX8_takeWorld_36 : decode cX8_takeWorld 36 = .ok (.idiv, 1) := by decide +kernel
theorem dX8_takeWorld_37 : decode cX8_takeWorld 37 = .ok (.istore_n 2, 1) := by decide +kernel
theorem dX8_takeWorld_38 : decode cX8_takeWorld 38 = .ok (.aload_n 0, 1) := by decide +kernel
theorem dX8_takeWorld_39 : decode cX8_takeWorld 39 = .ok (.getfield 25, 3) := by decide +kernel
theorem dX8_takeWorld_42 : decode cX8_takeWorld 42 = .ok (.iload_n 3, 1) := by decide +kernel
theorem dX8_takeWorld_43 : decode cX8_takeWorld 43 = .ok (.iload 4, 2) := by decide +kernel
theorem dX8_takeWorld_45 : decode cX8_takeWorld 45 = .ok (.iload_n 3, 1) := by decide +kernel
theorem dX8_takeWorld_46 : decode cX8_takeWorld 46 = .ok (.if_icmp .ge 8, 3) := by decide +kernel
theorem dX8_takeWorld_49 : decode cX8_takeWorld 49 = .ok (.iload 4, 2) := by decide +kernel
theorem dX8_takeWorld_51 : decode cX8_takeWorld 51 = .ok (.goto 7, 3) := by decide +kernel
theorem dX8_takeWorld_54 : decode cX8_takeWorld 54 = .ok (.iload 4, 2) := by decide +kernel
theorem dX8_takeWorld_56 : decode cX8_takeWorld 56 = .ok (.iconst 1, 1) := by decide +kernel
theorem dX8_takeWorld_57 : decode cX8_takeWorld 57 = .ok (.iadd, 1) := by decide +kernel
theorem dX8_takeWorld_58 : decode cX8_takeWorld 58 = .ok (.iastore, 1) := by decide +kernel
theorem dX8_takeWorld_59 : decode cX8_takeWorld 59 = .ok (.iinc 3 (-1), 3) := by decide +kernel
theorem dX8_takeWorld_62 : decode cX8_takeWorld 62 = .ok (.goto (-51), 3) := by decide +kernel
theorem dX8_takeWorld_65 : decode cX8_takeWorld 65 = .ok (.return_, 1) := by decide +kernel
theorem dX8_wrongOne_0 : decode cX8_wrongOne 0 = .ok (.bipush (-6), 2) := by decide +kernel
theorem dX8_wrongOne_2 : decode cX8_wrongOne 2 = .ok (.istore_n 1, 1) := by decide +kernel
theorem dX8_wrongOne_3 : decode cX8_wrongOne 3 = .ok (.iconst 0, 1) := by decide +kernel
theorem dX8_wrongOne_4 : decode cX8_wrongOne 4 = .ok (.istore_n 2, 1) := by decide +kernel
theorem dX8_wrongOne_5 : decode cX8_wrongOne 5 = .ok (.iload_n 2, 1) := by decide +kernel
theorem dX8_wrongOne_6 : decode cX8_wrongOne 6 = .ok (.aload_n 0, 1) := by decide +kernel
theorem dX8_wrongOne_7 : decode cX8_wrongOne 7 = .ok (.getfield 7, 3) := by decide +kernel
theorem dX8_wrongOne_10 : decode cX8_wrongOne 10 = .ok (.iconst 1, 1) := by decide +kernel
theorem dX8_wrongOne_11 : decode cX8_wrongOne 11 = .ok (.iaload, 1) := by decide +kernel
theorem dX8_wrongOne_12 : decode cX8_wrongOne 12 = .ok (.if_icmp .ge 67, 3) := by decide +kernel
theorem dX8_wrongOne_15 : decode cX8_wrongOne 15 = .ok (.aload_n 0, 1) := by decide +kernel
theorem dX8_wrongOne_16 : decode cX8_wrongOne 16 = .ok (.iload_n 2, 1) := by decide +kernel
theorem dX8_wrongOne_17 : decode cX8_wrongOne 17 = .ok (.invokevirtual 74, 3) := by decide +kernel
theorem dX8_wrongOne_20 : decode cX8_wrongOne 20 = .ok (.ifCond .ne 30, 3) := by decide +kernel
theorem dX8_wrongOne_23 : decode cX8_wrongOne 23 = .ok (.aload_n 0, 1) := by decide +kernel
theorem dX8_wrongOne_24 : decode cX8_wrongOne 24 = .ok (.iload_n 2, 1) := by decide +kernel
theorem dX8_wrongOne_25 : decode cX8_wrongOne 25 = .ok (.invokevirtual 71, 3) := by decide +kernel
theorem dX8_wrongOne_28 : decode cX8_wrongOne 28 = .ok (.aload_n 0, 1) := by decide +kernel
theorem dX8_wrongOne_29 : decode cX8_wrongOne 29 = .ok (.iload_n 2, 1) := by decide +kernel
theorem dX8_wrongOne_30 : decode cX8_wrongOne 30 = .ok (.iconst 4, 1) := by decide +kernel
theorem dX8_wrongOne_31 : decode cX8_wrongOne 31 = .ok (.invokevirtual 53, 3) := by decide +kernel
theorem dX8_wrongOne_34 : decode cX8_wrongOne 34 = .ok (.iconst 1, 1) := by decide +kernel
theorem dX8_wrongOne_35 : decode cX8_wrongOne 35 = .ok (.if_icmp .ne 7, 3) := by decide +kernel
theorem dX8_wrongOne_38 : decode cX8_wrongOne 38 = .ok (.iconst 1, 1) := by decide +kernel
theorem dX8_wrongOne_39 : decode cX8_wrongOne 39 = .ok (.goto 4, 3) := by decide +kernel
theorem dX8_wrongOne_42 : decode cX8_wrongOne 42 = .ok (.iconst 0, 1) := by decide +kernel
theorem dX8_wrongOne_43 : decode cX8_wrongOne 43 = .ok (.if_icmp .eq 7, 3) := by decide +kernel
theorem dX8_wrongOne_46 : decode cX8_wrongOne 46 = .ok (.iconst 1, 1) := by decide +kernel
theorem dX8_wrongOne_47 : decode cX8_wrongOne 47 = .ok (.goto 4, 3) := by decide +kernel
theorem dX8_wrongOne_50 : decode cX8_wrongOne 50 = .ok (.iconst 0, 1) := by decide +kernel
theorem dX8_wrongOne_51 : decode cX8_wrongOne 51 = .ok (.istore_n 3, 1) := by decide +kernel
theorem dX8_wrongOne_52 : decode cX8_wrongOne 52 = .ok (.iload_n 3, 1) := by decide +kernel
theorem dX8_wrongOne_53 : decode cX8_wrongOne 53 = .ok (.ifCond .ne 7, 3) := by decide +kernel
theorem dX8_wrongOne_56 : decode cX8_wrongOne 56 = .ok (.iload_n 1, 1) := by decide +kernel
theorem dX8_wrongOne_57 : decode cX8_wrongOne 57 = .ok (.goto 15, 3) := by decide +kernel
theorem dX8_wrongOne_60 : decode cX8_wrongOne 60 = .ok (.iload_n 1, 1) := by decide +kernel
theorem dX8_wrongOne_61 : decode cX8_wrongOne 61 = .ok (.bipush (-6), 2) := by decide +kernel
theorem dX8_wrongOne_63 : decode cX8_wrongOne 63 = .ok (.if_icmp .ne 7, 3) := by decide +kernel
theorem dX8_wrongOne_66 : decode cX8_wrongOne 66 = .ok (.iload_n 2, 1) := by decide +kernel
theorem dX8_wrongOne_67 : decode cX8_wrongOne 67 = .ok (.goto 5, 3) := by decide +kernel
theorem dX8_wrongOne_70 : decode cX8_wrongOne 70 = .ok (.bipush 20, 2) := by decide +kernel
theorem dX8_wrongOne_72 : decode cX8_wrongOne 72 = .ok (.istore_n 1, 1) := by decide +kernel
theorem dX8_wrongOne_73 : decode cX8_wrongOne 73 = .ok (.iinc 2 1, 3) := by decide +kernel
theorem dX8_wrongOne_76 : decode cX8_wrongOne 76 = .ok (.goto (-71), 3) := by decide +kernel
theorem dX8_wrongOne_79 : decode cX8_wrongOne 79 = .ok (.iload_n 1, 1) := by decide +kernel
theorem dX8_wrongOne_80 : decode cX8_wrongOne 80 = .ok (.ireturn, 1) := by decide +kernel
theorem dX8_clear_0 : decode cX8_clear 0 = .ok (.aload_n 0, 1) := by decide +kernel
theorem dX8_clear_1 : decode cX8_clear 1 = .ok (.iconst 0, 1) := by decide +kernel
theorem dX8_clear_2 : decode cX8_clear 2 = .ok (.putfield 77, 3) := by decide +kernel
theorem dX8_clear_5 : decode cX8_clear 5 = .ok (.aload_n 0, 1) := by decide +kernel
theorem dX8_clear_6 : decode cX8_clear 6 = .ok (.bipush (-6), 2) := by decide +kernel
theorem dX8_clear_8 : decode cX8_clear 8 = .ok (.putfield 80, 3) := by decide +kernel
theorem dX8_clear_11 : decode cX8_clear 11 = .ok (.aload_n 0, 1) := by decide +kernel
theorem dX8_clear_12 : decode cX8_clear 12 = .ok (.iconst 0, 1) := by decide +kernel
theorem dX8_clear_13 : decode cX8_clear 13 = .ok (.putfield 83, 3) := by decide +kernel
theorem dX8_clear_16 : decode cX8_clear 16 = .ok (.iconst 0, 1) := by decide +kernel
theorem dX8_clear_17 : decode cX8_clear 17 = .ok (.istore_n 1, 1) := by decide +kernel
theorem dX8_clear_18 : decode cX8_clear 18 = .ok (.iload_n 1, 1) := by decide +kernel
theorem dX8_clear_19 : decode cX8_clear 19 = .ok (.bipush 36, 2) := by decide +kernel
theorem dX8_clear_21 : decode cX8_clear 21 = .ok (.if_icmp .ge 16, 3) := by decide +kernel
theorem dX8_clear_24 : decode cX8_clear 24 = .ok (.aload_n 0, 1) := by decide +kernel
theorem dX8_clear_25 : decode cX8_clear 25 = .ok (.getfield 28, 3) := by decide +kernel
theorem dX8_clear_28 : decode cX8_clear 28 = .ok (.iload_n 1, 1) := by decide +kernel
theorem dX8_clear_29 : decode cX8_clear 29 = .ok (.iconst 0, 1) := by decide +kernel
theorem dX8_clear_30 : decode cX8_clear 30 = .ok (.iastore, 1) := by decide +kernel
theorem dX8_clear_31 : decode cX8_clear 31 = .ok (.iinc 1 1, 3) := by decide +kernel
theorem dX8_clear_34 : decode cX8_clear 34 = .ok (.goto (-16), 3) := by decide +kernel
theorem dX8_clear_37 : decode cX8_clear 37 = .ok (.iconst 0, 1) := by decide +kernel
theorem dX8_clear_38 : decode cX8_clear 38 = .ok (.istore_n 1, 1) := by decide +kernel
theorem dX8_clear_39 : decode cX8_clear 39 = .ok (.iload_n 1, 1) := by decide +kernel
theorem dX8_clear_40 : decode cX8_clear 40 = .ok (.bipush 20, 2) := by decide +kernel
theorem dX8_clear_42 : decode cX8_clear 42 = .ok (.if_icmp .ge 23, 3) := by decide +kernel
theorem dX8_clear_45 : decode cX8_clear 45 = .ok (.aload_n 0, 1) := by decide +kernel
theorem dX8_clear_46 : decode cX8_clear 46 = .ok (.getfield 31, 3) := by decide +kernel
theorem dX8_clear_49 : decode cX8_clear 49 = .ok (.iload_n 1, 1) := by decide +kernel
theorem dX8_clear_50 : decode cX8_clear 50 = .ok (.iconst 0, 1) := by decide +kernel
theorem dX8_clear_51 : decode cX8_clear 51 = .ok (.iastore, 1) := by decide +kernel
theorem dX8_clear_52 : decode cX8_clear 52 = .ok (.aload_n 0, 1) := by decide +kernel
theorem dX8_clear_53 : decode cX8_clear 53 = .ok (.getfield 34, 3) := by decide +kernel
theorem dX8_clear_56 : decode cX8_clear 56 = .ok (.iload_n 1, 1) := by decide +kernel
theorem dX8_clear_57 : decode cX8_clear 57 = .ok (.iconst 0, 1) := by decide +kernel
theorem dX8_clear_58 : decode cX8_clear 58 = .ok (.iastore, 1) := by decide +kernel
theorem dX8_clear_59 : decode cX8_clear 59 = .ok (.iinc 1 1, 3) := by decide +kernel
theorem dX8_clear_62 : decode cX8_clear 62 = .ok (.goto (-23), 3) := by decide +kernel
theorem dX8_clear_65 : decode cX8_clear 65 = .ok (.return_, 1) := by decide +kernel
theorem dX8_takesIn_0 : decode cX8_takesIn 0 = .ok (.aload_n 0, 1) := by decide +kernel
theorem dX8_takesIn_1 : decode cX8_takesIn 1 = .ok (.dup, 1) := by decide +kernel
theorem dX8_takesIn_2 : decode cX8_takesIn 2 = .ok (.getfield 77, 3) := by decide +kernel
theorem dX8_takesIn_5 : decode cX8_takesIn 5 = .ok (.iconst 1, 1) := by decide +kernel
theorem dX8_takesIn_6 : decode cX8_takesIn 6 = .ok (.iadd, 1) := by decide +kernel
theorem dX8_takesIn_7 : decode cX8_takesIn 7 = .ok (.putfield 77, 3) := by decide +kernel
theorem dX8_takesIn_10 : decode cX8_takesIn 10 = .ok (.iconst 0, 1) := by decide +kernel
theorem dX8_takesIn_11 : decode cX8_takesIn 11 = .ok (.istore_n 1, 1) := by decide +kernel
theorem dX8_takesIn_12 : decode cX8_takesIn 12 = .ok (.iload_n 1, 1) := by decide +kernel
theorem dX8_takesIn_13 : decode cX8_takesIn 13 = .ok (.aload_n 0, 1) := by decide +kernel
theorem dX8_takesIn_14 : decode cX8_takesIn 14 = .ok (.getfield 7, 3) := by decide +kernel
theorem dX8_takesIn_17 : decode cX8_takesIn 17 = .ok (.iconst 0, 1) := by decide +kernel
theorem dX8_takesIn_18 : decode cX8_takesIn 18 = .ok (.iaload, 1) := by decide +kernel
theorem dX8_takesIn_19 : decode cX8_takesIn 19 = .ok (.if_icmp .ge 69, 3) := by decide +kernel
theorem dX8_takesIn_22 : decode cX8_takesIn 22 = .ok (.aload_n 0, 1) := by decide +kernel
theorem dX8_takesIn_23 : decode cX8_takesIn 23 = .ok (.getfield 28, 3) := by decide +kernel
theorem dX8_takesIn_26 : decode cX8_takesIn 26 = .ok (.bipush 6, 2) := by decide +kernel
theorem dX8_takesIn_28 : decode cX8_takesIn 28 = .ok (.iload_n 1, 1) := by decide +kernel
theorem dX8_takesIn_29 : decode cX8_takesIn 29 = .ok (.imul, 1) := by decide +kernel
theorem dX8_takesIn_30 : decode cX8_takesIn 30 = .ok (.aload_n 0, 1) := by decide +kernel
theorem dX8_takesIn_31 : decode cX8_takesIn 31 = .ok (.getfield 25, 3) := by decide +kernel
theorem dX8_takesIn_34 : decode cX8_takesIn 34 = .ok (.iload_n 1, 1) := by decide +kernel
theorem dX8_takesIn_35 : decode cX8_takesIn 35 = .ok (.iaload, 1) := by decide +kernel
theorem dX8_takesIn_36 : decode cX8_takesIn 36 = .ok (.iadd, 1) := by decide +kernel
theorem dX8_takesIn_37 : decode cX8_takesIn 37 = .ok (.dup2, 1) := by decide +kernel
theorem dX8_takesIn_38 : decode cX8_takesIn 38 = .ok (.iaload, 1) := by decide +kernel
theorem dX8_takesIn_39 : decode cX8_takesIn 39 = .ok (.iconst 1, 1) := by decide +kernel
theorem dX8_takesIn_40 : decode cX8_takesIn 40 = .ok (.iadd, 1) := by decide +kernel
theorem dX8_takesIn_41 : decode cX8_takesIn 41 = .ok (.iastore, 1) := by decide +kernel
theorem dX8_takesIn_42 : decode cX8_takesIn 42 = .ok (.aload_n 0, 1) := by decide +kernel
theorem dX8_takesIn_43 : decode cX8_takesIn 43 = .ok (.iload_n 1, 1) := by decide +kernel
theorem dX8_takesIn_44 : decode cX8_takesIn 44 = .ok (.invokevirtual 61, 3) := by decide +kernel
theorem dX8_takesIn_47 : decode cX8_takesIn 47 = .ok (.istore_n 2, 1) := by decide +kernel
theorem dX8_takesIn_48 : decode cX8_takesIn 48 = .ok (.iload_n 2, 1) := by decide +kernel
theorem dX8_takesIn_49 : decode cX8_takesIn 49 = .ok (.aload_n 0, 1) := by decide +kernel
theorem dX8_takesIn_50 : decode cX8_takesIn 50 = .ok (.getfield 83, 3) := by decide +kernel
theorem dX8_takesIn_53 : decode cX8_takesIn 53 = .ok (.if_icmp .gt 19, 3) := by decide +kernel
theorem dX8_takesIn_56 : decode cX8_takesIn 56 = .ok (.iload_n 2, 1) := by decide +kernel
theorem dX8_takesIn_57 : decode cX8_takesIn 57 = .ok (.aload_n 0, 1) := by decide +kernel
theorem dX8_takesIn_58 : decode cX8_takesIn 58 = .ok (.getfield 83, 3) := by decide +kernel
theorem dX8_takesIn_61 : decode cX8_takesIn 61 = .ok (.if_icmp .ne 21, 3) := by decide +kernel
theorem dX8_takesIn_64 : decode cX8_takesIn 64 = .ok (.iload_n 1, 1) := by decide +kernel
theorem dX8_takesIn_65 : decode cX8_takesIn 65 = .ok (.aload_n 0, 1) := by decide +kernel
theorem dX8_takesIn_66 : decode cX8_takesIn 66 = .ok (.getfield 80, 3) := by decide +kernel
theorem dX8_takesIn_69 : decode cX8_takesIn 69 = .ok (.if_icmp .ge 13, 3) := by decide +kernel
theorem dX8_takesIn_72 : decode cX8_takesIn 72 = .ok (.aload_n 0, 1) := by decide +kernel
theorem dX8_takesIn_73 : decode cX8_takesIn 73 = .ok (.iload_n 2, 1) := by decide +kernel
theorem dX8_takesIn_74 : decode cX8_takesIn 74 = .ok (.putfield 83, 3) := by decide +kernel
theorem dX8_takesIn_77 : decode cX8_takesIn 77 = .ok (.aload_n 0, 1) := by decide +kernel
theorem dX8_takesIn_78 : decode cX8_takesIn 78 = .ok (.iload_n 1, 1) := by decide +kernel
theorem dX8_takesIn_79 : decode cX8_takesIn 79 = .ok (.putfield 80, 3) := by decide +kernel
theorem dX8_takesIn_82 : decode cX8_takesIn 82 = .ok (.iinc 1 1, 3) := by decide +kernel
theorem dX8_takesIn_85 : decode cX8_takesIn 85 = .ok (.goto (-73), 3) := by decide +kernel
theorem dX8_takesIn_88 : decode cX8_takesIn 88 = .ok (.iconst 0, 1) := by decide +kernel
theorem dX8_takesIn_89 : decode cX8_takesIn 89 = .ok (.istore_n 1, 1) := by decide +kernel
theorem dX8_takesIn_90 : decode cX8_takesIn 90 = .ok (.iload_n 1, 1) := by decide +kernel
theorem dX8_takesIn_91 : decode cX8_takesIn 91 = .ok (.aload_n 0, 1) := by decide +kernel
theorem dX8_takesIn_92 : decode cX8_takesIn 92 = .ok (.getfield 7, 3) := by decide +kernel
theorem dX8_takesIn_95 : decode cX8_takesIn 95 = .ok (.iconst 1, 1) := by decide +kernel
theorem dX8_takesIn_96 : decode cX8_takesIn 96 = .ok (.iaload, 1) := by decide +kernel
theorem dX8_takesIn_97 : decode cX8_takesIn 97 = .ok (.if_icmp .ge 31, 3) := by decide +kernel
theorem dX8_takesIn_100 : decode cX8_takesIn 100 = .ok (.aload_n 0, 1) := by decide +kernel
theorem dX8_takesIn_101 : decode cX8_takesIn 101 = .ok (.getfield 31, 3) := by decide +kernel
theorem dX8_takesIn_104 : decode cX8_takesIn 104 = .ok (.iload_n 1, 1) := by decide +kernel
theorem dX8_takesIn_105 : decode cX8_takesIn 105 = .ok (.dup2, 1) := by decide +kernel
theorem dX8_takesIn_106 : decode cX8_takesIn 106 = .ok (.iaload, 1) := by decide +kernel
theorem dX8_takesIn_107 : decode cX8_takesIn 107 = .ok (.aload_n 0, 1) := by decide +kernel
theorem dX8_takesIn_108 : decode cX8_takesIn 108 = .ok (.iload_n 1, 1) := by decide +kernel
theorem dX8_takesIn_109 : decode cX8_takesIn 109 = .ok (.invokevirtual 71, 3) := by decide +kernel
theorem dX8_takesIn_112 : decode cX8_takesIn 112 = .ok (.ifCond .eq 7, 3) := by decide +kernel
theorem dX8_takesIn_115 : decode cX8_takesIn 115 = .ok (.iconst 1, 1) := by decide +kernel
theorem dX8_takesIn_116 : decode cX8_takesIn 116 = .ok (.goto 4, 3) := by decide +kernel
theorem dX8_takesIn_119 : decode cX8_takesIn 119 = .ok (.iconst 0, 1) := by decide +kernel
theorem dX8_takesIn_120 : decode cX8_takesIn 120 = .ok (.iadd, 1) := by decide +kernel
theorem dX8_takesIn_121 : decode cX8_takesIn 121 = .ok (.iastore, 1) := by decide +kernel
theorem dX8_takesIn_122 : decode cX8_takesIn 122 = .ok (.iinc 1 1, 3) := by decide +kernel
theorem dX8_takesIn_125 : decode cX8_takesIn 125 = .ok (.goto (-35), 3) := by decide +kernel
theorem dX8_takesIn_128 : decode cX8_takesIn 128 = .ok (.return_, 1) := by decide +kernel
theorem dX8_goThrough_0 : decode cX8_goThrough 0 = .ok (.aload_n 0, 1) := by decide +kernel
theorem dX8_goThrough_1 : decode cX8_goThrough 1 = .ok (.invokevirtual 86, 3) := by decide +kernel
theorem dX8_goThrough_4 : decode cX8_goThrough 4 = .ok (.aload_n 0, 1) := by decide +kernel
theorem dX8_goThrough_5 : decode cX8_goThrough 5 = .ok (.invokevirtual 89, 3) := by decide +kernel
theorem dX8_goThrough_8 : decode cX8_goThrough 8 = .ok (.istore_n 1, 1) := by decide +kernel
theorem dX8_goThrough_9 : decode cX8_goThrough 9 = .ok (.iconst 0, 1) := by decide +kernel
theorem dX8_goThrough_10 : decode cX8_goThrough 10 = .ok (.istore_n 2, 1) := by decide +kernel
theorem dX8_goThrough_11 : decode cX8_goThrough 11 = .ok (.iload_n 2, 1) := by decide +kernel
theorem dX8_goThrough_12 : decode cX8_goThrough 12 = .ok (.iload_n 1, 1) := by decide +kernel
theorem dX8_goThrough_13 : decode cX8_goThrough 13 = .ok (.if_icmp .ge 48, 3) := by decide +kernel
theorem dX8_goThrough_16 : decode cX8_goThrough 16 = .ok (.aload_n 0, 1) := by decide +kernel
theorem dX8_goThrough_17 : decode cX8_goThrough 17 = .ok (.iload_n 2, 1) := by decide +kernel
theorem dX8_goThrough_18 : decode cX8_goThrough 18 = .ok (.invokevirtual 93, 3) := by decide +kernel
theorem dX8_goThrough_21 : decode cX8_goThrough 21 = .ok (.aload_n 0, 1) := by decide +kernel
theorem dX8_goThrough_22 : decode cX8_goThrough 22 = .ok (.invokevirtual 96, 3) := by decide +kernel
theorem dX8_goThrough_25 : decode cX8_goThrough 25 = .ok (.istore_n 3, 1) := by decide +kernel
theorem dX8_goThrough_26 : decode cX8_goThrough 26 = .ok (.iload_n 3, 1) := by decide +kernel
theorem dX8_goThrough_27 : decode cX8_goThrough 27 = .ok (.bipush (-6), 2) := by decide +kernel
theorem dX8_goThrough_29 : decode cX8_goThrough 29 = .ok (.if_icmp .ne 10, 3) := by decide +kernel
theorem dX8_goThrough_32 : decode cX8_goThrough 32 = .ok (.aload_n 0, 1) := by decide +kernel
theorem dX8_goThrough_33 : decode cX8_goThrough 33 = .ok (.invokevirtual 99, 3) := by decide +kernel
theorem dX8_goThrough_36 : decode cX8_goThrough 36 = .ok (.goto 19, 3) := by decide +kernel
theorem dX8_goThrough_39 : decode cX8_goThrough 39 = .ok (.iload_n 3, 1) := by decide +kernel
theorem dX8_goThrough_40 : decode cX8_goThrough 40 = .ok (.bipush 20, 2) := by decide +kernel
theorem dX8_goThrough_42 : decode cX8_goThrough 42 = .ok (.if_icmp .ge 13, 3) := by decide +kernel
theorem dX8_goThrough_45 : decode cX8_goThrough 45 = .ok (.aload_n 0, 1) := by decide +kernel
theorem dX8_goThrough_46 : decode cX8_goThrough 46 = .ok (.getfield 34, 3) := by decide +kernel
theorem dX8_goThrough_49 : decode cX8_goThrough 49 = .ok (.iload_n 3, 1) := by decide +kernel
theorem dX8_goThrough_50 : decode cX8_goThrough 50 = .ok (.dup2, 1) := by decide +kernel
theorem dX8_goThrough_51 : decode cX8_goThrough 51 = .ok (.iaload, 1) := by decide +kernel
theorem dX8_goThrough_52 : decode cX8_goThrough 52 = .ok (.iconst 1, 1) := by decide +kernel
theorem dX8_goThrough_53 : decode cX8_goThrough 53 = .ok (.iadd, 1) := by decide +kernel
theorem dX8_goThrough_54 : decode cX8_goThrough 54 = .ok (.iastore, 1) := by decide +kernel
theorem dX8_goThrough_55 : decode cX8_goThrough 55 = .ok (.iinc 2 1, 3) := by decide +kernel
theorem dX8_goThrough_58 : decode cX8_goThrough 58 = .ok (.goto (-47), 3) := by decide +kernel
theorem dX8_goThrough_61 : decode cX8_goThrough 61 = .ok (.return_, 1) := by decide +kernel
theorem dX8_worldsNow_0 : decode cX8_worldsNow 0 = .ok (.aload_n 0, 1) := by decide +kernel
theorem dX8_worldsNow_1 : decode cX8_worldsNow 1 = .ok (.invokevirtual 102, 3) := by decide +kernel
theorem dX8_worldsNow_4 : decode cX8_worldsNow 4 = .ok (.aload_n 0, 1) := by decide +kernel
theorem dX8_worldsNow_5 : decode cX8_worldsNow 5 = .ok (.getfield 77, 3) := by decide +kernel
theorem dX8_worldsNow_8 : decode cX8_worldsNow 8 = .ok (.ireturn, 1) := by decide +kernel
theorem dX8_isTruthPossible_0 : decode cX8_isTruthPossible 0 = .ok (.aload_n 0, 1) := by decide +kernel
theorem dX8_isTruthPossible_1 : decode cX8_isTruthPossible 1 = .ok (.invokevirtual 68, 3) := by decide +kernel
theorem dX8_isTruthPossible_4 : decode cX8_isTruthPossible 4 = .ok (.aload_n 0, 1) := by decide +kernel
theorem dX8_isTruthPossible_5 : decode cX8_isTruthPossible 5 = .ok (.invokevirtual 96, 3) := by decide +kernel
theorem dX8_isTruthPossible_8 : decode cX8_isTruthPossible 8 = .ok (.bipush (-6), 2) := by decide +kernel
theorem dX8_isTruthPossible_10 : decode cX8_isTruthPossible 10 = .ok (.if_icmp .ne 7, 3) := by decide +kernel
theorem dX8_isTruthPossible_13 : decode cX8_isTruthPossible 13 = .ok (.iconst 1, 1) := by decide +kernel
theorem dX8_isTruthPossible_14 : decode cX8_isTruthPossible 14 = .ok (.goto 4, 3) := by decide +kernel
theorem dX8_isTruthPossible_17 : decode cX8_isTruthPossible 17 = .ok (.iconst 0, 1) := by decide +kernel
theorem dX8_isTruthPossible_18 : decode cX8_isTruthPossible 18 = .ok (.ireturn, 1) := by decide +kernel
theorem dX8_certainBox_0 : decode cX8_certainBox 0 = .ok (.bipush (-6), 2) := by decide +kernel
theorem dX8_certainBox_2 : decode cX8_certainBox 2 = .ok (.istore_n 2, 1) := by decide +kernel
theorem dX8_certainBox_3 : decode cX8_certainBox 3 = .ok (.iconst 0, 1) := by decide +kernel
theorem dX8_certainBox_4 : decode cX8_certainBox 4 = .ok (.istore_n 3, 1) := by decide +kernel
theorem dX8_certainBox_5 : decode cX8_certainBox 5 = .ok (.iload_n 3, 1) := by decide +kernel
theorem dX8_certainBox_6 : decode cX8_certainBox 6 = .ok (.aload_n 0, 1) := by decide +kernel
theorem dX8_certainBox_7 : decode cX8_certainBox 7 = .ok (.getfield 7, 3) := by decide +kernel
theorem dX8_certainBox_10 : decode cX8_certainBox 10 = .ok (.iconst 0, 1) := by decide +kernel
theorem dX8_certainBox_11 : decode cX8_certainBox 11 = .ok (.iaload, 1) := by decide +kernel
theorem dX8_certainBox_12 : decode cX8_certainBox 12 = .ok (.if_icmp .ge 40, 3) := by decide +kernel
theorem dX8_certainBox_15 : decode cX8_certainBox 15 = .ok (.aload_n 0, 1) := by decide +kernel
theorem dX8_certainBox_16 : decode cX8_certainBox 16 = .ok (.getfield 77, 3) := by decide +kernel
theorem dX8_certainBox_19 : decode cX8_certainBox 19 = .ok (.ifCond .le 25, 3) := by decide +kernel
theorem dX8_certainBox_22 : decode cX8_certainBox 22 = .ok (.aload_n 0, 1) := by decide +kernel
theorem dX8_certainBox_23 : decode cX8_certainBox 23 = .ok (.getfield 28, 3) := by decide +kernel
theorem dX8_certainBox_26 : decode cX8_certainBox 26 = .ok (.bipush 6, 2) := by decide +kernel
theorem dX8_certainBox_28 : decode cX8_certainBox 28 = .ok (.iload_n 1, 1) := by decide +kernel
theorem dX8_certainBox_29 : decode cX8_certainBox 29 = .ok (.imul, 1) := by decide +kernel
theorem dX8_certainBox_30 : decode cX8_certainBox 30 = .ok (.iload_n 3, 1) := by decide +kernel
theorem dX8_certainBox_31 : decode cX8_certainBox 31 = .ok (.iadd, 1) := by decide +kernel
theorem dX8_certainBox_32 : decode cX8_certainBox 32 = .ok (.iaload, 1) := by decide +kernel
theorem dX8_certainBox_33 : decode cX8_certainBox 33 = .ok (.aload_n 0, 1) := by decide +kernel
theorem dX8_certainBox_34 : decode cX8_certainBox 34 = .ok (.getfield 77, 3) := by decide +kernel
theorem dX8_certainBox_37 : decode cX8_certainBox 37 = .ok (.if_icmp .ne 7, 3) := by decide +kernel
theorem dX8_certainBox_40 : decode cX8_certainBox 40 = .ok (.iload_n 3, 1) := by decide +kernel
theorem dX8_certainBox_41 : decode cX8_certainBox 41 = .ok (.goto 4, 3) := by decide +kernel
theorem dX8_certainBox_44 : decode cX8_certainBox 44 = .ok (.iload_n 2, 1) := by decide +kernel
theorem dX8_certainBox_45 : decode cX8_certainBox 45 = .ok (.istore_n 2, 1) := by decide +kernel
theorem dX8_certainBox_46 : decode cX8_certainBox 46 = .ok (.iinc 3 1, 3) := by decide +kernel
theorem dX8_certainBox_49 : decode cX8_certainBox 49 = .ok (.goto (-44), 3) := by decide +kernel
theorem dX8_certainBox_52 : decode cX8_certainBox 52 = .ok (.iload_n 2, 1) := by decide +kernel
theorem dX8_certainBox_53 : decode cX8_certainBox 53 = .ok (.ireturn, 1) := by decide +kernel
theorem dX8_open_0 : decode cX8_open 0 = .ok (.iload_n 1, 1) := by decide +kernel
theorem dX8_open_1 : decode cX8_open 1 = .ok (.iconst 3, 1) := by decide +kernel
theorem dX8_open_2 : decode cX8_open 2 = .ok (.bipush 6, 2) := by decide +kernel
theorem dX8_open_4 : decode cX8_open 4 = .ok (.invokestatic 49, 3) := by decide +kernel
theorem dX8_open_7 : decode cX8_open 7 = .ok (.ifCond .ne 6, 3) := by decide +kernel
theorem dX8_open_10 : decode cX8_open 10 = .ok (.bipush (-2), 2) := by decide +kernel
theorem dX8_open_12 : decode cX8_open 12 = .ok (.ireturn, 1) := by decide +kernel
theorem dX8_open_13 : decode cX8_open 13 = .ok (.aload_n 0, 1) := by decide +kernel
theorem dX8_open_14 : decode cX8_open 14 = .ok (.invokevirtual 105, 3) := by decide +kernel
theorem dX8_open_17 : decode cX8_open 17 = .ok (.aload_n 0, 1) := by decide +kernel
theorem dX8_open_18 : decode cX8_open 18 = .ok (.getfield 7, 3) := by decide +kernel
theorem dX8_open_21 : decode cX8_open 21 = .ok (.iconst 0, 1) := by decide +kernel
theorem dX8_open_22 : decode cX8_open 22 = .ok (.iaload, 1) := by decide +kernel
theorem dX8_open_23 : decode cX8_open 23 = .ok (.istore_n 2, 1) := by decide +kernel
theorem dX8_open_24 : decode cX8_open 24 = .ok (.aload_n 0, 1) := by decide +kernel
theorem dX8_open_25 : decode cX8_open 25 = .ok (.iload_n 1, 1) := by decide +kernel
theorem dX8_open_26 : decode cX8_open 26 = .ok (.invokevirtual 37, 3) := by decide +kernel
theorem dX8_open_29 : decode cX8_open 29 = .ok (.iload_n 2, 1) := by decide +kernel
theorem dX8_open_30 : decode cX8_open 30 = .ok (.ireturn, 1) := by decide +kernel
theorem dX8_look_0 : decode cX8_look 0 = .ok (.aload_n 0, 1) := by decide +kernel
theorem dX8_look_1 : decode cX8_look 1 = .ok (.iload_n 1, 1) := by decide +kernel
theorem dX8_look_2 : decode cX8_look 2 = .ok (.invokevirtual 57, 3) := by decide +kernel
theorem dX8_look_5 : decode cX8_look 5 = .ok (.ifCond .eq 11, 3) := by decide +kernel
theorem dX8_look_8 : decode cX8_look 8 = .ok (.aload_n 0, 1) := by decide +kernel
theorem dX8_look_9 : decode cX8_look 9 = .ok (.iload_n 2, 1) := by decide +kernel
theorem dX8_look_10 : decode cX8_look 10 = .ok (.invokevirtual 57, 3) := by decide +kernel
theorem dX8_look_13 : decode cX8_look 13 = .ok (.ifCond .ne 5, 3) := by decide +kernel
theorem dX8_look_16 : decode cX8_look 16 = .ok (.iconst (-1), 1) := by decide +kernel
theorem dX8_look_17 : decode cX8_look 17 = .ok (.ireturn, 1) := by decide +kernel
theorem dX8_look_18 : decode cX8_look 18 = .ok (.iload_n 1, 1) := by decide +kernel
theorem dX8_look_19 : decode cX8_look 19 = .ok (.iload_n 2, 1) := by decide +kernel
theorem dX8_look_20 : decode cX8_look 20 = .ok (.if_icmp .ne 6, 3) := by decide +kernel
theorem dX8_look_23 : decode cX8_look 23 = .ok (.bipush (-2), 2) := by decide +kernel
theorem dX8_look_25 : decode cX8_look 25 = .ok (.ireturn, 1) := by decide +kernel
theorem dX8_look_26 : decode cX8_look 26 = .ok (.aload_n 0, 1) := by decide +kernel
theorem dX8_look_27 : decode cX8_look 27 = .ok (.invokevirtual 105, 3) := by decide +kernel
theorem dX8_look_30 : decode cX8_look 30 = .ok (.aload_n 0, 1) := by decide +kernel
theorem dX8_look_31 : decode cX8_look 31 = .ok (.getfield 7, 3) := by decide +kernel
theorem dX8_look_34 : decode cX8_look 34 = .ok (.iconst 3, 1) := by decide +kernel
theorem dX8_look_35 : decode cX8_look 35 = .ok (.iload_n 1, 1) := by decide +kernel
theorem dX8_look_36 : decode cX8_look 36 = .ok (.iadd, 1) := by decide +kernel
theorem dX8_look_37 : decode cX8_look 37 = .ok (.iaload, 1) := by decide +kernel
theorem dX8_look_38 : decode cX8_look 38 = .ok (.istore_n 3, 1) := by decide +kernel
theorem dX8_look_39 : decode cX8_look 39 = .ok (.aload_n 0, 1) := by decide +kernel
theorem dX8_look_40 : decode cX8_look 40 = .ok (.getfield 7, 3) := by decide +kernel
theorem dX8_look_43 : decode cX8_look 43 = .ok (.iconst 3, 1) := by decide +kernel
theorem dX8_look_44 : decode cX8_look 44 = .ok (.iload_n 1, 1) := by decide +kernel
theorem dX8_look_45 : decode cX8_look 45 = .ok (.iadd, 1) := by decide +kernel
theorem dX8_look_46 : decode cX8_look 46 = .ok (.iload_n 2, 1) := by decide +kernel
theorem dX8_look_47 : decode cX8_look 47 = .ok (.iastore, 1) := by decide +kernel
theorem dX8_look_48 : decode cX8_look 48 = .ok (.iload_n 3, 1) := by decide +kernel
theorem dX8_look_49 : decode cX8_look 49 = .ok (.ireturn, 1) := by decide +kernel
theorem dX8_tells_0 : decode cX8_tells 0 = .ok (.bipush 21, 2) := by decide +kernel
theorem dX8_tells_2 : decode cX8_tells 2 = .ok (.iconst 5, 1) := by decide +kernel
theorem dX8_tells_3 : decode cX8_tells 3 = .ok (.aload_n 0, 1) := by decide +kernel
theorem dX8_tells_4 : decode cX8_tells 4 = .ok (.getfield 7, 3) := by decide +kernel
theorem dX8_tells_7 : decode cX8_tells 7 = .ok (.iconst 1, 1) := by decide +kernel
theorem dX8_tells_8 : decode cX8_tells 8 = .ok (.iaload, 1) := by decide +kernel
theorem dX8_tells_9 : decode cX8_tells 9 = .ok (.imul, 1) := by decide +kernel
theorem dX8_tells_10 : decode cX8_tells 10 = .ok (.iadd, 1) := by decide +kernel
theorem dX8_tells_11 : decode cX8_tells 11 = .ok (.istore 5, 2) := by decide +kernel
theorem dX8_tells_13 : decode cX8_tells 13 = .ok (.aload_n 0, 1) := by decide +kernel
theorem dX8_tells_14 : decode cX8_tells 14 = .ok (.getfield 7, 3) := by decide +kernel
theorem dX8_tells_17 : decode cX8_tells 17 = .ok (.iload 5, 2) := by decide +kernel
theorem dX8_tells_19 : decode cX8_tells 19 = .ok (.iconst 0, 1) := by decide +kernel
theorem dX8_tells_20 : decode cX8_tells 20 = .ok (.iadd, 1) := by decide +kernel
theorem dX8_tells_21 : decode cX8_tells 21 = .ok (.iload_n 1, 1) := by decide +kernel
theorem dX8_tells_22 : decode cX8_tells 22 = .ok (.iastore, 1) := by decide +kernel
theorem dX8_tells_23 : decode cX8_tells 23 = .ok (.aload_n 0, 1) := by decide +kernel
theorem dX8_tells_24 : decode cX8_tells 24 = .ok (.getfield 7, 3) := by decide +kernel
theorem dX8_tells_27 : decode cX8_tells 27 = .ok (.iload 5, 2) := by decide +kernel
theorem dX8_tells_29 : decode cX8_tells 29 = .ok (.iconst 1, 1) := by decide +kernel
theorem dX8_tells_30 : decode cX8_tells 30 = .ok (.iadd, 1) := by decide +kernel
theorem dX8_tells_31 : decode cX8_tells 31 = .ok (.iload_n 2, 1) := by decide +kernel
theorem dX8_tells_32 : decode cX8_tells 32 = .ok (.iastore, 1) := by decide +kernel
theorem dX8_tells_33 : decode cX8_tells 33 = .ok (.aload_n 0, 1) := by decide +kernel
theorem dX8_tells_34 : decode cX8_tells 34 = .ok (.getfield 7, 3) := by decide +kernel
theorem dX8_tells_37 : decode cX8_tells 37 = .ok (.iload 5, 2) := by decide +kernel
theorem dX8_tells_39 : decode cX8_tells 39 = .ok (.iconst 2, 1) := by decide +kernel
theorem dX8_tells_40 : decode cX8_tells 40 = .ok (.iadd, 1) := by decide +kernel
theorem dX8_tells_41 : decode cX8_tells 41 = .ok (.iload_n 3, 1) := by decide +kernel
theorem dX8_tells_42 : decode cX8_tells 42 = .ok (.iastore, 1) := by decide +kernel
theorem dX8_tells_43 : decode cX8_tells 43 = .ok (.aload_n 0, 1) := by decide +kernel
theorem dX8_tells_44 : decode cX8_tells 44 = .ok (.getfield 7, 3) := by decide +kernel
theorem dX8_tells_47 : decode cX8_tells 47 = .ok (.iload 5, 2) := by decide +kernel
theorem dX8_tells_49 : decode cX8_tells 49 = .ok (.iconst 3, 1) := by decide +kernel
theorem dX8_tells_50 : decode cX8_tells 50 = .ok (.iadd, 1) := by decide +kernel
theorem dX8_tells_51 : decode cX8_tells 51 = .ok (.iload 4, 2) := by decide +kernel
theorem dX8_tells_53 : decode cX8_tells 53 = .ok (.iastore, 1) := by decide +kernel
theorem dX8_tells_54 : decode cX8_tells 54 = .ok (.aload_n 0, 1) := by decide +kernel
theorem dX8_tells_55 : decode cX8_tells 55 = .ok (.getfield 7, 3) := by decide +kernel
theorem dX8_tells_58 : decode cX8_tells 58 = .ok (.iload 5, 2) := by decide +kernel
theorem dX8_tells_60 : decode cX8_tells 60 = .ok (.iconst 4, 1) := by decide +kernel
theorem dX8_tells_61 : decode cX8_tells 61 = .ok (.iadd, 1) := by decide +kernel
theorem dX8_tells_62 : decode cX8_tells 62 = .ok (.iconst 0, 1) := by decide +kernel
theorem dX8_tells_63 : decode cX8_tells 63 = .ok (.iastore, 1) := by decide +kernel
theorem dX8_tells_64 : decode cX8_tells 64 = .ok (.aload_n 0, 1) := by decide +kernel
theorem dX8_tells_65 : decode cX8_tells 65 = .ok (.getfield 7, 3) := by decide +kernel
theorem dX8_tells_68 : decode cX8_tells 68 = .ok (.iconst 1, 1) := by decide +kernel
theorem dX8_tells_69 : decode cX8_tells 69 = .ok (.dup2, 1) := by decide +kernel
theorem dX8_tells_70 : decode cX8_tells 70 = .ok (.iaload, 1) := by decide +kernel
theorem dX8_tells_71 : decode cX8_tells 71 = .ok (.iconst 1, 1) := by decide +kernel
theorem dX8_tells_72 : decode cX8_tells 72 = .ok (.iadd, 1) := by decide +kernel
theorem dX8_tells_73 : decode cX8_tells 73 = .ok (.iastore, 1) := by decide +kernel
theorem dX8_tells_74 : decode cX8_tells 74 = .ok (.aload_n 0, 1) := by decide +kernel
theorem dX8_tells_75 : decode cX8_tells 75 = .ok (.getfield 7, 3) := by decide +kernel
theorem dX8_tells_78 : decode cX8_tells 78 = .ok (.iconst 1, 1) := by decide +kernel
theorem dX8_tells_79 : decode cX8_tells 79 = .ok (.iaload, 1) := by decide +kernel
theorem dX8_tells_80 : decode cX8_tells 80 = .ok (.iconst 1, 1) := by decide +kernel
theorem dX8_tells_81 : decode cX8_tells 81 = .ok (.isub, 1) := by decide +kernel
theorem dX8_tells_82 : decode cX8_tells 82 = .ok (.ireturn, 1) := by decide +kernel
theorem dX8_tell_0 : decode cX8_tell 0 = .ok (.aload_n 0, 1) := by decide +kernel
theorem dX8_tell_1 : decode cX8_tell 1 = .ok (.iload_n 1, 1) := by decide +kernel
theorem dX8_tell_2 : decode cX8_tell 2 = .ok (.invokevirtual 57, 3) := by decide +kernel
theorem dX8_tell_5 : decode cX8_tell 5 = .ok (.ifCond .ne 5, 3) := by decide +kernel
theorem dX8_tell_8 : decode cX8_tell 8 = .ok (.iconst (-1), 1) := by decide +kernel
theorem dX8_tell_9 : decode cX8_tell 9 = .ok (.ireturn, 1) := by decide +kernel
theorem dX8_tell_10 : decode cX8_tell 10 = .ok (.aload_n 0, 1) := by decide +kernel
theorem dX8_tell_11 : decode cX8_tell 11 = .ok (.iload_n 2, 1) := by decide +kernel
theorem dX8_tell_12 : decode cX8_tell 12 = .ok (.iload_n 3, 1) := by decide +kernel
theorem dX8_tell_13 : decode cX8_tell 13 = .ok (.iload 4, 2) := by decide +kernel
theorem dX8_tell_15 : decode cX8_tell 15 = .ok (.invokevirtual 108, 3) := by decide +kernel
theorem dX8_tell_18 : decode cX8_tell 18 = .ok (.ifCond .ne 6, 3) := by decide +kernel
theorem dX8_tell_21 : decode cX8_tell 21 = .ok (.bipush (-2), 2) := by decide +kernel
theorem dX8_tell_23 : decode cX8_tell 23 = .ok (.ireturn, 1) := by decide +kernel
theorem dX8_tell_24 : decode cX8_tell 24 = .ok (.aload_n 0, 1) := by decide +kernel
theorem dX8_tell_25 : decode cX8_tell 25 = .ok (.getfield 7, 3) := by decide +kernel
theorem dX8_tell_28 : decode cX8_tell 28 = .ok (.iconst 1, 1) := by decide +kernel
theorem dX8_tell_29 : decode cX8_tell 29 = .ok (.iaload, 1) := by decide +kernel
theorem dX8_tell_30 : decode cX8_tell 30 = .ok (.bipush 20, 2) := by decide +kernel
theorem dX8_tell_32 : decode cX8_tell 32 = .ok (.if_icmp .ne 6, 3) := by decide +kernel
theorem dX8_tell_35 : decode cX8_tell 35 = .ok (.bipush (-4), 2) := by decide +kernel
theorem dX8_tell_37 : decode cX8_tell 37 = .ok (.ireturn, 1) := by decide +kernel
theorem dX8_tell_38 : decode cX8_tell 38 = .ok (.aload_n 0, 1) := by decide +kernel
theorem dX8_tell_39 : decode cX8_tell 39 = .ok (.invokevirtual 105, 3) := by decide +kernel
theorem dX8_tell_42 : decode cX8_tell 42 = .ok (.aload_n 0, 1) := by decide +kernel
theorem dX8_tell_43 : decode cX8_tell 43 = .ok (.iload_n 1, 1) := by decide +kernel
theorem dX8_tell_44 : decode cX8_tell 44 = .ok (.iload_n 2, 1) := by decide +kernel
theorem dX8_tell_45 : decode cX8_tell 45 = .ok (.iload_n 3, 1) := by decide +kernel
theorem dX8_tell_46 : decode cX8_tell 46 = .ok (.iload 4, 2) := by decide +kernel
theorem dX8_tell_48 : decode cX8_tell 48 = .ok (.invokevirtual 111, 3) := by decide +kernel
theorem dX8_tell_51 : decode cX8_tell 51 = .ok (.ireturn, 1) := by decide +kernel
theorem dX8_lookThrough_0 : decode cX8_lookThrough 0 = .ok (.iconst 1, 1) := by decide +kernel
theorem dX8_lookThrough_1 : decode cX8_lookThrough 1 = .ok (.istore_n 1, 1) := by decide +kernel
theorem dX8_lookThrough_2 : decode cX8_lookThrough 2 = .ok (.iconst 1, 1) := by decide +kernel
theorem dX8_lookThrough_3 : decode cX8_lookThrough 3 = .ok (.istore_n 2, 1) := by decide +kernel
theorem dX8_lookThrough_4 : decode cX8_lookThrough 4 = .ok (.iconst 0, 1) := by decide +kernel
theorem dX8_lookThrough_5 : decode cX8_lookThrough 5 = .ok (.istore_n 3, 1) := by decide +kernel
theorem dX8_lookThrough_6 : decode cX8_lookThrough 6 = .ok (.aload_n 0, 1) := by decide +kernel
theorem dX8_lookThrough_7 : decode cX8_lookThrough 7 = .ok (.iconst 0, 1) := by decide +kernel
theorem dX8_lookThrough_8 : decode cX8_lookThrough 8 = .ok (.putfield 115, 3) := by decide +kernel
theorem dX8_lookThrough_11 : decode cX8_lookThrough 11 = .ok (.aload_n 0, 1) := by decide +kernel
theorem dX8_lookThrough_12 : decode cX8_lookThrough 12 = .ok (.getfield 115, 3) := by decide +kernel
theorem dX8_lookThrough_15 : decode cX8_lookThrough 15 = .ok (.aload_n 0, 1) := by decide +kernel
theorem dX8_lookThrough_16 : decode cX8_lookThrough 16 = .ok (.getfield 118, 3) := by decide +kernel
theorem dX8_lookThrough_19 : decode cX8_lookThrough 19 = .ok (.if_icmp .ge 71, 3) := by decide +kernel
theorem dX8_lookThrough_22 : decode cX8_lookThrough 22 = .ok (.aload_n 0, 1) := by decide +kernel
theorem dX8_lookThrough_23 : decode cX8_lookThrough 23 = .ok (.invokevirtual 121, 3) := by decide +kernel
theorem dX8_lookThrough_26 : decode cX8_lookThrough 26 = .ok (.pop, 1) := by decide +kernel
theorem dX8_lookThrough_27 : decode cX8_lookThrough 27 = .ok (.aload_n 0, 1) := by decide +kernel
theorem dX8_lookThrough_28 : decode cX8_lookThrough 28 = .ok (.bipush 44, 2) := by decide +kernel
theorem dX8_lookThrough_30 : decode cX8_lookThrough 30 = .ok (.invokevirtual 125, 3) := by decide +kernel
theorem dX8_lookThrough_33 : decode cX8_lookThrough 33 = .ok (.pop, 1) := by decide +kernel
theorem dX8_lookThrough_34 : decode cX8_lookThrough 34 = .ok (.iload_n 1, 1) := by decide +kernel
theorem dX8_lookThrough_35 : decode cX8_lookThrough 35 = .ok (.ifCond .eq 18, 3) := by decide +kernel
theorem dX8_lookThrough_38 : decode cX8_lookThrough 38 = .ok (.aload_n 0, 1) := by decide +kernel
theorem dX8_lookThrough_39 : decode cX8_lookThrough 39 = .ok (.aload_n 0, 1) := by decide +kernel
theorem dX8_lookThrough_40 : decode cX8_lookThrough 40 = .ok (.getfield 128, 3) := by decide +kernel
theorem dX8_lookThrough_43 : decode cX8_lookThrough 43 = .ok (.invokevirtual 57, 3) := by decide +kernel
theorem dX8_lookThrough_46 : decode cX8_lookThrough 46 = .ok (.ifCond .eq 7, 3) := by decide +kernel
theorem dX8_lookThrough_49 : decode cX8_lookThrough 49 = .ok (.iconst 1, 1) := by decide +kernel
theorem dX8_lookThrough_50 : decode cX8_lookThrough 50 = .ok (.goto 4, 3) := by decide +kernel
theorem dX8_lookThrough_53 : decode cX8_lookThrough 53 = .ok (.iconst 0, 1) := by decide +kernel
theorem dX8_lookThrough_54 : decode cX8_lookThrough 54 = .ok (.istore_n 1, 1) := by decide +kernel
theorem dX8_lookThrough_55 : decode cX8_lookThrough 55 = .ok (.iload_n 2, 1) := by decide +kernel
theorem dX8_lookThrough_56 : decode cX8_lookThrough 56 = .ok (.ifCond .eq 26, 3) := by decide +kernel
theorem dX8_lookThrough_59 : decode cX8_lookThrough 59 = .ok (.aload_n 0, 1) := by decide +kernel
theorem dX8_lookThrough_60 : decode cX8_lookThrough 60 = .ok (.aload_n 0, 1) := by decide +kernel
theorem dX8_lookThrough_61 : decode cX8_lookThrough 61 = .ok (.getfield 131, 3) := by decide +kernel
theorem dX8_lookThrough_64 : decode cX8_lookThrough 64 = .ok (.aload_n 0, 1) := by decide +kernel
theorem dX8_lookThrough_65 : decode cX8_lookThrough 65 = .ok (.getfield 134, 3) := by decide +kernel
theorem dX8_lookThrough_68 : decode cX8_lookThrough 68 = .ok (.aload_n 0, 1) := by decide +kernel
theorem dX8_lookThrough_69 : decode cX8_lookThrough 69 = .ok (.getfield 137, 3) := by decide +kernel
theorem dX8_lookThrough_72 : decode cX8_lookThrough 72 = .ok (.invokevirtual 108, 3) := by decide +kernel
theorem dX8_lookThrough_75 : decode cX8_lookThrough 75 = .ok (.ifCond .eq 7, 3) := by decide +kernel
theorem dX8_lookThrough_78 : decode cX8_lookThrough 78 = .ok (.iconst 1, 1) := by decide +kernel
theorem dX8_lookThrough_79 : decode cX8_lookThrough 79 = .ok (.goto 4, 3) := by decide +kernel
theorem dX8_lookThrough_82 : decode cX8_lookThrough 82 = .ok (.iconst 0, 1) := by decide +kernel
theorem dX8_lookThrough_83 : decode cX8_lookThrough 83 = .ok (.istore_n 2, 1) := by decide +kernel
theorem dX8_lookThrough_84 : decode cX8_lookThrough 84 = .ok (.iinc 3 1, 3) := by decide +kernel
theorem dX8_lookThrough_87 : decode cX8_lookThrough 87 = .ok (.goto (-76), 3) := by decide +kernel
theorem dX8_lookThrough_90 : decode cX8_lookThrough 90 = .ok (.iload_n 1, 1) := by decide +kernel
theorem dX8_lookThrough_91 : decode cX8_lookThrough 91 = .ok (.ifCond .ne 7, 3) := by decide +kernel
theorem dX8_lookThrough_94 : decode cX8_lookThrough 94 = .ok (.iconst (-1), 1) := by decide +kernel
theorem dX8_lookThrough_95 : decode cX8_lookThrough 95 = .ok (.goto 13, 3) := by decide +kernel
theorem dX8_lookThrough_98 : decode cX8_lookThrough 98 = .ok (.iload_n 2, 1) := by decide +kernel
theorem dX8_lookThrough_99 : decode cX8_lookThrough 99 = .ok (.ifCond .eq 7, 3) := by decide +kernel
theorem dX8_lookThrough_102 : decode cX8_lookThrough 102 = .ok (.iload_n 3, 1) := by decide +kernel
theorem dX8_lookThrough_103 : decode cX8_lookThrough 103 = .ok (.goto 5, 3) := by decide +kernel
theorem dX8_lookThrough_106 : decode cX8_lookThrough 106 = .ok (.bipush (-2), 2) := by decide +kernel
theorem dX8_lookThrough_108 : decode cX8_lookThrough 108 = .ok (.ireturn, 1) := by decide +kernel
theorem dX8_tellAll_0 : decode cX8_tellAll 0 = .ok (.aload_n 0, 1) := by decide +kernel
theorem dX8_tellAll_1 : decode cX8_tellAll 1 = .ok (.invokevirtual 140, 3) := by decide +kernel
theorem dX8_tellAll_4 : decode cX8_tellAll 4 = .ok (.bipush (-6), 2) := by decide +kernel
theorem dX8_tellAll_6 : decode cX8_tellAll 6 = .ok (.if_icmp .eq 6, 3) := by decide +kernel
theorem dX8_tellAll_9 : decode cX8_tellAll 9 = .ok (.bipush (-3), 2) := by decide +kernel
theorem dX8_tellAll_11 : decode cX8_tellAll 11 = .ok (.ireturn, 1) := by decide +kernel
theorem dX8_tellAll_12 : decode cX8_tellAll 12 = .ok (.aload_n 0, 1) := by decide +kernel
theorem dX8_tellAll_13 : decode cX8_tellAll 13 = .ok (.invokevirtual 143, 3) := by decide +kernel
theorem dX8_tellAll_16 : decode cX8_tellAll 16 = .ok (.istore_n 1, 1) := by decide +kernel
theorem dX8_tellAll_17 : decode cX8_tellAll 17 = .ok (.iload_n 1, 1) := by decide +kernel
theorem dX8_tellAll_18 : decode cX8_tellAll 18 = .ok (.ifCond .ge 5, 3) := by decide +kernel
theorem dX8_tellAll_21 : decode cX8_tellAll 21 = .ok (.iload_n 1, 1) := by decide +kernel
theorem dX8_tellAll_22 : decode cX8_tellAll 22 = .ok (.ireturn, 1) := by decide +kernel
theorem dX8_tellAll_23 : decode cX8_tellAll 23 = .ok (.aload_n 0, 1) := by decide +kernel
theorem dX8_tellAll_24 : decode cX8_tellAll 24 = .ok (.getfield 7, 3) := by decide +kernel
theorem dX8_tellAll_27 : decode cX8_tellAll 27 = .ok (.iconst 1, 1) := by decide +kernel
theorem dX8_tellAll_28 : decode cX8_tellAll 28 = .ok (.iaload, 1) := by decide +kernel
theorem dX8_tellAll_29 : decode cX8_tellAll 29 = .ok (.iload_n 1, 1) := by decide +kernel
theorem dX8_tellAll_30 : decode cX8_tellAll 30 = .ok (.iadd, 1) := by decide +kernel
theorem dX8_tellAll_31 : decode cX8_tellAll 31 = .ok (.bipush 20, 2) := by decide +kernel
theorem dX8_tellAll_33 : decode cX8_tellAll 33 = .ok (.if_icmp .le 6, 3) := by decide +kernel
theorem dX8_tellAll_36 : decode cX8_tellAll 36 = .ok (.bipush (-4), 2) := by decide +kernel
theorem dX8_tellAll_38 : decode cX8_tellAll 38 = .ok (.ireturn, 1) := by decide +kernel
theorem dX8_tellAll_39 : decode cX8_tellAll 39 = .ok (.aload_n 0, 1) := by decide +kernel
theorem dX8_tellAll_40 : decode cX8_tellAll 40 = .ok (.invokevirtual 105, 3) := by decide +kernel
theorem dX8_tellAll_43 : decode cX8_tellAll 43 = .ok (.aload_n 0, 1) := by decide +kernel
theorem dX8_tellAll_44 : decode cX8_tellAll 44 = .ok (.iconst 0, 1) := by decide +kernel
theorem dX8_tellAll_45 : decode cX8_tellAll 45 = .ok (.putfield 115, 3) := by decide +kernel
theorem dX8_tellAll_48 : decode cX8_tellAll 48 = .ok (.aload_n 0, 1) := by decide +kernel
theorem dX8_tellAll_49 : decode cX8_tellAll 49 = .ok (.getfield 115, 3) := by decide +kernel
theorem dX8_tellAll_52 : decode cX8_tellAll 52 = .ok (.aload_n 0, 1) := by decide +kernel
theorem dX8_tellAll_53 : decode cX8_tellAll 53 = .ok (.getfield 118, 3) := by decide +kernel
theorem dX8_tellAll_56 : decode cX8_tellAll 56 = .ok (.if_icmp .ge 39, 3) := by decide +kernel
theorem dX8_tellAll_59 : decode cX8_tellAll 59 = .ok (.aload_n 0, 1) := by decide +kernel
theorem dX8_tellAll_60 : decode cX8_tellAll 60 = .ok (.invokevirtual 121, 3) := by decide +kernel
theorem dX8_tellAll_63 : decode cX8_tellAll 63 = .ok (.pop, 1) := by decide +kernel
theorem dX8_tellAll_64 : decode cX8_tellAll 64 = .ok (.aload_n 0, 1) := by decide +kernel
theorem dX8_tellAll_65 : decode cX8_tellAll 65 = .ok (.bipush 44, 2) := by decide +kernel
theorem dX8_tellAll_67 : decode cX8_tellAll 67 = .ok (.invokevirtual 125, 3) := by decide +kernel
theorem dX8_tellAll_70 : decode cX8_tellAll 70 = .ok (.pop, 1) := by decide +kernel
theorem dX8_tellAll_71 : decode cX8_tellAll 71 = .ok (.aload_n 0, 1) := by decide +kernel
theorem dX8_tellAll_72 : decode cX8_tellAll 72 = .ok (.aload_n 0, 1) := by decide +kernel
theorem dX8_tellAll_73 : decode cX8_tellAll 73 = .ok (.getfield 128, 3) := by decide +kernel
theorem dX8_tellAll_76 : decode cX8_tellAll 76 = .ok (.aload_n 0, 1) := by decide +kernel
theorem dX8_tellAll_77 : decode cX8_tellAll 77 = .ok (.getfield 131, 3) := by decide +kernel
theorem dX8_tellAll_80 : decode cX8_tellAll 80 = .ok (.aload_n 0, 1) := by decide +kernel
theorem dX8_tellAll_81 : decode cX8_tellAll 81 = .ok (.getfield 134, 3) := by decide +kernel
theorem dX8_tellAll_84 : decode cX8_tellAll 84 = .ok (.aload_n 0, 1) := by decide +kernel
theorem dX8_tellAll_85 : decode cX8_tellAll 85 = .ok (.getfield 137, 3) := by decide +kernel
theorem dX8_tellAll_88 : decode cX8_tellAll 88 = .ok (.invokevirtual 111, 3) := by decide +kernel
theorem dX8_tellAll_91 : decode cX8_tellAll 91 = .ok (.pop, 1) := by decide +kernel
theorem dX8_tellAll_92 : decode cX8_tellAll 92 = .ok (.goto (-44), 3) := by decide +kernel
theorem dX8_tellAll_95 : decode cX8_tellAll 95 = .ok (.aload_n 0, 1) := by decide +kernel
theorem dX8_tellAll_96 : decode cX8_tellAll 96 = .ok (.iconst 0, 1) := by decide +kernel
theorem dX8_tellAll_97 : decode cX8_tellAll 97 = .ok (.putfield 118, 3) := by decide +kernel
theorem dX8_tellAll_100 : decode cX8_tellAll 100 = .ok (.iload_n 1, 1) := by decide +kernel
theorem dX8_tellAll_101 : decode cX8_tellAll 101 = .ok (.ireturn, 1) := by decide +kernel
theorem dX8_prove_0 : decode cX8_prove 0 = .ok (.aload_n 0, 1) := by decide +kernel
theorem dX8_prove_1 : decode cX8_prove 1 = .ok (.iload_n 1, 1) := by decide +kernel
theorem dX8_prove_2 : decode cX8_prove 2 = .ok (.invokevirtual 146, 3) := by decide +kernel
theorem dX8_prove_5 : decode cX8_prove 5 = .ok (.ifCond .ne 5, 3) := by decide +kernel
theorem dX8_prove_8 : decode cX8_prove 8 = .ok (.iconst (-1), 1) := by decide +kernel
theorem dX8_prove_9 : decode cX8_prove 9 = .ok (.ireturn, 1) := by decide +kernel
theorem dX8_prove_10 : decode cX8_prove 10 = .ok (.aload_n 0, 1) := by decide +kernel
theorem dX8_prove_11 : decode cX8_prove 11 = .ok (.iload_n 1, 1) := by decide +kernel
theorem dX8_prove_12 : decode cX8_prove 12 = .ok (.invokevirtual 74, 3) := by decide +kernel
theorem dX8_prove_15 : decode cX8_prove 15 = .ok (.ifCond .ne 6, 3) := by decide +kernel
theorem dX8_prove_18 : decode cX8_prove 18 = .ok (.bipush (-5), 2) := by decide +kernel
theorem dX8_prove_20 : decode cX8_prove 20 = .ok (.ireturn, 1) := by decide +kernel
theorem dX8_prove_21 : decode cX8_prove 21 = .ok (.aload_n 0, 1) := by decide +kernel
theorem dX8_prove_22 : decode cX8_prove 22 = .ok (.invokevirtual 105, 3) := by decide +kernel
theorem dX8_prove_25 : decode cX8_prove 25 = .ok (.aload_n 0, 1) := by decide +kernel
theorem dX8_prove_26 : decode cX8_prove 26 = .ok (.iload_n 1, 1) := by decide +kernel
theorem dX8_prove_27 : decode cX8_prove 27 = .ok (.iload_n 2, 1) := by decide +kernel
theorem dX8_prove_28 : decode cX8_prove 28 = .ok (.ifCond .eq 7, 3) := by decide +kernel
theorem dX8_prove_31 : decode cX8_prove 31 = .ok (.iconst 1, 1) := by decide +kernel
theorem dX8_prove_32 : decode cX8_prove 32 = .ok (.goto 4, 3) := by decide +kernel
theorem dX8_prove_35 : decode cX8_prove 35 = .ok (.iconst 2, 1) := by decide +kernel
theorem dX8_prove_36 : decode cX8_prove 36 = .ok (.invokevirtual 149, 3) := by decide +kernel
theorem dX8_prove_39 : decode cX8_prove 39 = .ok (.aload_n 0, 1) := by decide +kernel
theorem dX8_prove_40 : decode cX8_prove 40 = .ok (.invokevirtual 153, 3) := by decide +kernel
theorem dX8_prove_43 : decode cX8_prove 43 = .ok (.ireturn, 1) := by decide +kernel
theorem dX8_reveal_0 : decode cX8_reveal 0 = .ok (.aload_n 0, 1) := by decide +kernel
theorem dX8_reveal_1 : decode cX8_reveal 1 = .ok (.invokevirtual 105, 3) := by decide +kernel
theorem dX8_reveal_4 : decode cX8_reveal 4 = .ok (.iconst 0, 1) := by decide +kernel
theorem dX8_reveal_5 : decode cX8_reveal 5 = .ok (.istore_n 1, 1) := by decide +kernel
theorem dX8_reveal_6 : decode cX8_reveal 6 = .ok (.iconst 0, 1) := by decide +kernel
theorem dX8_reveal_7 : decode cX8_reveal 7 = .ok (.istore_n 2, 1) := by decide +kernel
theorem dX8_reveal_8 : decode cX8_reveal 8 = .ok (.iload_n 2, 1) := by decide +kernel
theorem dX8_reveal_9 : decode cX8_reveal 9 = .ok (.aload_n 0, 1) := by decide +kernel
theorem dX8_reveal_10 : decode cX8_reveal 10 = .ok (.getfield 7, 3) := by decide +kernel
theorem dX8_reveal_13 : decode cX8_reveal 13 = .ok (.iconst 1, 1) := by decide +kernel
theorem dX8_reveal_14 : decode cX8_reveal 14 = .ok (.iaload, 1) := by decide +kernel
theorem dX8_reveal_15 : decode cX8_reveal 15 = .ok (.if_icmp .ge 38, 3) := by decide +kernel
theorem dX8_reveal_18 : decode cX8_reveal 18 = .ok (.aload_n 0, 1) := by decide +kernel
theorem dX8_reveal_19 : decode cX8_reveal 19 = .ok (.iload_n 2, 1) := by decide +kernel
theorem dX8_reveal_20 : decode cX8_reveal 20 = .ok (.invokevirtual 74, 3) := by decide +kernel
theorem dX8_reveal_23 : decode cX8_reveal 23 = .ok (.ifCond .eq 24, 3) := by decide +kernel
theorem dX8_reveal_26 : decode cX8_reveal 26 = .ok (.aload_n 0, 1) := by decide +kernel
theorem dX8_reveal_27 : decode cX8_reveal 27 = .ok (.iload_n 2, 1) := by decide +kernel
theorem dX8_reveal_28 : decode cX8_reveal 28 = .ok (.aload_n 0, 1) := by decide +kernel
theorem dX8_reveal_29 : decode cX8_reveal 29 = .ok (.iload_n 2, 1) := by decide +kernel
theorem dX8_reveal_30 : decode cX8_reveal 30 = .ok (.invokevirtual 156, 3) := by decide +kernel
theorem dX8_reveal_33 : decode cX8_reveal 33 = .ok (.ifCond .eq 7, 3) := by decide +kernel
theorem dX8_reveal_36 : decode cX8_reveal 36 = .ok (.iconst 1, 1) := by decide +kernel
theorem dX8_reveal_37 : decode cX8_reveal 37 = .ok (.goto 4, 3) := by decide +kernel
theorem dX8_reveal_40 : decode cX8_reveal 40 = .ok (.iconst 2, 1) := by decide +kernel
theorem dX8_reveal_41 : decode cX8_reveal 41 = .ok (.invokevirtual 149, 3) := by decide +kernel
theorem dX8_reveal_44 : decode cX8_reveal 44 = .ok (.iinc 1 1, 3) := by decide +kernel
theorem dX8_reveal_47 : decode cX8_reveal 47 = .ok (.iinc 2 1, 3) := by decide +kernel
theorem dX8_reveal_50 : decode cX8_reveal 50 = .ok (.goto (-42), 3) := by decide +kernel
theorem dX8_reveal_53 : decode cX8_reveal 53 = .ok (.iload_n 1, 1) := by decide +kernel
theorem dX8_reveal_54 : decode cX8_reveal 54 = .ok (.ireturn, 1) := by decide +kernel
theorem dX8_doubt_0 : decode cX8_doubt 0 = .ok (.aload_n 0, 1) := by decide +kernel
theorem dX8_doubt_1 : decode cX8_doubt 1 = .ok (.iload_n 1, 1) := by decide +kernel
theorem dX8_doubt_2 : decode cX8_doubt 2 = .ok (.invokevirtual 146, 3) := by decide +kernel
theorem dX8_doubt_5 : decode cX8_doubt 5 = .ok (.ifCond .ne 5, 3) := by decide +kernel
theorem dX8_doubt_8 : decode cX8_doubt 8 = .ok (.iconst (-1), 1) := by decide +kernel
theorem dX8_doubt_9 : decode cX8_doubt 9 = .ok (.ireturn, 1) := by decide +kernel
theorem dX8_doubt_10 : decode cX8_doubt 10 = .ok (.aload_n 0, 1) := by decide +kernel
theorem dX8_doubt_11 : decode cX8_doubt 11 = .ok (.iload_n 1, 1) := by decide +kernel
theorem dX8_doubt_12 : decode cX8_doubt 12 = .ok (.invokevirtual 74, 3) := by decide +kernel
theorem dX8_doubt_15 : decode cX8_doubt 15 = .ok (.ifCond .eq 6, 3) := by decide +kernel
theorem dX8_doubt_18 : decode cX8_doubt 18 = .ok (.bipush (-5), 2) := by decide +kernel
theorem dX8_doubt_20 : decode cX8_doubt 20 = .ok (.ireturn, 1) := by decide +kernel
theorem dX8_doubt_21 : decode cX8_doubt 21 = .ok (.aload_n 0, 1) := by decide +kernel
theorem dX8_doubt_22 : decode cX8_doubt 22 = .ok (.invokevirtual 105, 3) := by decide +kernel
theorem dX8_doubt_25 : decode cX8_doubt 25 = .ok (.aload_n 0, 1) := by decide +kernel
theorem dX8_doubt_26 : decode cX8_doubt 26 = .ok (.iload_n 1, 1) := by decide +kernel
theorem dX8_doubt_27 : decode cX8_doubt 27 = .ok (.iconst 0, 1) := by decide +kernel
theorem dX8_doubt_28 : decode cX8_doubt 28 = .ok (.invokevirtual 149, 3) := by decide +kernel
theorem dX8_doubt_31 : decode cX8_doubt 31 = .ok (.aload_n 0, 1) := by decide +kernel
theorem dX8_doubt_32 : decode cX8_doubt 32 = .ok (.invokevirtual 153, 3) := by decide +kernel
theorem dX8_doubt_35 : decode cX8_doubt 35 = .ok (.ireturn, 1) := by decide +kernel
theorem dX8_guess_0 : decode cX8_guess 0 = .ok (.aload_n 0, 1) := by decide +kernel
theorem dX8_guess_1 : decode cX8_guess 1 = .ok (.iload_n 1, 1) := by decide +kernel
theorem dX8_guess_2 : decode cX8_guess 2 = .ok (.invokevirtual 57, 3) := by decide +kernel
theorem dX8_guess_5 : decode cX8_guess 5 = .ok (.ifCond .eq 19, 3) := by decide +kernel
theorem dX8_guess_8 : decode cX8_guess 8 = .ok (.aload_n 0, 1) := by decide +kernel
theorem dX8_guess_9 : decode cX8_guess 9 = .ok (.iload_n 2, 1) := by decide +kernel
theorem dX8_guess_10 : decode cX8_guess 10 = .ok (.invokevirtual 57, 3) := by decide +kernel
theorem dX8_guess_13 : decode cX8_guess 13 = .ok (.ifCond .eq 11, 3) := by decide +kernel
theorem dX8_guess_16 : decode cX8_guess 16 = .ok (.aload_n 0, 1) := by decide +kernel
theorem dX8_guess_17 : decode cX8_guess 17 = .ok (.iload_n 3, 1) := by decide +kernel
theorem dX8_guess_18 : decode cX8_guess 18 = .ok (.invokevirtual 57, 3) := by decide +kernel
theorem dX8_guess_21 : decode cX8_guess 21 = .ok (.ifCond .ne 5, 3) := by decide +kernel
theorem dX8_guess_24 : decode cX8_guess 24 = .ok (.iconst (-1), 1) := by decide +kernel
theorem dX8_guess_25 : decode cX8_guess 25 = .ok (.ireturn, 1) := by decide +kernel
theorem dX8_guess_26 : decode cX8_guess 26 = .ok (.iload_n 1, 1) := by decide +kernel
theorem dX8_guess_27 : decode cX8_guess 27 = .ok (.iload_n 2, 1) := by decide +kernel
theorem dX8_guess_28 : decode cX8_guess 28 = .ok (.if_icmp .eq 8, 3) := by decide +kernel
theorem dX8_guess_31 : decode cX8_guess 31 = .ok (.iload_n 2, 1) := by decide +kernel
theorem dX8_guess_32 : decode cX8_guess 32 = .ok (.iload_n 3, 1) := by decide +kernel
theorem dX8_guess_33 : decode cX8_guess 33 = .ok (.if_icmp .ne 6, 3) := by decide +kernel
theorem dX8_guess_36 : decode cX8_guess 36 = .ok (.bipush (-2), 2) := by decide +kernel
theorem dX8_guess_38 : decode cX8_guess 38 = .ok (.ireturn, 1) := by decide +kernel
theorem dX8_guess_39 : decode cX8_guess 39 = .ok (.aload_n 0, 1) := by decide +kernel
theorem dX8_guess_40 : decode cX8_guess 40 = .ok (.getfield 7, 3) := by decide +kernel
theorem dX8_guess_43 : decode cX8_guess 43 = .ok (.bipush 15, 2) := by decide +kernel
theorem dX8_guess_45 : decode cX8_guess 45 = .ok (.iload_n 1, 1) := by decide +kernel
theorem dX8_guess_46 : decode cX8_guess 46 = .ok (.iadd, 1) := by decide +kernel
theorem dX8_guess_47 : decode cX8_guess 47 = .ok (.iaload, 1) := by decide +kernel
theorem dX8_guess_48 : decode cX8_guess 48 = .ok (.iconst 1, 1) := by decide +kernel
theorem dX8_guess_49 : decode cX8_guess 49 = .ok (.if_icmp .ne 6, 3) := by decide +kernel
theorem dX8_guess_52 : decode cX8_guess 52 = .ok (.bipush (-5), 2) := by decide +kernel
theorem dX8_guess_54 : decode cX8_guess 54 = .ok (.ireturn, 1) := by decide +kernel
theorem dX8_guess_55 : decode cX8_guess 55 = .ok (.aload_n 0, 1) := by decide +kernel
theorem dX8_guess_56 : decode cX8_guess 56 = .ok (.invokevirtual 105, 3) := by decide +kernel
theorem dX8_guess_59 : decode cX8_guess 59 = .ok (.aload_n 0, 1) := by decide +kernel
theorem dX8_guess_60 : decode cX8_guess 60 = .ok (.invokevirtual 102, 3) := by decide +kernel
theorem dX8_guess_63 : decode cX8_guess 63 = .ok (.aload_n 0, 1) := by decide +kernel
theorem dX8_guess_64 : decode cX8_guess 64 = .ok (.getfield 7, 3) := by decide +kernel
theorem dX8_guess_67 : decode cX8_guess 67 = .ok (.iconst 3, 1) := by decide +kernel
theorem dX8_guess_68 : decode cX8_guess 68 = .ok (.iload_n 2, 1) := by decide +kernel
theorem dX8_guess_69 : decode cX8_guess 69 = .ok (.iadd, 1) := by decide +kernel
theorem dX8_guess_70 : decode cX8_guess 70 = .ok (.iaload, 1) := by decide +kernel
theorem dX8_guess_71 : decode cX8_guess 71 = .ok (.iload_n 3, 1) := by decide +kernel
theorem dX8_guess_72 : decode cX8_guess 72 = .ok (.if_icmp .ne 7, 3) := by decide +kernel
theorem dX8_guess_75 : decode cX8_guess 75 = .ok (.iconst 1, 1) := by decide +kernel
theorem dX8_guess_76 : decode cX8_guess 76 = .ok (.goto 4, 3) := by decide +kernel
theorem dX8_guess_79 : decode cX8_guess 79 = .ok (.iconst 0, 1) := by decide +kernel
theorem dX8_guess_80 : decode cX8_guess 80 = .ok (.istore 4, 2) := by decide +kernel
theorem dX8_guess_82 : decode cX8_guess 82 = .ok (.aload_n 0, 1) := by decide +kernel
theorem dX8_guess_83 : decode cX8_guess 83 = .ok (.iload_n 2, 1) := by decide +kernel
theorem dX8_guess_84 : decode cX8_guess 84 = .ok (.invokevirtual 159, 3) := by decide +kernel
theorem dX8_guess_87 : decode cX8_guess 87 = .ok (.iload_n 3, 1) := by decide +kernel
theorem dX8_guess_88 : decode cX8_guess 88 = .ok (.if_icmp .ne 7, 3) := by decide +kernel
theorem dX8_guess_91 : decode cX8_guess 91 = .ok (.iconst 1, 1) := by decide +kernel
theorem dX8_guess_92 : decode cX8_guess 92 = .ok (.goto 4, 3) := by decide +kernel
theorem dX8_guess_95 : decode cX8_guess 95 = .ok (.iconst 0, 1) := by decide +kernel
theorem dX8_guess_96 : decode cX8_guess 96 = .ok (.istore 5, 2) := by decide +kernel
theorem dX8_guess_98 : decode cX8_guess 98 = .ok (.aload_n 0, 1) := by decide +kernel
theorem dX8_guess_99 : decode cX8_guess 99 = .ok (.getfield 77, 3) := by decide +kernel
theorem dX8_guess_102 : decode cX8_guess 102 = .ok (.ifCond .le 21, 3) := by decide +kernel
theorem dX8_guess_105 : decode cX8_guess 105 = .ok (.aload_n 0, 1) := by decide +kernel
theorem dX8_guess_106 : decode cX8_guess 106 = .ok (.getfield 28, 3) := by decide +kernel
theorem dX8_guess_109 : decode cX8_guess 109 = .ok (.bipush 6, 2) := by decide +kernel
theorem dX8_guess_111 : decode cX8_guess 111 = .ok (.iload_n 2, 1) := by decide +kernel
theorem dX8_guess_112 : decode cX8_guess 112 = .ok (.imul, 1) := by decide +kernel
theorem dX8_guess_113 : decode cX8_guess 113 = .ok (.iload_n 3, 1) := by decide +kernel
theorem dX8_guess_114 : decode cX8_guess 114 = .ok (.iadd, 1) := by decide +kernel
theorem dX8_guess_115 : decode cX8_guess 115 = .ok (.iaload, 1) := by decide +kernel
theorem dX8_guess_116 : decode cX8_guess 116 = .ok (.ifCond .ne 7, 3) := by decide +kernel
theorem dX8_guess_119 : decode cX8_guess 119 = .ok (.iconst 1, 1) := by decide +kernel
theorem dX8_guess_120 : decode cX8_guess 120 = .ok (.goto 4, 3) := by decide +kernel
theorem dX8_guess_123 : decode cX8_guess 123 = .ok (.iconst 0, 1) := by decide +kernel
theorem dX8_guess_124 : decode cX8_guess 124 = .ok (.istore 6, 2) := by decide +kernel
theorem dX8_guess_126 : decode cX8_guess 126 = .ok (.aload_n 0, 1) := by decide +kernel
theorem dX8_guess_127 : decode cX8_guess 127 = .ok (.getfield 7, 3) := by decide +kernel
theorem dX8_guess_130 : decode cX8_guess 130 = .ok (.bipush 9, 2) := by decide +kernel
theorem dX8_guess_132 : decode cX8_guess 132 = .ok (.iload_n 1, 1) := by decide +kernel
theorem dX8_guess_133 : decode cX8_guess 133 = .ok (.iadd, 1) := by decide +kernel
theorem dX8_guess_134 : decode cX8_guess 134 = .ok (.dup2, 1) := by decide +kernel
theorem dX8_guess_135 : decode cX8_guess 135 = .ok (.iaload, 1) := by decide +kernel
theorem dX8_guess_136 : decode cX8_guess 136 = .ok (.iload 4, 2) := by decide +kernel
theorem dX8_guess_138 : decode cX8_guess 138 = .ok (.ifCond .eq 16, 3) := by decide +kernel
theorem dX8_guess_141 : decode cX8_guess 141 = .ok (.iload 5, 2) := by decide +kernel
theorem dX8_guess_143 : decode cX8_guess 143 = .ok (.ifCond .eq 7, 3) := by decide +kernel
theorem dX8_guess_146 : decode cX8_guess 146 = .ok (.iconst 3, 1) := by decide +kernel
theorem dX8_guess_147 : decode cX8_guess 147 = .ok (.goto 19, 3) := by decide +kernel
theorem dX8_guess_150 : decode cX8_guess 150 = .ok (.iconst 5, 1) := by decide +kernel
theorem dX8_guess_151 : decode cX8_guess 151 = .ok (.goto 15, 3) := by decide +kernel
theorem dX8_guess_154 : decode cX8_guess 154 = .ok (.iload 6, 2) := by decide +kernel
theorem dX8_guess_156 : decode cX8_guess 156 = .ok (.ifCond .eq 8, 3) := by decide +kernel
theorem dX8_guess_159 : decode cX8_guess 159 = .ok (.bipush (-4), 2) := by decide +kernel
theorem dX8_guess_161 : decode cX8_guess 161 = .ok (.goto 5, 3) := by decide +kernel
theorem dX8_guess_164 : decode cX8_guess 164 = .ok (.bipush (-2), 2) := by decide +kernel
theorem dX8_guess_166 : decode cX8_guess 166 = .ok (.iadd, 1) := by decide +kernel
theorem dX8_guess_167 : decode cX8_guess 167 = .ok (.iastore, 1) := by decide +kernel
theorem dX8_guess_168 : decode cX8_guess 168 = .ok (.aload_n 0, 1) := by decide +kernel
theorem dX8_guess_169 : decode cX8_guess 169 = .ok (.getfield 7, 3) := by decide +kernel
theorem dX8_guess_172 : decode cX8_guess 172 = .ok (.bipush 15, 2) := by decide +kernel
theorem dX8_guess_174 : decode cX8_guess 174 = .ok (.iload_n 1, 1) := by decide +kernel
theorem dX8_guess_175 : decode cX8_guess 175 = .ok (.iadd, 1) := by decide +kernel
theorem dX8_guess_176 : decode cX8_guess 176 = .ok (.iconst 1, 1) := by decide +kernel
theorem dX8_guess_177 : decode cX8_guess 177 = .ok (.iastore, 1) := by decide +kernel
theorem dX8_guess_178 : decode cX8_guess 178 = .ok (.aload_n 0, 1) := by decide +kernel
theorem dX8_guess_179 : decode cX8_guess 179 = .ok (.getfield 7, 3) := by decide +kernel
theorem dX8_guess_182 : decode cX8_guess 182 = .ok (.bipush 9, 2) := by decide +kernel
theorem dX8_guess_184 : decode cX8_guess 184 = .ok (.iload_n 1, 1) := by decide +kernel
theorem dX8_guess_185 : decode cX8_guess 185 = .ok (.iadd, 1) := by decide +kernel
theorem dX8_guess_186 : decode cX8_guess 186 = .ok (.iaload, 1) := by decide +kernel
theorem dX8_guess_187 : decode cX8_guess 187 = .ok (.sipush 1000, 3) := by decide +kernel
theorem dX8_guess_190 : decode cX8_guess 190 = .ok (.iadd, 1) := by decide +kernel
theorem dX8_guess_191 : decode cX8_guess 191 = .ok (.ireturn, 1) := by decide +kernel
theorem dX8_endAct_0 : decode cX8_endAct 0 = .ok (.aload_n 0, 1) := by decide +kernel
theorem dX8_endAct_1 : decode cX8_endAct 1 = .ok (.invokevirtual 105, 3) := by decide +kernel
theorem dX8_endAct_4 : decode cX8_endAct 4 = .ok (.iconst 0, 1) := by decide +kernel
theorem dX8_endAct_5 : decode cX8_endAct 5 = .ok (.istore_n 1, 1) := by decide +kernel
theorem dX8_endAct_6 : decode cX8_endAct 6 = .ok (.iload_n 1, 1) := by decide +kernel
theorem dX8_endAct_7 : decode cX8_endAct 7 = .ok (.aload_n 0, 1) := by decide +kernel
theorem dX8_endAct_8 : decode cX8_endAct 8 = .ok (.getfield 7, 3) := by decide +kernel
theorem dX8_endAct_11 : decode cX8_endAct 11 = .ok (.iconst 1, 1) := by decide +kernel
theorem dX8_endAct_12 : decode cX8_endAct 12 = .ok (.iaload, 1) := by decide +kernel
theorem dX8_endAct_13 : decode cX8_endAct 13 = .ok (.if_icmp .ge 39, 3) := by decide +kernel
theorem dX8_endAct_16 : decode cX8_endAct 16 = .ok (.aload_n 0, 1) := by decide +kernel
theorem dX8_endAct_17 : decode cX8_endAct 17 = .ok (.getfield 7, 3) := by decide +kernel
theorem dX8_endAct_20 : decode cX8_endAct 20 = .ok (.bipush 9, 2) := by decide +kernel
theorem dX8_endAct_22 : decode cX8_endAct 22 = .ok (.aload_n 0, 1) := by decide +kernel
theorem dX8_endAct_23 : decode cX8_endAct 23 = .ok (.iload_n 1, 1) := by decide +kernel
theorem dX8_endAct_24 : decode cX8_endAct 24 = .ok (.iconst 0, 1) := by decide +kernel
theorem dX8_endAct_25 : decode cX8_endAct 25 = .ok (.invokevirtual 53, 3) := by decide +kernel
theorem dX8_endAct_28 : decode cX8_endAct 28 = .ok (.iadd, 1) := by decide +kernel
theorem dX8_endAct_29 : decode cX8_endAct 29 = .ok (.dup2, 1) := by decide +kernel
theorem dX8_endAct_30 : decode cX8_endAct 30 = .ok (.iaload, 1) := by decide +kernel
theorem dX8_endAct_31 : decode cX8_endAct 31 = .ok (.aload_n 0, 1) := by decide +kernel
theorem dX8_endAct_32 : decode cX8_endAct 32 = .ok (.iload_n 1, 1) := by decide +kernel
theorem dX8_endAct_33 : decode cX8_endAct 33 = .ok (.invokevirtual 156, 3) := by decide +kernel
theorem dX8_endAct_36 : decode cX8_endAct 36 = .ok (.ifCond .eq 7, 3) := by decide +kernel
theorem dX8_endAct_39 : decode cX8_endAct 39 = .ok (.iconst 1, 1) := by decide +kernel
theorem dX8_endAct_40 : decode cX8_endAct 40 = .ok (.goto 4, 3) := by decide +kernel
theorem dX8_endAct_43 : decode cX8_endAct 43 = .ok (.iconst (-1), 1) := by decide +kernel
theorem dX8_endAct_44 : decode cX8_endAct 44 = .ok (.iadd, 1) := by decide +kernel
theorem dX8_endAct_45 : decode cX8_endAct 45 = .ok (.iastore, 1) := by decide +kernel
theorem dX8_endAct_46 : decode cX8_endAct 46 = .ok (.iinc 1 1, 3) := by decide +kernel
theorem dX8_endAct_49 : decode cX8_endAct 49 = .ok (.goto (-43), 3) := by decide +kernel
theorem dX8_endAct_52 : decode cX8_endAct 52 = .ok (.iconst 0, 1) := by decide +kernel
theorem dX8_endAct_53 : decode cX8_endAct 53 = .ok (.istore_n 1, 1) := by decide +kernel
theorem dX8_endAct_54 : decode cX8_endAct 54 = .ok (.iload_n 1, 1) := by decide +kernel
theorem dX8_endAct_55 : decode cX8_endAct 55 = .ok (.bipush 6, 2) := by decide +kernel
theorem dX8_endAct_57 : decode cX8_endAct 57 = .ok (.if_icmp .ge 19, 3) := by decide +kernel
theorem dX8_endAct_60 : decode cX8_endAct 60 = .ok (.aload_n 0, 1) := by decide +kernel
theorem dX8_endAct_61 : decode cX8_endAct 61 = .ok (.getfield 7, 3) := by decide +kernel
theorem dX8_endAct_64 : decode cX8_endAct 64 = .ok (.bipush 15, 2) := by decide +kernel
theorem dX8_endAct_66 : decode cX8_endAct 66 = .ok (.iload_n 1, 1) := by decide +kernel
theorem dX8_endAct_67 : decode cX8_endAct 67 = .ok (.iadd, 1) := by decide +kernel
theorem dX8_endAct_68 : decode cX8_endAct 68 = .ok (.iconst 0, 1) := by decide +kernel
theorem dX8_endAct_69 : decode cX8_endAct 69 = .ok (.iastore, 1) := by decide +kernel
theorem dX8_endAct_70 : decode cX8_endAct 70 = .ok (.iinc 1 1, 3) := by decide +kernel
theorem dX8_endAct_73 : decode cX8_endAct 73 = .ok (.goto (-19), 3) := by decide +kernel
theorem dX8_endAct_76 : decode cX8_endAct 76 = .ok (.aload_n 0, 1) := by decide +kernel
theorem dX8_endAct_77 : decode cX8_endAct 77 = .ok (.getfield 7, 3) := by decide +kernel
theorem dX8_endAct_80 : decode cX8_endAct 80 = .ok (.iconst 1, 1) := by decide +kernel
theorem dX8_endAct_81 : decode cX8_endAct 81 = .ok (.iconst 0, 1) := by decide +kernel
theorem dX8_endAct_82 : decode cX8_endAct 82 = .ok (.iastore, 1) := by decide +kernel
theorem dX8_endAct_83 : decode cX8_endAct 83 = .ok (.aload_n 0, 1) := by decide +kernel
theorem dX8_endAct_84 : decode cX8_endAct 84 = .ok (.getfield 7, 3) := by decide +kernel
theorem dX8_endAct_87 : decode cX8_endAct 87 = .ok (.iconst 2, 1) := by decide +kernel
theorem dX8_endAct_88 : decode cX8_endAct 88 = .ok (.dup2, 1) := by decide +kernel
theorem dX8_endAct_89 : decode cX8_endAct 89 = .ok (.iaload, 1) := by decide +kernel
theorem dX8_endAct_90 : decode cX8_endAct 90 = .ok (.iconst 1, 1) := by decide +kernel
theorem dX8_endAct_91 : decode cX8_endAct 91 = .ok (.iadd, 1) := by decide +kernel
theorem dX8_endAct_92 : decode cX8_endAct 92 = .ok (.iastore, 1) := by decide +kernel
theorem dX8_endAct_93 : decode cX8_endAct 93 = .ok (.aload_n 0, 1) := by decide +kernel
theorem dX8_endAct_94 : decode cX8_endAct 94 = .ok (.getfield 7, 3) := by decide +kernel
theorem dX8_endAct_97 : decode cX8_endAct 97 = .ok (.iconst 2, 1) := by decide +kernel
theorem dX8_endAct_98 : decode cX8_endAct 98 = .ok (.iaload, 1) := by decide +kernel
theorem dX8_endAct_99 : decode cX8_endAct 99 = .ok (.ireturn, 1) := by decide +kernel
theorem dX8_told_0 : decode cX8_told 0 = .ok (.iconst 0, 1) := by decide +kernel
theorem dX8_told_1 : decode cX8_told 1 = .ok (.istore_n 3, 1) := by decide +kernel
theorem dX8_told_2 : decode cX8_told 2 = .ok (.iconst 0, 1) := by decide +kernel
theorem dX8_told_3 : decode cX8_told 3 = .ok (.istore 4, 2) := by decide +kernel
theorem dX8_told_5 : decode cX8_told 5 = .ok (.iload 4, 2) := by decide +kernel
theorem dX8_told_7 : decode cX8_told 7 = .ok (.aload_n 0, 1) := by decide +kernel
theorem dX8_told_8 : decode cX8_told 8 = .ok (.getfield 7, 3) := by decide +kernel
theorem dX8_told_11 : decode cX8_told 11 = .ok (.iconst 1, 1) := by decide +kernel
theorem dX8_told_12 : decode cX8_told 12 = .ok (.iaload, 1) := by decide +kernel
theorem dX8_told_13 : decode cX8_told 13 = .ok (.if_icmp .ge 41, 3) := by decide +kernel
theorem dX8_told_16 : decode cX8_told 16 = .ok (.iload_n 3, 1) := by decide +kernel
theorem dX8_told_17 : decode cX8_told 17 = .ok (.aload_n 0, 1) := by decide +kernel
theorem dX8_told_18 : decode cX8_told 18 = .ok (.iload 4, 2) := by decide +kernel
theorem dX8_told_20 : decode cX8_told 20 = .ok (.iconst 0, 1) := by decide +kernel
theorem dX8_told_21 : decode cX8_told 21 = .ok (.invokevirtual 53, 3) := by decide +kernel
theorem dX8_told_24 : decode cX8_told 24 = .ok (.iload_n 1, 1) := by decide +kernel
theorem dX8_told_25 : decode cX8_told 25 = .ok (.if_icmp .ne 20, 3) := by decide +kernel
theorem dX8_told_28 : decode cX8_told 28 = .ok (.iload_n 2, 1) := by decide +kernel
theorem dX8_told_29 : decode cX8_told 29 = .ok (.ifCond .eq 12, 3) := by decide +kernel
theorem dX8_told_32 : decode cX8_told 32 = .ok (.aload_n 0, 1) := by decide +kernel
theorem dX8_told_33 : decode cX8_told 33 = .ok (.iload 4, 2) := by decide +kernel
theorem dX8_told_35 : decode cX8_told 35 = .ok (.invokevirtual 156, 3) := by decide +kernel
theorem dX8_told_38 : decode cX8_told 38 = .ok (.ifCond .eq 7, 3) := by decide +kernel
theorem dX8_told_41 : decode cX8_told 41 = .ok (.iconst 1, 1) := by decide +kernel
theorem dX8_told_42 : decode cX8_told 42 = .ok (.goto 4, 3) := by decide +kernel
theorem dX8_told_45 : decode cX8_told 45 = .ok (.iconst 0, 1) := by decide +kernel
theorem dX8_told_46 : decode cX8_told 46 = .ok (.iadd, 1) := by decide +kernel
theorem dX8_told_47 : decode cX8_told 47 = .ok (.istore_n 3, 1) := by decide +kernel
theorem dX8_told_48 : decode cX8_told 48 = .ok (.iinc 4 1, 3) := by decide +kernel
theorem dX8_told_51 : decode cX8_told 51 = .ok (.goto (-46), 3) := by decide +kernel
theorem dX8_told_54 : decode cX8_told 54 = .ok (.iload_n 3, 1) := by decide +kernel
theorem dX8_told_55 : decode cX8_told 55 = .ok (.ireturn, 1) := by decide +kernel
theorem dX8_person_0 : decode cX8_person 0 = .ok (.aload_n 0, 1) := by decide +kernel
theorem dX8_person_1 : decode cX8_person 1 = .ok (.iload_n 1, 1) := by decide +kernel
theorem dX8_person_2 : decode cX8_person 2 = .ok (.invokevirtual 57, 3) := by decide +kernel
theorem dX8_person_5 : decode cX8_person 5 = .ok (.ifCond .ne 5, 3) := by decide +kernel
theorem dX8_person_8 : decode cX8_person 8 = .ok (.iconst (-1), 1) := by decide +kernel
theorem dX8_person_9 : decode cX8_person 9 = .ok (.ireturn, 1) := by decide +kernel
theorem dX8_person_10 : decode cX8_person 10 = .ok (.iload_n 2, 1) := by decide +kernel
theorem dX8_person_11 : decode cX8_person 11 = .ok (.tableswitch 94 0 5 #[37, 46, 60, 70, 77, 84], 37) := by decide +kernel
theorem dX8_person_48 : decode cX8_person 48 = .ok (.aload_n 0, 1) := by decide +kernel
theorem dX8_person_49 : decode cX8_person 49 = .ok (.getfield 7, 3) := by decide +kernel
theorem dX8_person_52 : decode cX8_person 52 = .ok (.iconst 3, 1) := by decide +kernel
theorem dX8_person_53 : decode cX8_person 53 = .ok (.iload_n 1, 1) := by decide +kernel
theorem dX8_person_54 : decode cX8_person 54 = .ok (.iadd, 1) := by decide +kernel
theorem dX8_person_55 : decode cX8_person 55 = .ok (.iaload, 1) := by decide +kernel
theorem dX8_person_56 : decode cX8_person 56 = .ok (.ireturn, 1) := by decide +kernel
theorem dX8_person_57 : decode cX8_person 57 = .ok (.aload_n 0, 1) := by decide +kernel
theorem dX8_person_58 : decode cX8_person 58 = .ok (.getfield 7, 3) := by decide +kernel
theorem dX8_person_61 : decode cX8_person 61 = .ok (.bipush 9, 2) := by decide +kernel
theorem dX8_person_63 : decode cX8_person 63 = .ok (.iload_n 1, 1) := by decide +kernel
theorem dX8_person_64 : decode cX8_person 64 = .ok (.iadd, 1) := by decide +kernel
theorem dX8_person_65 : decode cX8_person 65 = .ok (.iaload, 1) := by decide +kernel
theorem dX8_person_66 : decode cX8_person 66 = .ok (.sipush 1000, 3) := by decide +kernel
theorem dX8_person_69 : decode cX8_person 69 = .ok (.iadd, 1) := by decide +kernel
theorem dX8_person_70 : decode cX8_person 70 = .ok (.ireturn, 1) := by decide +kernel
theorem dX8_person_71 : decode cX8_person 71 = .ok (.aload_n 0, 1) := by decide +kernel
theorem dX8_person_72 : decode cX8_person 72 = .ok (.getfield 7, 3) := by decide +kernel
theorem dX8_person_75 : decode cX8_person 75 = .ok (.bipush 15, 2) := by decide +kernel
theorem dX8_person_77 : decode cX8_person 77 = .ok (.iload_n 1, 1) := by decide +kernel
theorem dX8_person_78 : decode cX8_person 78 = .ok (.iadd, 1) := by decide +kernel
theorem dX8_person_79 : decode cX8_person 79 = .ok (.iaload, 1) := by decide +kernel
theorem dX8_person_80 : decode cX8_person 80 = .ok (.ireturn, 1) := by decide +kernel
theorem dX8_person_81 : decode cX8_person 81 = .ok (.aload_n 0, 1) := by decide +kernel
theorem dX8_person_82 : decode cX8_person 82 = .ok (.iload_n 1, 1) := by decide +kernel
theorem dX8_person_83 : decode cX8_person 83 = .ok (.iconst 0, 1) := by decide +kernel
theorem dX8_person_84 : decode cX8_person 84 = .ok (.invokevirtual 162, 3) := by decide +kernel
theorem dX8_person_87 : decode cX8_person 87 = .ok (.ireturn, 1) := by decide +kernel
theorem dX8_person_88 : decode cX8_person 88 = .ok (.aload_n 0, 1) := by decide +kernel
theorem dX8_person_89 : decode cX8_person 89 = .ok (.iload_n 1, 1) := by decide +kernel
theorem dX8_person_90 : decode cX8_person 90 = .ok (.iconst 1, 1) := by decide +kernel
theorem dX8_person_91 : decode cX8_person 91 = .ok (.invokevirtual 162, 3) := by decide +kernel
theorem dX8_person_94 : decode cX8_person 94 = .ok (.ireturn, 1) := by decide +kernel
theorem dX8_person_95 : decode cX8_person 95 = .ok (.aload_n 0, 1) := by decide +kernel
theorem dX8_person_96 : decode cX8_person 96 = .ok (.invokevirtual 68, 3) := by decide +kernel
theorem dX8_person_99 : decode cX8_person 99 = .ok (.aload_n 0, 1) := by decide +kernel
theorem dX8_person_100 : decode cX8_person 100 = .ok (.iload_n 1, 1) := by decide +kernel
theorem dX8_person_101 : decode cX8_person 101 = .ok (.invokevirtual 61, 3) := by decide +kernel
theorem dX8_person_104 : decode cX8_person 104 = .ok (.ireturn, 1) := by decide +kernel
theorem dX8_person_105 : decode cX8_person 105 = .ok (.bipush (-2), 2) := by decide +kernel
theorem dX8_person_107 : decode cX8_person 107 = .ok (.ireturn, 1) := by decide +kernel
theorem dX8_rumour_0 : decode cX8_rumour 0 = .ok (.aload_n 0, 1) := by decide +kernel
theorem dX8_rumour_1 : decode cX8_rumour 1 = .ok (.iload_n 1, 1) := by decide +kernel
theorem dX8_rumour_2 : decode cX8_rumour 2 = .ok (.invokevirtual 146, 3) := by decide +kernel
theorem dX8_rumour_5 : decode cX8_rumour 5 = .ok (.ifCond .ne 5, 3) := by decide +kernel
theorem dX8_rumour_8 : decode cX8_rumour 8 = .ok (.iconst (-1), 1) := by decide +kernel
theorem dX8_rumour_9 : decode cX8_rumour 9 = .ok (.ireturn, 1) := by decide +kernel
theorem dX8_rumour_10 : decode cX8_rumour 10 = .ok (.iload_n 2, 1) := by decide +kernel
theorem dX8_rumour_11 : decode cX8_rumour 11 = .ok (.tableswitch 73 0 6 #[41, 41, 41, 41, 41, 48, 62], 41) := by decide +kernel
theorem dX8_rumour_52 : decode cX8_rumour 52 = .ok (.aload_n 0, 1) := by decide +kernel
theorem dX8_rumour_53 : decode cX8_rumour 53 = .ok (.iload_n 1, 1) := by decide +kernel
theorem dX8_rumour_54 : decode cX8_rumour 54 = .ok (.iload_n 2, 1) := by decide +kernel
theorem dX8_rumour_55 : decode cX8_rumour 55 = .ok (.invokevirtual 53, 3) := by decide +kernel
theorem dX8_rumour_58 : decode cX8_rumour 58 = .ok (.ireturn, 1) := by decide +kernel
theorem dX8_rumour_59 : decode cX8_rumour 59 = .ok (.aload_n 0, 1) := by decide +kernel
theorem dX8_rumour_60 : decode cX8_rumour 60 = .ok (.iload_n 1, 1) := by decide +kernel
theorem dX8_rumour_61 : decode cX8_rumour 61 = .ok (.invokevirtual 156, 3) := by decide +kernel
theorem dX8_rumour_64 : decode cX8_rumour 64 = .ok (.ifCond .eq 7, 3) := by decide +kernel
theorem dX8_rumour_67 : decode cX8_rumour 67 = .ok (.iconst 1, 1) := by decide +kernel
theorem dX8_rumour_68 : decode cX8_rumour 68 = .ok (.goto 4, 3) := by decide +kernel
theorem dX8_rumour_71 : decode cX8_rumour 71 = .ok (.iconst 0, 1) := by decide +kernel
theorem dX8_rumour_72 : decode cX8_rumour 72 = .ok (.ireturn, 1) := by decide +kernel
theorem dX8_rumour_73 : decode cX8_rumour 73 = .ok (.aload_n 0, 1) := by decide +kernel
theorem dX8_rumour_74 : decode cX8_rumour 74 = .ok (.invokevirtual 102, 3) := by decide +kernel
theorem dX8_rumour_77 : decode cX8_rumour 77 = .ok (.aload_n 0, 1) := by decide +kernel
theorem dX8_rumour_78 : decode cX8_rumour 78 = .ok (.getfield 31, 3) := by decide +kernel
theorem dX8_rumour_81 : decode cX8_rumour 81 = .ok (.iload_n 1, 1) := by decide +kernel
theorem dX8_rumour_82 : decode cX8_rumour 82 = .ok (.iaload, 1) := by decide +kernel
theorem dX8_rumour_83 : decode cX8_rumour 83 = .ok (.ireturn, 1) := by decide +kernel
theorem dX8_rumour_84 : decode cX8_rumour 84 = .ok (.bipush (-2), 2) := by decide +kernel
theorem dX8_rumour_86 : decode cX8_rumour 86 = .ok (.ireturn, 1) := by decide +kernel
theorem dX8_openMany_0 : decode cX8_openMany 0 = .ok (.iconst 0, 1) := by decide +kernel
theorem dX8_openMany_1 : decode cX8_openMany 1 = .ok (.istore_n 1, 1) := by decide +kernel
theorem dX8_openMany_2 : decode cX8_openMany 2 = .ok (.iconst 0, 1) := by decide +kernel
theorem dX8_openMany_3 : decode cX8_openMany 3 = .ok (.istore_n 2, 1) := by decide +kernel
theorem dX8_openMany_4 : decode cX8_openMany 4 = .ok (.iload_n 2, 1) := by decide +kernel
theorem dX8_openMany_5 : decode cX8_openMany 5 = .ok (.aload_n 0, 1) := by decide +kernel
theorem dX8_openMany_6 : decode cX8_openMany 6 = .ok (.getfield 7, 3) := by decide +kernel
theorem dX8_openMany_9 : decode cX8_openMany 9 = .ok (.iconst 1, 1) := by decide +kernel
theorem dX8_openMany_10 : decode cX8_openMany 10 = .ok (.iaload, 1) := by decide +kernel
theorem dX8_openMany_11 : decode cX8_openMany 11 = .ok (.if_icmp .ge 25, 3) := by decide +kernel
theorem dX8_openMany_14 : decode cX8_openMany 14 = .ok (.iload_n 1, 1) := by decide +kernel
theorem dX8_openMany_15 : decode cX8_openMany 15 = .ok (.aload_n 0, 1) := by decide +kernel
theorem dX8_openMany_16 : decode cX8_openMany 16 = .ok (.iload_n 2, 1) := by decide +kernel
theorem dX8_openMany_17 : decode cX8_openMany 17 = .ok (.invokevirtual 74, 3) := by decide +kernel
theorem dX8_openMany_20 : decode cX8_openMany 20 = .ok (.ifCond .eq 7, 3) := by decide +kernel
theorem dX8_openMany_23 : decode cX8_openMany 23 = .ok (.iconst 1, 1) := by decide +kernel
theorem dX8_openMany_24 : decode cX8_openMany 24 = .ok (.goto 4, 3) := by decide +kernel
theorem dX8_openMany_27 : decode cX8_openMany 27 = .ok (.iconst 0, 1) := by decide +kernel
theorem dX8_openMany_28 : decode cX8_openMany 28 = .ok (.iadd, 1) := by decide +kernel
theorem dX8_openMany_29 : decode cX8_openMany 29 = .ok (.istore_n 1, 1) := by decide +kernel
theorem dX8_openMany_30 : decode cX8_openMany 30 = .ok (.iinc 2 1, 3) := by decide +kernel
theorem dX8_openMany_33 : decode cX8_openMany 33 = .ok (.goto (-29), 3) := by decide +kernel
theorem dX8_openMany_36 : decode cX8_openMany 36 = .ok (.iload_n 1, 1) := by decide +kernel
theorem dX8_openMany_37 : decode cX8_openMany 37 = .ok (.ireturn, 1) := by decide +kernel
theorem dX8_certainPersons_0 : decode cX8_certainPersons 0 = .ok (.aload_n 0, 1) := by decide +kernel
theorem dX8_certainPersons_1 : decode cX8_certainPersons 1 = .ok (.invokevirtual 102, 3) := by decide +kernel
theorem dX8_certainPersons_4 : decode cX8_certainPersons 4 = .ok (.iconst 0, 1) := by decide +kernel
theorem dX8_certainPersons_5 : decode cX8_certainPersons 5 = .ok (.istore_n 1, 1) := by decide +kernel
theorem dX8_certainPersons_6 : decode cX8_certainPersons 6 = .ok (.iconst 0, 1) := by decide +kernel
theorem dX8_certainPersons_7 : decode cX8_certainPersons 7 = .ok (.istore_n 2, 1) := by decide +kernel
theorem dX8_certainPersons_8 : decode cX8_certainPersons 8 = .ok (.iload_n 2, 1) := by decide +kernel
theorem dX8_certainPersons_9 : decode cX8_certainPersons 9 = .ok (.aload_n 0, 1) := by decide +kernel
theorem dX8_certainPersons_10 : decode cX8_certainPersons 10 = .ok (.getfield 7, 3) := by decide +kernel
theorem dX8_certainPersons_13 : decode cX8_certainPersons 13 = .ok (.iconst 0, 1) := by decide +kernel
theorem dX8_certainPersons_14 : decode cX8_certainPersons 14 = .ok (.iaload, 1) := by decide +kernel
theorem dX8_certainPersons_15 : decode cX8_certainPersons 15 = .ok (.if_icmp .ge 27, 3) := by decide +kernel
theorem dX8_certainPersons_18 : decode cX8_certainPersons 18 = .ok (.iload_n 1, 1) := by decide +kernel
theorem dX8_certainPersons_19 : decode cX8_certainPersons 19 = .ok (.aload_n 0, 1) := by decide +kernel
theorem dX8_certainPersons_20 : decode cX8_certainPersons 20 = .ok (.iload_n 2, 1) := by decide +kernel
theorem dX8_certainPersons_21 : decode cX8_certainPersons 21 = .ok (.invokevirtual 159, 3) := by decide +kernel
theorem dX8_certainPersons_24 : decode cX8_certainPersons 24 = .ok (.bipush (-6), 2) := by decide +kernel
theorem dX8_certainPersons_26 : decode cX8_certainPersons 26 = .ok (.if_icmp .ne 7, 3) := by decide +kernel
theorem dX8_certainPersons_29 : decode cX8_certainPersons 29 = .ok (.iconst 0, 1) := by decide +kernel
theorem dX8_certainPersons_30 : decode cX8_certainPersons 30 = .ok (.goto 4, 3) := by decide +kernel
theorem dX8_certainPersons_33 : decode cX8_certainPersons 33 = .ok (.iconst 1, 1) := by decide +kernel
theorem dX8_certainPersons_34 : decode cX8_certainPersons 34 = .ok (.iadd, 1) := by decide +kernel
theorem dX8_certainPersons_35 : decode cX8_certainPersons 35 = .ok (.istore_n 1, 1) := by decide +kernel
theorem dX8_certainPersons_36 : decode cX8_certainPersons 36 = .ok (.iinc 2 1, 3) := by decide +kernel
theorem dX8_certainPersons_39 : decode cX8_certainPersons 39 = .ok (.goto (-31), 3) := by decide +kernel
theorem dX8_certainPersons_42 : decode cX8_certainPersons 42 = .ok (.iload_n 1, 1) := by decide +kernel
theorem dX8_certainPersons_43 : decode cX8_certainPersons 43 = .ok (.ireturn, 1) := by decide +kernel
theorem dX8_certainRumours_0 : decode cX8_certainRumours 0 = .ok (.aload_n 0, 1) := by decide +kernel
theorem dX8_certainRumours_1 : decode cX8_certainRumours 1 = .ok (.invokevirtual 102, 3) := by decide +kernel
theorem dX8_certainRumours_4 : decode cX8_certainRumours 4 = .ok (.iconst 0, 1) := by decide +kernel
theorem dX8_certainRumours_5 : decode cX8_certainRumours 5 = .ok (.istore_n 2, 1) := by decide +kernel
theorem dX8_certainRumours_6 : decode cX8_certainRumours 6 = .ok (.iconst 0, 1) := by decide +kernel
theorem dX8_certainRumours_7 : decode cX8_certainRumours 7 = .ok (.istore_n 3, 1) := by decide +kernel
theorem dX8_certainRumours_8 : decode cX8_certainRumours 8 = .ok (.iload_n 3, 1) := by decide +kernel
theorem dX8_certainRumours_9 : decode cX8_certainRumours 9 = .ok (.aload_n 0, 1) := by decide +kernel
theorem dX8_certainRumours_10 : decode cX8_certainRumours 10 = .ok (.getfield 7, 3) := by decide +kernel
theorem dX8_certainRumours_13 : decode cX8_certainRumours 13 = .ok (.iconst 1, 1) := by decide +kernel
theorem dX8_certainRumours_14 : decode cX8_certainRumours 14 = .ok (.iaload, 1) := by decide +kernel
theorem dX8_certainRumours_15 : decode cX8_certainRumours 15 = .ok (.if_icmp .ge 53, 3) := by decide +kernel
theorem dX8_certainRumours_18 : decode cX8_certainRumours 18 = .ok (.iload_n 2, 1) := by decide +kernel
theorem dX8_certainRumours_19 : decode cX8_certainRumours 19 = .ok (.aload_n 0, 1) := by decide +kernel
theorem dX8_certainRumours_20 : decode cX8_certainRumours 20 = .ok (.iload_n 3, 1) := by decide +kernel
theorem dX8_certainRumours_21 : decode cX8_certainRumours 21 = .ok (.invokevirtual 74, 3) := by decide +kernel
theorem dX8_certainRumours_24 : decode cX8_certainRumours 24 = .ok (.ifCond .eq 35, 3) := by decide +kernel
theorem dX8_certainRumours_27 : decode cX8_certainRumours 27 = .ok (.aload_n 0, 1) := by decide +kernel
theorem dX8_certainRumours_28 : decode cX8_certainRumours 28 = .ok (.getfield 77, 3) := by decide +kernel
theorem dX8_certainRumours_31 : decode cX8_certainRumours 31 = .ok (.ifCond .le 28, 3) := by decide +kernel
theorem dX8_certainRumours_34 : decode cX8_certainRumours 34 = .ok (.aload_n 0, 1) := by decide +kernel
theorem dX8_certainRumours_35 : decode cX8_certainRumours 35 = .ok (.getfield 31, 3) := by decide +kernel
theorem dX8_certainRumours_38 : decode cX8_certainRumours 38 = .ok (.iload_n 3, 1) := by decide +kernel
theorem dX8_certainRumours_39 : decode cX8_certainRumours 39 = .ok (.iaload, 1) := by decide +kernel
theorem dX8_certainRumours_40 : decode cX8_certainRumours 40 = .ok (.iload_n 1, 1) := by decide +kernel
theorem dX8_certainRumours_41 : decode cX8_certainRumours 41 = .ok (.ifCond .eq 7, 3) := by decide +kernel
theorem dX8_certainRumours_44 : decode cX8_certainRumours 44 = .ok (.iconst 0, 1) := by decide +kernel
theorem dX8_certainRumours_45 : decode cX8_certainRumours 45 = .ok (.goto 7, 3) := by decide +kernel
theorem dX8_certainRumours_48 : decode cX8_certainRumours 48 = .ok (.aload_n 0, 1) := by decide +kernel
theorem dX8_certainRumours_49 : decode cX8_certainRumours 49 = .ok (.getfield 77, 3) := by decide +kernel
theorem dX8_certainRumours_52 : decode cX8_certainRumours 52 = .ok (.if_icmp .ne 7, 3) := by decide +kernel
theorem dX8_certainRumours_55 : decode cX8_certainRumours 55 = .ok (.iconst 1, 1) := by decide +kernel
theorem dX8_certainRumours_56 : decode cX8_certainRumours 56 = .ok (.goto 4, 3) := by decide +kernel
theorem dX8_certainRumours_59 : decode cX8_certainRumours 59 = .ok (.iconst 0, 1) := by decide +kernel
theorem dX8_certainRumours_60 : decode cX8_certainRumours 60 = .ok (.iadd, 1) := by decide +kernel
theorem dX8_certainRumours_61 : decode cX8_certainRumours 61 = .ok (.istore_n 2, 1) := by decide +kernel
theorem dX8_certainRumours_62 : decode cX8_certainRumours 62 = .ok (.iinc 3 1, 3) := by decide +kernel
theorem dX8_certainRumours_65 : decode cX8_certainRumours 65 = .ok (.goto (-57), 3) := by decide +kernel
theorem dX8_certainRumours_68 : decode cX8_certainRumours 68 = .ok (.iload_n 2, 1) := by decide +kernel
theorem dX8_certainRumours_69 : decode cX8_certainRumours 69 = .ok (.ireturn, 1) := by decide +kernel
theorem dX8_count_0 : decode cX8_count 0 = .ok (.iload_n 1, 1) := by decide +kernel
theorem dX8_count_1 : decode cX8_count 1 = .ok (.tableswitch 123 0 10 #[59, 59, 66, 71, 76, 89, 96, 101, 107, 113, 118], 59) := by decide +kernel
theorem dX8_count_60 : decode cX8_count 60 = .ok (.aload_n 0, 1) := by decide +kernel
theorem dX8_count_61 : decode cX8_count 61 = .ok (.getfield 7, 3) := by decide +kernel
theorem dX8_count_64 : decode cX8_count 64 = .ok (.iload_n 1, 1) := by decide +kernel
theorem dX8_count_65 : decode cX8_count 65 = .ok (.iaload, 1) := by decide +kernel
theorem dX8_count_66 : decode cX8_count 66 = .ok (.ireturn, 1) := by decide +kernel
theorem dX8_count_67 : decode cX8_count 67 = .ok (.aload_n 0, 1) := by decide +kernel
theorem dX8_count_68 : decode cX8_count 68 = .ok (.invokevirtual 166, 3) := by decide +kernel
theorem dX8_count_71 : decode cX8_count 71 = .ok (.ireturn, 1) := by decide +kernel
theorem dX8_count_72 : decode cX8_count 72 = .ok (.aload_n 0, 1) := by decide +kernel
theorem dX8_count_73 : decode cX8_count 73 = .ok (.invokevirtual 153, 3) := by decide +kernel
theorem dX8_count_76 : decode cX8_count 76 = .ok (.ireturn, 1) := by decide +kernel
theorem dX8_count_77 : decode cX8_count 77 = .ok (.aload_n 0, 1) := by decide +kernel
theorem dX8_count_78 : decode cX8_count 78 = .ok (.invokevirtual 169, 3) := by decide +kernel
theorem dX8_count_81 : decode cX8_count 81 = .ok (.ifCond .eq 7, 3) := by decide +kernel
theorem dX8_count_84 : decode cX8_count 84 = .ok (.iconst 1, 1) := by decide +kernel
theorem dX8_count_85 : decode cX8_count 85 = .ok (.goto 4, 3) := by decide +kernel
theorem dX8_count_88 : decode cX8_count 88 = .ok (.iconst 0, 1) := by decide +kernel
theorem dX8_count_89 : decode cX8_count 89 = .ok (.ireturn, 1) := by decide +kernel
theorem dX8_count_90 : decode cX8_count 90 = .ok (.aload_n 0, 1) := by decide +kernel
theorem dX8_count_91 : decode cX8_count 91 = .ok (.getfield 7, 3) := by decide +kernel
theorem dX8_count_94 : decode cX8_count 94 = .ok (.iconst 2, 1) := by decide +kernel
theorem dX8_count_95 : decode cX8_count 95 = .ok (.iaload, 1) := by decide +kernel
theorem dX8_count_96 : decode cX8_count 96 = .ok (.ireturn, 1) := by decide +kernel
theorem dX8_count_97 : decode cX8_count 97 = .ok (.aload_n 0, 1) := by decide +kernel
theorem dX8_count_98 : decode cX8_count 98 = .ok (.invokevirtual 172, 3) := by decide +kernel
theorem dX8_count_101 : decode cX8_count 101 = .ok (.ireturn, 1) := by decide +kernel
theorem dX8_count_102 : decode cX8_count 102 = .ok (.aload_n 0, 1) := by decide +kernel
theorem dX8_count_103 : decode cX8_count 103 = .ok (.iconst 0, 1) := by decide +kernel
theorem dX8_count_104 : decode cX8_count 104 = .ok (.invokevirtual 175, 3) := by decide +kernel
theorem dX8_count_107 : decode cX8_count 107 = .ok (.ireturn, 1) := by decide +kernel
theorem dX8_count_108 : decode cX8_count 108 = .ok (.aload_n 0, 1) := by decide +kernel
theorem dX8_count_109 : decode cX8_count 109 = .ok (.iconst 1, 1) := by decide +kernel
theorem dX8_count_110 : decode cX8_count 110 = .ok (.invokevirtual 175, 3) := by decide +kernel
theorem dX8_count_113 : decode cX8_count 113 = .ok (.ireturn, 1) := by decide +kernel
theorem dX8_count_114 : decode cX8_count 114 = .ok (.aload_n 0, 1) := by decide +kernel
theorem dX8_count_115 : decode cX8_count 115 = .ok (.getfield 118, 3) := by decide +kernel
theorem dX8_count_118 : decode cX8_count 118 = .ok (.ireturn, 1) := by decide +kernel
theorem dX8_count_119 : decode cX8_count 119 = .ok (.aload_n 0, 1) := by decide +kernel
theorem dX8_count_120 : decode cX8_count 120 = .ok (.getfield 41, 3) := by decide +kernel
theorem dX8_count_123 : decode cX8_count 123 = .ok (.ireturn, 1) := by decide +kernel
theorem dX8_count_124 : decode cX8_count 124 = .ok (.bipush (-2), 2) := by decide +kernel
theorem dX8_count_126 : decode cX8_count 126 = .ok (.ireturn, 1) := by decide +kernel
theorem dX8_possible_0 : decode cX8_possible 0 = .ok (.aload_n 0, 1) := by decide +kernel
theorem dX8_possible_1 : decode cX8_possible 1 = .ok (.iload_n 1, 1) := by decide +kernel
theorem dX8_possible_2 : decode cX8_possible 2 = .ok (.invokevirtual 57, 3) := by decide +kernel
theorem dX8_possible_5 : decode cX8_possible 5 = .ok (.ifCond .eq 11, 3) := by decide +kernel
theorem dX8_possible_8 : decode cX8_possible 8 = .ok (.aload_n 0, 1) := by decide +kernel
theorem dX8_possible_9 : decode cX8_possible 9 = .ok (.iload_n 2, 1) := by decide +kernel
theorem dX8_possible_10 : decode cX8_possible 10 = .ok (.invokevirtual 57, 3) := by decide +kernel
theorem dX8_possible_13 : decode cX8_possible 13 = .ok (.ifCond .ne 5, 3) := by decide +kernel
theorem dX8_possible_16 : decode cX8_possible 16 = .ok (.iconst (-1), 1) := by decide +kernel
theorem dX8_possible_17 : decode cX8_possible 17 = .ok (.ireturn, 1) := by decide +kernel
theorem dX8_possible_18 : decode cX8_possible 18 = .ok (.aload_n 0, 1) := by decide +kernel
theorem dX8_possible_19 : decode cX8_possible 19 = .ok (.invokevirtual 102, 3) := by decide +kernel
theorem dX8_possible_22 : decode cX8_possible 22 = .ok (.aload_n 0, 1) := by decide +kernel
theorem dX8_possible_23 : decode cX8_possible 23 = .ok (.getfield 28, 3) := by decide +kernel
theorem dX8_possible_26 : decode cX8_possible 26 = .ok (.bipush 6, 2) := by decide +kernel
theorem dX8_possible_28 : decode cX8_possible 28 = .ok (.iload_n 1, 1) := by decide +kernel
theorem dX8_possible_29 : decode cX8_possible 29 = .ok (.imul, 1) := by decide +kernel
theorem dX8_possible_30 : decode cX8_possible 30 = .ok (.iload_n 2, 1) := by decide +kernel
theorem dX8_possible_31 : decode cX8_possible 31 = .ok (.iadd, 1) := by decide +kernel
theorem dX8_possible_32 : decode cX8_possible 32 = .ok (.iaload, 1) := by decide +kernel
theorem dX8_possible_33 : decode cX8_possible 33 = .ok (.ireturn, 1) := by decide +kernel
theorem dX8_certain_0 : decode cX8_certain 0 = .ok (.aload_n 0, 1) := by decide +kernel
theorem dX8_certain_1 : decode cX8_certain 1 = .ok (.iload_n 1, 1) := by decide +kernel
theorem dX8_certain_2 : decode cX8_certain 2 = .ok (.invokevirtual 57, 3) := by decide +kernel
theorem dX8_certain_5 : decode cX8_certain 5 = .ok (.ifCond .ne 5, 3) := by decide +kernel
theorem dX8_certain_8 : decode cX8_certain 8 = .ok (.iconst (-1), 1) := by decide +kernel
theorem dX8_certain_9 : decode cX8_certain 9 = .ok (.ireturn, 1) := by decide +kernel
theorem dX8_certain_10 : decode cX8_certain 10 = .ok (.aload_n 0, 1) := by decide +kernel
theorem dX8_certain_11 : decode cX8_certain 11 = .ok (.invokevirtual 102, 3) := by decide +kernel
theorem dX8_certain_14 : decode cX8_certain 14 = .ok (.aload_n 0, 1) := by decide +kernel
theorem dX8_certain_15 : decode cX8_certain 15 = .ok (.iload_n 1, 1) := by decide +kernel
theorem dX8_certain_16 : decode cX8_certain 16 = .ok (.invokevirtual 159, 3) := by decide +kernel
theorem dX8_certain_19 : decode cX8_certain 19 = .ok (.ireturn, 1) := by decide +kernel
theorem dX8_world_0 : decode cX8_world 0 = .ok (.iload_n 1, 1) := by decide +kernel
theorem dX8_world_1 : decode cX8_world 1 = .ok (.ifCond .lt 11, 3) := by decide +kernel
theorem dX8_world_4 : decode cX8_world 4 = .ok (.aload_n 0, 1) := by decide +kernel
theorem dX8_world_5 : decode cX8_world 5 = .ok (.iload_n 2, 1) := by decide +kernel
theorem dX8_world_6 : decode cX8_world 6 = .ok (.invokevirtual 57, 3) := by decide +kernel
theorem dX8_world_9 : decode cX8_world 9 = .ok (.ifCond .ne 5, 3) := by decide +kernel
theorem dX8_world_12 : decode cX8_world 12 = .ok (.iconst (-1), 1) := by decide +kernel
theorem dX8_world_13 : decode cX8_world 13 = .ok (.ireturn, 1) := by decide +kernel
theorem dX8_world_14 : decode cX8_world 14 = .ok (.aload_n 0, 1) := by decide +kernel
theorem dX8_world_15 : decode cX8_world 15 = .ok (.invokevirtual 89, 3) := by decide +kernel
theorem dX8_world_18 : decode cX8_world 18 = .ok (.istore_n 3, 1) := by decide +kernel
theorem dX8_world_19 : decode cX8_world 19 = .ok (.iload_n 1, 1) := by decide +kernel
theorem dX8_world_20 : decode cX8_world 20 = .ok (.istore 4, 2) := by decide +kernel
theorem dX8_world_22 : decode cX8_world 22 = .ok (.iconst 0, 1) := by decide +kernel
theorem dX8_world_23 : decode cX8_world 23 = .ok (.istore 5, 2) := by decide +kernel
theorem dX8_world_25 : decode cX8_world 25 = .ok (.iload 5, 2) := by decide +kernel
theorem dX8_world_27 : decode cX8_world 27 = .ok (.iload_n 3, 1) := by decide +kernel
theorem dX8_world_28 : decode cX8_world 28 = .ok (.if_icmp .ge 63, 3) := by decide +kernel
theorem dX8_world_31 : decode cX8_world 31 = .ok (.aload_n 0, 1) := by decide +kernel
theorem dX8_world_32 : decode cX8_world 32 = .ok (.iload 5, 2) := by decide +kernel
theorem dX8_world_34 : decode cX8_world 34 = .ok (.invokevirtual 93, 3) := by decide +kernel
theorem dX8_world_37 : decode cX8_world 37 = .ok (.aload_n 0, 1) := by decide +kernel
theorem dX8_world_38 : decode cX8_world 38 = .ok (.invokevirtual 96, 3) := by decide +kernel
theorem dX8_world_41 : decode cX8_world 41 = .ok (.bipush (-6), 2) := by decide +kernel
theorem dX8_world_43 : decode cX8_world 43 = .ok (.if_icmp .ne 7, 3) := by decide +kernel
theorem dX8_world_46 : decode cX8_world 46 = .ok (.iconst 1, 1) := by decide +kernel
theorem dX8_world_47 : decode cX8_world 47 = .ok (.goto 4, 3) := by decide +kernel
theorem dX8_world_50 : decode cX8_world 50 = .ok (.iconst 0, 1) := by decide +kernel
theorem dX8_world_51 : decode cX8_world 51 = .ok (.istore 6, 2) := by decide +kernel
theorem dX8_world_53 : decode cX8_world 53 = .ok (.iload 6, 2) := by decide +kernel
theorem dX8_world_55 : decode cX8_world 55 = .ok (.ifCond .eq 15, 3) := by decide +kernel
theorem dX8_world_58 : decode cX8_world 58 = .ok (.iload 4, 2) := by decide +kernel
theorem dX8_world_60 : decode cX8_world 60 = .ok (.ifCond .ne 10, 3) := by decide +kernel
theorem dX8_world_63 : decode cX8_world 63 = .ok (.aload_n 0, 1) := by decide +kernel
theorem dX8_world_64 : decode cX8_world 64 = .ok (.getfield 25, 3) := by decide +kernel
theorem dX8_world_67 : decode cX8_world 67 = .ok (.iload_n 2, 1) := by decide +kernel
theorem dX8_world_68 : decode cX8_world 68 = .ok (.iaload, 1) := by decide +kernel
theorem dX8_world_69 : decode cX8_world 69 = .ok (.ireturn, 1) := by decide +kernel
theorem dX8_world_70 : decode cX8_world 70 = .ok (.iload 4, 2) := by decide +kernel
theorem dX8_world_72 : decode cX8_world 72 = .ok (.iload 6, 2) := by decide +kernel
theorem dX8_world_74 : decode cX8_world 74 = .ok (.ifCond .eq 7, 3) := by decide +kernel
theorem dX8_world_77 : decode cX8_world 77 = .ok (.iconst 1, 1) := by decide +kernel
theorem dX8_world_78 : decode cX8_world 78 = .ok (.goto 4, 3) := by decide +kernel
theorem dX8_world_81 : decode cX8_world 81 = .ok (.iconst 0, 1) := by decide +kernel
theorem dX8_world_82 : decode cX8_world 82 = .ok (.isub, 1) := by decide +kernel
theorem dX8_world_83 : decode cX8_world 83 = .ok (.istore 4, 2) := by decide +kernel
theorem dX8_world_85 : decode cX8_world 85 = .ok (.iinc 5 1, 3) := by decide +kernel
theorem dX8_world_88 : decode cX8_world 88 = .ok (.goto (-63), 3) := by decide +kernel
theorem dX8_world_91 : decode cX8_world 91 = .ok (.iconst (-1), 1) := by decide +kernel
theorem dX8_world_92 : decode cX8_world 92 = .ok (.ireturn, 1) := by decide +kernel
theorem dX8_ifProved_0 : decode cX8_ifProved 0 = .ok (.aload_n 0, 1) := by decide +kernel
theorem dX8_ifProved_1 : decode cX8_ifProved 1 = .ok (.iload_n 1, 1) := by decide +kernel
theorem dX8_ifProved_2 : decode cX8_ifProved 2 = .ok (.iload_n 2, 1) := by decide +kernel
theorem dX8_ifProved_3 : decode cX8_ifProved 3 = .ok (.iload_n 3, 1) := by decide +kernel
theorem dX8_ifProved_4 : decode cX8_ifProved 4 = .ok (.invokevirtual 108, 3) := by decide +kernel
theorem dX8_ifProved_7 : decode cX8_ifProved 7 = .ok (.ifCond .ne 6, 3) := by decide +kernel
theorem dX8_ifProved_10 : decode cX8_ifProved 10 = .ok (.bipush (-2), 2) := by decide +kernel
theorem dX8_ifProved_12 : decode cX8_ifProved 12 = .ok (.ireturn, 1) := by decide +kernel
theorem dX8_ifProved_13 : decode cX8_ifProved 13 = .ok (.aload_n 0, 1) := by decide +kernel
theorem dX8_ifProved_14 : decode cX8_ifProved 14 = .ok (.invokevirtual 89, 3) := by decide +kernel
theorem dX8_ifProved_17 : decode cX8_ifProved 17 = .ok (.istore 4, 2) := by decide +kernel
theorem dX8_ifProved_19 : decode cX8_ifProved 19 = .ok (.iconst 0, 1) := by decide +kernel
theorem dX8_ifProved_20 : decode cX8_ifProved 20 = .ok (.istore 5, 2) := by decide +kernel
theorem dX8_ifProved_22 : decode cX8_ifProved 22 = .ok (.iconst 0, 1) := by decide +kernel
theorem dX8_ifProved_23 : decode cX8_ifProved 23 = .ok (.istore 6, 2) := by decide +kernel
theorem dX8_ifProved_25 : decode cX8_ifProved 25 = .ok (.iload 6, 2) := by decide +kernel
theorem dX8_ifProved_27 : decode cX8_ifProved 27 = .ok (.iload 4, 2) := by decide +kernel
theorem dX8_ifProved_29 : decode cX8_ifProved 29 = .ok (.if_icmp .ge 44, 3) := by decide +kernel
theorem dX8_ifProved_32 : decode cX8_ifProved 32 = .ok (.aload_n 0, 1) := by decide +kernel
theorem dX8_ifProved_33 : decode cX8_ifProved 33 = .ok (.iload 6, 2) := by decide +kernel
theorem dX8_ifProved_35 : decode cX8_ifProved 35 = .ok (.invokevirtual 93, 3) := by decide +kernel
theorem dX8_ifProved_38 : decode cX8_ifProved 38 = .ok (.iload 5, 2) := by decide +kernel
theorem dX8_ifProved_40 : decode cX8_ifProved 40 = .ok (.aload_n 0, 1) := by decide +kernel
theorem dX8_ifProved_41 : decode cX8_ifProved 41 = .ok (.iload_n 1, 1) := by decide +kernel
theorem dX8_ifProved_42 : decode cX8_ifProved 42 = .ok (.iload_n 2, 1) := by decide +kernel
theorem dX8_ifProved_43 : decode cX8_ifProved 43 = .ok (.iload_n 3, 1) := by decide +kernel
theorem dX8_ifProved_44 : decode cX8_ifProved 44 = .ok (.invokevirtual 65, 3) := by decide +kernel
theorem dX8_ifProved_47 : decode cX8_ifProved 47 = .ok (.ifCond .eq 16, 3) := by decide +kernel
theorem dX8_ifProved_50 : decode cX8_ifProved 50 = .ok (.aload_n 0, 1) := by decide +kernel
theorem dX8_ifProved_51 : decode cX8_ifProved 51 = .ok (.invokevirtual 96, 3) := by decide +kernel
theorem dX8_ifProved_54 : decode cX8_ifProved 54 = .ok (.bipush (-6), 2) := by decide +kernel
theorem dX8_ifProved_56 : decode cX8_ifProved 56 = .ok (.if_icmp .ne 7, 3) := by decide +kernel
theorem dX8_ifProved_59 : decode cX8_ifProved 59 = .ok (.iconst 1, 1) := by decide +kernel
theorem dX8_ifProved_60 : decode cX8_ifProved 60 = .ok (.goto 4, 3) := by decide +kernel
theorem dX8_ifProved_63 : decode cX8_ifProved 63 = .ok (.iconst 0, 1) := by decide +kernel
theorem dX8_ifProved_64 : decode cX8_ifProved 64 = .ok (.iadd, 1) := by decide +kernel
theorem dX8_ifProved_65 : decode cX8_ifProved 65 = .ok (.istore 5, 2) := by decide +kernel
theorem dX8_ifProved_67 : decode cX8_ifProved 67 = .ok (.iinc 6 1, 3) := by decide +kernel
theorem dX8_ifProved_70 : decode cX8_ifProved 70 = .ok (.goto (-45), 3) := by decide +kernel
theorem dX8_ifProved_73 : decode cX8_ifProved 73 = .ok (.iload 5, 2) := by decide +kernel
theorem dX8_ifProved_75 : decode cX8_ifProved 75 = .ok (.ireturn, 1) := by decide +kernel
theorem dX8_sharpest_0 : decode cX8_sharpest 0 = .ok (.iload_n 1, 1) := by decide +kernel
theorem dX8_sharpest_1 : decode cX8_sharpest 1 = .ok (.iconst 0, 1) := by decide +kernel
theorem dX8_sharpest_2 : decode cX8_sharpest 2 = .ok (.iconst 1, 1) := by decide +kernel
theorem dX8_sharpest_3 : decode cX8_sharpest 3 = .ok (.invokestatic 49, 3) := by decide +kernel
theorem dX8_sharpest_6 : decode cX8_sharpest 6 = .ok (.ifCond .ne 6, 3) := by decide +kernel
theorem dX8_sharpest_9 : decode cX8_sharpest 9 = .ok (.bipush (-2), 2) := by decide +kernel
theorem dX8_sharpest_11 : decode cX8_sharpest 11 = .ok (.ireturn, 1) := by decide +kernel
theorem dX8_sharpest_12 : decode cX8_sharpest 12 = .ok (.aload_n 0, 1) := by decide +kernel
theorem dX8_sharpest_13 : decode cX8_sharpest 13 = .ok (.invokevirtual 102, 3) := by decide +kernel
theorem dX8_sharpest_16 : decode cX8_sharpest 16 = .ok (.bipush (-6), 2) := by decide +kernel
theorem dX8_sharpest_18 : decode cX8_sharpest 18 = .ok (.istore_n 2, 1) := by decide +kernel
theorem dX8_sharpest_19 : decode cX8_sharpest 19 = .ok (.iconst 0, 1) := by decide +kernel
theorem dX8_sharpest_20 : decode cX8_sharpest 20 = .ok (.istore_n 3, 1) := by decide +kernel
theorem dX8_sharpest_21 : decode cX8_sharpest 21 = .ok (.iconst 0, 1) := by decide +kernel
theorem dX8_sharpest_22 : decode cX8_sharpest 22 = .ok (.istore 4, 2) := by decide +kernel
theorem dX8_sharpest_24 : decode cX8_sharpest 24 = .ok (.iload 4, 2) := by decide +kernel
theorem dX8_sharpest_26 : decode cX8_sharpest 26 = .ok (.aload_n 0, 1) := by decide +kernel
theorem dX8_sharpest_27 : decode cX8_sharpest 27 = .ok (.getfield 7, 3) := by decide +kernel
theorem dX8_sharpest_30 : decode cX8_sharpest 30 = .ok (.iconst 1, 1) := by decide +kernel
theorem dX8_sharpest_31 : decode cX8_sharpest 31 = .ok (.iaload, 1) := by decide +kernel
theorem dX8_sharpest_32 : decode cX8_sharpest 32 = .ok (.if_icmp .ge 107, 3) := by decide +kernel
theorem dX8_sharpest_35 : decode cX8_sharpest 35 = .ok (.aload_n 0, 1) := by decide +kernel
theorem dX8_sharpest_36 : decode cX8_sharpest 36 = .ok (.getfield 31, 3) := by decide +kernel
theorem dX8_sharpest_39 : decode cX8_sharpest 39 = .ok (.iload 4, 2) := by decide +kernel
theorem dX8_sharpest_41 : decode cX8_sharpest 41 = .ok (.iaload, 1) := by decide +kernel
theorem dX8_sharpest_42 : decode cX8_sharpest 42 = .ok (.aload_n 0, 1) := by decide +kernel
theorem dX8_sharpest_43 : decode cX8_sharpest 43 = .ok (.getfield 77, 3) := by decide +kernel
theorem dX8_sharpest_46 : decode cX8_sharpest 46 = .ok (.aload_n 0, 1) := by decide +kernel
theorem dX8_sharpest_47 : decode cX8_sharpest 47 = .ok (.getfield 31, 3) := by decide +kernel
theorem dX8_sharpest_50 : decode cX8_sharpest 50 = .ok (.iload 4, 2) := by decide +kernel
theorem dX8_sharpest_52 : decode cX8_sharpest 52 = .ok (.iaload, 1) := by decide +kernel
theorem dX8_sharpest_53 : decode cX8_sharpest 53 = .ok (.isub, 1) := by decide +kernel
theorem dX8_sharpest_54 : decode cX8_sharpest 54 = .ok (.if_icmp .le 13, 3) := by decide +kernel
theorem dX8_sharpest_57 : decode cX8_sharpest 57 = .ok (.aload_n 0, 1) := by decide +kernel
theorem dX8_sharpest_58 : decode cX8_sharpest 58 = .ok (.getfield 31, 3) := by decide +kernel
theorem dX8_sharpest_61 : decode cX8_sharpest 61 = .ok (.iload 4, 2) := by decide +kernel
theorem dX8_sharpest_63 : decode cX8_sharpest 63 = .ok (.iaload, 1) := by decide +kernel
theorem dX8_sharpest_64 : decode cX8_sharpest 64 = .ok (.goto 15, 3) := by decide +kernel
theorem dX8_sharpest_67 : decode cX8_sharpest 67 = .ok (.aload_n 0, 1) := by decide +kernel
theorem dX8_sharpest_68 : decode cX8_sharpest 68 = .ok (.getfield 77, 3) := by decide +kernel
theorem dX8_sharpest_71 : decode cX8_sharpest 71 = .ok (.aload_n 0, 1) := by decide +kernel
theorem dX8_sharpest_72 : decode cX8_sharpest 72 = .ok (.getfield 31, 3) := by decide +kernel
theorem dX8_sharpest_75 : decode cX8_sharpest 75 = .ok (.iload 4, 2) := by decide +kernel
theorem dX8_sharpest_77 : decode cX8_sharpest 77 = .ok (.iaload, 1) := by decide +kernel
theorem dX8_sharpest_78 : decode cX8_sharpest 78 = .ok (.isub, 1) := by decide +kernel
theorem dX8_sharpest_79 : decode cX8_sharpest 79 = .ok (.istore 5, 2) := by decide +kernel
theorem dX8_sharpest_81 : decode cX8_sharpest 81 = .ok (.aload_n 0, 1) := by decide +kernel
theorem dX8_sharpest_82 : decode cX8_sharpest 82 = .ok (.iload 4, 2) := by decide +kernel
theorem dX8_sharpest_84 : decode cX8_sharpest 84 = .ok (.invokevirtual 74, 3) := by decide +kernel
end
section
theorem dX8_sharpest_87 : decode cX8_sharpest 87 = .ok (.ifCond .eq 19, 3) := by decide +kernel
theorem dX8_sharpest_90 : decode cX8_sharpest 90 = .ok (.iload_n 2, 1) := by decide +kernel
theorem dX8_sharpest_91 : decode cX8_sharpest 91 = .ok (.bipush (-6), 2) := by decide +kernel
theorem dX8_sharpest_93 : decode cX8_sharpest 93 = .ok (.if_icmp .eq 9, 3) := by decide +kernel
theorem dX8_sharpest_96 : decode cX8_sharpest 96 = .ok (.iload 5, 2) := by decide +kernel
theorem dX8_sharpest_98 : decode cX8_sharpest 98 = .ok (.iload_n 3, 1) := by decide +kernel
theorem dX8_sharpest_99 : decode cX8_sharpest 99 = .ok (.if_icmp .ge 7, 3) := by decide +kernel
theorem dX8_sharpest_102 : decode cX8_sharpest 102 = .ok (.iconst 1, 1) := by decide +kernel
theorem dX8_sharpest_103 : decode cX8_sharpest 103 = .ok (.goto 4, 3) := by decide +kernel
theorem dX8_sharpest_106 : decode cX8_sharpest 106 = .ok (.iconst 0, 1) := by decide +kernel
theorem dX8_sharpest_107 : decode cX8_sharpest 107 = .ok (.istore 6, 2) := by decide +kernel
theorem dX8_sharpest_109 : decode cX8_sharpest 109 = .ok (.iload 6, 2) := by decide +kernel
theorem dX8_sharpest_111 : decode cX8_sharpest 111 = .ok (.ifCond .eq 8, 3) := by decide +kernel
theorem dX8_sharpest_114 : decode cX8_sharpest 114 = .ok (.iload 4, 2) := by decide +kernel
theorem dX8_sharpest_116 : decode cX8_sharpest 116 = .ok (.goto 4, 3) := by decide +kernel
theorem dX8_sharpest_119 : decode cX8_sharpest 119 = .ok (.iload_n 2, 1) := by decide +kernel
theorem dX8_sharpest_120 : decode cX8_sharpest 120 = .ok (.istore_n 2, 1) := by decide +kernel
theorem dX8_sharpest_121 : decode cX8_sharpest 121 = .ok (.iload 6, 2) := by decide +kernel
theorem dX8_sharpest_123 : decode cX8_sharpest 123 = .ok (.ifCond .eq 8, 3) := by decide +kernel
theorem dX8_sharpest_126 : decode cX8_sharpest 126 = .ok (.iload 5, 2) := by decide +kernel
theorem dX8_sharpest_128 : decode cX8_sharpest 128 = .ok (.goto 4, 3) := by decide +kernel
theorem dX8_sharpest_131 : decode cX8_sharpest 131 = .ok (.iload_n 3, 1) := by decide +kernel
theorem dX8_sharpest_132 : decode cX8_sharpest 132 = .ok (.istore_n 3, 1) := by decide +kernel
theorem dX8_sharpest_133 : decode cX8_sharpest 133 = .ok (.iinc 4 1, 3) := by decide +kernel
theorem dX8_sharpest_136 : decode cX8_sharpest 136 = .ok (.goto (-112), 3) := by decide +kernel
theorem dX8_sharpest_139 : decode cX8_sharpest 139 = .ok (.iload_n 2, 1) := by decide +kernel
theorem dX8_sharpest_140 : decode cX8_sharpest 140 = .ok (.bipush (-6), 2) := by decide +kernel
theorem dX8_sharpest_142 : decode cX8_sharpest 142 = .ok (.if_icmp .eq 7, 3) := by decide +kernel
theorem dX8_sharpest_145 : decode cX8_sharpest 145 = .ok (.iload_n 1, 1) := by decide +kernel
theorem dX8_sharpest_146 : decode cX8_sharpest 146 = .ok (.ifCond .ne 7, 3) := by decide +kernel
theorem dX8_sharpest_149 : decode cX8_sharpest 149 = .ok (.iload_n 2, 1) := by decide +kernel
theorem dX8_sharpest_150 : decode cX8_sharpest 150 = .ok (.goto 4, 3) := by decide +kernel
theorem dX8_sharpest_153 : decode cX8_sharpest 153 = .ok (.iload_n 3, 1) := by decide +kernel
theorem dX8_sharpest_154 : decode cX8_sharpest 154 = .ok (.ireturn, 1) := by decide +kernel
theorem dX8_blame_0 : decode cX8_blame 0 = .ok (.iload_n 1, 1) := by decide +kernel
theorem dX8_blame_1 : decode cX8_blame 1 = .ok (.iconst 0, 1) := by decide +kernel
theorem dX8_blame_2 : decode cX8_blame 2 = .ok (.iconst 1, 1) := by decide +kernel
theorem dX8_blame_3 : decode cX8_blame 3 = .ok (.invokestatic 49, 3) := by decide +kernel
theorem dX8_blame_6 : decode cX8_blame 6 = .ok (.ifCond .ne 6, 3) := by decide +kernel
theorem dX8_blame_9 : decode cX8_blame 9 = .ok (.bipush (-2), 2) := by decide +kernel
theorem dX8_blame_11 : decode cX8_blame 11 = .ok (.ireturn, 1) := by decide +kernel
theorem dX8_blame_12 : decode cX8_blame 12 = .ok (.aload_n 0, 1) := by decide +kernel
theorem dX8_blame_13 : decode cX8_blame 13 = .ok (.invokevirtual 102, 3) := by decide +kernel
theorem dX8_blame_16 : decode cX8_blame 16 = .ok (.aload_n 0, 1) := by decide +kernel
theorem dX8_blame_17 : decode cX8_blame 17 = .ok (.getfield 77, 3) := by decide +kernel
theorem dX8_blame_20 : decode cX8_blame 20 = .ok (.ifCond .le 6, 3) := by decide +kernel
theorem dX8_blame_23 : decode cX8_blame 23 = .ok (.bipush (-6), 2) := by decide +kernel
theorem dX8_blame_25 : decode cX8_blame 25 = .ok (.ireturn, 1) := by decide +kernel
theorem dX8_blame_26 : decode cX8_blame 26 = .ok (.bipush (-6), 2) := by decide +kernel
theorem dX8_blame_28 : decode cX8_blame 28 = .ok (.istore_n 2, 1) := by decide +kernel
theorem dX8_blame_29 : decode cX8_blame 29 = .ok (.iconst 0, 1) := by decide +kernel
theorem dX8_blame_30 : decode cX8_blame 30 = .ok (.istore_n 3, 1) := by decide +kernel
theorem dX8_blame_31 : decode cX8_blame 31 = .ok (.iconst 0, 1) := by decide +kernel
theorem dX8_blame_32 : decode cX8_blame 32 = .ok (.istore 4, 2) := by decide +kernel
theorem dX8_blame_34 : decode cX8_blame 34 = .ok (.iload 4, 2) := by decide +kernel
theorem dX8_blame_36 : decode cX8_blame 36 = .ok (.aload_n 0, 1) := by decide +kernel
theorem dX8_blame_37 : decode cX8_blame 37 = .ok (.getfield 7, 3) := by decide +kernel
theorem dX8_blame_40 : decode cX8_blame 40 = .ok (.iconst 1, 1) := by decide +kernel
theorem dX8_blame_41 : decode cX8_blame 41 = .ok (.iaload, 1) := by decide +kernel
theorem dX8_blame_42 : decode cX8_blame 42 = .ok (.if_icmp .ge 71, 3) := by decide +kernel
theorem dX8_blame_45 : decode cX8_blame 45 = .ok (.aload_n 0, 1) := by decide +kernel
theorem dX8_blame_46 : decode cX8_blame 46 = .ok (.iload 4, 2) := by decide +kernel
theorem dX8_blame_48 : decode cX8_blame 48 = .ok (.invokevirtual 74, 3) := by decide +kernel
theorem dX8_blame_51 : decode cX8_blame 51 = .ok (.ifCond .ne 24, 3) := by decide +kernel
theorem dX8_blame_54 : decode cX8_blame 54 = .ok (.iload_n 2, 1) := by decide +kernel
theorem dX8_blame_55 : decode cX8_blame 55 = .ok (.bipush (-6), 2) := by decide +kernel
theorem dX8_blame_57 : decode cX8_blame 57 = .ok (.if_icmp .eq 14, 3) := by decide +kernel
theorem dX8_blame_60 : decode cX8_blame 60 = .ok (.aload_n 0, 1) := by decide +kernel
theorem dX8_blame_61 : decode cX8_blame 61 = .ok (.getfield 34, 3) := by decide +kernel
theorem dX8_blame_64 : decode cX8_blame 64 = .ok (.iload 4, 2) := by decide +kernel
theorem dX8_blame_66 : decode cX8_blame 66 = .ok (.iaload, 1) := by decide +kernel
theorem dX8_blame_67 : decode cX8_blame 67 = .ok (.iload_n 3, 1) := by decide +kernel
theorem dX8_blame_68 : decode cX8_blame 68 = .ok (.if_icmp .le 7, 3) := by decide +kernel
theorem dX8_blame_71 : decode cX8_blame 71 = .ok (.iconst 1, 1) := by decide +kernel
theorem dX8_blame_72 : decode cX8_blame 72 = .ok (.goto 4, 3) := by decide +kernel
theorem dX8_blame_75 : decode cX8_blame 75 = .ok (.iconst 0, 1) := by decide +kernel
theorem dX8_blame_76 : decode cX8_blame 76 = .ok (.istore 5, 2) := by decide +kernel
theorem dX8_blame_78 : decode cX8_blame 78 = .ok (.iload 5, 2) := by decide +kernel
theorem dX8_blame_80 : decode cX8_blame 80 = .ok (.ifCond .eq 8, 3) := by decide +kernel
theorem dX8_blame_83 : decode cX8_blame 83 = .ok (.iload 4, 2) := by decide +kernel
theorem dX8_blame_85 : decode cX8_blame 85 = .ok (.goto 4, 3) := by decide +kernel
theorem dX8_blame_88 : decode cX8_blame 88 = .ok (.iload_n 2, 1) := by decide +kernel
theorem dX8_blame_89 : decode cX8_blame 89 = .ok (.istore_n 2, 1) := by decide +kernel
theorem dX8_blame_90 : decode cX8_blame 90 = .ok (.iload 5, 2) := by decide +kernel
theorem dX8_blame_92 : decode cX8_blame 92 = .ok (.ifCond .eq 13, 3) := by decide +kernel
theorem dX8_blame_95 : decode cX8_blame 95 = .ok (.aload_n 0, 1) := by decide +kernel
theorem dX8_blame_96 : decode cX8_blame 96 = .ok (.getfield 34, 3) := by decide +kernel
theorem dX8_blame_99 : decode cX8_blame 99 = .ok (.iload 4, 2) := by decide +kernel
theorem dX8_blame_101 : decode cX8_blame 101 = .ok (.iaload, 1) := by decide +kernel
theorem dX8_blame_102 : decode cX8_blame 102 = .ok (.goto 4, 3) := by decide +kernel
theorem dX8_blame_105 : decode cX8_blame 105 = .ok (.iload_n 3, 1) := by decide +kernel
theorem dX8_blame_106 : decode cX8_blame 106 = .ok (.istore_n 3, 1) := by decide +kernel
theorem dX8_blame_107 : decode cX8_blame 107 = .ok (.iinc 4 1, 3) := by decide +kernel
theorem dX8_blame_110 : decode cX8_blame 110 = .ok (.goto (-76), 3) := by decide +kernel
theorem dX8_blame_113 : decode cX8_blame 113 = .ok (.iload_n 1, 1) := by decide +kernel
theorem dX8_blame_114 : decode cX8_blame 114 = .ok (.ifCond .ne 7, 3) := by decide +kernel
theorem dX8_blame_117 : decode cX8_blame 117 = .ok (.iload_n 2, 1) := by decide +kernel
theorem dX8_blame_118 : decode cX8_blame 118 = .ok (.goto 4, 3) := by decide +kernel
theorem dX8_blame_121 : decode cX8_blame 121 = .ok (.iload_n 3, 1) := by decide +kernel
theorem dX8_blame_122 : decode cX8_blame 122 = .ok (.ireturn, 1) := by decide +kernel
theorem dX8_mostWatched_0 : decode cX8_mostWatched 0 = .ok (.iload_n 1, 1) := by decide +kernel
theorem dX8_mostWatched_1 : decode cX8_mostWatched 1 = .ok (.iconst 0, 1) := by decide +kernel
theorem dX8_mostWatched_2 : decode cX8_mostWatched 2 = .ok (.iconst 1, 1) := by decide +kernel
theorem dX8_mostWatched_3 : decode cX8_mostWatched 3 = .ok (.invokestatic 49, 3) := by decide +kernel
theorem dX8_mostWatched_6 : decode cX8_mostWatched 6 = .ok (.ifCond .ne 6, 3) := by decide +kernel
theorem dX8_mostWatched_9 : decode cX8_mostWatched 9 = .ok (.bipush (-2), 2) := by decide +kernel
theorem dX8_mostWatched_11 : decode cX8_mostWatched 11 = .ok (.ireturn, 1) := by decide +kernel
theorem dX8_mostWatched_12 : decode cX8_mostWatched 12 = .ok (.aload_n 0, 1) := by decide +kernel
theorem dX8_mostWatched_13 : decode cX8_mostWatched 13 = .ok (.invokevirtual 102, 3) := by decide +kernel
theorem dX8_mostWatched_16 : decode cX8_mostWatched 16 = .ok (.aload_n 0, 1) := by decide +kernel
theorem dX8_mostWatched_17 : decode cX8_mostWatched 17 = .ok (.getfield 77, 3) := by decide +kernel
theorem dX8_mostWatched_20 : decode cX8_mostWatched 20 = .ok (.ifCond .ne 8, 3) := by decide +kernel
theorem dX8_mostWatched_23 : decode cX8_mostWatched 23 = .ok (.bipush (-6), 2) := by decide +kernel
theorem dX8_mostWatched_25 : decode cX8_mostWatched 25 = .ok (.goto 18, 3) := by decide +kernel
theorem dX8_mostWatched_28 : decode cX8_mostWatched 28 = .ok (.iload_n 1, 1) := by decide +kernel
theorem dX8_mostWatched_29 : decode cX8_mostWatched 29 = .ok (.ifCond .ne 10, 3) := by decide +kernel
theorem dX8_mostWatched_32 : decode cX8_mostWatched 32 = .ok (.aload_n 0, 1) := by decide +kernel
theorem dX8_mostWatched_33 : decode cX8_mostWatched 33 = .ok (.getfield 80, 3) := by decide +kernel
theorem dX8_mostWatched_36 : decode cX8_mostWatched 36 = .ok (.goto 7, 3) := by decide +kernel
theorem dX8_mostWatched_39 : decode cX8_mostWatched 39 = .ok (.aload_n 0, 1) := by decide +kernel
theorem dX8_mostWatched_40 : decode cX8_mostWatched 40 = .ok (.getfield 83, 3) := by decide +kernel
theorem dX8_mostWatched_43 : decode cX8_mostWatched 43 = .ok (.ireturn, 1) := by decide +kernel
theorem dX8_put_0 : decode cX8_put 0 = .ok (.iconst 0, 1) := by decide +kernel
theorem dX8_put_1 : decode cX8_put 1 = .ok (.istore_n 3, 1) := by decide +kernel
theorem dX8_put_2 : decode cX8_put 2 = .ok (.lload_n 1, 1) := by decide +kernel
theorem dX8_put_3 : decode cX8_put 3 = .ok (.lstore 4, 2) := by decide +kernel
theorem dX8_put_5 : decode cX8_put 5 = .ok (.iconst 1, 1) := by decide +kernel
theorem dX8_put_6 : decode cX8_put 6 = .ok (.istore 6, 2) := by decide +kernel
theorem dX8_put_8 : decode cX8_put 8 = .ok (.iload_n 3, 1) := by decide +kernel
theorem dX8_put_9 : decode cX8_put 9 = .ok (.bipush 8, 2) := by decide +kernel
theorem dX8_put_11 : decode cX8_put 11 = .ok (.if_icmp .ge 56, 3) := by decide +kernel
theorem dX8_put_14 : decode cX8_put 14 = .ok (.lload 4, 2) := by decide +kernel
theorem dX8_put_16 : decode cX8_put 16 = .ok (.ldc2_w 179, 3) := by decide +kernel
theorem dX8_put_19 : decode cX8_put 19 = .ok (.land, 1) := by decide +kernel
theorem dX8_put_20 : decode cX8_put 20 = .ok (.lconst 0, 1) := by decide +kernel
theorem dX8_put_21 : decode cX8_put 21 = .ok (.lcmp, 1) := by decide +kernel
theorem dX8_put_22 : decode cX8_put 22 = .ok (.ifCond .eq 45, 3) := by decide +kernel
theorem dX8_put_25 : decode cX8_put 25 = .ok (.iload 6, 2) := by decide +kernel
theorem dX8_put_27 : decode cX8_put 27 = .ok (.ifCond .eq 24, 3) := by decide +kernel
theorem dX8_put_30 : decode cX8_put 30 = .ok (.lload 4, 2) := by decide +kernel
theorem dX8_put_32 : decode cX8_put 32 = .ok (.ldc2_w 179, 3) := by decide +kernel
theorem dX8_put_35 : decode cX8_put 35 = .ok (.land, 1) := by decide +kernel
theorem dX8_put_36 : decode cX8_put 36 = .ok (.l2i, 1) := by decide +kernel
theorem dX8_put_37 : decode cX8_put 37 = .ok (.bipush 33, 2) := by decide +kernel
theorem dX8_put_39 : decode cX8_put 39 = .ok (.bipush 126, 2) := by decide +kernel
theorem dX8_put_41 : decode cX8_put 41 = .ok (.invokestatic 49, 3) := by decide +kernel
theorem dX8_put_44 : decode cX8_put 44 = .ok (.ifCond .eq 7, 3) := by decide +kernel
theorem dX8_put_47 : decode cX8_put 47 = .ok (.iconst 1, 1) := by decide +kernel
theorem dX8_put_48 : decode cX8_put 48 = .ok (.goto 4, 3) := by decide +kernel
theorem dX8_put_51 : decode cX8_put 51 = .ok (.iconst 0, 1) := by decide +kernel
theorem dX8_put_52 : decode cX8_put 52 = .ok (.istore 6, 2) := by decide +kernel
theorem dX8_put_54 : decode cX8_put 54 = .ok (.lload 4, 2) := by decide +kernel
theorem dX8_put_56 : decode cX8_put 56 = .ok (.bipush 8, 2) := by decide +kernel
theorem dX8_put_58 : decode cX8_put 58 = .ok (.lushr, 1) := by decide +kernel
theorem dX8_put_59 : decode cX8_put 59 = .ok (.lstore 4, 2) := by decide +kernel
theorem dX8_put_61 : decode cX8_put 61 = .ok (.iinc 3 1, 3) := by decide +kernel
theorem dX8_put_64 : decode cX8_put 64 = .ok (.goto (-56), 3) := by decide +kernel
theorem dX8_put_67 : decode cX8_put 67 = .ok (.iload_n 3, 1) := by decide +kernel
theorem dX8_put_68 : decode cX8_put 68 = .ok (.ifCond .eq 15, 3) := by decide +kernel
theorem dX8_put_71 : decode cX8_put 71 = .ok (.iload 6, 2) := by decide +kernel
theorem dX8_put_73 : decode cX8_put 73 = .ok (.ifCond .eq 10, 3) := by decide +kernel
theorem dX8_put_76 : decode cX8_put 76 = .ok (.lload 4, 2) := by decide +kernel
theorem dX8_put_78 : decode cX8_put 78 = .ok (.lconst 0, 1) := by decide +kernel
theorem dX8_put_79 : decode cX8_put 79 = .ok (.lcmp, 1) := by decide +kernel
theorem dX8_put_80 : decode cX8_put 80 = .ok (.ifCond .eq 6, 3) := by decide +kernel
theorem dX8_put_83 : decode cX8_put 83 = .ok (.bipush (-2), 2) := by decide +kernel
theorem dX8_put_85 : decode cX8_put 85 = .ok (.ireturn, 1) := by decide +kernel
theorem dX8_put_86 : decode cX8_put 86 = .ok (.aload_n 0, 1) := by decide +kernel
theorem dX8_put_87 : decode cX8_put 87 = .ok (.getfield 118, 3) := by decide +kernel
theorem dX8_put_90 : decode cX8_put 90 = .ok (.iload_n 3, 1) := by decide +kernel
theorem dX8_put_91 : decode cX8_put 91 = .ok (.iadd, 1) := by decide +kernel
theorem dX8_put_92 : decode cX8_put 92 = .ok (.bipush 60, 2) := by decide +kernel
theorem dX8_put_94 : decode cX8_put 94 = .ok (.if_icmp .le 6, 3) := by decide +kernel
theorem dX8_put_97 : decode cX8_put 97 = .ok (.bipush (-4), 2) := by decide +kernel
theorem dX8_put_99 : decode cX8_put 99 = .ok (.ireturn, 1) := by decide +kernel
theorem dX8_put_100 : decode cX8_put 100 = .ok (.iload_n 3, 1) := by decide +kernel
theorem dX8_put_101 : decode cX8_put 101 = .ok (.iconst 1, 1) := by decide +kernel
theorem dX8_put_102 : decode cX8_put 102 = .ok (.isub, 1) := by decide +kernel
theorem dX8_put_103 : decode cX8_put 103 = .ok (.istore 7, 2) := by decide +kernel
theorem dX8_put_105 : decode cX8_put 105 = .ok (.iload 7, 2) := by decide +kernel
theorem dX8_put_107 : decode cX8_put 107 = .ok (.ifCond .lt 40, 3) := by decide +kernel
theorem dX8_put_110 : decode cX8_put 110 = .ok (.aload_n 0, 1) := by decide +kernel
theorem dX8_put_111 : decode cX8_put 111 = .ok (.getfield 22, 3) := by decide +kernel
theorem dX8_put_114 : decode cX8_put 114 = .ok (.aload_n 0, 1) := by decide +kernel
theorem dX8_put_115 : decode cX8_put 115 = .ok (.getfield 118, 3) := by decide +kernel
theorem dX8_put_118 : decode cX8_put 118 = .ok (.lload_n 1, 1) := by decide +kernel
theorem dX8_put_119 : decode cX8_put 119 = .ok (.bipush 8, 2) := by decide +kernel
theorem dX8_put_121 : decode cX8_put 121 = .ok (.iload 7, 2) := by decide +kernel
theorem dX8_put_123 : decode cX8_put 123 = .ok (.imul, 1) := by decide +kernel
theorem dX8_put_124 : decode cX8_put 124 = .ok (.lushr, 1) := by decide +kernel
theorem dX8_put_125 : decode cX8_put 125 = .ok (.ldc2_w 179, 3) := by decide +kernel
theorem dX8_put_128 : decode cX8_put 128 = .ok (.land, 1) := by decide +kernel
theorem dX8_put_129 : decode cX8_put 129 = .ok (.l2i, 1) := by decide +kernel
theorem dX8_put_130 : decode cX8_put 130 = .ok (.iastore, 1) := by decide +kernel
theorem dX8_put_131 : decode cX8_put 131 = .ok (.aload_n 0, 1) := by decide +kernel
theorem dX8_put_132 : decode cX8_put 132 = .ok (.dup, 1) := by decide +kernel
theorem dX8_put_133 : decode cX8_put 133 = .ok (.getfield 118, 3) := by decide +kernel
theorem dX8_put_136 : decode cX8_put 136 = .ok (.iconst 1, 1) := by decide +kernel
theorem dX8_put_137 : decode cX8_put 137 = .ok (.iadd, 1) := by decide +kernel
theorem dX8_put_138 : decode cX8_put 138 = .ok (.putfield 118, 3) := by decide +kernel
theorem dX8_put_141 : decode cX8_put 141 = .ok (.iinc 7 (-1), 3) := by decide +kernel
theorem dX8_put_144 : decode cX8_put 144 = .ok (.goto (-39), 3) := by decide +kernel
theorem dX8_put_147 : decode cX8_put 147 = .ok (.aload_n 0, 1) := by decide +kernel
theorem dX8_put_148 : decode cX8_put 148 = .ok (.getfield 118, 3) := by decide +kernel
theorem dX8_put_151 : decode cX8_put 151 = .ok (.ireturn, 1) := by decide +kernel
theorem dX8_wipe_0 : decode cX8_wipe 0 = .ok (.aload_n 0, 1) := by decide +kernel
theorem dX8_wipe_1 : decode cX8_wipe 1 = .ok (.getfield 118, 3) := by decide +kernel
theorem dX8_wipe_4 : decode cX8_wipe 4 = .ok (.istore_n 1, 1) := by decide +kernel
theorem dX8_wipe_5 : decode cX8_wipe 5 = .ok (.aload_n 0, 1) := by decide +kernel
theorem dX8_wipe_6 : decode cX8_wipe 6 = .ok (.iconst 0, 1) := by decide +kernel
theorem dX8_wipe_7 : decode cX8_wipe 7 = .ok (.putfield 118, 3) := by decide +kernel
theorem dX8_wipe_10 : decode cX8_wipe 10 = .ok (.iload_n 1, 1) := by decide +kernel
theorem dX8_wipe_11 : decode cX8_wipe 11 = .ok (.ireturn, 1) := by decide +kernel
theorem dX8_character_0 : decode cX8_character 0 = .ok (.iload_n 1, 1) := by decide +kernel
theorem dX8_character_1 : decode cX8_character 1 = .ok (.aload_n 0, 1) := by decide +kernel
theorem dX8_character_2 : decode cX8_character 2 = .ok (.getfield 118, 3) := by decide +kernel
theorem dX8_character_5 : decode cX8_character 5 = .ok (.if_icmp .ge 12, 3) := by decide +kernel
theorem dX8_character_8 : decode cX8_character 8 = .ok (.aload_n 0, 1) := by decide +kernel
theorem dX8_character_9 : decode cX8_character 9 = .ok (.getfield 22, 3) := by decide +kernel
theorem dX8_character_12 : decode cX8_character 12 = .ok (.iload_n 1, 1) := by decide +kernel
theorem dX8_character_13 : decode cX8_character 13 = .ok (.iaload, 1) := by decide +kernel
theorem dX8_character_14 : decode cX8_character 14 = .ok (.goto 4, 3) := by decide +kernel
theorem dX8_character_17 : decode cX8_character 17 = .ok (.iconst (-1), 1) := by decide +kernel
theorem dX8_character_18 : decode cX8_character 18 = .ok (.ireturn, 1) := by decide +kernel
theorem dX8_isNext_0 : decode cX8_isNext 0 = .ok (.aload_n 0, 1) := by decide +kernel
theorem dX8_isNext_1 : decode cX8_isNext 1 = .ok (.aload_n 0, 1) := by decide +kernel
theorem dX8_isNext_2 : decode cX8_isNext 2 = .ok (.getfield 115, 3) := by decide +kernel
theorem dX8_isNext_5 : decode cX8_isNext 5 = .ok (.invokevirtual 181, 3) := by decide +kernel
theorem dX8_isNext_8 : decode cX8_isNext 8 = .ok (.iload_n 1, 1) := by decide +kernel
theorem dX8_isNext_9 : decode cX8_isNext 9 = .ok (.if_icmp .ne 7, 3) := by decide +kernel
theorem dX8_isNext_12 : decode cX8_isNext 12 = .ok (.iconst 1, 1) := by decide +kernel
theorem dX8_isNext_13 : decode cX8_isNext 13 = .ok (.goto 4, 3) := by decide +kernel
theorem dX8_isNext_16 : decode cX8_isNext 16 = .ok (.iconst 0, 1) := by decide +kernel
theorem dX8_isNext_17 : decode cX8_isNext 17 = .ok (.istore_n 2, 1) := by decide +kernel
theorem dX8_isNext_18 : decode cX8_isNext 18 = .ok (.aload_n 0, 1) := by decide +kernel
theorem dX8_isNext_19 : decode cX8_isNext 19 = .ok (.dup, 1) := by decide +kernel
theorem dX8_isNext_20 : decode cX8_isNext 20 = .ok (.getfield 115, 3) := by decide +kernel
theorem dX8_isNext_23 : decode cX8_isNext 23 = .ok (.iload_n 2, 1) := by decide +kernel
theorem dX8_isNext_24 : decode cX8_isNext 24 = .ok (.ifCond .eq 7, 3) := by decide +kernel
theorem dX8_isNext_27 : decode cX8_isNext 27 = .ok (.iconst 1, 1) := by decide +kernel
theorem dX8_isNext_28 : decode cX8_isNext 28 = .ok (.goto 4, 3) := by decide +kernel
theorem dX8_isNext_31 : decode cX8_isNext 31 = .ok (.iconst 0, 1) := by decide +kernel
theorem dX8_isNext_32 : decode cX8_isNext 32 = .ok (.iadd, 1) := by decide +kernel
theorem dX8_isNext_33 : decode cX8_isNext 33 = .ok (.putfield 115, 3) := by decide +kernel
theorem dX8_isNext_36 : decode cX8_isNext 36 = .ok (.iload_n 2, 1) := by decide +kernel
theorem dX8_isNext_37 : decode cX8_isNext 37 = .ok (.ireturn, 1) := by decide +kernel
theorem dX8_takeDigit_0 : decode cX8_takeDigit 0 = .ok (.aload_n 0, 1) := by decide +kernel
theorem dX8_takeDigit_1 : decode cX8_takeDigit 1 = .ok (.aload_n 0, 1) := by decide +kernel
theorem dX8_takeDigit_2 : decode cX8_takeDigit 2 = .ok (.getfield 115, 3) := by decide +kernel
theorem dX8_takeDigit_5 : decode cX8_takeDigit 5 = .ok (.invokevirtual 181, 3) := by decide +kernel
theorem dX8_takeDigit_8 : decode cX8_takeDigit 8 = .ok (.bipush 48, 2) := by decide +kernel
theorem dX8_takeDigit_10 : decode cX8_takeDigit 10 = .ok (.isub, 1) := by decide +kernel
theorem dX8_takeDigit_11 : decode cX8_takeDigit 11 = .ok (.istore_n 2, 1) := by decide +kernel
theorem dX8_takeDigit_12 : decode cX8_takeDigit 12 = .ok (.iload_n 2, 1) := by decide +kernel
theorem dX8_takeDigit_13 : decode cX8_takeDigit 13 = .ok (.iconst 0, 1) := by decide +kernel
theorem dX8_takeDigit_14 : decode cX8_takeDigit 14 = .ok (.iload_n 1, 1) := by decide +kernel
theorem dX8_takeDigit_15 : decode cX8_takeDigit 15 = .ok (.invokestatic 49, 3) := by decide +kernel
theorem dX8_takeDigit_18 : decode cX8_takeDigit 18 = .ok (.ifCond .ne 5, 3) := by decide +kernel
theorem dX8_takeDigit_21 : decode cX8_takeDigit 21 = .ok (.iconst (-1), 1) := by decide +kernel
theorem dX8_takeDigit_22 : decode cX8_takeDigit 22 = .ok (.ireturn, 1) := by decide +kernel
theorem dX8_takeDigit_23 : decode cX8_takeDigit 23 = .ok (.aload_n 0, 1) := by decide +kernel
theorem dX8_takeDigit_24 : decode cX8_takeDigit 24 = .ok (.dup, 1) := by decide +kernel
theorem dX8_takeDigit_25 : decode cX8_takeDigit 25 = .ok (.getfield 115, 3) := by decide +kernel
theorem dX8_takeDigit_28 : decode cX8_takeDigit 28 = .ok (.iconst 1, 1) := by decide +kernel
theorem dX8_takeDigit_29 : decode cX8_takeDigit 29 = .ok (.iadd, 1) := by decide +kernel
theorem dX8_takeDigit_30 : decode cX8_takeDigit 30 = .ok (.putfield 115, 3) := by decide +kernel
theorem dX8_takeDigit_33 : decode cX8_takeDigit 33 = .ok (.iload_n 2, 1) := by decide +kernel
theorem dX8_takeDigit_34 : decode cX8_takeDigit 34 = .ok (.ireturn, 1) := by decide +kernel
theorem dX8_takeKind_0 : decode cX8_takeKind 0 = .ok (.aload_n 0, 1) := by decide +kernel
theorem dX8_takeKind_1 : decode cX8_takeKind 1 = .ok (.aload_n 0, 1) := by decide +kernel
theorem dX8_takeKind_2 : decode cX8_takeKind 2 = .ok (.getfield 115, 3) := by decide +kernel
theorem dX8_takeKind_5 : decode cX8_takeKind 5 = .ok (.invokevirtual 181, 3) := by decide +kernel
theorem dX8_takeKind_8 : decode cX8_takeKind 8 = .ok (.istore_n 1, 1) := by decide +kernel
theorem dX8_takeKind_9 : decode cX8_takeKind 9 = .ok (.iload_n 1, 1) := by decide +kernel
theorem dX8_takeKind_10 : decode cX8_takeKind 10 = .ok (.bipush 62, 2) := by decide +kernel
theorem dX8_takeKind_12 : decode cX8_takeKind 12 = .ok (.if_icmp .ne 7, 3) := by decide +kernel
theorem dX8_takeKind_15 : decode cX8_takeKind 15 = .ok (.iconst 0, 1) := by decide +kernel
theorem dX8_takeKind_16 : decode cX8_takeKind 16 = .ok (.goto 54, 3) := by decide +kernel
theorem dX8_takeKind_19 : decode cX8_takeKind 19 = .ok (.iload_n 1, 1) := by decide +kernel
theorem dX8_takeKind_20 : decode cX8_takeKind 20 = .ok (.bipush 47, 2) := by decide +kernel
theorem dX8_takeKind_22 : decode cX8_takeKind 22 = .ok (.if_icmp .ne 7, 3) := by decide +kernel
theorem dX8_takeKind_25 : decode cX8_takeKind 25 = .ok (.iconst 1, 1) := by decide +kernel
theorem dX8_takeKind_26 : decode cX8_takeKind 26 = .ok (.goto 44, 3) := by decide +kernel
theorem dX8_takeKind_29 : decode cX8_takeKind 29 = .ok (.iload_n 1, 1) := by decide +kernel
theorem dX8_takeKind_30 : decode cX8_takeKind 30 = .ok (.bipush 61, 2) := by decide +kernel
theorem dX8_takeKind_32 : decode cX8_takeKind 32 = .ok (.if_icmp .ne 7, 3) := by decide +kernel
theorem dX8_takeKind_35 : decode cX8_takeKind 35 = .ok (.iconst 2, 1) := by decide +kernel
theorem dX8_takeKind_36 : decode cX8_takeKind 36 = .ok (.goto 34, 3) := by decide +kernel
theorem dX8_takeKind_39 : decode cX8_takeKind 39 = .ok (.iload_n 1, 1) := by decide +kernel
theorem dX8_takeKind_40 : decode cX8_takeKind 40 = .ok (.bipush 126, 2) := by decide +kernel
theorem dX8_takeKind_42 : decode cX8_takeKind 42 = .ok (.if_icmp .ne 7, 3) := by decide +kernel
theorem dX8_takeKind_45 : decode cX8_takeKind 45 = .ok (.iconst 3, 1) := by decide +kernel
theorem dX8_takeKind_46 : decode cX8_takeKind 46 = .ok (.goto 24, 3) := by decide +kernel
theorem dX8_takeKind_49 : decode cX8_takeKind 49 = .ok (.iload_n 1, 1) := by decide +kernel
theorem dX8_takeKind_50 : decode cX8_takeKind 50 = .ok (.bipush 35, 2) := by decide +kernel
theorem dX8_takeKind_52 : decode cX8_takeKind 52 = .ok (.if_icmp .ne 7, 3) := by decide +kernel
theorem dX8_takeKind_55 : decode cX8_takeKind 55 = .ok (.iconst 4, 1) := by decide +kernel
theorem dX8_takeKind_56 : decode cX8_takeKind 56 = .ok (.goto 14, 3) := by decide +kernel
theorem dX8_takeKind_59 : decode cX8_takeKind 59 = .ok (.iload_n 1, 1) := by decide +kernel
theorem dX8_takeKind_60 : decode cX8_takeKind 60 = .ok (.bipush 42, 2) := by decide +kernel
theorem dX8_takeKind_62 : decode cX8_takeKind 62 = .ok (.if_icmp .ne 7, 3) := by decide +kernel
theorem dX8_takeKind_65 : decode cX8_takeKind 65 = .ok (.iconst 5, 1) := by decide +kernel
theorem dX8_takeKind_66 : decode cX8_takeKind 66 = .ok (.goto 4, 3) := by decide +kernel
theorem dX8_takeKind_69 : decode cX8_takeKind 69 = .ok (.iconst (-1), 1) := by decide +kernel
theorem dX8_takeKind_70 : decode cX8_takeKind 70 = .ok (.istore_n 2, 1) := by decide +kernel
theorem dX8_takeKind_71 : decode cX8_takeKind 71 = .ok (.aload_n 0, 1) := by decide +kernel
theorem dX8_takeKind_72 : decode cX8_takeKind 72 = .ok (.dup, 1) := by decide +kernel
theorem dX8_takeKind_73 : decode cX8_takeKind 73 = .ok (.getfield 115, 3) := by decide +kernel
theorem dX8_takeKind_76 : decode cX8_takeKind 76 = .ok (.iload_n 2, 1) := by decide +kernel
theorem dX8_takeKind_77 : decode cX8_takeKind 77 = .ok (.ifCond .ge 7, 3) := by decide +kernel
theorem dX8_takeKind_80 : decode cX8_takeKind 80 = .ok (.iconst 0, 1) := by decide +kernel
theorem dX8_takeKind_81 : decode cX8_takeKind 81 = .ok (.goto 4, 3) := by decide +kernel
theorem dX8_takeKind_84 : decode cX8_takeKind 84 = .ok (.iconst 1, 1) := by decide +kernel
theorem dX8_takeKind_85 : decode cX8_takeKind 85 = .ok (.iadd, 1) := by decide +kernel
theorem dX8_takeKind_86 : decode cX8_takeKind 86 = .ok (.putfield 115, 3) := by decide +kernel
theorem dX8_takeKind_89 : decode cX8_takeKind 89 = .ok (.iload_n 2, 1) := by decide +kernel
theorem dX8_takeKind_90 : decode cX8_takeKind 90 = .ok (.ireturn, 1) := by decide +kernel
theorem dX8_readsRumour_0 : decode cX8_readsRumour 0 = .ok (.aload_n 0, 1) := by decide +kernel
theorem dX8_readsRumour_1 : decode cX8_readsRumour 1 = .ok (.aload_n 0, 1) := by decide +kernel
theorem dX8_readsRumour_2 : decode cX8_readsRumour 2 = .ok (.iconst 5, 1) := by decide +kernel
theorem dX8_readsRumour_3 : decode cX8_readsRumour 3 = .ok (.invokevirtual 184, 3) := by decide +kernel
theorem dX8_readsRumour_6 : decode cX8_readsRumour 6 = .ok (.putfield 128, 3) := by decide +kernel
theorem dX8_readsRumour_9 : decode cX8_readsRumour 9 = .ok (.aload_n 0, 1) := by decide +kernel
theorem dX8_readsRumour_10 : decode cX8_readsRumour 10 = .ok (.aload_n 0, 1) := by decide +kernel
theorem dX8_readsRumour_11 : decode cX8_readsRumour 11 = .ok (.getfield 128, 3) := by decide +kernel
theorem dX8_readsRumour_14 : decode cX8_readsRumour 14 = .ok (.ifCond .lt 20, 3) := by decide +kernel
theorem dX8_readsRumour_17 : decode cX8_readsRumour 17 = .ok (.aload_n 0, 1) := by decide +kernel
theorem dX8_readsRumour_18 : decode cX8_readsRumour 18 = .ok (.bipush 58, 2) := by decide +kernel
theorem dX8_readsRumour_20 : decode cX8_readsRumour 20 = .ok (.invokevirtual 125, 3) := by decide +kernel
theorem dX8_readsRumour_23 : decode cX8_readsRumour 23 = .ok (.ifCond .eq 11, 3) := by decide +kernel
theorem dX8_readsRumour_26 : decode cX8_readsRumour 26 = .ok (.aload_n 0, 1) := by decide +kernel
theorem dX8_readsRumour_27 : decode cX8_readsRumour 27 = .ok (.iconst 5, 1) := by decide +kernel
theorem dX8_readsRumour_28 : decode cX8_readsRumour 28 = .ok (.invokevirtual 184, 3) := by decide +kernel
theorem dX8_readsRumour_31 : decode cX8_readsRumour 31 = .ok (.goto 4, 3) := by decide +kernel
theorem dX8_readsRumour_34 : decode cX8_readsRumour 34 = .ok (.iconst (-1), 1) := by decide +kernel
theorem dX8_readsRumour_35 : decode cX8_readsRumour 35 = .ok (.putfield 134, 3) := by decide +kernel
theorem dX8_readsRumour_38 : decode cX8_readsRumour 38 = .ok (.aload_n 0, 1) := by decide +kernel
theorem dX8_readsRumour_39 : decode cX8_readsRumour 39 = .ok (.aload_n 0, 1) := by decide +kernel
theorem dX8_readsRumour_40 : decode cX8_readsRumour 40 = .ok (.getfield 134, 3) := by decide +kernel
theorem dX8_readsRumour_43 : decode cX8_readsRumour 43 = .ok (.ifCond .lt 10, 3) := by decide +kernel
theorem dX8_readsRumour_46 : decode cX8_readsRumour 46 = .ok (.aload_n 0, 1) := by decide +kernel
theorem dX8_readsRumour_47 : decode cX8_readsRumour 47 = .ok (.invokevirtual 187, 3) := by decide +kernel
theorem dX8_readsRumour_50 : decode cX8_readsRumour 50 = .ok (.goto 4, 3) := by decide +kernel
theorem dX8_readsRumour_53 : decode cX8_readsRumour 53 = .ok (.iconst (-1), 1) := by decide +kernel
theorem dX8_readsRumour_54 : decode cX8_readsRumour 54 = .ok (.putfield 131, 3) := by decide +kernel
theorem dX8_readsRumour_57 : decode cX8_readsRumour 57 = .ok (.aload_n 0, 1) := by decide +kernel
theorem dX8_readsRumour_58 : decode cX8_readsRumour 58 = .ok (.aload_n 0, 1) := by decide +kernel
theorem dX8_readsRumour_59 : decode cX8_readsRumour 59 = .ok (.getfield 131, 3) := by decide +kernel
theorem dX8_readsRumour_62 : decode cX8_readsRumour 62 = .ok (.ifCond .lt 29, 3) := by decide +kernel
theorem dX8_readsRumour_65 : decode cX8_readsRumour 65 = .ok (.aload_n 0, 1) := by decide +kernel
theorem dX8_readsRumour_66 : decode cX8_readsRumour 66 = .ok (.getfield 131, 3) := by decide +kernel
theorem dX8_readsRumour_69 : decode cX8_readsRumour 69 = .ok (.iconst 4, 1) := by decide +kernel
theorem dX8_readsRumour_70 : decode cX8_readsRumour 70 = .ok (.if_icmp .ge 25, 3) := by decide +kernel
theorem dX8_readsRumour_73 : decode cX8_readsRumour 73 = .ok (.aload_n 0, 1) := by decide +kernel
theorem dX8_readsRumour_74 : decode cX8_readsRumour 74 = .ok (.aload_n 0, 1) := by decide +kernel
theorem dX8_readsRumour_75 : decode cX8_readsRumour 75 = .ok (.getfield 115, 3) := by decide +kernel
theorem dX8_readsRumour_78 : decode cX8_readsRumour 78 = .ok (.invokevirtual 181, 3) := by decide +kernel
theorem dX8_readsRumour_81 : decode cX8_readsRumour 81 = .ok (.bipush 48, 2) := by decide +kernel
theorem dX8_readsRumour_83 : decode cX8_readsRumour 83 = .ok (.isub, 1) := by decide +kernel
theorem dX8_readsRumour_84 : decode cX8_readsRumour 84 = .ok (.aload_n 0, 1) := by decide +kernel
theorem dX8_readsRumour_85 : decode cX8_readsRumour 85 = .ok (.getfield 134, 3) := by decide +kernel
theorem dX8_readsRumour_88 : decode cX8_readsRumour 88 = .ok (.if_icmp .ne 7, 3) := by decide +kernel
theorem dX8_readsRumour_91 : decode cX8_readsRumour 91 = .ok (.iconst (-1), 1) := by decide +kernel
theorem dX8_readsRumour_92 : decode cX8_readsRumour 92 = .ok (.goto 21, 3) := by decide +kernel
theorem dX8_readsRumour_95 : decode cX8_readsRumour 95 = .ok (.aload_n 0, 1) := by decide +kernel
theorem dX8_readsRumour_96 : decode cX8_readsRumour 96 = .ok (.aload_n 0, 1) := by decide +kernel
theorem dX8_readsRumour_97 : decode cX8_readsRumour 97 = .ok (.getfield 131, 3) := by decide +kernel
theorem dX8_readsRumour_100 : decode cX8_readsRumour 100 = .ok (.iconst 4, 1) := by decide +kernel
theorem dX8_readsRumour_101 : decode cX8_readsRumour 101 = .ok (.if_icmp .ne 8, 3) := by decide +kernel
theorem dX8_readsRumour_104 : decode cX8_readsRumour 104 = .ok (.bipush 6, 2) := by decide +kernel
theorem dX8_readsRumour_106 : decode cX8_readsRumour 106 = .ok (.goto 4, 3) := by decide +kernel
theorem dX8_readsRumour_109 : decode cX8_readsRumour 109 = .ok (.iconst 5, 1) := by decide +kernel
theorem dX8_readsRumour_110 : decode cX8_readsRumour 110 = .ok (.invokevirtual 184, 3) := by decide +kernel
theorem dX8_readsRumour_113 : decode cX8_readsRumour 113 = .ok (.putfield 137, 3) := by decide +kernel
theorem dX8_readsRumour_116 : decode cX8_readsRumour 116 = .ok (.aload_n 0, 1) := by decide +kernel
theorem dX8_readsRumour_117 : decode cX8_readsRumour 117 = .ok (.getfield 137, 3) := by decide +kernel
theorem dX8_readsRumour_120 : decode cX8_readsRumour 120 = .ok (.ifCond .lt 7, 3) := by decide +kernel
theorem dX8_readsRumour_123 : decode cX8_readsRumour 123 = .ok (.iconst 1, 1) := by decide +kernel
theorem dX8_readsRumour_124 : decode cX8_readsRumour 124 = .ok (.goto 4, 3) := by decide +kernel
theorem dX8_readsRumour_127 : decode cX8_readsRumour 127 = .ok (.iconst 0, 1) := by decide +kernel
theorem dX8_readsRumour_128 : decode cX8_readsRumour 128 = .ok (.ireturn, 1) := by decide +kernel
theorem dX8_findFault_0 : decode cX8_findFault 0 = .ok (.aload_n 0, 1) := by decide +kernel
theorem dX8_findFault_1 : decode cX8_findFault 1 = .ok (.iconst 0, 1) := by decide +kernel
theorem dX8_findFault_2 : decode cX8_findFault 2 = .ok (.putfield 115, 3) := by decide +kernel
theorem dX8_findFault_5 : decode cX8_findFault 5 = .ok (.aload_n 0, 1) := by decide +kernel
theorem dX8_findFault_6 : decode cX8_findFault 6 = .ok (.invokevirtual 121, 3) := by decide +kernel
theorem dX8_findFault_9 : decode cX8_findFault 9 = .ok (.ifCond .ne 8, 3) := by decide +kernel
theorem dX8_findFault_12 : decode cX8_findFault 12 = .ok (.aload_n 0, 1) := by decide +kernel
theorem dX8_findFault_13 : decode cX8_findFault 13 = .ok (.getfield 115, 3) := by decide +kernel
theorem dX8_findFault_16 : decode cX8_findFault 16 = .ok (.ireturn, 1) := by decide +kernel
theorem dX8_findFault_17 : decode cX8_findFault 17 = .ok (.aload_n 0, 1) := by decide +kernel
theorem dX8_findFault_18 : decode cX8_findFault 18 = .ok (.getfield 115, 3) := by decide +kernel
theorem dX8_findFault_21 : decode cX8_findFault 21 = .ok (.aload_n 0, 1) := by decide +kernel
theorem dX8_findFault_22 : decode cX8_findFault 22 = .ok (.getfield 118, 3) := by decide +kernel
theorem dX8_findFault_25 : decode cX8_findFault 25 = .ok (.if_icmp .ne 6, 3) := by decide +kernel
theorem dX8_findFault_28 : decode cX8_findFault 28 = .ok (.bipush (-6), 2) := by decide +kernel
theorem dX8_findFault_30 : decode cX8_findFault 30 = .ok (.ireturn, 1) := by decide +kernel
theorem dX8_findFault_31 : decode cX8_findFault 31 = .ok (.aload_n 0, 1) := by decide +kernel
theorem dX8_findFault_32 : decode cX8_findFault 32 = .ok (.bipush 44, 2) := by decide +kernel
theorem dX8_findFault_34 : decode cX8_findFault 34 = .ok (.invokevirtual 125, 3) := by decide +kernel
theorem dX8_findFault_37 : decode cX8_findFault 37 = .ok (.ifCond .ne (-32), 3) := by decide +kernel
theorem dX8_findFault_40 : decode cX8_findFault 40 = .ok (.aload_n 0, 1) := by decide +kernel
theorem dX8_findFault_41 : decode cX8_findFault 41 = .ok (.getfield 115, 3) := by decide +kernel
theorem dX8_findFault_44 : decode cX8_findFault 44 = .ok (.ireturn, 1) := by decide +kernel
theorem dX8_fault_0 : decode cX8_fault 0 = .ok (.aload_n 0, 1) := by decide +kernel
theorem dX8_fault_1 : decode cX8_fault 1 = .ok (.invokevirtual 140, 3) := by decide +kernel
theorem dX8_fault_4 : decode cX8_fault 4 = .ok (.ireturn, 1) := by decide +kernel
theorem dX8_undo_0 : decode cX8_undo 0 = .ok (.aload_n 0, 1) := by decide +kernel
theorem dX8_undo_1 : decode cX8_undo 1 = .ok (.getfield 41, 3) := by decide +kernel
theorem dX8_undo_4 : decode cX8_undo 4 = .ok (.ifCond .ne 6, 3) := by decide +kernel
theorem dX8_undo_7 : decode cX8_undo 7 = .ok (.bipush (-5), 2) := by decide +kernel
theorem dX8_undo_9 : decode cX8_undo 9 = .ok (.ireturn, 1) := by decide +kernel
theorem dX8_undo_10 : decode cX8_undo 10 = .ok (.aload_n 0, 1) := by decide +kernel
theorem dX8_undo_11 : decode cX8_undo 11 = .ok (.dup, 1) := by decide +kernel
theorem dX8_undo_12 : decode cX8_undo 12 = .ok (.getfield 41, 3) := by decide +kernel
theorem dX8_undo_15 : decode cX8_undo 15 = .ok (.iconst 1, 1) := by decide +kernel
theorem dX8_undo_16 : decode cX8_undo 16 = .ok (.isub, 1) := by decide +kernel
theorem dX8_undo_17 : decode cX8_undo 17 = .ok (.putfield 41, 3) := by decide +kernel
theorem dX8_undo_20 : decode cX8_undo 20 = .ok (.aload_n 0, 1) := by decide +kernel
theorem dX8_undo_21 : decode cX8_undo 21 = .ok (.getfield 13, 3) := by decide +kernel
theorem dX8_undo_24 : decode cX8_undo 24 = .ok (.aload_n 0, 1) := by decide +kernel
theorem dX8_undo_25 : decode cX8_undo 25 = .ok (.getfield 41, 3) := by decide +kernel
theorem dX8_undo_28 : decode cX8_undo 28 = .ok (.bipush 121, 2) := by decide +kernel
theorem dX8_undo_30 : decode cX8_undo 30 = .ok (.imul, 1) := by decide +kernel
theorem dX8_undo_31 : decode cX8_undo 31 = .ok (.aload_n 0, 1) := by decide +kernel
theorem dX8_undo_32 : decode cX8_undo 32 = .ok (.getfield 7, 3) := by decide +kernel
theorem dX8_undo_35 : decode cX8_undo 35 = .ok (.iconst 0, 1) := by decide +kernel
theorem dX8_undo_36 : decode cX8_undo 36 = .ok (.invokestatic 45, 3) := by decide +kernel
theorem dX8_undo_39 : decode cX8_undo 39 = .ok (.aload_n 0, 1) := by decide +kernel
theorem dX8_undo_40 : decode cX8_undo 40 = .ok (.getfield 41, 3) := by decide +kernel
theorem dX8_undo_43 : decode cX8_undo 43 = .ok (.ireturn, 1) := by decide +kernel
theorem dX8_save_0 : decode cX8_save 0 = .ok (.iload_n 1, 1) := by decide +kernel
theorem dX8_save_1 : decode cX8_save 1 = .ok (.iconst 0, 1) := by decide +kernel
theorem dX8_save_2 : decode cX8_save 2 = .ok (.iconst 1, 1) := by decide +kernel
theorem dX8_save_3 : decode cX8_save 3 = .ok (.invokestatic 49, 3) := by decide +kernel
theorem dX8_save_6 : decode cX8_save 6 = .ok (.ifCond .ne 6, 3) := by decide +kernel
theorem dX8_save_9 : decode cX8_save 9 = .ok (.bipush (-2), 2) := by decide +kernel
theorem dX8_save_11 : decode cX8_save 11 = .ok (.ireturn, 1) := by decide +kernel
theorem dX8_save_12 : decode cX8_save 12 = .ok (.aload_n 0, 1) := by decide +kernel
theorem dX8_save_13 : decode cX8_save 13 = .ok (.getfield 7, 3) := by decide +kernel
theorem dX8_save_16 : decode cX8_save 16 = .ok (.iconst 0, 1) := by decide +kernel
theorem dX8_save_17 : decode cX8_save 17 = .ok (.aload_n 0, 1) := by decide +kernel
theorem dX8_save_18 : decode cX8_save 18 = .ok (.getfield 16, 3) := by decide +kernel
theorem dX8_save_21 : decode cX8_save 21 = .ok (.bipush 121, 2) := by decide +kernel
theorem dX8_save_23 : decode cX8_save 23 = .ok (.iload_n 1, 1) := by decide +kernel
theorem dX8_save_24 : decode cX8_save 24 = .ok (.imul, 1) := by decide +kernel
theorem dX8_save_25 : decode cX8_save 25 = .ok (.invokestatic 45, 3) := by decide +kernel
theorem dX8_save_28 : decode cX8_save 28 = .ok (.aload_n 0, 1) := by decide +kernel
theorem dX8_save_29 : decode cX8_save 29 = .ok (.getfield 19, 3) := by decide +kernel
theorem dX8_save_32 : decode cX8_save 32 = .ok (.iload_n 1, 1) := by decide +kernel
theorem dX8_save_33 : decode cX8_save 33 = .ok (.iconst 1, 1) := by decide +kernel
theorem dX8_save_34 : decode cX8_save 34 = .ok (.iastore, 1) := by decide +kernel
theorem dX8_save_35 : decode cX8_save 35 = .ok (.aload_n 0, 1) := by decide +kernel
theorem dX8_save_36 : decode cX8_save 36 = .ok (.getfield 7, 3) := by decide +kernel
theorem dX8_save_39 : decode cX8_save 39 = .ok (.iconst 1, 1) := by decide +kernel
theorem dX8_save_40 : decode cX8_save 40 = .ok (.iaload, 1) := by decide +kernel
theorem dX8_save_41 : decode cX8_save 41 = .ok (.ireturn, 1) := by decide +kernel
theorem dX8_restore_0 : decode cX8_restore 0 = .ok (.iload_n 1, 1) := by decide +kernel
theorem dX8_restore_1 : decode cX8_restore 1 = .ok (.iconst 0, 1) := by decide +kernel
theorem dX8_restore_2 : decode cX8_restore 2 = .ok (.iconst 1, 1) := by decide +kernel
theorem dX8_restore_3 : decode cX8_restore 3 = .ok (.invokestatic 49, 3) := by decide +kernel
theorem dX8_restore_6 : decode cX8_restore 6 = .ok (.ifCond .ne 6, 3) := by decide +kernel
theorem dX8_restore_9 : decode cX8_restore 9 = .ok (.bipush (-2), 2) := by decide +kernel
theorem dX8_restore_11 : decode cX8_restore 11 = .ok (.ireturn, 1) := by decide +kernel
theorem dX8_restore_12 : decode cX8_restore 12 = .ok (.aload_n 0, 1) := by decide +kernel
theorem dX8_restore_13 : decode cX8_restore 13 = .ok (.getfield 19, 3) := by decide +kernel
theorem dX8_restore_16 : decode cX8_restore 16 = .ok (.iload_n 1, 1) := by decide +kernel
theorem dX8_restore_17 : decode cX8_restore 17 = .ok (.iaload, 1) := by decide +kernel
theorem dX8_restore_18 : decode cX8_restore 18 = .ok (.ifCond .ne 6, 3) := by decide +kernel
theorem dX8_restore_21 : decode cX8_restore 21 = .ok (.bipush (-5), 2) := by decide +kernel
theorem dX8_restore_23 : decode cX8_restore 23 = .ok (.ireturn, 1) := by decide +kernel
theorem dX8_restore_24 : decode cX8_restore 24 = .ok (.aload_n 0, 1) := by decide +kernel
theorem dX8_restore_25 : decode cX8_restore 25 = .ok (.invokevirtual 105, 3) := by decide +kernel
theorem dX8_restore_28 : decode cX8_restore 28 = .ok (.aload_n 0, 1) := by decide +kernel
theorem dX8_restore_29 : decode cX8_restore 29 = .ok (.getfield 16, 3) := by decide +kernel
theorem dX8_restore_32 : decode cX8_restore 32 = .ok (.bipush 121, 2) := by decide +kernel
theorem dX8_restore_34 : decode cX8_restore 34 = .ok (.iload_n 1, 1) := by decide +kernel
theorem dX8_restore_35 : decode cX8_restore 35 = .ok (.imul, 1) := by decide +kernel
theorem dX8_restore_36 : decode cX8_restore 36 = .ok (.aload_n 0, 1) := by decide +kernel
theorem dX8_restore_37 : decode cX8_restore 37 = .ok (.getfield 7, 3) := by decide +kernel
theorem dX8_restore_40 : decode cX8_restore 40 = .ok (.iconst 0, 1) := by decide +kernel
theorem dX8_restore_41 : decode cX8_restore 41 = .ok (.invokestatic 45, 3) := by decide +kernel
theorem dX8_restore_44 : decode cX8_restore 44 = .ok (.aload_n 0, 1) := by decide +kernel
theorem dX8_restore_45 : decode cX8_restore 45 = .ok (.getfield 7, 3) := by decide +kernel
theorem dX8_restore_48 : decode cX8_restore 48 = .ok (.iconst 1, 1) := by decide +kernel
theorem dX8_restore_49 : decode cX8_restore 49 = .ok (.iaload, 1) := by decide +kernel
theorem dX8_restore_50 : decode cX8_restore 50 = .ok (.ireturn, 1) := by decide +kernel
theorem dJ11_isValidCodePoint_9a6ad_0 : decode cJ11_isValidCodePoint_9a6ad 0 = .ok (.iload_n 0, 1) := by decide +kernel
theorem dJ11_isValidCodePoint_9a6ad_1 : decode cJ11_isValidCodePoint_9a6ad 1 = .ok (.bipush 16, 2) := by decide +kernel
theorem dJ11_isValidCodePoint_9a6ad_3 : decode cJ11_isValidCodePoint_9a6ad 3 = .ok (.iushr, 1) := by decide +kernel
theorem dJ11_isValidCodePoint_9a6ad_4 : decode cJ11_isValidCodePoint_9a6ad 4 = .ok (.istore_n 1, 1) := by decide +kernel
theorem dJ11_isValidCodePoint_9a6ad_5 : decode cJ11_isValidCodePoint_9a6ad 5 = .ok (.iload_n 1, 1) := by decide +kernel
theorem dJ11_isValidCodePoint_9a6ad_6 : decode cJ11_isValidCodePoint_9a6ad 6 = .ok (.bipush 17, 2) := by decide +kernel
theorem dJ11_isValidCodePoint_9a6ad_8 : decode cJ11_isValidCodePoint_9a6ad 8 = .ok (.if_icmp .ge 7, 3) := by decide +kernel
theorem dJ11_isValidCodePoint_9a6ad_11 : decode cJ11_isValidCodePoint_9a6ad 11 = .ok (.iconst 1, 1) := by decide +kernel
theorem dJ11_isValidCodePoint_9a6ad_12 : decode cJ11_isValidCodePoint_9a6ad 12 = .ok (.goto 4, 3) := by decide +kernel
theorem dJ11_isValidCodePoint_9a6ad_15 : decode cJ11_isValidCodePoint_9a6ad 15 = .ok (.iconst 0, 1) := by decide +kernel
theorem dJ11_isValidCodePoint_9a6ad_16 : decode cJ11_isValidCodePoint_9a6ad 16 = .ok (.ireturn, 1) := by decide +kernel
theorem dJ11_highSurrogate_5068e_0 : decode cJ11_highSurrogate_5068e 0 = .ok (.iload_n 0, 1) := by decide +kernel
theorem dJ11_highSurrogate_5068e_1 : decode cJ11_highSurrogate_5068e 1 = .ok (.bipush 10, 2) := by decide +kernel
theorem dJ11_highSurrogate_5068e_3 : decode cJ11_highSurrogate_5068e 3 = .ok (.iushr, 1) := by decide +kernel
theorem dJ11_highSurrogate_5068e_4 : decode cJ11_highSurrogate_5068e 4 = .ok (.ldc 110, 2) := by decide +kernel
theorem dJ11_highSurrogate_5068e_6 : decode cJ11_highSurrogate_5068e 6 = .ok (.iadd, 1) := by decide +kernel
theorem dJ11_highSurrogate_5068e_7 : decode cJ11_highSurrogate_5068e 7 = .ok (.i2c, 1) := by decide +kernel
theorem dJ11_highSurrogate_5068e_8 : decode cJ11_highSurrogate_5068e 8 = .ok (.ireturn, 1) := by decide +kernel
theorem dJ11_lowSurrogate_5068e_0 : decode cJ11_lowSurrogate_5068e 0 = .ok (.iload_n 0, 1) := by decide +kernel
theorem dJ11_lowSurrogate_5068e_1 : decode cJ11_lowSurrogate_5068e 1 = .ok (.sipush 1023, 3) := by decide +kernel
theorem dJ11_lowSurrogate_5068e_4 : decode cJ11_lowSurrogate_5068e 4 = .ok (.iand, 1) := by decide +kernel
theorem dJ11_lowSurrogate_5068e_5 : decode cJ11_lowSurrogate_5068e 5 = .ok (.ldc 76, 2) := by decide +kernel
theorem dJ11_lowSurrogate_5068e_7 : decode cJ11_lowSurrogate_5068e 7 = .ok (.iadd, 1) := by decide +kernel
theorem dJ11_lowSurrogate_5068e_8 : decode cJ11_lowSurrogate_5068e 8 = .ok (.i2c, 1) := by decide +kernel
theorem dJ11_lowSurrogate_5068e_9 : decode cJ11_lowSurrogate_5068e 9 = .ok (.ireturn, 1) := by decide +kernel
theorem dJ9_max_7cf53_0 : decode cJ9_max_7cf53 0 = .ok (.iload_n 0, 1) := by decide +kernel
theorem dJ9_max_7cf53_1 : decode cJ9_max_7cf53 1 = .ok (.iload_n 1, 1) := by decide +kernel
theorem dJ9_max_7cf53_2 : decode cJ9_max_7cf53 2 = .ok (.if_icmp .lt 7, 3) := by decide +kernel
theorem dJ9_max_7cf53_5 : decode cJ9_max_7cf53 5 = .ok (.iload_n 0, 1) := by decide +kernel
theorem dJ9_max_7cf53_6 : decode cJ9_max_7cf53 6 = .ok (.goto 4, 3) := by decide +kernel
theorem dJ9_max_7cf53_9 : decode cJ9_max_7cf53 9 = .ok (.iload_n 1, 1) := by decide +kernel
theorem dJ9_max_7cf53_10 : decode cJ9_max_7cf53 10 = .ok (.ireturn, 1) := by decide +kernel
theorem dJ9_min_7cf53_0 : decode cJ9_min_7cf53 0 = .ok (.iload_n 0, 1) := by decide +kernel
theorem dJ9_min_7cf53_1 : decode cJ9_min_7cf53 1 = .ok (.iload_n 1, 1) := by decide +kernel
theorem dJ9_min_7cf53_2 : decode cJ9_min_7cf53 2 = .ok (.if_icmp .gt 7, 3) := by decide +kernel
theorem dJ9_min_7cf53_5 : decode cJ9_min_7cf53 5 = .ok (.iload_n 0, 1) := by decide +kernel
theorem dJ9_min_7cf53_6 : decode cJ9_min_7cf53 6 = .ok (.goto 4, 3) := by decide +kernel
theorem dJ9_min_7cf53_9 : decode cJ9_min_7cf53 9 = .ok (.iload_n 1, 1) := by decide +kernel
theorem dJ9_min_7cf53_10 : decode cJ9_min_7cf53 10 = .ok (.ireturn, 1) := by decide +kernel
theorem dJ0_length_8abf5_0 : decode cJ0_length_8abf5 0 = .ok (.aload_n 0, 1) := by decide +kernel
theorem dJ0_length_8abf5_1 : decode cJ0_length_8abf5 1 = .ok (.getfield 9, 3) := by decide +kernel
theorem dJ0_length_8abf5_4 : decode cJ0_length_8abf5 4 = .ok (.arraylength, 1) := by decide +kernel
theorem dJ0_length_8abf5_5 : decode cJ0_length_8abf5 5 = .ok (.aload_n 0, 1) := by decide +kernel
theorem dJ0_length_8abf5_6 : decode cJ0_length_8abf5 6 = .ok (.invokevirtual 335, 3) := by decide +kernel
theorem dJ0_length_8abf5_9 : decode cJ0_length_8abf5 9 = .ok (.ishr, 1) := by decide +kernel
theorem dJ0_length_8abf5_10 : decode cJ0_length_8abf5 10 = .ok (.ireturn, 1) := by decide +kernel
theorem dJ0_indexOf_0f7a4_0 : decode cJ0_indexOf_0f7a4 0 = .ok (.aload_n 0, 1) := by decide +kernel
theorem dJ0_indexOf_0f7a4_1 : decode cJ0_indexOf_0f7a4 1 = .ok (.iload_n 1, 1) := by decide +kernel
theorem dJ0_indexOf_0f7a4_2 : decode cJ0_indexOf_0f7a4 2 = .ok (.iconst 0, 1) := by decide +kernel
theorem dJ0_indexOf_0f7a4_3 : decode cJ0_indexOf_0f7a4 3 = .ok (.invokevirtual 633, 3) := by decide +kernel
theorem dJ0_indexOf_0f7a4_6 : decode cJ0_indexOf_0f7a4 6 = .ok (.ireturn, 1) := by decide +kernel
theorem dJ0_indexOf_7cf53_0 : decode cJ0_indexOf_7cf53 0 = .ok (.aload_n 0, 1) := by decide +kernel
theorem dJ0_indexOf_7cf53_1 : decode cJ0_indexOf_7cf53 1 = .ok (.invokevirtual 492, 3) := by decide +kernel
theorem dJ0_indexOf_7cf53_4 : decode cJ0_indexOf_7cf53 4 = .ok (.ifCond .eq 19, 3) := by decide +kernel
theorem dJ0_indexOf_7cf53_7 : decode cJ0_indexOf_7cf53 7 = .ok (.aload_n 0, 1) := by decide +kernel
theorem dJ0_indexOf_7cf53_8 : decode cJ0_indexOf_7cf53 8 = .ok (.getfield 9, 3) := by decide +kernel
theorem dJ0_indexOf_7cf53_11 : decode cJ0_indexOf_7cf53 11 = .ok (.iload_n 1, 1) := by decide +kernel
theorem dJ0_indexOf_7cf53_12 : decode cJ0_indexOf_7cf53 12 = .ok (.iload_n 2, 1) := by decide +kernel
theorem dJ0_indexOf_7cf53_13 : decode cJ0_indexOf_7cf53 13 = .ok (.aload_n 0, 1) := by decide +kernel
theorem dJ0_indexOf_7cf53_14 : decode cJ0_indexOf_7cf53 14 = .ok (.invokevirtual 505, 3) := by decide +kernel
theorem dJ0_indexOf_7cf53_17 : decode cJ0_indexOf_7cf53 17 = .ok (.invokestatic 637, 3) := by decide +kernel
theorem dJ0_indexOf_7cf53_20 : decode cJ0_indexOf_7cf53 20 = .ok (.goto 16, 3) := by decide +kernel
theorem dJ0_indexOf_7cf53_23 : decode cJ0_indexOf_7cf53 23 = .ok (.aload_n 0, 1) := by decide +kernel
theorem dJ0_indexOf_7cf53_24 : decode cJ0_indexOf_7cf53 24 = .ok (.getfield 9, 3) := by decide +kernel
theorem dJ0_indexOf_7cf53_27 : decode cJ0_indexOf_7cf53 27 = .ok (.iload_n 1, 1) := by decide +kernel
theorem dJ0_indexOf_7cf53_28 : decode cJ0_indexOf_7cf53 28 = .ok (.iload_n 2, 1) := by decide +kernel
theorem dJ0_indexOf_7cf53_29 : decode cJ0_indexOf_7cf53 29 = .ok (.aload_n 0, 1) := by decide +kernel
theorem dJ0_indexOf_7cf53_30 : decode cJ0_indexOf_7cf53 30 = .ok (.invokevirtual 505, 3) := by decide +kernel
theorem dJ0_indexOf_7cf53_33 : decode cJ0_indexOf_7cf53 33 = .ok (.invokestatic 640, 3) := by decide +kernel
theorem dJ0_indexOf_7cf53_36 : decode cJ0_indexOf_7cf53 36 = .ok (.ireturn, 1) := by decide +kernel
theorem dJ0_coder_7d493_0 : decode cJ0_coder_7d493 0 = .ok (.getstatic 38, 3) := by decide +kernel
theorem dJ0_coder_7d493_3 : decode cJ0_coder_7d493 3 = .ok (.ifCond .eq 10, 3) := by decide +kernel
theorem dJ0_coder_7d493_6 : decode cJ0_coder_7d493 6 = .ok (.aload_n 0, 1) := by decide +kernel
theorem dJ0_coder_7d493_7 : decode cJ0_coder_7d493 7 = .ok (.getfield 15, 3) := by decide +kernel
theorem dJ0_coder_7d493_10 : decode cJ0_coder_7d493 10 = .ok (.goto 4, 3) := by decide +kernel
theorem dJ0_coder_7d493_13 : decode cJ0_coder_7d493 13 = .ok (.iconst 1, 1) := by decide +kernel
theorem dJ0_coder_7d493_14 : decode cJ0_coder_7d493 14 = .ok (.ireturn, 1) := by decide +kernel
theorem dJ0_isLatin1_aae02_0 : decode cJ0_isLatin1_aae02 0 = .ok (.getstatic 38, 3) := by decide +kernel
theorem dJ0_isLatin1_aae02_3 : decode cJ0_isLatin1_aae02 3 = .ok (.ifCond .eq 14, 3) := by decide +kernel
theorem dJ0_isLatin1_aae02_6 : decode cJ0_isLatin1_aae02 6 = .ok (.aload_n 0, 1) := by decide +kernel
theorem dJ0_isLatin1_aae02_7 : decode cJ0_isLatin1_aae02 7 = .ok (.getfield 15, 3) := by decide +kernel
theorem dJ0_isLatin1_aae02_10 : decode cJ0_isLatin1_aae02 10 = .ok (.ifCond .ne 7, 3) := by decide +kernel
theorem dJ0_isLatin1_aae02_13 : decode cJ0_isLatin1_aae02 13 = .ok (.iconst 1, 1) := by decide +kernel
theorem dJ0_isLatin1_aae02_14 : decode cJ0_isLatin1_aae02 14 = .ok (.goto 4, 3) := by decide +kernel
theorem dJ0_isLatin1_aae02_17 : decode cJ0_isLatin1_aae02 17 = .ok (.iconst 0, 1) := by decide +kernel
theorem dJ0_isLatin1_aae02_18 : decode cJ0_isLatin1_aae02 18 = .ok (.ireturn, 1) := by decide +kernel
theorem dJ0_checkBoundsBeginEnd_23922_0 : decode cJ0_checkBoundsBeginEnd_23922 0 = .ok (.iload_n 0, 1) := by decide +kernel
theorem dJ0_checkBoundsBeginEnd_23922_1 : decode cJ0_checkBoundsBeginEnd_23922 1 = .ok (.iload_n 1, 1) := by decide +kernel
theorem dJ0_checkBoundsBeginEnd_23922_2 : decode cJ0_checkBoundsBeginEnd_23922 2 = .ok (.iload_n 2, 1) := by decide +kernel
theorem dJ0_checkBoundsBeginEnd_23922_3 : decode cJ0_checkBoundsBeginEnd_23922 3 = .ok (.getstatic 1053, 3) := by decide +kernel
theorem dJ0_checkBoundsBeginEnd_23922_6 : decode cJ0_checkBoundsBeginEnd_23922 6 = .ok (.invokestatic 1062, 3) := by decide +kernel
theorem dJ0_checkBoundsBeginEnd_23922_9 : decode cJ0_checkBoundsBeginEnd_23922 9 = .ok (.pop, 1) := by decide +kernel
theorem dJ0_checkBoundsBeginEnd_23922_10 : decode cJ0_checkBoundsBeginEnd_23922 10 = .ok (.return_, 1) := by decide +kernel
theorem dJ1_canEncode_9a6ad_0 : decode cJ1_canEncode_9a6ad 0 = .ok (.iload_n 0, 1) := by decide +kernel
theorem dJ1_canEncode_9a6ad_1 : decode cJ1_canEncode_9a6ad 1 = .ok (.ifCond .lt 14, 3) := by decide +kernel
theorem dJ1_canEncode_9a6ad_4 : decode cJ1_canEncode_9a6ad 4 = .ok (.iload_n 0, 1) := by decide +kernel
theorem dJ1_canEncode_9a6ad_5 : decode cJ1_canEncode_9a6ad 5 = .ok (.sipush 255, 3) := by decide +kernel
theorem dJ1_canEncode_9a6ad_8 : decode cJ1_canEncode_9a6ad 8 = .ok (.if_icmp .gt 7, 3) := by decide +kernel
theorem dJ1_canEncode_9a6ad_11 : decode cJ1_canEncode_9a6ad 11 = .ok (.iconst 1, 1) := by decide +kernel
theorem dJ1_canEncode_9a6ad_12 : decode cJ1_canEncode_9a6ad 12 = .ok (.goto 4, 3) := by decide +kernel
theorem dJ1_canEncode_9a6ad_15 : decode cJ1_canEncode_9a6ad 15 = .ok (.iconst 0, 1) := by decide +kernel
theorem dJ1_canEncode_9a6ad_16 : decode cJ1_canEncode_9a6ad 16 = .ok (.ireturn, 1) := by decide +kernel
theorem dJ1_indexOf_4cfef_0 : decode cJ1_indexOf_4cfef 0 = .ok (.iload_n 1, 1) := by decide +kernel
theorem dJ1_indexOf_4cfef_1 : decode cJ1_indexOf_4cfef 1 = .ok (.invokestatic 88, 3) := by decide +kernel
theorem dJ1_indexOf_4cfef_4 : decode cJ1_indexOf_4cfef 4 = .ok (.ifCond .ne 5, 3) := by decide +kernel
theorem dJ1_indexOf_4cfef_7 : decode cJ1_indexOf_4cfef 7 = .ok (.iconst (-1), 1) := by decide +kernel
theorem dJ1_indexOf_4cfef_8 : decode cJ1_indexOf_4cfef 8 = .ok (.ireturn, 1) := by decide +kernel
theorem dJ1_indexOf_4cfef_9 : decode cJ1_indexOf_4cfef 9 = .ok (.iload_n 2, 1) := by decide +kernel
theorem dJ1_indexOf_4cfef_10 : decode cJ1_indexOf_4cfef 10 = .ok (.iconst 0, 1) := by decide +kernel
theorem dJ1_indexOf_4cfef_11 : decode cJ1_indexOf_4cfef 11 = .ok (.invokestatic 92, 3) := by decide +kernel
theorem dJ1_indexOf_4cfef_14 : decode cJ1_indexOf_4cfef 14 = .ok (.istore_n 2, 1) := by decide +kernel
theorem dJ1_indexOf_4cfef_15 : decode cJ1_indexOf_4cfef 15 = .ok (.iload_n 3, 1) := by decide +kernel
theorem dJ1_indexOf_4cfef_16 : decode cJ1_indexOf_4cfef 16 = .ok (.aload_n 0, 1) := by decide +kernel
theorem dJ1_indexOf_4cfef_17 : decode cJ1_indexOf_4cfef 17 = .ok (.arraylength, 1) := by decide +kernel
theorem dJ1_indexOf_4cfef_18 : decode cJ1_indexOf_4cfef 18 = .ok (.invokestatic 38, 3) := by decide +kernel
theorem dJ1_indexOf_4cfef_21 : decode cJ1_indexOf_4cfef 21 = .ok (.istore_n 3, 1) := by decide +kernel
theorem dJ1_indexOf_4cfef_22 : decode cJ1_indexOf_4cfef 22 = .ok (.iload_n 2, 1) := by decide +kernel
theorem dJ1_indexOf_4cfef_23 : decode cJ1_indexOf_4cfef 23 = .ok (.iload_n 3, 1) := by decide +kernel
theorem dJ1_indexOf_4cfef_24 : decode cJ1_indexOf_4cfef 24 = .ok (.if_icmp .lt 5, 3) := by decide +kernel
theorem dJ1_indexOf_4cfef_27 : decode cJ1_indexOf_4cfef 27 = .ok (.iconst (-1), 1) := by decide +kernel
theorem dJ1_indexOf_4cfef_28 : decode cJ1_indexOf_4cfef 28 = .ok (.ireturn, 1) := by decide +kernel
theorem dJ1_indexOf_4cfef_29 : decode cJ1_indexOf_4cfef 29 = .ok (.aload_n 0, 1) := by decide +kernel
theorem dJ1_indexOf_4cfef_30 : decode cJ1_indexOf_4cfef 30 = .ok (.iload_n 1, 1) := by decide +kernel
theorem dJ1_indexOf_4cfef_31 : decode cJ1_indexOf_4cfef 31 = .ok (.iload_n 2, 1) := by decide +kernel
theorem dJ1_indexOf_4cfef_32 : decode cJ1_indexOf_4cfef 32 = .ok (.iload_n 3, 1) := by decide +kernel
theorem dJ1_indexOf_4cfef_33 : decode cJ1_indexOf_4cfef 33 = .ok (.invokestatic 95, 3) := by decide +kernel
theorem dJ1_indexOf_4cfef_36 : decode cJ1_indexOf_4cfef 36 = .ok (.ireturn, 1) := by decide +kernel
theorem dJ1_indexOfChar_4cfef_0 : decode cJ1_indexOfChar_4cfef 0 = .ok (.iload_n 1, 1) := by decide +kernel
theorem dJ1_indexOfChar_4cfef_1 : decode cJ1_indexOfChar_4cfef 1 = .ok (.i2b, 1) := by decide +kernel
theorem dJ1_indexOfChar_4cfef_2 : decode cJ1_indexOfChar_4cfef 2 = .ok (.istore 4, 2) := by decide +kernel
theorem dJ1_indexOfChar_4cfef_4 : decode cJ1_indexOfChar_4cfef 4 = .ok (.iload_n 2, 1) := by decide +kernel
theorem dJ1_indexOfChar_4cfef_5 : decode cJ1_indexOfChar_4cfef 5 = .ok (.istore 5, 2) := by decide +kernel
theorem dJ1_indexOfChar_4cfef_7 : decode cJ1_indexOfChar_4cfef 7 = .ok (.iload 5, 2) := by decide +kernel
theorem dJ1_indexOfChar_4cfef_9 : decode cJ1_indexOfChar_4cfef 9 = .ok (.iload_n 3, 1) := by decide +kernel
theorem dJ1_indexOfChar_4cfef_10 : decode cJ1_indexOfChar_4cfef 10 = .ok (.if_icmp .ge 21, 3) := by decide +kernel
theorem dJ1_indexOfChar_4cfef_13 : decode cJ1_indexOfChar_4cfef 13 = .ok (.aload_n 0, 1) := by decide +kernel
theorem dJ1_indexOfChar_4cfef_14 : decode cJ1_indexOfChar_4cfef 14 = .ok (.iload 5, 2) := by decide +kernel
theorem dJ1_indexOfChar_4cfef_16 : decode cJ1_indexOfChar_4cfef 16 = .ok (.baload, 1) := by decide +kernel
theorem dJ1_indexOfChar_4cfef_17 : decode cJ1_indexOfChar_4cfef 17 = .ok (.iload 4, 2) := by decide +kernel
theorem dJ1_indexOfChar_4cfef_19 : decode cJ1_indexOfChar_4cfef 19 = .ok (.if_icmp .ne 6, 3) := by decide +kernel
theorem dJ1_indexOfChar_4cfef_22 : decode cJ1_indexOfChar_4cfef 22 = .ok (.iload 5, 2) := by decide +kernel
theorem dJ1_indexOfChar_4cfef_24 : decode cJ1_indexOfChar_4cfef 24 = .ok (.ireturn, 1) := by decide +kernel
theorem dJ1_indexOfChar_4cfef_25 : decode cJ1_indexOfChar_4cfef 25 = .ok (.iinc 5 1, 3) := by decide +kernel
theorem dJ1_indexOfChar_4cfef_28 : decode cJ1_indexOfChar_4cfef 28 = .ok (.goto (-21), 3) := by decide +kernel
theorem dJ1_indexOfChar_4cfef_31 : decode cJ1_indexOfChar_4cfef 31 = .ok (.iconst (-1), 1) := by decide +kernel
theorem dJ1_indexOfChar_4cfef_32 : decode cJ1_indexOfChar_4cfef 32 = .ok (.ireturn, 1) := by decide +kernel
theorem dJ2_getChar_3b067_0 : decode cJ2_getChar_3b067 0 = .ok (.getstatic 44, 3) := by decide +kernel
theorem dJ2_getChar_3b067_3 : decode cJ2_getChar_3b067 3 = .ok (.ifCond .ne 25, 3) := by decide +kernel
theorem dJ2_getChar_3b067_6 : decode cJ2_getChar_3b067 6 = .ok (.iload_n 1, 1) := by decide +kernel
theorem dJ2_getChar_3b067_7 : decode cJ2_getChar_3b067 7 = .ok (.ifCond .lt 11, 3) := by decide +kernel
theorem dJ2_getChar_3b067_10 : decode cJ2_getChar_3b067 10 = .ok (.iload_n 1, 1) := by decide +kernel
theorem dJ2_getChar_3b067_11 : decode cJ2_getChar_3b067 11 = .ok (.aload_n 0, 1) := by decide +kernel
theorem dJ2_getChar_3b067_12 : decode cJ2_getChar_3b067 12 = .ok (.invokestatic 48, 3) := by decide +kernel
theorem dJ2_getChar_3b067_15 : decode cJ2_getChar_3b067 15 = .ok (.if_icmp .lt 13, 3) := by decide +kernel
theorem dJ2_getChar_3b067_18 : decode cJ2_getChar_3b067 18 = .ok (.new 52, 3) := by decide +kernel
theorem dJ2_getChar_3b067_21 : decode cJ2_getChar_3b067 21 = .ok (.dup, 1) := by decide +kernel
theorem dJ2_getChar_3b067_22 : decode cJ2_getChar_3b067 22 = .ok (.ldc 54, 2) := by decide +kernel
theorem dJ2_getChar_3b067_24 : decode cJ2_getChar_3b067 24 = .ok (.invokespecial 56, 3) := by decide +kernel
theorem dJ2_getChar_3b067_27 : decode cJ2_getChar_3b067 27 = .ok (.athrow, 1) := by decide +kernel
theorem dJ2_getChar_3b067_28 : decode cJ2_getChar_3b067 28 = .ok (.iload_n 1, 1) := by decide +kernel
theorem dJ2_getChar_3b067_29 : decode cJ2_getChar_3b067 29 = .ok (.iconst 1, 1) := by decide +kernel
theorem dJ2_getChar_3b067_30 : decode cJ2_getChar_3b067 30 = .ok (.ishl, 1) := by decide +kernel
theorem dJ2_getChar_3b067_31 : decode cJ2_getChar_3b067 31 = .ok (.istore_n 1, 1) := by decide +kernel
theorem dJ2_getChar_3b067_32 : decode cJ2_getChar_3b067 32 = .ok (.aload_n 0, 1) := by decide +kernel
theorem dJ2_getChar_3b067_33 : decode cJ2_getChar_3b067 33 = .ok (.iload_n 1, 1) := by decide +kernel
theorem dJ2_getChar_3b067_34 : decode cJ2_getChar_3b067 34 = .ok (.iinc 1 1, 3) := by decide +kernel
theorem dJ2_getChar_3b067_37 : decode cJ2_getChar_3b067 37 = .ok (.baload, 1) := by decide +kernel
theorem dJ2_getChar_3b067_38 : decode cJ2_getChar_3b067 38 = .ok (.sipush 255, 3) := by decide +kernel
theorem dJ2_getChar_3b067_41 : decode cJ2_getChar_3b067 41 = .ok (.iand, 1) := by decide +kernel
theorem dJ2_getChar_3b067_42 : decode cJ2_getChar_3b067 42 = .ok (.getstatic 59, 3) := by decide +kernel
theorem dJ2_getChar_3b067_45 : decode cJ2_getChar_3b067 45 = .ok (.ishl, 1) := by decide +kernel
theorem dJ2_getChar_3b067_46 : decode cJ2_getChar_3b067 46 = .ok (.aload_n 0, 1) := by decide +kernel
theorem dJ2_getChar_3b067_47 : decode cJ2_getChar_3b067 47 = .ok (.iload_n 1, 1) := by decide +kernel
theorem dJ2_getChar_3b067_48 : decode cJ2_getChar_3b067 48 = .ok (.baload, 1) := by decide +kernel
theorem dJ2_getChar_3b067_49 : decode cJ2_getChar_3b067 49 = .ok (.sipush 255, 3) := by decide +kernel
theorem dJ2_getChar_3b067_52 : decode cJ2_getChar_3b067 52 = .ok (.iand, 1) := by decide +kernel
theorem dJ2_getChar_3b067_53 : decode cJ2_getChar_3b067 53 = .ok (.getstatic 63, 3) := by decide +kernel
theorem dJ2_getChar_3b067_56 : decode cJ2_getChar_3b067 56 = .ok (.ishl, 1) := by decide +kernel
theorem dJ2_getChar_3b067_57 : decode cJ2_getChar_3b067 57 = .ok (.ior, 1) := by decide +kernel
theorem dJ2_getChar_3b067_58 : decode cJ2_getChar_3b067 58 = .ok (.i2c, 1) := by decide +kernel
theorem dJ2_getChar_3b067_59 : decode cJ2_getChar_3b067 59 = .ok (.ireturn, 1) := by decide +kernel
theorem dJ2_length_9d52b_0 : decode cJ2_length_9d52b 0 = .ok (.aload_n 0, 1) := by decide +kernel
theorem dJ2_length_9d52b_1 : decode cJ2_length_9d52b 1 = .ok (.arraylength, 1) := by decide +kernel
theorem dJ2_length_9d52b_2 : decode cJ2_length_9d52b 2 = .ok (.iconst 1, 1) := by decide +kernel
theorem dJ2_length_9d52b_3 : decode cJ2_length_9d52b 3 = .ok (.ishr, 1) := by decide +kernel
theorem dJ2_length_9d52b_4 : decode cJ2_length_9d52b 4 = .ok (.ireturn, 1) := by decide +kernel
theorem dJ2_indexOf_4cfef_0 : decode cJ2_indexOf_4cfef 0 = .ok (.iload_n 2, 1) := by decide +kernel
theorem dJ2_indexOf_4cfef_1 : decode cJ2_indexOf_4cfef 1 = .ok (.iconst 0, 1) := by decide +kernel
theorem dJ2_indexOf_4cfef_2 : decode cJ2_indexOf_4cfef 2 = .ok (.invokestatic 224, 3) := by decide +kernel
theorem dJ2_indexOf_4cfef_5 : decode cJ2_indexOf_4cfef 5 = .ok (.istore_n 2, 1) := by decide +kernel
theorem dJ2_indexOf_4cfef_6 : decode cJ2_indexOf_4cfef 6 = .ok (.iload_n 3, 1) := by decide +kernel
theorem dJ2_indexOf_4cfef_7 : decode cJ2_indexOf_4cfef 7 = .ok (.aload_n 0, 1) := by decide +kernel
theorem dJ2_indexOf_4cfef_8 : decode cJ2_indexOf_4cfef 8 = .ok (.arraylength, 1) := by decide +kernel
theorem dJ2_indexOf_4cfef_9 : decode cJ2_indexOf_4cfef 9 = .ok (.iconst 1, 1) := by decide +kernel
theorem dJ2_indexOf_4cfef_10 : decode cJ2_indexOf_4cfef 10 = .ok (.ishr, 1) := by decide +kernel
theorem dJ2_indexOf_4cfef_11 : decode cJ2_indexOf_4cfef 11 = .ok (.invokestatic 183, 3) := by decide +kernel
theorem dJ2_indexOf_4cfef_14 : decode cJ2_indexOf_4cfef 14 = .ok (.istore_n 3, 1) := by decide +kernel
theorem dJ2_indexOf_4cfef_15 : decode cJ2_indexOf_4cfef 15 = .ok (.iload_n 2, 1) := by decide +kernel
theorem dJ2_indexOf_4cfef_16 : decode cJ2_indexOf_4cfef 16 = .ok (.iload_n 3, 1) := by decide +kernel
theorem dJ2_indexOf_4cfef_17 : decode cJ2_indexOf_4cfef 17 = .ok (.if_icmp .lt 5, 3) := by decide +kernel
theorem dJ2_indexOf_4cfef_20 : decode cJ2_indexOf_4cfef 20 = .ok (.iconst (-1), 1) := by decide +kernel
theorem dJ2_indexOf_4cfef_21 : decode cJ2_indexOf_4cfef 21 = .ok (.ireturn, 1) := by decide +kernel
theorem dJ2_indexOf_4cfef_22 : decode cJ2_indexOf_4cfef 22 = .ok (.iload_n 1, 1) := by decide +kernel
theorem dJ2_indexOf_4cfef_23 : decode cJ2_indexOf_4cfef 23 = .ok (.ldc 227, 2) := by decide +kernel
theorem dJ2_indexOf_4cfef_25 : decode cJ2_indexOf_4cfef 25 = .ok (.if_icmp .ge 11, 3) := by decide +kernel
theorem dJ2_indexOf_4cfef_28 : decode cJ2_indexOf_4cfef 28 = .ok (.aload_n 0, 1) := by decide +kernel
theorem dJ2_indexOf_4cfef_29 : decode cJ2_indexOf_4cfef 29 = .ok (.iload_n 1, 1) := by decide +kernel
theorem dJ2_indexOf_4cfef_30 : decode cJ2_indexOf_4cfef 30 = .ok (.iload_n 2, 1) := by decide +kernel
theorem dJ2_indexOf_4cfef_31 : decode cJ2_indexOf_4cfef 31 = .ok (.iload_n 3, 1) := by decide +kernel
theorem dJ2_indexOf_4cfef_32 : decode cJ2_indexOf_4cfef 32 = .ok (.invokestatic 228, 3) := by decide +kernel
theorem dJ2_indexOf_4cfef_35 : decode cJ2_indexOf_4cfef 35 = .ok (.ireturn, 1) := by decide +kernel
theorem dJ2_indexOf_4cfef_36 : decode cJ2_indexOf_4cfef 36 = .ok (.aload_n 0, 1) := by decide +kernel
theorem dJ2_indexOf_4cfef_37 : decode cJ2_indexOf_4cfef 37 = .ok (.iload_n 1, 1) := by decide +kernel
theorem dJ2_indexOf_4cfef_38 : decode cJ2_indexOf_4cfef 38 = .ok (.iload_n 2, 1) := by decide +kernel
theorem dJ2_indexOf_4cfef_39 : decode cJ2_indexOf_4cfef 39 = .ok (.iload_n 3, 1) := by decide +kernel
theorem dJ2_indexOf_4cfef_40 : decode cJ2_indexOf_4cfef 40 = .ok (.invokestatic 232, 3) := by decide +kernel
theorem dJ2_indexOf_4cfef_43 : decode cJ2_indexOf_4cfef 43 = .ok (.ireturn, 1) := by decide +kernel
theorem dJ2_indexOfChar_4cfef_0 : decode cJ2_indexOfChar_4cfef 0 = .ok (.iload_n 2, 1) := by decide +kernel
theorem dJ2_indexOfChar_4cfef_1 : decode cJ2_indexOfChar_4cfef 1 = .ok (.iload_n 3, 1) := by decide +kernel
theorem dJ2_indexOfChar_4cfef_2 : decode cJ2_indexOfChar_4cfef 2 = .ok (.aload_n 0, 1) := by decide +kernel
theorem dJ2_indexOfChar_4cfef_3 : decode cJ2_indexOfChar_4cfef 3 = .ok (.invokestatic 96, 3) := by decide +kernel
theorem dJ2_indexOfChar_4cfef_6 : decode cJ2_indexOfChar_4cfef 6 = .ok (.aload_n 0, 1) := by decide +kernel
theorem dJ2_indexOfChar_4cfef_7 : decode cJ2_indexOfChar_4cfef 7 = .ok (.iload_n 1, 1) := by decide +kernel
theorem dJ2_indexOfChar_4cfef_8 : decode cJ2_indexOfChar_4cfef 8 = .ok (.iload_n 2, 1) := by decide +kernel
theorem dJ2_indexOfChar_4cfef_9 : decode cJ2_indexOfChar_4cfef 9 = .ok (.iload_n 3, 1) := by decide +kernel
theorem dJ2_indexOfChar_4cfef_10 : decode cJ2_indexOfChar_4cfef 10 = .ok (.invokestatic 244, 3) := by decide +kernel
theorem dJ2_indexOfChar_4cfef_13 : decode cJ2_indexOfChar_4cfef 13 = .ok (.ireturn, 1) := by decide +kernel
theorem dJ2_indexOfCharUnsafe_4cfef_0 : decode cJ2_indexOfCharUnsafe_4cfef 0 = .ok (.iload_n 2, 1) := by decide +kernel
theorem dJ2_indexOfCharUnsafe_4cfef_1 : decode cJ2_indexOfCharUnsafe_4cfef 1 = .ok (.istore 4, 2) := by decide +kernel
theorem dJ2_indexOfCharUnsafe_4cfef_3 : decode cJ2_indexOfCharUnsafe_4cfef 3 = .ok (.iload 4, 2) := by decide +kernel
theorem dJ2_indexOfCharUnsafe_4cfef_5 : decode cJ2_indexOfCharUnsafe_4cfef 5 = .ok (.iload_n 3, 1) := by decide +kernel
theorem dJ2_indexOfCharUnsafe_4cfef_6 : decode cJ2_indexOfCharUnsafe_4cfef 6 = .ok (.if_icmp .ge 22, 3) := by decide +kernel
theorem dJ2_indexOfCharUnsafe_4cfef_9 : decode cJ2_indexOfCharUnsafe_4cfef 9 = .ok (.aload_n 0, 1) := by decide +kernel
theorem dJ2_indexOfCharUnsafe_4cfef_10 : decode cJ2_indexOfCharUnsafe_4cfef 10 = .ok (.iload 4, 2) := by decide +kernel
theorem dJ2_indexOfCharUnsafe_4cfef_12 : decode cJ2_indexOfCharUnsafe_4cfef 12 = .ok (.invokestatic 71, 3) := by decide +kernel
theorem dJ2_indexOfCharUnsafe_4cfef_15 : decode cJ2_indexOfCharUnsafe_4cfef 15 = .ok (.iload_n 1, 1) := by decide +kernel
theorem dJ2_indexOfCharUnsafe_4cfef_16 : decode cJ2_indexOfCharUnsafe_4cfef 16 = .ok (.if_icmp .ne 6, 3) := by decide +kernel
theorem dJ2_indexOfCharUnsafe_4cfef_19 : decode cJ2_indexOfCharUnsafe_4cfef 19 = .ok (.iload 4, 2) := by decide +kernel
theorem dJ2_indexOfCharUnsafe_4cfef_21 : decode cJ2_indexOfCharUnsafe_4cfef 21 = .ok (.ireturn, 1) := by decide +kernel
theorem dJ2_indexOfCharUnsafe_4cfef_22 : decode cJ2_indexOfCharUnsafe_4cfef 22 = .ok (.iinc 4 1, 3) := by decide +kernel
theorem dJ2_indexOfCharUnsafe_4cfef_25 : decode cJ2_indexOfCharUnsafe_4cfef 25 = .ok (.goto (-22), 3) := by decide +kernel
theorem dJ2_indexOfCharUnsafe_4cfef_28 : decode cJ2_indexOfCharUnsafe_4cfef 28 = .ok (.iconst (-1), 1) := by decide +kernel
theorem dJ2_indexOfCharUnsafe_4cfef_29 : decode cJ2_indexOfCharUnsafe_4cfef 29 = .ok (.ireturn, 1) := by decide +kernel
theorem dJ2_indexOfSupplementary_4cfef_0 : decode cJ2_indexOfSupplementary_4cfef 0 = .ok (.iload_n 1, 1) := by decide +kernel
theorem dJ2_indexOfSupplementary_4cfef_1 : decode cJ2_indexOfSupplementary_4cfef 1 = .ok (.invokestatic 164, 3) := by decide +kernel
theorem dJ2_indexOfSupplementary_4cfef_4 : decode cJ2_indexOfSupplementary_4cfef 4 = .ok (.ifCond .eq 65, 3) := by decide +kernel
theorem dJ2_indexOfSupplementary_4cfef_7 : decode cJ2_indexOfSupplementary_4cfef 7 = .ok (.iload_n 1, 1) := by decide +kernel
theorem dJ2_indexOfSupplementary_4cfef_8 : decode cJ2_indexOfSupplementary_4cfef 8 = .ok (.invokestatic 157, 3) := by decide +kernel
theorem dJ2_indexOfSupplementary_4cfef_11 : decode cJ2_indexOfSupplementary_4cfef 11 = .ok (.istore 4, 2) := by decide +kernel
theorem dJ2_indexOfSupplementary_4cfef_13 : decode cJ2_indexOfSupplementary_4cfef 13 = .ok (.iload_n 1, 1) := by decide +kernel
theorem dJ2_indexOfSupplementary_4cfef_14 : decode cJ2_indexOfSupplementary_4cfef 14 = .ok (.invokestatic 161, 3) := by decide +kernel
theorem dJ2_indexOfSupplementary_4cfef_17 : decode cJ2_indexOfSupplementary_4cfef 17 = .ok (.istore 5, 2) := by decide +kernel
theorem dJ2_indexOfSupplementary_4cfef_19 : decode cJ2_indexOfSupplementary_4cfef 19 = .ok (.iload_n 2, 1) := by decide +kernel
theorem dJ2_indexOfSupplementary_4cfef_20 : decode cJ2_indexOfSupplementary_4cfef 20 = .ok (.iload_n 3, 1) := by decide +kernel
theorem dJ2_indexOfSupplementary_4cfef_21 : decode cJ2_indexOfSupplementary_4cfef 21 = .ok (.aload_n 0, 1) := by decide +kernel
theorem dJ2_indexOfSupplementary_4cfef_22 : decode cJ2_indexOfSupplementary_4cfef 22 = .ok (.invokestatic 96, 3) := by decide +kernel
theorem dJ2_indexOfSupplementary_4cfef_25 : decode cJ2_indexOfSupplementary_4cfef 25 = .ok (.iload_n 2, 1) := by decide +kernel
theorem dJ2_indexOfSupplementary_4cfef_26 : decode cJ2_indexOfSupplementary_4cfef 26 = .ok (.istore 6, 2) := by decide +kernel
theorem dJ2_indexOfSupplementary_4cfef_28 : decode cJ2_indexOfSupplementary_4cfef 28 = .ok (.iload 6, 2) := by decide +kernel
theorem dJ2_indexOfSupplementary_4cfef_30 : decode cJ2_indexOfSupplementary_4cfef 30 = .ok (.iload_n 3, 1) := by decide +kernel
theorem dJ2_indexOfSupplementary_4cfef_31 : decode cJ2_indexOfSupplementary_4cfef 31 = .ok (.iconst 1, 1) := by decide +kernel
theorem dJ2_indexOfSupplementary_4cfef_32 : decode cJ2_indexOfSupplementary_4cfef 32 = .ok (.isub, 1) := by decide +kernel
theorem dJ2_indexOfSupplementary_4cfef_33 : decode cJ2_indexOfSupplementary_4cfef 33 = .ok (.if_icmp .ge 36, 3) := by decide +kernel
theorem dJ2_indexOfSupplementary_4cfef_36 : decode cJ2_indexOfSupplementary_4cfef 36 = .ok (.aload_n 0, 1) := by decide +kernel
theorem dJ2_indexOfSupplementary_4cfef_37 : decode cJ2_indexOfSupplementary_4cfef 37 = .ok (.iload 6, 2) := by decide +kernel
theorem dJ2_indexOfSupplementary_4cfef_39 : decode cJ2_indexOfSupplementary_4cfef 39 = .ok (.invokestatic 71, 3) := by decide +kernel
theorem dJ2_indexOfSupplementary_4cfef_42 : decode cJ2_indexOfSupplementary_4cfef 42 = .ok (.iload 4, 2) := by decide +kernel
theorem dJ2_indexOfSupplementary_4cfef_44 : decode cJ2_indexOfSupplementary_4cfef 44 = .ok (.if_icmp .ne 19, 3) := by decide +kernel
theorem dJ2_indexOfSupplementary_4cfef_47 : decode cJ2_indexOfSupplementary_4cfef 47 = .ok (.aload_n 0, 1) := by decide +kernel
theorem dJ2_indexOfSupplementary_4cfef_48 : decode cJ2_indexOfSupplementary_4cfef 48 = .ok (.iload 6, 2) := by decide +kernel
theorem dJ2_indexOfSupplementary_4cfef_50 : decode cJ2_indexOfSupplementary_4cfef 50 = .ok (.iconst 1, 1) := by decide +kernel
theorem dJ2_indexOfSupplementary_4cfef_51 : decode cJ2_indexOfSupplementary_4cfef 51 = .ok (.iadd, 1) := by decide +kernel
theorem dJ2_indexOfSupplementary_4cfef_52 : decode cJ2_indexOfSupplementary_4cfef 52 = .ok (.invokestatic 71, 3) := by decide +kernel
theorem dJ2_indexOfSupplementary_4cfef_55 : decode cJ2_indexOfSupplementary_4cfef 55 = .ok (.iload 5, 2) := by decide +kernel
theorem dJ2_indexOfSupplementary_4cfef_57 : decode cJ2_indexOfSupplementary_4cfef 57 = .ok (.if_icmp .ne 6, 3) := by decide +kernel
theorem dJ2_indexOfSupplementary_4cfef_60 : decode cJ2_indexOfSupplementary_4cfef 60 = .ok (.iload 6, 2) := by decide +kernel
theorem dJ2_indexOfSupplementary_4cfef_62 : decode cJ2_indexOfSupplementary_4cfef 62 = .ok (.ireturn, 1) := by decide +kernel
theorem dJ2_indexOfSupplementary_4cfef_63 : decode cJ2_indexOfSupplementary_4cfef 63 = .ok (.iinc 6 1, 3) := by decide +kernel
theorem dJ2_indexOfSupplementary_4cfef_66 : decode cJ2_indexOfSupplementary_4cfef 66 = .ok (.goto (-38), 3) := by decide +kernel
theorem dJ2_indexOfSupplementary_4cfef_69 : decode cJ2_indexOfSupplementary_4cfef 69 = .ok (.iconst (-1), 1) := by decide +kernel
theorem dJ2_indexOfSupplementary_4cfef_70 : decode cJ2_indexOfSupplementary_4cfef 70 = .ok (.ireturn, 1) := by decide +kernel
theorem dJ2_checkBoundsBeginEnd_d044e_0 : decode cJ2_checkBoundsBeginEnd_d044e 0 = .ok (.iload_n 0, 1) := by decide +kernel
theorem dJ2_checkBoundsBeginEnd_d044e_1 : decode cJ2_checkBoundsBeginEnd_d044e 1 = .ok (.iload_n 1, 1) := by decide +kernel
theorem dJ2_checkBoundsBeginEnd_d044e_2 : decode cJ2_checkBoundsBeginEnd_d044e 2 = .ok (.aload_n 2, 1) := by decide +kernel
theorem dJ2_checkBoundsBeginEnd_d044e_3 : decode cJ2_checkBoundsBeginEnd_d044e 3 = .ok (.invokestatic 48, 3) := by decide +kernel
theorem dJ2_checkBoundsBeginEnd_d044e_6 : decode cJ2_checkBoundsBeginEnd_d044e 6 = .ok (.invokestatic 241, 3) := by decide +kernel
theorem dJ2_checkBoundsBeginEnd_d044e_9 : decode cJ2_checkBoundsBeginEnd_d044e 9 = .ok (.return_, 1) := by decide +kernel
theorem dJ3_checkFromToIndex_8c36e_0 : decode cJ3_checkFromToIndex_8c36e 0 = .ok (.iload_n 0, 1) := by decide +kernel
theorem dJ3_checkFromToIndex_8c36e_1 : decode cJ3_checkFromToIndex_8c36e 1 = .ok (.ifCond .lt 13, 3) := by decide +kernel
theorem dJ3_checkFromToIndex_8c36e_4 : decode cJ3_checkFromToIndex_8c36e 4 = .ok (.iload_n 0, 1) := by decide +kernel
theorem dJ3_checkFromToIndex_8c36e_5 : decode cJ3_checkFromToIndex_8c36e 5 = .ok (.iload_n 1, 1) := by decide +kernel
theorem dJ3_checkFromToIndex_8c36e_6 : decode cJ3_checkFromToIndex_8c36e 6 = .ok (.if_icmp .gt 8, 3) := by decide +kernel
theorem dJ3_checkFromToIndex_8c36e_9 : decode cJ3_checkFromToIndex_8c36e 9 = .ok (.iload_n 1, 1) := by decide +kernel
theorem dJ3_checkFromToIndex_8c36e_10 : decode cJ3_checkFromToIndex_8c36e 10 = .ok (.iload_n 2, 1) := by decide +kernel
theorem dJ3_checkFromToIndex_8c36e_11 : decode cJ3_checkFromToIndex_8c36e 11 = .ok (.if_icmp .le 11, 3) := by decide +kernel
theorem dJ3_checkFromToIndex_8c36e_14 : decode cJ3_checkFromToIndex_8c36e 14 = .ok (.aload_n 3, 1) := by decide +kernel
theorem dJ3_checkFromToIndex_8c36e_15 : decode cJ3_checkFromToIndex_8c36e 15 = .ok (.iload_n 0, 1) := by decide +kernel
theorem dJ3_checkFromToIndex_8c36e_16 : decode cJ3_checkFromToIndex_8c36e 16 = .ok (.iload_n 1, 1) := by decide +kernel
theorem dJ3_checkFromToIndex_8c36e_17 : decode cJ3_checkFromToIndex_8c36e 17 = .ok (.iload_n 2, 1) := by decide +kernel
theorem dJ3_checkFromToIndex_8c36e_18 : decode cJ3_checkFromToIndex_8c36e 18 = .ok (.invokestatic 99, 3) := by decide +kernel
theorem dJ3_checkFromToIndex_8c36e_21 : decode cJ3_checkFromToIndex_8c36e 21 = .ok (.athrow, 1) := by decide +kernel
theorem dJ3_checkFromToIndex_8c36e_22 : decode cJ3_checkFromToIndex_8c36e 22 = .ok (.iload_n 0, 1) := by decide +kernel
theorem dJ3_checkFromToIndex_8c36e_23 : decode cJ3_checkFromToIndex_8c36e 23 = .ok (.ireturn, 1) := by decide +kernel
theorem dL_law_0 : decode cL_law 0 = .ok (.new 7, 3) := by decide +kernel
theorem dL_law_3 : decode cL_law 3 = .ok (.dup, 1) := by decide +kernel
theorem dL_law_4 : decode cL_law 4 = .ok (.invokespecial 9, 3) := by decide +kernel
theorem dL_law_7 : decode cL_law 7 = .ok (.astore_n 1, 1) := by decide +kernel
theorem dL_law_8 : decode cL_law 8 = .ok (.new 10, 3) := by decide +kernel
theorem dL_law_11 : decode cL_law 11 = .ok (.dup, 1) := by decide +kernel
theorem dL_law_12 : decode cL_law 12 = .ok (.invokespecial 12, 3) := by decide +kernel
theorem dL_law_15 : decode cL_law 15 = .ok (.astore_n 2, 1) := by decide +kernel
theorem dL_law_16 : decode cL_law 16 = .ok (.iconst 0, 1) := by decide +kernel
theorem dL_law_17 : decode cL_law 17 = .ok (.istore_n 3, 1) := by decide +kernel
theorem dL_law_18 : decode cL_law 18 = .ok (.iload_n 3, 1) := by decide +kernel
theorem dL_law_19 : decode cL_law 19 = .ok (.aload_n 0, 1) := by decide +kernel
theorem dL_law_20 : decode cL_law 20 = .ok (.arraylength, 1) := by decide +kernel
theorem dL_law_21 : decode cL_law 21 = .ok (.iconst 5, 1) := by decide +kernel
theorem dL_law_22 : decode cL_law 22 = .ok (.isub, 1) := by decide +kernel
theorem dL_law_23 : decode cL_law 23 = .ok (.if_icmp .gt 822, 3) := by decide +kernel
theorem dL_law_26 : decode cL_law 26 = .ok (.aload_n 0, 1) := by decide +kernel
theorem dL_law_27 : decode cL_law 27 = .ok (.iload_n 3, 1) := by decide +kernel
theorem dL_law_28 : decode cL_law 28 = .ok (.iaload, 1) := by decide +kernel
theorem dL_law_29 : decode cL_law 29 = .ok (.bipush 31, 2) := by decide +kernel
theorem dL_law_31 : decode cL_law 31 = .ok (.iand, 1) := by decide +kernel
theorem dL_law_32 : decode cL_law 32 = .ok (.tableswitch 807 0 24 #[116, 139, 172, 225, 238, 287, 300, 323, 366, 379, 412, 445, 468, 501, 524, 557, 600, 623, 646, 669, 722, 735, 748, 761, 784], 116) := by decide +kernel
theorem dL_law_148 : decode cL_law 148 = .ok (.aload_n 1, 1) := by decide +kernel
theorem dL_law_149 : decode cL_law 149 = .ok (.aload_n 0, 1) := by decide +kernel
theorem dL_law_150 : decode cL_law 150 = .ok (.iload_n 3, 1) := by decide +kernel
theorem dL_law_151 : decode cL_law 151 = .ok (.iconst 1, 1) := by decide +kernel
theorem dL_law_152 : decode cL_law 152 = .ok (.iadd, 1) := by decide +kernel
theorem dL_law_153 : decode cL_law 153 = .ok (.iaload, 1) := by decide +kernel
theorem dL_law_154 : decode cL_law 154 = .ok (.invokevirtual 13, 3) := by decide +kernel
theorem dL_law_157 : decode cL_law 157 = .ok (.aload_n 2, 1) := by decide +kernel
theorem dL_law_158 : decode cL_law 158 = .ok (.aload_n 0, 1) := by decide +kernel
theorem dL_law_159 : decode cL_law 159 = .ok (.iload_n 3, 1) := by decide +kernel
theorem dL_law_160 : decode cL_law 160 = .ok (.iconst 1, 1) := by decide +kernel
theorem dL_law_161 : decode cL_law 161 = .ok (.iadd, 1) := by decide +kernel
theorem dL_law_162 : decode cL_law 162 = .ok (.iaload, 1) := by decide +kernel
theorem dL_law_163 : decode cL_law 163 = .ok (.invokevirtual 17, 3) := by decide +kernel
theorem dL_law_166 : decode cL_law 166 = .ok (.if_icmp .eq 673, 3) := by decide +kernel
theorem dL_law_169 : decode cL_law 169 = .ok (.iconst 0, 1) := by decide +kernel
theorem dL_law_170 : decode cL_law 170 = .ok (.ireturn, 1) := by decide +kernel
theorem dL_law_171 : decode cL_law 171 = .ok (.aload_n 1, 1) := by decide +kernel
theorem dL_law_172 : decode cL_law 172 = .ok (.aload_n 0, 1) := by decide +kernel
theorem dL_law_173 : decode cL_law 173 = .ok (.iload_n 3, 1) := by decide +kernel
theorem dL_law_174 : decode cL_law 174 = .ok (.iconst 1, 1) := by decide +kernel
theorem dL_law_175 : decode cL_law 175 = .ok (.iadd, 1) := by decide +kernel
theorem dL_law_176 : decode cL_law 176 = .ok (.iaload, 1) := by decide +kernel
theorem dL_law_177 : decode cL_law 177 = .ok (.aload_n 0, 1) := by decide +kernel
theorem dL_law_178 : decode cL_law 178 = .ok (.iload_n 3, 1) := by decide +kernel
theorem dL_law_179 : decode cL_law 179 = .ok (.iconst 2, 1) := by decide +kernel
theorem dL_law_180 : decode cL_law 180 = .ok (.iadd, 1) := by decide +kernel
theorem dL_law_181 : decode cL_law 181 = .ok (.iaload, 1) := by decide +kernel
theorem dL_law_182 : decode cL_law 182 = .ok (.invokevirtual 18, 3) := by decide +kernel
theorem dL_law_185 : decode cL_law 185 = .ok (.aload_n 2, 1) := by decide +kernel
theorem dL_law_186 : decode cL_law 186 = .ok (.aload_n 0, 1) := by decide +kernel
theorem dL_law_187 : decode cL_law 187 = .ok (.iload_n 3, 1) := by decide +kernel
theorem dL_law_188 : decode cL_law 188 = .ok (.iconst 1, 1) := by decide +kernel
theorem dL_law_189 : decode cL_law 189 = .ok (.iadd, 1) := by decide +kernel
theorem dL_law_190 : decode cL_law 190 = .ok (.iaload, 1) := by decide +kernel
theorem dL_law_191 : decode cL_law 191 = .ok (.aload_n 0, 1) := by decide +kernel
theorem dL_law_192 : decode cL_law 192 = .ok (.iload_n 3, 1) := by decide +kernel
theorem dL_law_193 : decode cL_law 193 = .ok (.iconst 2, 1) := by decide +kernel
theorem dL_law_194 : decode cL_law 194 = .ok (.iadd, 1) := by decide +kernel
theorem dL_law_195 : decode cL_law 195 = .ok (.iaload, 1) := by decide +kernel
theorem dL_law_196 : decode cL_law 196 = .ok (.invokevirtual 22, 3) := by decide +kernel
theorem dL_law_199 : decode cL_law 199 = .ok (.if_icmp .eq 640, 3) := by decide +kernel
theorem dL_law_202 : decode cL_law 202 = .ok (.iconst 0, 1) := by decide +kernel
theorem dL_law_203 : decode cL_law 203 = .ok (.ireturn, 1) := by decide +kernel
theorem dL_law_204 : decode cL_law 204 = .ok (.aload_n 1, 1) := by decide +kernel
theorem dL_law_205 : decode cL_law 205 = .ok (.aload_n 0, 1) := by decide +kernel
theorem dL_law_206 : decode cL_law 206 = .ok (.iload_n 3, 1) := by decide +kernel
theorem dL_law_207 : decode cL_law 207 = .ok (.iconst 1, 1) := by decide +kernel
theorem dL_law_208 : decode cL_law 208 = .ok (.iadd, 1) := by decide +kernel
theorem dL_law_209 : decode cL_law 209 = .ok (.iaload, 1) := by decide +kernel
theorem dL_law_210 : decode cL_law 210 = .ok (.aload_n 0, 1) := by decide +kernel
theorem dL_law_211 : decode cL_law 211 = .ok (.iload_n 3, 1) := by decide +kernel
theorem dL_law_212 : decode cL_law 212 = .ok (.iconst 2, 1) := by decide +kernel
theorem dL_law_213 : decode cL_law 213 = .ok (.iadd, 1) := by decide +kernel
theorem dL_law_214 : decode cL_law 214 = .ok (.iaload, 1) := by decide +kernel
theorem dL_law_215 : decode cL_law 215 = .ok (.aload_n 0, 1) := by decide +kernel
theorem dL_law_216 : decode cL_law 216 = .ok (.iload_n 3, 1) := by decide +kernel
theorem dL_law_217 : decode cL_law 217 = .ok (.iconst 3, 1) := by decide +kernel
theorem dL_law_218 : decode cL_law 218 = .ok (.iadd, 1) := by decide +kernel
theorem dL_law_219 : decode cL_law 219 = .ok (.iaload, 1) := by decide +kernel
theorem dL_law_220 : decode cL_law 220 = .ok (.aload_n 0, 1) := by decide +kernel
theorem dL_law_221 : decode cL_law 221 = .ok (.iload_n 3, 1) := by decide +kernel
theorem dL_law_222 : decode cL_law 222 = .ok (.iconst 4, 1) := by decide +kernel
theorem dL_law_223 : decode cL_law 223 = .ok (.iadd, 1) := by decide +kernel
theorem dL_law_224 : decode cL_law 224 = .ok (.iaload, 1) := by decide +kernel
theorem dL_law_225 : decode cL_law 225 = .ok (.invokevirtual 23, 3) := by decide +kernel
theorem dL_law_228 : decode cL_law 228 = .ok (.aload_n 2, 1) := by decide +kernel
theorem dL_law_229 : decode cL_law 229 = .ok (.aload_n 0, 1) := by decide +kernel
theorem dL_law_230 : decode cL_law 230 = .ok (.iload_n 3, 1) := by decide +kernel
theorem dL_law_231 : decode cL_law 231 = .ok (.iconst 1, 1) := by decide +kernel
theorem dL_law_232 : decode cL_law 232 = .ok (.iadd, 1) := by decide +kernel
theorem dL_law_233 : decode cL_law 233 = .ok (.iaload, 1) := by decide +kernel
theorem dL_law_234 : decode cL_law 234 = .ok (.aload_n 0, 1) := by decide +kernel
theorem dL_law_235 : decode cL_law 235 = .ok (.iload_n 3, 1) := by decide +kernel
theorem dL_law_236 : decode cL_law 236 = .ok (.iconst 2, 1) := by decide +kernel
theorem dL_law_237 : decode cL_law 237 = .ok (.iadd, 1) := by decide +kernel
theorem dL_law_238 : decode cL_law 238 = .ok (.iaload, 1) := by decide +kernel
theorem dL_law_239 : decode cL_law 239 = .ok (.aload_n 0, 1) := by decide +kernel
theorem dL_law_240 : decode cL_law 240 = .ok (.iload_n 3, 1) := by decide +kernel
theorem dL_law_241 : decode cL_law 241 = .ok (.iconst 3, 1) := by decide +kernel
theorem dL_law_242 : decode cL_law 242 = .ok (.iadd, 1) := by decide +kernel
theorem dL_law_243 : decode cL_law 243 = .ok (.iaload, 1) := by decide +kernel
theorem dL_law_244 : decode cL_law 244 = .ok (.aload_n 0, 1) := by decide +kernel
theorem dL_law_245 : decode cL_law 245 = .ok (.iload_n 3, 1) := by decide +kernel
theorem dL_law_246 : decode cL_law 246 = .ok (.iconst 4, 1) := by decide +kernel
theorem dL_law_247 : decode cL_law 247 = .ok (.iadd, 1) := by decide +kernel
theorem dL_law_248 : decode cL_law 248 = .ok (.iaload, 1) := by decide +kernel
theorem dL_law_249 : decode cL_law 249 = .ok (.invokevirtual 27, 3) := by decide +kernel
theorem dL_law_252 : decode cL_law 252 = .ok (.if_icmp .eq 587, 3) := by decide +kernel
theorem dL_law_255 : decode cL_law 255 = .ok (.iconst 0, 1) := by decide +kernel
theorem dL_law_256 : decode cL_law 256 = .ok (.ireturn, 1) := by decide +kernel
theorem dL_law_257 : decode cL_law 257 = .ok (.aload_n 1, 1) := by decide +kernel
theorem dL_law_258 : decode cL_law 258 = .ok (.invokevirtual 28, 3) := by decide +kernel
theorem dL_law_261 : decode cL_law 261 = .ok (.aload_n 2, 1) := by decide +kernel
theorem dL_law_262 : decode cL_law 262 = .ok (.invokevirtual 32, 3) := by decide +kernel
theorem dL_law_265 : decode cL_law 265 = .ok (.if_icmp .eq 574, 3) := by decide +kernel
theorem dL_law_268 : decode cL_law 268 = .ok (.iconst 0, 1) := by decide +kernel
theorem dL_law_269 : decode cL_law 269 = .ok (.ireturn, 1) := by decide +kernel
theorem dL_law_270 : decode cL_law 270 = .ok (.aload_n 1, 1) := by decide +kernel
theorem dL_law_271 : decode cL_law 271 = .ok (.aload_n 0, 1) := by decide +kernel
theorem dL_law_272 : decode cL_law 272 = .ok (.iload_n 3, 1) := by decide +kernel
theorem dL_law_273 : decode cL_law 273 = .ok (.iconst 1, 1) := by decide +kernel
theorem dL_law_274 : decode cL_law 274 = .ok (.iadd, 1) := by decide +kernel
theorem dL_law_275 : decode cL_law 275 = .ok (.iaload, 1) := by decide +kernel
theorem dL_law_276 : decode cL_law 276 = .ok (.aload_n 0, 1) := by decide +kernel
theorem dL_law_277 : decode cL_law 277 = .ok (.iload_n 3, 1) := by decide +kernel
theorem dL_law_278 : decode cL_law 278 = .ok (.iconst 2, 1) := by decide +kernel
theorem dL_law_279 : decode cL_law 279 = .ok (.iadd, 1) := by decide +kernel
theorem dL_law_280 : decode cL_law 280 = .ok (.iaload, 1) := by decide +kernel
theorem dL_law_281 : decode cL_law 281 = .ok (.ifCond .eq 7, 3) := by decide +kernel
theorem dL_law_284 : decode cL_law 284 = .ok (.iconst 1, 1) := by decide +kernel
theorem dL_law_285 : decode cL_law 285 = .ok (.goto 4, 3) := by decide +kernel
theorem dL_law_288 : decode cL_law 288 = .ok (.iconst 0, 1) := by decide +kernel
theorem dL_law_289 : decode cL_law 289 = .ok (.invokevirtual 33, 3) := by decide +kernel
theorem dL_law_292 : decode cL_law 292 = .ok (.aload_n 2, 1) := by decide +kernel
theorem dL_law_293 : decode cL_law 293 = .ok (.aload_n 0, 1) := by decide +kernel
theorem dL_law_294 : decode cL_law 294 = .ok (.iload_n 3, 1) := by decide +kernel
theorem dL_law_295 : decode cL_law 295 = .ok (.iconst 1, 1) := by decide +kernel
theorem dL_law_296 : decode cL_law 296 = .ok (.iadd, 1) := by decide +kernel
theorem dL_law_297 : decode cL_law 297 = .ok (.iaload, 1) := by decide +kernel
theorem dL_law_298 : decode cL_law 298 = .ok (.aload_n 0, 1) := by decide +kernel
theorem dL_law_299 : decode cL_law 299 = .ok (.iload_n 3, 1) := by decide +kernel
theorem dL_law_300 : decode cL_law 300 = .ok (.iconst 2, 1) := by decide +kernel
theorem dL_law_301 : decode cL_law 301 = .ok (.iadd, 1) := by decide +kernel
theorem dL_law_302 : decode cL_law 302 = .ok (.iaload, 1) := by decide +kernel
theorem dL_law_303 : decode cL_law 303 = .ok (.ifCond .eq 7, 3) := by decide +kernel
theorem dL_law_306 : decode cL_law 306 = .ok (.iconst 1, 1) := by decide +kernel
theorem dL_law_307 : decode cL_law 307 = .ok (.goto 4, 3) := by decide +kernel
theorem dL_law_310 : decode cL_law 310 = .ok (.iconst 0, 1) := by decide +kernel
theorem dL_law_311 : decode cL_law 311 = .ok (.invokevirtual 37, 3) := by decide +kernel
theorem dL_law_314 : decode cL_law 314 = .ok (.if_icmp .eq 525, 3) := by decide +kernel
theorem dL_law_317 : decode cL_law 317 = .ok (.iconst 0, 1) := by decide +kernel
theorem dL_law_318 : decode cL_law 318 = .ok (.ireturn, 1) := by decide +kernel
theorem dL_law_319 : decode cL_law 319 = .ok (.aload_n 1, 1) := by decide +kernel
theorem dL_law_320 : decode cL_law 320 = .ok (.invokevirtual 38, 3) := by decide +kernel
theorem dL_law_323 : decode cL_law 323 = .ok (.aload_n 2, 1) := by decide +kernel
theorem dL_law_324 : decode cL_law 324 = .ok (.invokevirtual 41, 3) := by decide +kernel
theorem dL_law_327 : decode cL_law 327 = .ok (.if_icmp .eq 512, 3) := by decide +kernel
theorem dL_law_330 : decode cL_law 330 = .ok (.iconst 0, 1) := by decide +kernel
theorem dL_law_331 : decode cL_law 331 = .ok (.ireturn, 1) := by decide +kernel
theorem dL_law_332 : decode cL_law 332 = .ok (.aload_n 1, 1) := by decide +kernel
theorem dL_law_333 : decode cL_law 333 = .ok (.aload_n 0, 1) := by decide +kernel
theorem dL_law_334 : decode cL_law 334 = .ok (.iload_n 3, 1) := by decide +kernel
theorem dL_law_335 : decode cL_law 335 = .ok (.iconst 1, 1) := by decide +kernel
theorem dL_law_336 : decode cL_law 336 = .ok (.iadd, 1) := by decide +kernel
theorem dL_law_337 : decode cL_law 337 = .ok (.iaload, 1) := by decide +kernel
theorem dL_law_338 : decode cL_law 338 = .ok (.invokevirtual 42, 3) := by decide +kernel
theorem dL_law_341 : decode cL_law 341 = .ok (.aload_n 2, 1) := by decide +kernel
theorem dL_law_342 : decode cL_law 342 = .ok (.aload_n 0, 1) := by decide +kernel
theorem dL_law_343 : decode cL_law 343 = .ok (.iload_n 3, 1) := by decide +kernel
theorem dL_law_344 : decode cL_law 344 = .ok (.iconst 1, 1) := by decide +kernel
theorem dL_law_345 : decode cL_law 345 = .ok (.iadd, 1) := by decide +kernel
theorem dL_law_346 : decode cL_law 346 = .ok (.iaload, 1) := by decide +kernel
theorem dL_law_347 : decode cL_law 347 = .ok (.invokevirtual 45, 3) := by decide +kernel
theorem dL_law_350 : decode cL_law 350 = .ok (.if_icmp .eq 489, 3) := by decide +kernel
theorem dL_law_353 : decode cL_law 353 = .ok (.iconst 0, 1) := by decide +kernel
theorem dL_law_354 : decode cL_law 354 = .ok (.ireturn, 1) := by decide +kernel
theorem dL_law_355 : decode cL_law 355 = .ok (.aload_n 1, 1) := by decide +kernel
theorem dL_law_356 : decode cL_law 356 = .ok (.aload_n 0, 1) := by decide +kernel
theorem dL_law_357 : decode cL_law 357 = .ok (.iload_n 3, 1) := by decide +kernel
theorem dL_law_358 : decode cL_law 358 = .ok (.iconst 1, 1) := by decide +kernel
theorem dL_law_359 : decode cL_law 359 = .ok (.iadd, 1) := by decide +kernel
theorem dL_law_360 : decode cL_law 360 = .ok (.iaload, 1) := by decide +kernel
theorem dL_law_361 : decode cL_law 361 = .ok (.aload_n 0, 1) := by decide +kernel
theorem dL_law_362 : decode cL_law 362 = .ok (.iload_n 3, 1) := by decide +kernel
theorem dL_law_363 : decode cL_law 363 = .ok (.iconst 2, 1) := by decide +kernel
theorem dL_law_364 : decode cL_law 364 = .ok (.iadd, 1) := by decide +kernel
theorem dL_law_365 : decode cL_law 365 = .ok (.iaload, 1) := by decide +kernel
theorem dL_law_366 : decode cL_law 366 = .ok (.aload_n 0, 1) := by decide +kernel
theorem dL_law_367 : decode cL_law 367 = .ok (.iload_n 3, 1) := by decide +kernel
theorem dL_law_368 : decode cL_law 368 = .ok (.iconst 3, 1) := by decide +kernel
theorem dL_law_369 : decode cL_law 369 = .ok (.iadd, 1) := by decide +kernel
theorem dL_law_370 : decode cL_law 370 = .ok (.iaload, 1) := by decide +kernel
theorem dL_law_371 : decode cL_law 371 = .ok (.invokevirtual 46, 3) := by decide +kernel
theorem dL_law_374 : decode cL_law 374 = .ok (.aload_n 2, 1) := by decide +kernel
theorem dL_law_375 : decode cL_law 375 = .ok (.aload_n 0, 1) := by decide +kernel
theorem dL_law_376 : decode cL_law 376 = .ok (.iload_n 3, 1) := by decide +kernel
theorem dL_law_377 : decode cL_law 377 = .ok (.iconst 1, 1) := by decide +kernel
theorem dL_law_378 : decode cL_law 378 = .ok (.iadd, 1) := by decide +kernel
theorem dL_law_379 : decode cL_law 379 = .ok (.iaload, 1) := by decide +kernel
theorem dL_law_380 : decode cL_law 380 = .ok (.aload_n 0, 1) := by decide +kernel
theorem dL_law_381 : decode cL_law 381 = .ok (.iload_n 3, 1) := by decide +kernel
theorem dL_law_382 : decode cL_law 382 = .ok (.iconst 2, 1) := by decide +kernel
theorem dL_law_383 : decode cL_law 383 = .ok (.iadd, 1) := by decide +kernel
theorem dL_law_384 : decode cL_law 384 = .ok (.iaload, 1) := by decide +kernel
theorem dL_law_385 : decode cL_law 385 = .ok (.aload_n 0, 1) := by decide +kernel
theorem dL_law_386 : decode cL_law 386 = .ok (.iload_n 3, 1) := by decide +kernel
theorem dL_law_387 : decode cL_law 387 = .ok (.iconst 3, 1) := by decide +kernel
theorem dL_law_388 : decode cL_law 388 = .ok (.iadd, 1) := by decide +kernel
theorem dL_law_389 : decode cL_law 389 = .ok (.iaload, 1) := by decide +kernel
theorem dL_law_390 : decode cL_law 390 = .ok (.invokevirtual 50, 3) := by decide +kernel
theorem dL_law_393 : decode cL_law 393 = .ok (.if_icmp .eq 446, 3) := by decide +kernel
theorem dL_law_396 : decode cL_law 396 = .ok (.iconst 0, 1) := by decide +kernel
theorem dL_law_397 : decode cL_law 397 = .ok (.ireturn, 1) := by decide +kernel
theorem dL_law_398 : decode cL_law 398 = .ok (.aload_n 1, 1) := by decide +kernel
theorem dL_law_399 : decode cL_law 399 = .ok (.invokevirtual 51, 3) := by decide +kernel
theorem dL_law_402 : decode cL_law 402 = .ok (.aload_n 2, 1) := by decide +kernel
theorem dL_law_403 : decode cL_law 403 = .ok (.invokevirtual 54, 3) := by decide +kernel
theorem dL_law_406 : decode cL_law 406 = .ok (.if_icmp .eq 433, 3) := by decide +kernel
theorem dL_law_409 : decode cL_law 409 = .ok (.iconst 0, 1) := by decide +kernel
theorem dL_law_410 : decode cL_law 410 = .ok (.ireturn, 1) := by decide +kernel
theorem dL_law_411 : decode cL_law 411 = .ok (.aload_n 1, 1) := by decide +kernel
theorem dL_law_412 : decode cL_law 412 = .ok (.aload_n 0, 1) := by decide +kernel
theorem dL_law_413 : decode cL_law 413 = .ok (.iload_n 3, 1) := by decide +kernel
theorem dL_law_414 : decode cL_law 414 = .ok (.iconst 1, 1) := by decide +kernel
theorem dL_law_415 : decode cL_law 415 = .ok (.iadd, 1) := by decide +kernel
theorem dL_law_416 : decode cL_law 416 = .ok (.iaload, 1) := by decide +kernel
theorem dL_law_417 : decode cL_law 417 = .ok (.aload_n 0, 1) := by decide +kernel
theorem dL_law_418 : decode cL_law 418 = .ok (.iload_n 3, 1) := by decide +kernel
theorem dL_law_419 : decode cL_law 419 = .ok (.iconst 2, 1) := by decide +kernel
theorem dL_law_420 : decode cL_law 420 = .ok (.iadd, 1) := by decide +kernel
theorem dL_law_421 : decode cL_law 421 = .ok (.iaload, 1) := by decide +kernel
theorem dL_law_422 : decode cL_law 422 = .ok (.invokevirtual 55, 3) := by decide +kernel
theorem dL_law_425 : decode cL_law 425 = .ok (.aload_n 2, 1) := by decide +kernel
theorem dL_law_426 : decode cL_law 426 = .ok (.aload_n 0, 1) := by decide +kernel
theorem dL_law_427 : decode cL_law 427 = .ok (.iload_n 3, 1) := by decide +kernel
theorem dL_law_428 : decode cL_law 428 = .ok (.iconst 1, 1) := by decide +kernel
theorem dL_law_429 : decode cL_law 429 = .ok (.iadd, 1) := by decide +kernel
theorem dL_law_430 : decode cL_law 430 = .ok (.iaload, 1) := by decide +kernel
theorem dL_law_431 : decode cL_law 431 = .ok (.aload_n 0, 1) := by decide +kernel
theorem dL_law_432 : decode cL_law 432 = .ok (.iload_n 3, 1) := by decide +kernel
theorem dL_law_433 : decode cL_law 433 = .ok (.iconst 2, 1) := by decide +kernel
theorem dL_law_434 : decode cL_law 434 = .ok (.iadd, 1) := by decide +kernel
theorem dL_law_435 : decode cL_law 435 = .ok (.iaload, 1) := by decide +kernel
theorem dL_law_436 : decode cL_law 436 = .ok (.invokevirtual 58, 3) := by decide +kernel
theorem dL_law_439 : decode cL_law 439 = .ok (.if_icmp .eq 400, 3) := by decide +kernel
theorem dL_law_442 : decode cL_law 442 = .ok (.iconst 0, 1) := by decide +kernel
theorem dL_law_443 : decode cL_law 443 = .ok (.ireturn, 1) := by decide +kernel
theorem dL_law_444 : decode cL_law 444 = .ok (.aload_n 1, 1) := by decide +kernel
theorem dL_law_445 : decode cL_law 445 = .ok (.aload_n 0, 1) := by decide +kernel
theorem dL_law_446 : decode cL_law 446 = .ok (.iload_n 3, 1) := by decide +kernel
theorem dL_law_447 : decode cL_law 447 = .ok (.iconst 1, 1) := by decide +kernel
theorem dL_law_448 : decode cL_law 448 = .ok (.iadd, 1) := by decide +kernel
theorem dL_law_449 : decode cL_law 449 = .ok (.iaload, 1) := by decide +kernel
theorem dL_law_450 : decode cL_law 450 = .ok (.aload_n 0, 1) := by decide +kernel
theorem dL_law_451 : decode cL_law 451 = .ok (.iload_n 3, 1) := by decide +kernel
theorem dL_law_452 : decode cL_law 452 = .ok (.iconst 2, 1) := by decide +kernel
theorem dL_law_453 : decode cL_law 453 = .ok (.iadd, 1) := by decide +kernel
theorem dL_law_454 : decode cL_law 454 = .ok (.iaload, 1) := by decide +kernel
theorem dL_law_455 : decode cL_law 455 = .ok (.invokevirtual 59, 3) := by decide +kernel
theorem dL_law_458 : decode cL_law 458 = .ok (.aload_n 2, 1) := by decide +kernel
theorem dL_law_459 : decode cL_law 459 = .ok (.aload_n 0, 1) := by decide +kernel
theorem dL_law_460 : decode cL_law 460 = .ok (.iload_n 3, 1) := by decide +kernel
theorem dL_law_461 : decode cL_law 461 = .ok (.iconst 1, 1) := by decide +kernel
theorem dL_law_462 : decode cL_law 462 = .ok (.iadd, 1) := by decide +kernel
theorem dL_law_463 : decode cL_law 463 = .ok (.iaload, 1) := by decide +kernel
theorem dL_law_464 : decode cL_law 464 = .ok (.aload_n 0, 1) := by decide +kernel
theorem dL_law_465 : decode cL_law 465 = .ok (.iload_n 3, 1) := by decide +kernel
theorem dL_law_466 : decode cL_law 466 = .ok (.iconst 2, 1) := by decide +kernel
theorem dL_law_467 : decode cL_law 467 = .ok (.iadd, 1) := by decide +kernel
theorem dL_law_468 : decode cL_law 468 = .ok (.iaload, 1) := by decide +kernel
theorem dL_law_469 : decode cL_law 469 = .ok (.invokevirtual 62, 3) := by decide +kernel
theorem dL_law_472 : decode cL_law 472 = .ok (.if_icmp .eq 367, 3) := by decide +kernel
theorem dL_law_475 : decode cL_law 475 = .ok (.iconst 0, 1) := by decide +kernel
theorem dL_law_476 : decode cL_law 476 = .ok (.ireturn, 1) := by decide +kernel
theorem dL_law_477 : decode cL_law 477 = .ok (.aload_n 1, 1) := by decide +kernel
theorem dL_law_478 : decode cL_law 478 = .ok (.aload_n 0, 1) := by decide +kernel
theorem dL_law_479 : decode cL_law 479 = .ok (.iload_n 3, 1) := by decide +kernel
theorem dL_law_480 : decode cL_law 480 = .ok (.iconst 1, 1) := by decide +kernel
theorem dL_law_481 : decode cL_law 481 = .ok (.iadd, 1) := by decide +kernel
theorem dL_law_482 : decode cL_law 482 = .ok (.iaload, 1) := by decide +kernel
theorem dL_law_483 : decode cL_law 483 = .ok (.invokevirtual 63, 3) := by decide +kernel
theorem dL_law_486 : decode cL_law 486 = .ok (.aload_n 2, 1) := by decide +kernel
theorem dL_law_487 : decode cL_law 487 = .ok (.aload_n 0, 1) := by decide +kernel
theorem dL_law_488 : decode cL_law 488 = .ok (.iload_n 3, 1) := by decide +kernel
theorem dL_law_489 : decode cL_law 489 = .ok (.iconst 1, 1) := by decide +kernel
theorem dL_law_490 : decode cL_law 490 = .ok (.iadd, 1) := by decide +kernel
theorem dL_law_491 : decode cL_law 491 = .ok (.iaload, 1) := by decide +kernel
theorem dL_law_492 : decode cL_law 492 = .ok (.invokevirtual 66, 3) := by decide +kernel
theorem dL_law_495 : decode cL_law 495 = .ok (.if_icmp .eq 344, 3) := by decide +kernel
theorem dL_law_498 : decode cL_law 498 = .ok (.iconst 0, 1) := by decide +kernel
theorem dL_law_499 : decode cL_law 499 = .ok (.ireturn, 1) := by decide +kernel
theorem dL_law_500 : decode cL_law 500 = .ok (.aload_n 1, 1) := by decide +kernel
theorem dL_law_501 : decode cL_law 501 = .ok (.aload_n 0, 1) := by decide +kernel
theorem dL_law_502 : decode cL_law 502 = .ok (.iload_n 3, 1) := by decide +kernel
theorem dL_law_503 : decode cL_law 503 = .ok (.iconst 1, 1) := by decide +kernel
theorem dL_law_504 : decode cL_law 504 = .ok (.iadd, 1) := by decide +kernel
theorem dL_law_505 : decode cL_law 505 = .ok (.iaload, 1) := by decide +kernel
theorem dL_law_506 : decode cL_law 506 = .ok (.aload_n 0, 1) := by decide +kernel
theorem dL_law_507 : decode cL_law 507 = .ok (.iload_n 3, 1) := by decide +kernel
theorem dL_law_508 : decode cL_law 508 = .ok (.iconst 2, 1) := by decide +kernel
theorem dL_law_509 : decode cL_law 509 = .ok (.iadd, 1) := by decide +kernel
theorem dL_law_510 : decode cL_law 510 = .ok (.iaload, 1) := by decide +kernel
theorem dL_law_511 : decode cL_law 511 = .ok (.invokevirtual 67, 3) := by decide +kernel
theorem dL_law_514 : decode cL_law 514 = .ok (.aload_n 2, 1) := by decide +kernel
theorem dL_law_515 : decode cL_law 515 = .ok (.aload_n 0, 1) := by decide +kernel
theorem dL_law_516 : decode cL_law 516 = .ok (.iload_n 3, 1) := by decide +kernel
theorem dL_law_517 : decode cL_law 517 = .ok (.iconst 1, 1) := by decide +kernel
theorem dL_law_518 : decode cL_law 518 = .ok (.iadd, 1) := by decide +kernel
theorem dL_law_519 : decode cL_law 519 = .ok (.iaload, 1) := by decide +kernel
theorem dL_law_520 : decode cL_law 520 = .ok (.aload_n 0, 1) := by decide +kernel
theorem dL_law_521 : decode cL_law 521 = .ok (.iload_n 3, 1) := by decide +kernel
theorem dL_law_522 : decode cL_law 522 = .ok (.iconst 2, 1) := by decide +kernel
theorem dL_law_523 : decode cL_law 523 = .ok (.iadd, 1) := by decide +kernel
theorem dL_law_524 : decode cL_law 524 = .ok (.iaload, 1) := by decide +kernel
theorem dL_law_525 : decode cL_law 525 = .ok (.invokevirtual 70, 3) := by decide +kernel
theorem dL_law_528 : decode cL_law 528 = .ok (.if_icmp .eq 311, 3) := by decide +kernel
theorem dL_law_531 : decode cL_law 531 = .ok (.iconst 0, 1) := by decide +kernel
theorem dL_law_532 : decode cL_law 532 = .ok (.ireturn, 1) := by decide +kernel
theorem dL_law_533 : decode cL_law 533 = .ok (.aload_n 1, 1) := by decide +kernel
theorem dL_law_534 : decode cL_law 534 = .ok (.aload_n 0, 1) := by decide +kernel
theorem dL_law_535 : decode cL_law 535 = .ok (.iload_n 3, 1) := by decide +kernel
theorem dL_law_536 : decode cL_law 536 = .ok (.iconst 1, 1) := by decide +kernel
theorem dL_law_537 : decode cL_law 537 = .ok (.iadd, 1) := by decide +kernel
theorem dL_law_538 : decode cL_law 538 = .ok (.iaload, 1) := by decide +kernel
theorem dL_law_539 : decode cL_law 539 = .ok (.invokevirtual 71, 3) := by decide +kernel
theorem dL_law_542 : decode cL_law 542 = .ok (.aload_n 2, 1) := by decide +kernel
theorem dL_law_543 : decode cL_law 543 = .ok (.aload_n 0, 1) := by decide +kernel
theorem dL_law_544 : decode cL_law 544 = .ok (.iload_n 3, 1) := by decide +kernel
theorem dL_law_545 : decode cL_law 545 = .ok (.iconst 1, 1) := by decide +kernel
theorem dL_law_546 : decode cL_law 546 = .ok (.iadd, 1) := by decide +kernel
theorem dL_law_547 : decode cL_law 547 = .ok (.iaload, 1) := by decide +kernel
theorem dL_law_548 : decode cL_law 548 = .ok (.invokevirtual 74, 3) := by decide +kernel
theorem dL_law_551 : decode cL_law 551 = .ok (.if_icmp .eq 288, 3) := by decide +kernel
theorem dL_law_554 : decode cL_law 554 = .ok (.iconst 0, 1) := by decide +kernel
theorem dL_law_555 : decode cL_law 555 = .ok (.ireturn, 1) := by decide +kernel
theorem dL_law_556 : decode cL_law 556 = .ok (.aload_n 1, 1) := by decide +kernel
theorem dL_law_557 : decode cL_law 557 = .ok (.aload_n 0, 1) := by decide +kernel
theorem dL_law_558 : decode cL_law 558 = .ok (.iload_n 3, 1) := by decide +kernel
theorem dL_law_559 : decode cL_law 559 = .ok (.iconst 1, 1) := by decide +kernel
theorem dL_law_560 : decode cL_law 560 = .ok (.iadd, 1) := by decide +kernel
theorem dL_law_561 : decode cL_law 561 = .ok (.iaload, 1) := by decide +kernel
theorem dL_law_562 : decode cL_law 562 = .ok (.aload_n 0, 1) := by decide +kernel
theorem dL_law_563 : decode cL_law 563 = .ok (.iload_n 3, 1) := by decide +kernel
theorem dL_law_564 : decode cL_law 564 = .ok (.iconst 2, 1) := by decide +kernel
theorem dL_law_565 : decode cL_law 565 = .ok (.iadd, 1) := by decide +kernel
theorem dL_law_566 : decode cL_law 566 = .ok (.iaload, 1) := by decide +kernel
theorem dL_law_567 : decode cL_law 567 = .ok (.invokevirtual 75, 3) := by decide +kernel
theorem dL_law_570 : decode cL_law 570 = .ok (.aload_n 2, 1) := by decide +kernel
theorem dL_law_571 : decode cL_law 571 = .ok (.aload_n 0, 1) := by decide +kernel
theorem dL_law_572 : decode cL_law 572 = .ok (.iload_n 3, 1) := by decide +kernel
theorem dL_law_573 : decode cL_law 573 = .ok (.iconst 1, 1) := by decide +kernel
theorem dL_law_574 : decode cL_law 574 = .ok (.iadd, 1) := by decide +kernel
theorem dL_law_575 : decode cL_law 575 = .ok (.iaload, 1) := by decide +kernel
theorem dL_law_576 : decode cL_law 576 = .ok (.aload_n 0, 1) := by decide +kernel
theorem dL_law_577 : decode cL_law 577 = .ok (.iload_n 3, 1) := by decide +kernel
theorem dL_law_578 : decode cL_law 578 = .ok (.iconst 2, 1) := by decide +kernel
theorem dL_law_579 : decode cL_law 579 = .ok (.iadd, 1) := by decide +kernel
theorem dL_law_580 : decode cL_law 580 = .ok (.iaload, 1) := by decide +kernel
theorem dL_law_581 : decode cL_law 581 = .ok (.invokevirtual 78, 3) := by decide +kernel
theorem dL_law_584 : decode cL_law 584 = .ok (.if_icmp .eq 255, 3) := by decide +kernel
theorem dL_law_587 : decode cL_law 587 = .ok (.iconst 0, 1) := by decide +kernel
theorem dL_law_588 : decode cL_law 588 = .ok (.ireturn, 1) := by decide +kernel
theorem dL_law_589 : decode cL_law 589 = .ok (.aload_n 1, 1) := by decide +kernel
theorem dL_law_590 : decode cL_law 590 = .ok (.aload_n 0, 1) := by decide +kernel
theorem dL_law_591 : decode cL_law 591 = .ok (.iload_n 3, 1) := by decide +kernel
theorem dL_law_592 : decode cL_law 592 = .ok (.iconst 1, 1) := by decide +kernel
theorem dL_law_593 : decode cL_law 593 = .ok (.iadd, 1) := by decide +kernel
theorem dL_law_594 : decode cL_law 594 = .ok (.iaload, 1) := by decide +kernel
theorem dL_law_595 : decode cL_law 595 = .ok (.aload_n 0, 1) := by decide +kernel
theorem dL_law_596 : decode cL_law 596 = .ok (.iload_n 3, 1) := by decide +kernel
theorem dL_law_597 : decode cL_law 597 = .ok (.iconst 2, 1) := by decide +kernel
theorem dL_law_598 : decode cL_law 598 = .ok (.iadd, 1) := by decide +kernel
theorem dL_law_599 : decode cL_law 599 = .ok (.iaload, 1) := by decide +kernel
theorem dL_law_600 : decode cL_law 600 = .ok (.aload_n 0, 1) := by decide +kernel
theorem dL_law_601 : decode cL_law 601 = .ok (.iload_n 3, 1) := by decide +kernel
theorem dL_law_602 : decode cL_law 602 = .ok (.iconst 3, 1) := by decide +kernel
theorem dL_law_603 : decode cL_law 603 = .ok (.iadd, 1) := by decide +kernel
theorem dL_law_604 : decode cL_law 604 = .ok (.iaload, 1) := by decide +kernel
theorem dL_law_605 : decode cL_law 605 = .ok (.invokevirtual 79, 3) := by decide +kernel
theorem dL_law_608 : decode cL_law 608 = .ok (.aload_n 2, 1) := by decide +kernel
theorem dL_law_609 : decode cL_law 609 = .ok (.aload_n 0, 1) := by decide +kernel
theorem dL_law_610 : decode cL_law 610 = .ok (.iload_n 3, 1) := by decide +kernel
theorem dL_law_611 : decode cL_law 611 = .ok (.iconst 1, 1) := by decide +kernel
theorem dL_law_612 : decode cL_law 612 = .ok (.iadd, 1) := by decide +kernel
theorem dL_law_613 : decode cL_law 613 = .ok (.iaload, 1) := by decide +kernel
theorem dL_law_614 : decode cL_law 614 = .ok (.aload_n 0, 1) := by decide +kernel
theorem dL_law_615 : decode cL_law 615 = .ok (.iload_n 3, 1) := by decide +kernel
theorem dL_law_616 : decode cL_law 616 = .ok (.iconst 2, 1) := by decide +kernel
theorem dL_law_617 : decode cL_law 617 = .ok (.iadd, 1) := by decide +kernel
theorem dL_law_618 : decode cL_law 618 = .ok (.iaload, 1) := by decide +kernel
theorem dL_law_619 : decode cL_law 619 = .ok (.aload_n 0, 1) := by decide +kernel
theorem dL_law_620 : decode cL_law 620 = .ok (.iload_n 3, 1) := by decide +kernel
theorem dL_law_621 : decode cL_law 621 = .ok (.iconst 3, 1) := by decide +kernel
theorem dL_law_622 : decode cL_law 622 = .ok (.iadd, 1) := by decide +kernel
theorem dL_law_623 : decode cL_law 623 = .ok (.iaload, 1) := by decide +kernel
theorem dL_law_624 : decode cL_law 624 = .ok (.invokevirtual 82, 3) := by decide +kernel
theorem dL_law_627 : decode cL_law 627 = .ok (.if_icmp .eq 212, 3) := by decide +kernel
theorem dL_law_630 : decode cL_law 630 = .ok (.iconst 0, 1) := by decide +kernel
theorem dL_law_631 : decode cL_law 631 = .ok (.ireturn, 1) := by decide +kernel
theorem dL_law_632 : decode cL_law 632 = .ok (.aload_n 1, 1) := by decide +kernel
theorem dL_law_633 : decode cL_law 633 = .ok (.aload_n 0, 1) := by decide +kernel
theorem dL_law_634 : decode cL_law 634 = .ok (.iload_n 3, 1) := by decide +kernel
theorem dL_law_635 : decode cL_law 635 = .ok (.iconst 1, 1) := by decide +kernel
theorem dL_law_636 : decode cL_law 636 = .ok (.iadd, 1) := by decide +kernel
theorem dL_law_637 : decode cL_law 637 = .ok (.iaload, 1) := by decide +kernel
theorem dL_law_638 : decode cL_law 638 = .ok (.invokevirtual 83, 3) := by decide +kernel
theorem dL_law_641 : decode cL_law 641 = .ok (.aload_n 2, 1) := by decide +kernel
theorem dL_law_642 : decode cL_law 642 = .ok (.aload_n 0, 1) := by decide +kernel
theorem dL_law_643 : decode cL_law 643 = .ok (.iload_n 3, 1) := by decide +kernel
theorem dL_law_644 : decode cL_law 644 = .ok (.iconst 1, 1) := by decide +kernel
theorem dL_law_645 : decode cL_law 645 = .ok (.iadd, 1) := by decide +kernel
theorem dL_law_646 : decode cL_law 646 = .ok (.iaload, 1) := by decide +kernel
theorem dL_law_647 : decode cL_law 647 = .ok (.invokevirtual 86, 3) := by decide +kernel
theorem dL_law_650 : decode cL_law 650 = .ok (.if_icmp .eq 189, 3) := by decide +kernel
theorem dL_law_653 : decode cL_law 653 = .ok (.iconst 0, 1) := by decide +kernel
theorem dL_law_654 : decode cL_law 654 = .ok (.ireturn, 1) := by decide +kernel
theorem dL_law_655 : decode cL_law 655 = .ok (.aload_n 1, 1) := by decide +kernel
theorem dL_law_656 : decode cL_law 656 = .ok (.aload_n 0, 1) := by decide +kernel
theorem dL_law_657 : decode cL_law 657 = .ok (.iload_n 3, 1) := by decide +kernel
theorem dL_law_658 : decode cL_law 658 = .ok (.iconst 1, 1) := by decide +kernel
theorem dL_law_659 : decode cL_law 659 = .ok (.iadd, 1) := by decide +kernel
theorem dL_law_660 : decode cL_law 660 = .ok (.iaload, 1) := by decide +kernel
theorem dL_law_661 : decode cL_law 661 = .ok (.invokevirtual 87, 3) := by decide +kernel
theorem dL_law_664 : decode cL_law 664 = .ok (.aload_n 2, 1) := by decide +kernel
theorem dL_law_665 : decode cL_law 665 = .ok (.aload_n 0, 1) := by decide +kernel
theorem dL_law_666 : decode cL_law 666 = .ok (.iload_n 3, 1) := by decide +kernel
theorem dL_law_667 : decode cL_law 667 = .ok (.iconst 1, 1) := by decide +kernel
theorem dL_law_668 : decode cL_law 668 = .ok (.iadd, 1) := by decide +kernel
theorem dL_law_669 : decode cL_law 669 = .ok (.iaload, 1) := by decide +kernel
theorem dL_law_670 : decode cL_law 670 = .ok (.invokevirtual 90, 3) := by decide +kernel
theorem dL_law_673 : decode cL_law 673 = .ok (.if_icmp .eq 166, 3) := by decide +kernel
theorem dL_law_676 : decode cL_law 676 = .ok (.iconst 0, 1) := by decide +kernel
theorem dL_law_677 : decode cL_law 677 = .ok (.ireturn, 1) := by decide +kernel
theorem dL_law_678 : decode cL_law 678 = .ok (.aload_n 1, 1) := by decide +kernel
theorem dL_law_679 : decode cL_law 679 = .ok (.aload_n 0, 1) := by decide +kernel
theorem dL_law_680 : decode cL_law 680 = .ok (.iload_n 3, 1) := by decide +kernel
theorem dL_law_681 : decode cL_law 681 = .ok (.iconst 1, 1) := by decide +kernel
theorem dL_law_682 : decode cL_law 682 = .ok (.iadd, 1) := by decide +kernel
theorem dL_law_683 : decode cL_law 683 = .ok (.iaload, 1) := by decide +kernel
theorem dL_law_684 : decode cL_law 684 = .ok (.invokevirtual 91, 3) := by decide +kernel
theorem dL_law_687 : decode cL_law 687 = .ok (.aload_n 2, 1) := by decide +kernel
theorem dL_law_688 : decode cL_law 688 = .ok (.aload_n 0, 1) := by decide +kernel
theorem dL_law_689 : decode cL_law 689 = .ok (.iload_n 3, 1) := by decide +kernel
theorem dL_law_690 : decode cL_law 690 = .ok (.iconst 1, 1) := by decide +kernel
theorem dL_law_691 : decode cL_law 691 = .ok (.iadd, 1) := by decide +kernel
theorem dL_law_692 : decode cL_law 692 = .ok (.iaload, 1) := by decide +kernel
theorem dL_law_693 : decode cL_law 693 = .ok (.invokevirtual 94, 3) := by decide +kernel
theorem dL_law_696 : decode cL_law 696 = .ok (.if_icmp .eq 143, 3) := by decide +kernel
theorem dL_law_699 : decode cL_law 699 = .ok (.iconst 0, 1) := by decide +kernel
theorem dL_law_700 : decode cL_law 700 = .ok (.ireturn, 1) := by decide +kernel
theorem dL_law_701 : decode cL_law 701 = .ok (.aload_n 1, 1) := by decide +kernel
theorem dL_law_702 : decode cL_law 702 = .ok (.aload_n 0, 1) := by decide +kernel
theorem dL_law_703 : decode cL_law 703 = .ok (.iload_n 3, 1) := by decide +kernel
theorem dL_law_704 : decode cL_law 704 = .ok (.iconst 1, 1) := by decide +kernel
theorem dL_law_705 : decode cL_law 705 = .ok (.iadd, 1) := by decide +kernel
theorem dL_law_706 : decode cL_law 706 = .ok (.iaload, 1) := by decide +kernel
theorem dL_law_707 : decode cL_law 707 = .ok (.i2l, 1) := by decide +kernel
theorem dL_law_708 : decode cL_law 708 = .ok (.bipush 32, 2) := by decide +kernel
theorem dL_law_710 : decode cL_law 710 = .ok (.lshl, 1) := by decide +kernel
theorem dL_law_711 : decode cL_law 711 = .ok (.aload_n 0, 1) := by decide +kernel
theorem dL_law_712 : decode cL_law 712 = .ok (.iload_n 3, 1) := by decide +kernel
theorem dL_law_713 : decode cL_law 713 = .ok (.iconst 2, 1) := by decide +kernel
theorem dL_law_714 : decode cL_law 714 = .ok (.iadd, 1) := by decide +kernel
theorem dL_law_715 : decode cL_law 715 = .ok (.iaload, 1) := by decide +kernel
theorem dL_law_716 : decode cL_law 716 = .ok (.i2l, 1) := by decide +kernel
theorem dL_law_717 : decode cL_law 717 = .ok (.ldc2_w 95, 3) := by decide +kernel
theorem dL_law_720 : decode cL_law 720 = .ok (.land, 1) := by decide +kernel
theorem dL_law_721 : decode cL_law 721 = .ok (.lor, 1) := by decide +kernel
theorem dL_law_722 : decode cL_law 722 = .ok (.invokevirtual 97, 3) := by decide +kernel
theorem dL_law_725 : decode cL_law 725 = .ok (.aload_n 2, 1) := by decide +kernel
theorem dL_law_726 : decode cL_law 726 = .ok (.aload_n 0, 1) := by decide +kernel
theorem dL_law_727 : decode cL_law 727 = .ok (.iload_n 3, 1) := by decide +kernel
theorem dL_law_728 : decode cL_law 728 = .ok (.iconst 1, 1) := by decide +kernel
theorem dL_law_729 : decode cL_law 729 = .ok (.iadd, 1) := by decide +kernel
theorem dL_law_730 : decode cL_law 730 = .ok (.iaload, 1) := by decide +kernel
theorem dL_law_731 : decode cL_law 731 = .ok (.i2l, 1) := by decide +kernel
theorem dL_law_732 : decode cL_law 732 = .ok (.bipush 32, 2) := by decide +kernel
theorem dL_law_734 : decode cL_law 734 = .ok (.lshl, 1) := by decide +kernel
theorem dL_law_735 : decode cL_law 735 = .ok (.aload_n 0, 1) := by decide +kernel
theorem dL_law_736 : decode cL_law 736 = .ok (.iload_n 3, 1) := by decide +kernel
theorem dL_law_737 : decode cL_law 737 = .ok (.iconst 2, 1) := by decide +kernel
theorem dL_law_738 : decode cL_law 738 = .ok (.iadd, 1) := by decide +kernel
theorem dL_law_739 : decode cL_law 739 = .ok (.iaload, 1) := by decide +kernel
theorem dL_law_740 : decode cL_law 740 = .ok (.i2l, 1) := by decide +kernel
theorem dL_law_741 : decode cL_law 741 = .ok (.ldc2_w 95, 3) := by decide +kernel
theorem dL_law_744 : decode cL_law 744 = .ok (.land, 1) := by decide +kernel
theorem dL_law_745 : decode cL_law 745 = .ok (.lor, 1) := by decide +kernel
theorem dL_law_746 : decode cL_law 746 = .ok (.invokevirtual 101, 3) := by decide +kernel
theorem dL_law_749 : decode cL_law 749 = .ok (.if_icmp .eq 90, 3) := by decide +kernel
theorem dL_law_752 : decode cL_law 752 = .ok (.iconst 0, 1) := by decide +kernel
theorem dL_law_753 : decode cL_law 753 = .ok (.ireturn, 1) := by decide +kernel
theorem dL_law_754 : decode cL_law 754 = .ok (.aload_n 1, 1) := by decide +kernel
theorem dL_law_755 : decode cL_law 755 = .ok (.invokevirtual 102, 3) := by decide +kernel
theorem dL_law_758 : decode cL_law 758 = .ok (.aload_n 2, 1) := by decide +kernel
theorem dL_law_759 : decode cL_law 759 = .ok (.invokevirtual 105, 3) := by decide +kernel
theorem dL_law_762 : decode cL_law 762 = .ok (.if_icmp .eq 77, 3) := by decide +kernel
theorem dL_law_765 : decode cL_law 765 = .ok (.iconst 0, 1) := by decide +kernel
theorem dL_law_766 : decode cL_law 766 = .ok (.ireturn, 1) := by decide +kernel
theorem dL_law_767 : decode cL_law 767 = .ok (.aload_n 1, 1) := by decide +kernel
theorem dL_law_768 : decode cL_law 768 = .ok (.invokevirtual 106, 3) := by decide +kernel
theorem dL_law_771 : decode cL_law 771 = .ok (.aload_n 2, 1) := by decide +kernel
theorem dL_law_772 : decode cL_law 772 = .ok (.invokevirtual 109, 3) := by decide +kernel
theorem dL_law_775 : decode cL_law 775 = .ok (.if_icmp .eq 64, 3) := by decide +kernel
theorem dL_law_778 : decode cL_law 778 = .ok (.iconst 0, 1) := by decide +kernel
theorem dL_law_779 : decode cL_law 779 = .ok (.ireturn, 1) := by decide +kernel
theorem dL_law_780 : decode cL_law 780 = .ok (.aload_n 1, 1) := by decide +kernel
theorem dL_law_781 : decode cL_law 781 = .ok (.invokevirtual 110, 3) := by decide +kernel
theorem dL_law_784 : decode cL_law 784 = .ok (.aload_n 2, 1) := by decide +kernel
theorem dL_law_785 : decode cL_law 785 = .ok (.invokevirtual 113, 3) := by decide +kernel
theorem dL_law_788 : decode cL_law 788 = .ok (.if_icmp .eq 51, 3) := by decide +kernel
theorem dL_law_791 : decode cL_law 791 = .ok (.iconst 0, 1) := by decide +kernel
theorem dL_law_792 : decode cL_law 792 = .ok (.ireturn, 1) := by decide +kernel
theorem dL_law_793 : decode cL_law 793 = .ok (.aload_n 1, 1) := by decide +kernel
theorem dL_law_794 : decode cL_law 794 = .ok (.aload_n 0, 1) := by decide +kernel
theorem dL_law_795 : decode cL_law 795 = .ok (.iload_n 3, 1) := by decide +kernel
theorem dL_law_796 : decode cL_law 796 = .ok (.iconst 1, 1) := by decide +kernel
theorem dL_law_797 : decode cL_law 797 = .ok (.iadd, 1) := by decide +kernel
theorem dL_law_798 : decode cL_law 798 = .ok (.iaload, 1) := by decide +kernel
theorem dL_law_799 : decode cL_law 799 = .ok (.invokevirtual 114, 3) := by decide +kernel
theorem dL_law_802 : decode cL_law 802 = .ok (.aload_n 2, 1) := by decide +kernel
theorem dL_law_803 : decode cL_law 803 = .ok (.aload_n 0, 1) := by decide +kernel
theorem dL_law_804 : decode cL_law 804 = .ok (.iload_n 3, 1) := by decide +kernel
theorem dL_law_805 : decode cL_law 805 = .ok (.iconst 1, 1) := by decide +kernel
theorem dL_law_806 : decode cL_law 806 = .ok (.iadd, 1) := by decide +kernel
theorem dL_law_807 : decode cL_law 807 = .ok (.iaload, 1) := by decide +kernel
theorem dL_law_808 : decode cL_law 808 = .ok (.invokevirtual 117, 3) := by decide +kernel
theorem dL_law_811 : decode cL_law 811 = .ok (.if_icmp .eq 28, 3) := by decide +kernel
theorem dL_law_814 : decode cL_law 814 = .ok (.iconst 0, 1) := by decide +kernel
theorem dL_law_815 : decode cL_law 815 = .ok (.ireturn, 1) := by decide +kernel
theorem dL_law_816 : decode cL_law 816 = .ok (.aload_n 1, 1) := by decide +kernel
theorem dL_law_817 : decode cL_law 817 = .ok (.aload_n 0, 1) := by decide +kernel
theorem dL_law_818 : decode cL_law 818 = .ok (.iload_n 3, 1) := by decide +kernel
theorem dL_law_819 : decode cL_law 819 = .ok (.iconst 1, 1) := by decide +kernel
theorem dL_law_820 : decode cL_law 820 = .ok (.iadd, 1) := by decide +kernel
theorem dL_law_821 : decode cL_law 821 = .ok (.iaload, 1) := by decide +kernel
theorem dL_law_822 : decode cL_law 822 = .ok (.invokevirtual 118, 3) := by decide +kernel
theorem dL_law_825 : decode cL_law 825 = .ok (.aload_n 2, 1) := by decide +kernel
theorem dL_law_826 : decode cL_law 826 = .ok (.aload_n 0, 1) := by decide +kernel
theorem dL_law_827 : decode cL_law 827 = .ok (.iload_n 3, 1) := by decide +kernel
theorem dL_law_828 : decode cL_law 828 = .ok (.iconst 1, 1) := by decide +kernel
theorem dL_law_829 : decode cL_law 829 = .ok (.iadd, 1) := by decide +kernel
theorem dL_law_830 : decode cL_law 830 = .ok (.iaload, 1) := by decide +kernel
theorem dL_law_831 : decode cL_law 831 = .ok (.invokevirtual 121, 3) := by decide +kernel
theorem dL_law_834 : decode cL_law 834 = .ok (.if_icmp .eq 5, 3) := by decide +kernel
theorem dL_law_837 : decode cL_law 837 = .ok (.iconst 0, 1) := by decide +kernel
theorem dL_law_838 : decode cL_law 838 = .ok (.ireturn, 1) := by decide +kernel
theorem dL_law_839 : decode cL_law 839 = .ok (.iinc 3 5, 3) := by decide +kernel
theorem dL_law_842 : decode cL_law 842 = .ok (.goto (-824), 3) := by decide +kernel
theorem dL_law_845 : decode cL_law 845 = .ok (.iconst 1, 1) := by decide +kernel
theorem dL_law_846 : decode cL_law 846 = .ok (.ireturn, 1) := by decide +kernel
end
section
/-! wsL_law by its chunks -/
theorem wm {A : List Cond} (hA : ∀ w ∈ A, w ∈ wsL_law) {i : Nat} {w : Cond} (h : A[i]? = some w) : w ∈ wsL_law := hA w (List.mem_of_getElem? h)
theorem wl_1 : ∀ w ∈ wsL_law_r1, w ∈ wsL_law := fun _ h => List.mem_append_left _ (List.mem_append_left _ (List.mem_append_left _ (List.mem_append_left _ (List.mem_append_left _ (List.mem_append_left _ (List.mem_append_left _ (List.mem_append_left _ (List.mem_append_left _ (List.mem_append_left _ (List.mem_append_left _ h))))))))))
theorem wl_2 : ∀ w ∈ wsL_law_r2, w ∈ wsL_law := fun _ h => List.mem_append_left _ (List.mem_append_left _ (List.mem_append_left _ (List.mem_append_left _ (List.mem_append_left _ (List.mem_append_left _ (List.mem_append_left _ (List.mem_append_left _ (List.mem_append_left _ (List.mem_append_left _ (List.mem_append_right _ (List.mem_append_left _ h)))))))))))
theorem wl_3 : ∀ w ∈ wsL_law_r3, w ∈ wsL_law := fun _ h => List.mem_append_left _ (List.mem_append_left _ (List.mem_append_left _ (List.mem_append_left _ (List.mem_append_left _ (List.mem_append_left _ (List.mem_append_left _ (List.mem_append_left _ (List.mem_append_left _ (List.mem_append_left _ (List.mem_append_right _ (List.mem_append_right _ (List.mem_append_left _ h))))))))))))
theorem wl_4 : ∀ w ∈ wsL_law_r4, w ∈ wsL_law := fun _ h => List.mem_append_left _ (List.mem_append_left _ (List.mem_append_left _ (List.mem_append_left _ (List.mem_append_left _ (List.mem_append_left _ (List.mem_append_left _ (List.mem_append_left _ (List.mem_append_left _ (List.mem_append_left _ (List.mem_append_right _ (List.mem_append_right _ (List.mem_append_right _ (List.mem_append_left _ h)))))))))))))
theorem wl_5 : ∀ w ∈ wsL_law_r5, w ∈ wsL_law := fun _ h => List.mem_append_left _ (List.mem_append_left _ (List.mem_append_left _ (List.mem_append_left _ (List.mem_append_left _ (List.mem_append_left _ (List.mem_append_left _ (List.mem_append_left _ (List.mem_append_left _ (List.mem_append_left _ (List.mem_append_right _ (List.mem_append_right _ (List.mem_append_right _ (List.mem_append_right _ (List.mem_append_left _ h))))))))))))))
theorem wl_6 : ∀ w ∈ wsL_law_r6, w ∈ wsL_law := fun _ h => List.mem_append_left _ (List.mem_append_left _ (List.mem_append_left _ (List.mem_append_left _ (List.mem_append_left _ (List.mem_append_left _ (List.mem_append_left _ (List.mem_append_left _ (List.mem_append_left _ (List.mem_append_left _ (List.mem_append_right _ (List.mem_append_right _ (List.mem_append_right _ (List.mem_append_right _ (List.mem_append_right _ (List.mem_append_left _ h)))))))))))))))
theorem wl_7 : ∀ w ∈ wsL_law_r7, w ∈ wsL_law := fun _ h => List.mem_append_left _ (List.mem_append_left _ (List.mem_append_left _ (List.mem_append_left _ (List.mem_append_left _ (List.mem_append_left _ (List.mem_append_left _ (List.mem_append_left _ (List.mem_append_left _ (List.mem_append_left _ (List.mem_append_right _ (List.mem_append_right _ (List.mem_append_right _ (List.mem_append_right _ (List.mem_append_right _ (List.mem_append_right _ (List.mem_append_left _ h))))))))))))))))
theorem wl_8 : ∀ w ∈ wsL_law_r8, w ∈ wsL_law := fun _ h => List.mem_append_left _ (List.mem_append_left _ (List.mem_append_left _ (List.mem_append_left _ (List.mem_append_left _ (List.mem_append_left _ (List.mem_append_left _ (List.mem_append_left _ (List.mem_append_left _ (List.mem_append_left _ (List.mem_append_right _ (List.mem_append_right _ (List.mem_append_right _ (List.mem_append_right _ (List.mem_append_right _ (List.mem_append_right _ (List.mem_append_right _ (List.mem_append_left _ h)))))))))))))))))
theorem wl_9 : ∀ w ∈ wsL_law_r9, w ∈ wsL_law := fun _ h => List.mem_append_left _ (List.mem_append_left _ (List.mem_append_left _ (List.mem_append_left _ (List.mem_append_left _ (List.mem_append_left _ (List.mem_append_left _ (List.mem_append_left _ (List.mem_append_left _ (List.mem_append_left _ (List.mem_append_right _ (List.mem_append_right _ (List.mem_append_right _ (List.mem_append_right _ (List.mem_append_right _ (List.mem_append_right _ (List.mem_append_right _ (List.mem_append_right _ (List.mem_append_left _ h))))))))))))))))))
theorem wl_10 : ∀ w ∈ wsL_law_r10, w ∈ wsL_law := fun _ h => List.mem_append_left _ (List.mem_append_left _ (List.mem_append_left _ (List.mem_append_left _ (List.mem_append_left _ (List.mem_append_left _ (List.mem_append_left _ (List.mem_append_left _ (List.mem_append_left _ (List.mem_append_left _ (List.mem_append_right _ (List.mem_append_right _ (List.mem_append_right _ (List.mem_append_right _ (List.mem_append_right _ (List.mem_append_right _ (List.mem_append_right _ (List.mem_append_right _ (List.mem_append_right _ (List.mem_append_left _ h)))))))))))))))))))
theorem wl_11 : ∀ w ∈ wsL_law_r11, w ∈ wsL_law := fun _ h => List.mem_append_left _ (List.mem_append_left _ (List.mem_append_left _ (List.mem_append_left _ (List.mem_append_left _ (List.mem_append_left _ (List.mem_append_left _ (List.mem_append_left _ (List.mem_append_left _ (List.mem_append_left _ (List.mem_append_right _ (List.mem_append_right _ (List.mem_append_right _ (List.mem_append_right _ (List.mem_append_right _ (List.mem_append_right _ (List.mem_append_right _ (List.mem_append_right _ (List.mem_append_right _ (List.mem_append_right _ (List.mem_append_left _ h))))))))))))))))))))
theorem wl_12 : ∀ w ∈ wsL_law_r12, w ∈ wsL_law := fun _ h => List.mem_append_left _ (List.mem_append_left _ (List.mem_append_left _ (List.mem_append_left _ (List.mem_append_left _ (List.mem_append_left _ (List.mem_append_left _ (List.mem_append_left _ (List.mem_append_left _ (List.mem_append_left _ (List.mem_append_right _ (List.mem_append_right _ (List.mem_append_right _ (List.mem_append_right _ (List.mem_append_right _ (List.mem_append_right _ (List.mem_append_right _ (List.mem_append_right _ (List.mem_append_right _ (List.mem_append_right _ (List.mem_append_right _ (List.mem_append_left _ h)))))))))))))))))))))
theorem wl_13 : ∀ w ∈ wsL_law_r13, w ∈ wsL_law := fun _ h => List.mem_append_left _ (List.mem_append_left _ (List.mem_append_left _ (List.mem_append_left _ (List.mem_append_left _ (List.mem_append_left _ (List.mem_append_left _ (List.mem_append_left _ (List.mem_append_left _ (List.mem_append_left _ (List.mem_append_right _ (List.mem_append_right _ (List.mem_append_right _ (List.mem_append_right _ (List.mem_append_right _ (List.mem_append_right _ (List.mem_append_right _ (List.mem_append_right _ (List.mem_append_right _ (List.mem_append_right _ (List.mem_append_right _ (List.mem_append_right _ (List.mem_append_left _ h))))))))))))))))))))))
theorem wl_14 : ∀ w ∈ wsL_law_r14, w ∈ wsL_law := fun _ h => List.mem_append_left _ (List.mem_append_left _ (List.mem_append_left _ (List.mem_append_left _ (List.mem_append_left _ (List.mem_append_left _ (List.mem_append_left _ (List.mem_append_left _ (List.mem_append_left _ (List.mem_append_left _ (List.mem_append_right _ (List.mem_append_right _ (List.mem_append_right _ (List.mem_append_right _ (List.mem_append_right _ (List.mem_append_right _ (List.mem_append_right _ (List.mem_append_right _ (List.mem_append_right _ (List.mem_append_right _ (List.mem_append_right _ (List.mem_append_right _ (List.mem_append_right _ (List.mem_append_left _ h)))))))))))))))))))))))
theorem wl_15 : ∀ w ∈ wsL_law_r15, w ∈ wsL_law := fun _ h => List.mem_append_left _ (List.mem_append_left _ (List.mem_append_left _ (List.mem_append_left _ (List.mem_append_left _ (List.mem_append_left _ (List.mem_append_left _ (List.mem_append_left _ (List.mem_append_left _ (List.mem_append_left _ (List.mem_append_right _ (List.mem_append_right _ (List.mem_append_right _ (List.mem_append_right _ (List.mem_append_right _ (List.mem_append_right _ (List.mem_append_right _ (List.mem_append_right _ (List.mem_append_right _ (List.mem_append_right _ (List.mem_append_right _ (List.mem_append_right _ (List.mem_append_right _ (List.mem_append_right _ (List.mem_append_left _ h))))))))))))))))))))))))
theorem wl_16 : ∀ w ∈ wsL_law_r16, w ∈ wsL_law := fun _ h => List.mem_append_left _ (List.mem_append_left _ (List.mem_append_left _ (List.mem_append_left _ (List.mem_append_left _ (List.mem_append_left _ (List.mem_append_left _ (List.mem_append_left _ (List.mem_append_left _ (List.mem_append_left _ (List.mem_append_right _ (List.mem_append_right _ (List.mem_append_right _ (List.mem_append_right _ (List.mem_append_right _ (List.mem_append_right _ (List.mem_append_right _ (List.mem_append_right _ (List.mem_append_right _ (List.mem_append_right _ (List.mem_append_right _ (List.mem_append_right _ (List.mem_append_right _ (List.mem_append_right _ (List.mem_append_right _ (List.mem_append_left _ h)))))))))))))))))))))))))
theorem wl_17 : ∀ w ∈ wsL_law_r17, w ∈ wsL_law := fun _ h => List.mem_append_left _ (List.mem_append_left _ (List.mem_append_left _ (List.mem_append_left _ (List.mem_append_left _ (List.mem_append_left _ (List.mem_append_left _ (List.mem_append_left _ (List.mem_append_left _ (List.mem_append_left _ (List.mem_append_right _ (List.mem_append_right _ (List.mem_append_right _ (List.mem_append_right _ (List.mem_append_right _ (List.mem_append_right _ (List.mem_append_right _ (List.mem_append_right _ (List.mem_append_right _ (List.mem_append_right _ (List.mem_append_right _ (List.mem_append_right _ (List.mem_append_right _ (List.mem_append_right _ (List.mem_append_right _ (List.mem_append_right _ (List.mem_append_left _ h))))))))))))))))))))))))))
theorem wl_18 : ∀ w ∈ wsL_law_r18, w ∈ wsL_law := fun _ h => List.mem_append_left _ (List.mem_append_left _ (List.mem_append_left _ (List.mem_append_left _ (List.mem_append_left _ (List.mem_append_left _ (List.mem_append_left _ (List.mem_append_left _ (List.mem_append_left _ (List.mem_append_left _ (List.mem_append_right _ (List.mem_append_right _ (List.mem_append_right _ (List.mem_append_right _ (List.mem_append_right _ (List.mem_append_right _ (List.mem_append_right _ (List.mem_append_right _ (List.mem_append_right _ (List.mem_append_right _ (List.mem_append_right _ (List.mem_append_right _ (List.mem_append_right _ (List.mem_append_right _ (List.mem_append_right _ (List.mem_append_right _ (List.mem_append_right _ (List.mem_append_left _ h)))))))))))))))))))))))))))
theorem wl_19 : ∀ w ∈ wsL_law_r19, w ∈ wsL_law := fun _ h => List.mem_append_left _ (List.mem_append_left _ (List.mem_append_left _ (List.mem_append_left _ (List.mem_append_left _ (List.mem_append_left _ (List.mem_append_left _ (List.mem_append_left _ (List.mem_append_left _ (List.mem_append_left _ (List.mem_append_right _ (List.mem_append_right _ (List.mem_append_right _ (List.mem_append_right _ (List.mem_append_right _ (List.mem_append_right _ (List.mem_append_right _ (List.mem_append_right _ (List.mem_append_right _ (List.mem_append_right _ (List.mem_append_right _ (List.mem_append_right _ (List.mem_append_right _ (List.mem_append_right _ (List.mem_append_right _ (List.mem_append_right _ (List.mem_append_right _ (List.mem_append_right _ (List.mem_append_left _ h))))))))))))))))))))))))))))
theorem wl_20 : ∀ w ∈ wsL_law_r20, w ∈ wsL_law := fun _ h => List.mem_append_left _ (List.mem_append_left _ (List.mem_append_left _ (List.mem_append_left _ (List.mem_append_left _ (List.mem_append_left _ (List.mem_append_left _ (List.mem_append_left _ (List.mem_append_left _ (List.mem_append_left _ (List.mem_append_right _ (List.mem_append_right _ (List.mem_append_right _ (List.mem_append_right _ (List.mem_append_right _ (List.mem_append_right _ (List.mem_append_right _ (List.mem_append_right _ (List.mem_append_right _ (List.mem_append_right _ (List.mem_append_right _ (List.mem_append_right _ (List.mem_append_right _ (List.mem_append_right _ (List.mem_append_right _ (List.mem_append_right _ (List.mem_append_right _ (List.mem_append_right _ (List.mem_append_right _ (List.mem_append_left _ h)))))))))))))))))))))))))))))
theorem wl_21 : ∀ w ∈ wsL_law_r21, w ∈ wsL_law := fun _ h => List.mem_append_left _ (List.mem_append_left _ (List.mem_append_left _ (List.mem_append_left _ (List.mem_append_left _ (List.mem_append_left _ (List.mem_append_left _ (List.mem_append_left _ (List.mem_append_left _ (List.mem_append_left _ (List.mem_append_right _ (List.mem_append_right _ (List.mem_append_right _ (List.mem_append_right _ (List.mem_append_right _ (List.mem_append_right _ (List.mem_append_right _ (List.mem_append_right _ (List.mem_append_right _ (List.mem_append_right _ (List.mem_append_right _ (List.mem_append_right _ (List.mem_append_right _ (List.mem_append_right _ (List.mem_append_right _ (List.mem_append_right _ (List.mem_append_right _ (List.mem_append_right _ (List.mem_append_right _ (List.mem_append_right _ (List.mem_append_left _ h))))))))))))))))))))))))))))))
theorem wl_22 : ∀ w ∈ wsL_law_r22, w ∈ wsL_law := fun _ h => List.mem_append_left _ (List.mem_append_left _ (List.mem_append_left _ (List.mem_append_left _ (List.mem_append_left _ (List.mem_append_left _ (List.mem_append_left _ (List.mem_append_left _ (List.mem_append_left _ (List.mem_append_left _ (List.mem_append_right _ (List.mem_append_right _ (List.mem_append_right _ (List.mem_append_right _ (List.mem_append_right _ (List.mem_append_right _ (List.mem_append_right _ (List.mem_append_right _ (List.mem_append_right _ (List.mem_append_right _ (List.mem_append_right _ (List.mem_append_right _ (List.mem_append_right _ (List.mem_append_right _ (List.mem_append_right _ (List.mem_append_right _ (List.mem_append_right _ (List.mem_append_right _ (List.mem_append_right _ (List.mem_append_right _ (List.mem_append_right _ (List.mem_append_left _ h)))))))))))))))))))))))))))))))
theorem wl_23 : ∀ w ∈ wsL_law_r23, w ∈ wsL_law := fun _ h => List.mem_append_left _ (List.mem_append_left _ (List.mem_append_left _ (List.mem_append_left _ (List.mem_append_left _ (List.mem_append_left _ (List.mem_append_left _ (List.mem_append_left _ (List.mem_append_left _ (List.mem_append_left _ (List.mem_append_right _ (List.mem_append_right _ (List.mem_append_right _ (List.mem_append_right _ (List.mem_append_right _ (List.mem_append_right _ (List.mem_append_right _ (List.mem_append_right _ (List.mem_append_right _ (List.mem_append_right _ (List.mem_append_right _ (List.mem_append_right _ (List.mem_append_right _ (List.mem_append_right _ (List.mem_append_right _ (List.mem_append_right _ (List.mem_append_right _ (List.mem_append_right _ (List.mem_append_right _ (List.mem_append_right _ (List.mem_append_right _ (List.mem_append_right _ (List.mem_append_left _ h))))))))))))))))))))))))))))))))
theorem wl_24 : ∀ w ∈ wsL_law_r24, w ∈ wsL_law := fun _ h => List.mem_append_left _ (List.mem_append_left _ (List.mem_append_left _ (List.mem_append_left _ (List.mem_append_left _ (List.mem_append_left _ (List.mem_append_left _ (List.mem_append_left _ (List.mem_append_left _ (List.mem_append_left _ (List.mem_append_right _ (List.mem_append_right _ (List.mem_append_right _ (List.mem_append_right _ (List.mem_append_right _ (List.mem_append_right _ (List.mem_append_right _ (List.mem_append_right _ (List.mem_append_right _ (List.mem_append_right _ (List.mem_append_right _ (List.mem_append_right _ (List.mem_append_right _ (List.mem_append_right _ (List.mem_append_right _ (List.mem_append_right _ (List.mem_append_right _ (List.mem_append_right _ (List.mem_append_right _ (List.mem_append_right _ (List.mem_append_right _ (List.mem_append_right _ (List.mem_append_right _ (List.mem_append_left _ h)))))))))))))))))))))))))))))))))
theorem wl_25 : ∀ w ∈ wsL_law_r25, w ∈ wsL_law := fun _ h => List.mem_append_left _ (List.mem_append_left _ (List.mem_append_left _ (List.mem_append_left _ (List.mem_append_left _ (List.mem_append_left _ (List.mem_append_left _ (List.mem_append_left _ (List.mem_append_left _ (List.mem_append_left _ (List.mem_append_right _ (List.mem_append_right _ (List.mem_append_right _ (List.mem_append_right _ (List.mem_append_right _ (List.mem_append_right _ (List.mem_append_right _ (List.mem_append_right _ (List.mem_append_right _ (List.mem_append_right _ (List.mem_append_right _ (List.mem_append_right _ (List.mem_append_right _ (List.mem_append_right _ (List.mem_append_right _ (List.mem_append_right _ (List.mem_append_right _ (List.mem_append_right _ (List.mem_append_right _ (List.mem_append_right _ (List.mem_append_right _ (List.mem_append_right _ (List.mem_append_right _ (List.mem_append_right _ (List.mem_append_left _ h))))))))))))))))))))))))))))))))))
theorem wl_26 : ∀ w ∈ wsL_law_r26, w ∈ wsL_law := fun _ h => List.mem_append_left _ (List.mem_append_left _ (List.mem_append_left _ (List.mem_append_left _ (List.mem_append_left _ (List.mem_append_left _ (List.mem_append_left _ (List.mem_append_left _ (List.mem_append_left _ (List.mem_append_left _ (List.mem_append_right _ (List.mem_append_right _ (List.mem_append_right _ (List.mem_append_right _ (List.mem_append_right _ (List.mem_append_right _ (List.mem_append_right _ (List.mem_append_right _ (List.mem_append_right _ (List.mem_append_right _ (List.mem_append_right _ (List.mem_append_right _ (List.mem_append_right _ (List.mem_append_right _ (List.mem_append_right _ (List.mem_append_right _ (List.mem_append_right _ (List.mem_append_right _ (List.mem_append_right _ (List.mem_append_right _ (List.mem_append_right _ (List.mem_append_right _ (List.mem_append_right _ (List.mem_append_right _ (List.mem_append_right _ (List.mem_append_left _ h)))))))))))))))))))))))))))))))))))
theorem wl_27 : ∀ w ∈ wsL_law_r27, w ∈ wsL_law := fun _ h => List.mem_append_left _ (List.mem_append_left _ (List.mem_append_left _ (List.mem_append_left _ (List.mem_append_left _ (List.mem_append_left _ (List.mem_append_left _ (List.mem_append_left _ (List.mem_append_left _ (List.mem_append_left _ (List.mem_append_right _ (List.mem_append_right _ (List.mem_append_right _ (List.mem_append_right _ (List.mem_append_right _ (List.mem_append_right _ (List.mem_append_right _ (List.mem_append_right _ (List.mem_append_right _ (List.mem_append_right _ (List.mem_append_right _ (List.mem_append_right _ (List.mem_append_right _ (List.mem_append_right _ (List.mem_append_right _ (List.mem_append_right _ (List.mem_append_right _ (List.mem_append_right _ (List.mem_append_right _ (List.mem_append_right _ (List.mem_append_right _ (List.mem_append_right _ (List.mem_append_right _ (List.mem_append_right _ (List.mem_append_right _ (List.mem_append_right _ (List.mem_append_left _ h))))))))))))))))))))))))))))))))))))
theorem wl_28 : ∀ w ∈ wsL_law_r28, w ∈ wsL_law := fun _ h => List.mem_append_left _ (List.mem_append_left _ (List.mem_append_left _ (List.mem_append_left _ (List.mem_append_left _ (List.mem_append_left _ (List.mem_append_left _ (List.mem_append_left _ (List.mem_append_left _ (List.mem_append_left _ (List.mem_append_right _ (List.mem_append_right _ (List.mem_append_right _ (List.mem_append_right _ (List.mem_append_right _ (List.mem_append_right _ (List.mem_append_right _ (List.mem_append_right _ (List.mem_append_right _ (List.mem_append_right _ (List.mem_append_right _ (List.mem_append_right _ (List.mem_append_right _ (List.mem_append_right _ (List.mem_append_right _ (List.mem_append_right _ (List.mem_append_right _ (List.mem_append_right _ (List.mem_append_right _ (List.mem_append_right _ (List.mem_append_right _ (List.mem_append_right _ (List.mem_append_right _ (List.mem_append_right _ (List.mem_append_right _ (List.mem_append_right _ (List.mem_append_right _ (List.mem_append_left _ h)))))))))))))))))))))))))))))))))))))
theorem wl_29 : ∀ w ∈ wsL_law_r29, w ∈ wsL_law := fun _ h => List.mem_append_left _ (List.mem_append_left _ (List.mem_append_left _ (List.mem_append_left _ (List.mem_append_left _ (List.mem_append_left _ (List.mem_append_left _ (List.mem_append_left _ (List.mem_append_left _ (List.mem_append_left _ (List.mem_append_right _ (List.mem_append_right _ (List.mem_append_right _ (List.mem_append_right _ (List.mem_append_right _ (List.mem_append_right _ (List.mem_append_right _ (List.mem_append_right _ (List.mem_append_right _ (List.mem_append_right _ (List.mem_append_right _ (List.mem_append_right _ (List.mem_append_right _ (List.mem_append_right _ (List.mem_append_right _ (List.mem_append_right _ (List.mem_append_right _ (List.mem_append_right _ (List.mem_append_right _ (List.mem_append_right _ (List.mem_append_right _ (List.mem_append_right _ (List.mem_append_right _ (List.mem_append_right _ (List.mem_append_right _ (List.mem_append_right _ (List.mem_append_right _ (List.mem_append_right _ (List.mem_append_left _ h))))))))))))))))))))))))))))))))))))))
theorem wl_30 : ∀ w ∈ wsL_law_r30, w ∈ wsL_law := fun _ h => List.mem_append_left _ (List.mem_append_left _ (List.mem_append_left _ (List.mem_append_left _ (List.mem_append_left _ (List.mem_append_left _ (List.mem_append_left _ (List.mem_append_left _ (List.mem_append_left _ (List.mem_append_left _ (List.mem_append_right _ (List.mem_append_right _ (List.mem_append_right _ (List.mem_append_right _ (List.mem_append_right _ (List.mem_append_right _ (List.mem_append_right _ (List.mem_append_right _ (List.mem_append_right _ (List.mem_append_right _ (List.mem_append_right _ (List.mem_append_right _ (List.mem_append_right _ (List.mem_append_right _ (List.mem_append_right _ (List.mem_append_right _ (List.mem_append_right _ (List.mem_append_right _ (List.mem_append_right _ (List.mem_append_right _ (List.mem_append_right _ (List.mem_append_right _ (List.mem_append_right _ (List.mem_append_right _ (List.mem_append_right _ (List.mem_append_right _ (List.mem_append_right _ (List.mem_append_right _ (List.mem_append_right _ (List.mem_append_left _ h)))))))))))))))))))))))))))))))))))))))
theorem wl_31 : ∀ w ∈ wsL_law_r31, w ∈ wsL_law := fun _ h => List.mem_append_left _ (List.mem_append_left _ (List.mem_append_left _ (List.mem_append_left _ (List.mem_append_left _ (List.mem_append_left _ (List.mem_append_left _ (List.mem_append_left _ (List.mem_append_left _ (List.mem_append_left _ (List.mem_append_right _ (List.mem_append_right _ (List.mem_append_right _ (List.mem_append_right _ (List.mem_append_right _ (List.mem_append_right _ (List.mem_append_right _ (List.mem_append_right _ (List.mem_append_right _ (List.mem_append_right _ (List.mem_append_right _ (List.mem_append_right _ (List.mem_append_right _ (List.mem_append_right _ (List.mem_append_right _ (List.mem_append_right _ (List.mem_append_right _ (List.mem_append_right _ (List.mem_append_right _ (List.mem_append_right _ (List.mem_append_right _ (List.mem_append_right _ (List.mem_append_right _ (List.mem_append_right _ (List.mem_append_right _ (List.mem_append_right _ (List.mem_append_right _ (List.mem_append_right _ (List.mem_append_right _ (List.mem_append_right _ (List.mem_append_left _ h))))))))))))))))))))))))))))))))))))))))
theorem wl_32 : ∀ w ∈ wsL_law_r32, w ∈ wsL_law := fun _ h => List.mem_append_left _ (List.mem_append_left _ (List.mem_append_left _ (List.mem_append_left _ (List.mem_append_left _ (List.mem_append_left _ (List.mem_append_left _ (List.mem_append_left _ (List.mem_append_left _ (List.mem_append_left _ (List.mem_append_right _ (List.mem_append_right _ (List.mem_append_right _ (List.mem_append_right _ (List.mem_append_right _ (List.mem_append_right _ (List.mem_append_right _ (List.mem_append_right _ (List.mem_append_right _ (List.mem_append_right _ (List.mem_append_right _ (List.mem_append_right _ (List.mem_append_right _ (List.mem_append_right _ (List.mem_append_right _ (List.mem_append_right _ (List.mem_append_right _ (List.mem_append_right _ (List.mem_append_right _ (List.mem_append_right _ (List.mem_append_right _ (List.mem_append_right _ (List.mem_append_right _ (List.mem_append_right _ (List.mem_append_right _ (List.mem_append_right _ (List.mem_append_right _ (List.mem_append_right _ (List.mem_append_right _ (List.mem_append_right _ (List.mem_append_right _ (List.mem_append_left _ h)))))))))))))))))))))))))))))))))))))))))
theorem wl_33 : ∀ w ∈ wsL_law_r33, w ∈ wsL_law := fun _ h => List.mem_append_left _ (List.mem_append_left _ (List.mem_append_left _ (List.mem_append_left _ (List.mem_append_left _ (List.mem_append_left _ (List.mem_append_left _ (List.mem_append_left _ (List.mem_append_left _ (List.mem_append_left _ (List.mem_append_right _ (List.mem_append_right _ (List.mem_append_right _ (List.mem_append_right _ (List.mem_append_right _ (List.mem_append_right _ (List.mem_append_right _ (List.mem_append_right _ (List.mem_append_right _ (List.mem_append_right _ (List.mem_append_right _ (List.mem_append_right _ (List.mem_append_right _ (List.mem_append_right _ (List.mem_append_right _ (List.mem_append_right _ (List.mem_append_right _ (List.mem_append_right _ (List.mem_append_right _ (List.mem_append_right _ (List.mem_append_right _ (List.mem_append_right _ (List.mem_append_right _ (List.mem_append_right _ (List.mem_append_right _ (List.mem_append_right _ (List.mem_append_right _ (List.mem_append_right _ (List.mem_append_right _ (List.mem_append_right _ (List.mem_append_right _ (List.mem_append_right _ (List.mem_append_left _ h))))))))))))))))))))))))))))))))))))))))))
theorem wl_34 : ∀ w ∈ wsL_law_r34, w ∈ wsL_law := fun _ h => List.mem_append_left _ (List.mem_append_left _ (List.mem_append_left _ (List.mem_append_left _ (List.mem_append_left _ (List.mem_append_left _ (List.mem_append_left _ (List.mem_append_left _ (List.mem_append_left _ (List.mem_append_left _ (List.mem_append_right _ (List.mem_append_right _ (List.mem_append_right _ (List.mem_append_right _ (List.mem_append_right _ (List.mem_append_right _ (List.mem_append_right _ (List.mem_append_right _ (List.mem_append_right _ (List.mem_append_right _ (List.mem_append_right _ (List.mem_append_right _ (List.mem_append_right _ (List.mem_append_right _ (List.mem_append_right _ (List.mem_append_right _ (List.mem_append_right _ (List.mem_append_right _ (List.mem_append_right _ (List.mem_append_right _ (List.mem_append_right _ (List.mem_append_right _ (List.mem_append_right _ (List.mem_append_right _ (List.mem_append_right _ (List.mem_append_right _ (List.mem_append_right _ (List.mem_append_right _ (List.mem_append_right _ (List.mem_append_right _ (List.mem_append_right _ (List.mem_append_right _ (List.mem_append_right _ (List.mem_append_left _ h)))))))))))))))))))))))))))))))))))))))))))
theorem wl_35 : ∀ w ∈ wsL_law_r35, w ∈ wsL_law := fun _ h => List.mem_append_left _ (List.mem_append_left _ (List.mem_append_left _ (List.mem_append_left _ (List.mem_append_left _ (List.mem_append_left _ (List.mem_append_left _ (List.mem_append_left _ (List.mem_append_left _ (List.mem_append_left _ (List.mem_append_right _ (List.mem_append_right _ (List.mem_append_right _ (List.mem_append_right _ (List.mem_append_right _ (List.mem_append_right _ (List.mem_append_right _ (List.mem_append_right _ (List.mem_append_right _ (List.mem_append_right _ (List.mem_append_right _ (List.mem_append_right _ (List.mem_append_right _ (List.mem_append_right _ (List.mem_append_right _ (List.mem_append_right _ (List.mem_append_right _ (List.mem_append_right _ (List.mem_append_right _ (List.mem_append_right _ (List.mem_append_right _ (List.mem_append_right _ (List.mem_append_right _ (List.mem_append_right _ (List.mem_append_right _ (List.mem_append_right _ (List.mem_append_right _ (List.mem_append_right _ (List.mem_append_right _ (List.mem_append_right _ (List.mem_append_right _ (List.mem_append_right _ (List.mem_append_right _ (List.mem_append_right _ (List.mem_append_left _ h))))))))))))))))))))))))))))))))))))))))))))
theorem wl_36 : ∀ w ∈ wsL_law_r36, w ∈ wsL_law := fun _ h => List.mem_append_left _ (List.mem_append_left _ (List.mem_append_left _ (List.mem_append_left _ (List.mem_append_left _ (List.mem_append_left _ (List.mem_append_left _ (List.mem_append_left _ (List.mem_append_left _ (List.mem_append_left _ (List.mem_append_right _ (List.mem_append_right _ (List.mem_append_right _ (List.mem_append_right _ (List.mem_append_right _ (List.mem_append_right _ (List.mem_append_right _ (List.mem_append_right _ (List.mem_append_right _ (List.mem_append_right _ (List.mem_append_right _ (List.mem_append_right _ (List.mem_append_right _ (List.mem_append_right _ (List.mem_append_right _ (List.mem_append_right _ (List.mem_append_right _ (List.mem_append_right _ (List.mem_append_right _ (List.mem_append_right _ (List.mem_append_right _ (List.mem_append_right _ (List.mem_append_right _ (List.mem_append_right _ (List.mem_append_right _ (List.mem_append_right _ (List.mem_append_right _ (List.mem_append_right _ (List.mem_append_right _ (List.mem_append_right _ (List.mem_append_right _ (List.mem_append_right _ (List.mem_append_right _ (List.mem_append_right _ (List.mem_append_right _ (h)))))))))))))))))))))))))))))))))))))))))))))
abbrev fNest : List Cond := [.fieldLinkNest RX7 169 "OperaGlasses$Rumour" "teller" "I" "OperaGlasses", .fieldLinkNest RX1 90 "OperaGlasses$Rumour" "teller" "I" "OperaGlasses", .fieldLinkNest RX7 172 "OperaGlasses$Rumour" "kind" "I" "OperaGlasses", .fieldLinkNest RX7 175 "OperaGlasses$Rumour" "a" "I" "OperaGlasses", .fieldLinkNest RX7 178 "OperaGlasses$Rumour" "b" "I" "OperaGlasses", .fieldLinkNest RX7 122 "OperaGlasses$Rumour" "status" "I" "OperaGlasses", .fieldLinkNest RX1 68 "OperaGlasses$Rumour" "status" "I" "OperaGlasses", .fieldLinkNest RX5 38 "OperaGlasses$House" "boxes" "I" "OperaGlasses", .fieldLinkNest RX7 51 "OperaGlasses$House" "boxes" "I" "OperaGlasses", .fieldLinkNest RX7 157 "OperaGlasses$House" "act" "I" "OperaGlasses", .fieldLinkNest RX5 77 "OperaGlasses$House" "told" "I" "OperaGlasses", .fieldLinkNest RX7 85 "OperaGlasses$House" "told" "I" "OperaGlasses", .fieldLinkNest RX7 62 "OperaGlasses$House" "looks" "[I" "OperaGlasses", .fieldLinkNest RX7 148 "OperaGlasses$House" "scores" "[I" "OperaGlasses", .fieldLinkNest RX7 141 "OperaGlasses$House" "guessed" "[I" "OperaGlasses", .fieldLinkNest RX7 208 "OperaGlasses$History" "kept" "I" "OperaGlasses", .fieldLinkNest RX7 269 "OperaGlasses$Slot" "state" "LOperaGlasses$House;" "OperaGlasses", .fieldLinkNest RX7 275 "OperaGlasses$Slot" "used" "Z" "OperaGlasses", .fieldLinkNest RX7 205 "OperaGlasses$Pad" "length" "I" "OperaGlasses", .fieldLinkNest RX5 48 "OperaGlasses$Walk" "boxOf" "[I" "OperaGlasses", .fieldLinkNest RX7 135 "OperaGlasses$Survey" "worlds" "I" "OperaGlasses", .fieldLinkNest RX7 245 "OperaGlasses$Survey" "mostWatchedPerson" "I" "OperaGlasses", .fieldLinkNest RX7 242 "OperaGlasses$Survey" "mostWatchers" "I" "OperaGlasses", .fieldLinkNest RX7 185 "OperaGlasses$Survey" "holding" "[I" "OperaGlasses", .fieldLinkNest RX7 235 "OperaGlasses$Survey" "onlyBroken" "[I" "OperaGlasses", .methodLinkNest RX1 27 yX3_init "OperaGlasses", .methodLinkNest RX7 25 yX4_init "OperaGlasses", .methodLinkNest RX7 35 yX2_init "OperaGlasses", .methodLinkNest RX7 42 yX5_init "OperaGlasses", .methodLinkNest RX5 11 yX6_init "OperaGlasses", .methodLinkNest RX5 30 yX3_init "OperaGlasses", .methodLinkNest RX1 38 yX7_fillRow "OperaGlasses", .methodLinkNest RX1 42 yX7_copyRow "OperaGlasses", .methodLinkNest RX5 69 yX7_fillRow "OperaGlasses", .methodLinkNest RX3 31 yX7_at "OperaGlasses", .methodLinkNest RX3 35 yX7_watchers "OperaGlasses", .methodLinkNest RX5 73 yX7_at "OperaGlasses", .methodLinkNest RX5 59 yX7_addAt "OperaGlasses", .methodLinkNest RX6 23 yX7_at "OperaGlasses", .methodLinkNest RX6 27 yX7_setAt "OperaGlasses", .methodLinkNest RX1 86 yX7_addAt "OperaGlasses", .methodLinkNest RX5 123 yX7_watchers "OperaGlasses"]
/-! the world: addresses by ids, contents by ids -/
abbrev fG : Type := va_G × Nat × (ClassId × ClassId × ClassId × ClassId) × (Nat × Nat)
def fa (g : fG) (k : Nat) : Nat := g.2.1 + k
def fcI (g : fG) : ClassId := g.2.2.1.1
def fcC (g : fG) : ClassId := g.2.2.1.2.1
def fcR (g : fG) : ClassId := g.2.2.1.2.2.1
def fcH (g : fG) : ClassId := g.2.2.1.2.2.2
def fT (g : fG) : List (ClassId × FieldType) := [(fcI g, .int), (fcC g, .char), (fcR g, .object RX3), (fcH g, .object RX1)]
def fB (g : fG) : Nat → Prop := fun q => fa g 0 ≤ q
def fu (ct : Nat → va_E) (k : Nat) (e : va_E) : Nat → va_E := fun j => if j = k then e else ct j
theorem fu_eq (ct : Nat → va_E) (k : Nat) (e : va_E) : fu ct k e k = e := by simp [fu]
theorem fu_ne {ct : Nat → va_E} {k j : Nat} {e : va_E} (h : j ≠ k) : fu ct k e j = ct j := by simp [fu, h]
theorem fa_inj {g : fG} {i j : Nat} (h : fa g i = fa g j) : i = j := by unfold fa at h; omega
def fNb : Cond → Bool
  | .fieldLinkNest _ _ _ _ _ _ => true
  | .methodLinkNest _ _ _ _ => true
  | _ => false
theorem fNest_all : fNest.all fNb = true := by decide
theorem fNb_warm {w : Cond} (hw : fNb w = true) {s U : State} (hW : s.WarmedH U.vm) (h : va_Nw w s) : va_Nw w U := by
  cases w <;> first | exact va_Nw.warmF hW h | exact va_Nw.warmM hW h | (exfalso; revert hw; simp [fNb])
theorem fNb_same {w : Cond} (hw : fNb w = true) {s U : State} (hW : s.vm = U.vm) (h : va_Nw w s) : va_Nw w U := by
  cases w <;> first | exact va_Nw.same rfl hW h | (exfalso; revert hw; simp [fNb])
def fV (g : fG) (U : State) : Prop := va_K g.1 vwCl (fT g) U ∧ (∀ w ∈ fNest, va_Nw w U) ∧ va_AO RX3 U ∧ va_AO RX1 U ∧ vk_R RX2 31 ">/=~#*" g.2.2.2.1 U
def fX (g : fG) (U : State) (H : Heap) : Prop := vk_S 1 [6] [[62, 47, 61, 126, 35, 42]] (fun _ => g.2.2.2.1) (fun _ => g.2.2.2.2) (fB g) U H ∧ va_Z "java/lang/String" "COMPACT_STRINGS" "Z" (.int 1) (fB g) U H
def fP (g : fG) (N : Nat) (ct : Nat → va_E) (H : Heap) : Prop := H.size = fa g N ∧ ∀ k, k < N → va_at g.1 vwCl (fa g k, ct k) H
theorem fV.moved {g : fG} {s U : State} (hW : s.WarmedH U.vm) (h : fV g s) : fV g U :=
  ⟨va_K.moved hW.alike h.1, fun w hw => fNb_warm (List.all_eq_true.mp fNest_all w hw) hW (h.2.1 w hw), va_AO.moved hW.alike h.2.2.1, va_AO.moved hW.alike h.2.2.2.1, vk_R.warm hW h.2.2.2.2⟩
theorem fV.same {g : fG} {s U : State} (hv : s.vm = U.vm) (ha : s.vm.Alike U.vm) (h : fV g s) : fV g U :=
  ⟨va_K.moved ha h.1, fun w hw => fNb_same (List.all_eq_true.mp fNest_all w hw) hv (h.2.1 w hw), va_AO.moved ha h.2.2.1, va_AO.moved ha h.2.2.2.1, vk_R.same hv.symm h.2.2.2.2⟩
theorem fX.moved {g : fG} {s U : State} {H H1 : Heap} (ha : s.vm.Alike U.vm) (hq : ∀ a : Nat, a < H.size → ¬ fB g a → H1[a]? = H[a]?) (h : fX g s H) : fX g U H1 :=
  ⟨(h.1.moved ha).kept hq, (h.2.moved ha).kept hq⟩
theorem fP_one {g : fG} {N k : Nat} {ct : Nat → va_E} {H : Heap} (hP : fP g N ct H) (hk : k < N) : va_P g.1 vwCl [(fa g k, ct k)] H := by
  intro i q hq
  match i, hq with
  | 0, hq => cases hq; exact hP.2 k hk
  | i + 1, hq => simp at hq
theorem fP_set {g : fG} {N k : Nat} {ct : Nat → va_E} {H H1 : Heap} (hP : fP g N ct H) {e : va_E} (z : H1.size = H.size) (he : va_at g.1 vwCl (fa g k, e) H1) (oq : ∀ q : Nat, q ≠ fa g k → H1[q]? = H[q]?) : fP g N (fu ct k e) H1 := by
  refine ⟨z.trans hP.1, fun j hj => ?_⟩
  by_cases h : j = k
  · subst h; rw [fu_eq]; exact he
  · rw [fu_ne h]; exact (hP.2 j hj).kept (oq _ (fun q => h (fa_inj q)))
theorem fB_in (g : fG) (k : Nat) : fB g (fa g k) := by unfold fB fa; omega
/-- the words of every method: its own code, and all that the law's tables say -/
def wsU (y : MethodName) (b : ByteArray) (n : Nat) (r : Option FieldType) : List Cond := Cond.code y b n r :: wsL_law
abbrev fE (p : Program) (m : MethodId) (c : Code) (cc : ByteArray) (nL : Nat) (s : State) (args : Array Value) (own : String) (g : fG) : Prop := CallFix p m c cc nL s args wsL_law own ∧ fV g s ∧ fX g s s.heap
/-- a contract's start -/
def fPre (g : fG) (N : Nat) (ct : Nat → va_E) (av : List Value) : Array Value → State → Prop := fun v U => v = av.toArray ∧ fV g U ∧ fX g U U.heap ∧ fP g N ct U.heap
theorem fblind {g : fG} {N : Nat} {ct : Nat → va_E} {av : List Value} : FrameBlind (fPre g N ct av) := fun _ U _ _ h => ⟨h.1, fV.same (s := U) rfl (Vm.Alike.refl U.vm) h.2.1, fX.moved (s := U) (H := U.heap) (Vm.Alike.refl U.vm) (fun _ _ _ => rfl) h.2.2.1, h.2.2.2⟩
/-- a contract's end: the answer alone; the heap stays -/
def fQpi (post : Int32 → Prop) : Array Value → State → Outcome → State → Prop := fun _ st oc t => ∃ r : Int32, oc = .returned (some (.int r)) ∧ post r ∧ t.heap = st.heap
def fQpr (post : Value → Prop) : Array Value → State → Outcome → State → Prop := fun _ st oc t => ∃ r : Value, oc = .returned (some r) ∧ post r ∧ t.heap = st.heap
def fQi (g : fG) (N : Nat) (post : Int32 → (Nat → va_E) → Prop) : Array Value → State → Outcome → State → Prop := fun _ st oc t => ∃ (r : Int32) (ct : Nat → va_E), oc = .returned (some (.int r)) ∧ post r ct ∧ fP g N ct t.heap ∧ va_F (fB g) st t
def fQr (g : fG) (N : Nat) (post : Value → (Nat → va_E) → Prop) : Array Value → State → Outcome → State → Prop := fun _ st oc t => ∃ (r : Value) (ct : Nat → va_E), oc = .returned (some r) ∧ post r ct ∧ fP g N ct t.heap ∧ va_F (fB g) st t
def fQv (g : fG) (N : Nat) (post : (Nat → va_E) → Prop) : Array Value → State → Outcome → State → Prop := fun _ st oc t => ∃ (ct : Nat → va_E), oc = .returned none ∧ post ct ∧ fP g N ct t.heap ∧ va_F (fB g) st t
/-- a class: its place, its field words, its types, its names -/
def fCls (ci : Nat) (C : String) (T : u_T) (M : Nat) (ty : Nat → FieldType) : Prop := vwCl[ci]? = some (C, T, M) ∧ (∀ w ∈ u_ws C T M, w ∈ wsL_law) ∧ (∀ k, k < M → parseFieldDescriptor (T k).2.2.1 = some (ty k)) ∧ (∀ a, a < M → ∀ b, b < M → a ≠ b → (T a).2.1 ≠ (T b).2.1)
theorem fc0 : fCls 0 RX0 TX0 3 tyX0 := ⟨rfl, inlX0, tyX0_ok, nmX0⟩
theorem fc1 : fCls 1 RX1 TX1 7 tyX1 := ⟨rfl, inlX1, tyX1_ok, nmX1⟩
theorem fc2 : fCls 2 RX2 TX2 2 tyX2 := ⟨rfl, inlX2, tyX2_ok, nmX2⟩
theorem fc3 : fCls 3 RX3 TX3 5 tyX3 := ⟨rfl, inlX3, tyX3_ok, nmX3⟩
theorem fc4 : fCls 4 RX4 TX4 2 tyX4 := ⟨rfl, inlX4, tyX4_ok, nmX4⟩
theorem fc5 : fCls 5 RX5 TX5 8 tyX5 := ⟨rfl, inlX5, tyX5_ok, nmX5⟩
theorem fc6 : fCls 6 RX6 TX6 2 tyX6 := ⟨rfl, inlX6, tyX6_ok, nmX6⟩
theorem fc7 : fCls 7 RX7 TX7 7 tyX7 := ⟨rfl, inlX7, tyX7_ok, nmX7⟩
theorem fc8 : fCls 8 RX8 TX8 19 tyX8 := ⟨rfl, inlX8, tyX8_ok, nmX8⟩
theorem wsL_good : wsL_law.all goodWord = true := by decide +kernel
theorem fgood {y : MethodName} {b : ByteArray} {n : Nat} {r : Option FieldType} (h : Cond.code y b n r ∈ wsL_law) : GoodIn wsL_law (wsU y b n r) := by
  intro w hw
  have hm : w ∈ wsL_law := by
    rcases List.mem_cons.mp hw with rfl | h2
    · exact h
    · exact h2
  exact ⟨hm, good_of_word (List.all_eq_true.mp wsL_good w hm)⟩
theorem fgoods {ws : List Cond} (h : ∀ w ∈ ws, w ∈ wsL_law) : GoodIn wsL_law ws := fun w hw => ⟨h w hw, good_of_word (List.all_eq_true.mp wsL_good w (h w hw))⟩
theorem fgV {own C : String} {idx : Nat} {y : MethodName} {b : ByteArray} {n : Nat} {r : Option FieldType} (h1 : Cond.methodLink own idx y ∈ wsL_law) (h2 : Cond.instanceMethod y ∈ wsL_law) (h3 : Cond.selects C y y ∈ wsL_law) (h4 : Cond.initialized C ∈ wsL_law) (h5 : Cond.code y b n r ∈ wsL_law) : GoodIn wsL_law (wsV own idx C y (wsU y b n r)) :=
  goodIn_app (fgoods (by intro w hw; simp only [List.mem_cons, List.not_mem_nil, or_false] at hw; rcases hw with rfl | rfl | rfl | rfl <;> assumption)) (fgood h5)
theorem fgS {own : String} {idx : Nat} {y : MethodName} {b : ByteArray} {n : Nat} {r : Option FieldType} (h1 : Cond.methodLink own idx y ∈ wsL_law) (h2 : Cond.static y ∈ wsL_law) (h4 : Cond.initialized y.cls ∈ wsL_law) (h5 : Cond.code y b n r ∈ wsL_law) : GoodIn wsL_law (va_wsS own idx y (wsU y b n r)) :=
  goodIn_app (fgoods (by intro w hw; simp only [List.mem_cons, List.not_mem_nil, or_false] at hw; rcases hw with rfl | rfl | rfl <;> assumption)) (fgood h5)
theorem fs_start {l : Launch} {y : MethodName} {rm : Room} {av : List Value} {N : Nat} {ct : Nat → va_E} {g : fG} {Qc : Array Value → State → Outcome → State → Prop} {mc ms : Nat} {cc : ByteArray} {maxL : Nat} {ret : Option FieldType} {own : String} {lv0 : List (Nat × Value)} (hy : plainName y.cls = true) (hown : y.cls = own) (hlen : (lg_sl av).length ≤ maxL) (hlv : lv_args 0 av = lv0)
    (body : ∀ (p : Program) (e : Env) (s : State) (m : MethodId) (args : Array Value) (below : List Frame) (meth : Method) (c : Code) (ls : Array Slot), fE p m c cc maxL s args own g → meth.sig.returnType = ret → meth.locks = false → meth.name = y.name → fP g N ct s.heap → lv_has ls maxL lv0 → va_S (fB g) s.heap s.heap [] → W p l e rm s m args below meth c s.heap [] 0 0 (MQ below Qc args s mc ms (fB g)) (F0 m 0 ls [])) : Met l y (wsU y cc maxL ret) rm (fPre g N ct av) Qc mc ms (fB g) := by
  refine Met.ofW (cc := cc) (maxL := maxL) (ret := ret) hy rfl ?_
  intro p e s m args below meth c s₁ B hml hv
  obtain ⟨rfl, hV, hX, hP⟩ := hv
  have hown2 : s.vm.findClass y.cls = some m.cls := findClass_of_methodNamed B.named
  rw [hown] at hown2
  have hts : ∀ w ∈ wsL_law, w.before av.toArray s = true := fun w hw => atoms_spec (ws := wsU y cc maxL ret) B.pre w (List.mem_cons_of_mem _ hw)
  have hl := lv_entry av hlen
  rw [hlv] at hl
  rw [lg_entry_eq]
  exact body p e s m _ below meth c _ ⟨⟨B.exec, B.bytes, hml, hown2, hts⟩, hV, hX⟩ B.returns B.notSynchronized (name_of_methodNamed B.named B.method).1 hP hl va_S.rf
section FS
variable {p : Program} {l : Launch} {e : Env} {R : Room} {s : State} {m : MethodId} {args : Array Value} {below : List Frame} {meth : Method} {c : Code} {H : Heap} {locs : List Loc} {cells slots : Nat} {Q : State → Prop}
variable {cc : ByteArray} {pc nL : Nat} {ls : Array Slot} {rest : List Value} {g : fG} {N : Nat} {ct : Nat → va_E} {own : String}
theorem fs_get (E : fE p m c cc nL s args own g) (hP : fP g N ct H) {C : String} {T : u_T} {M ci idx k : Nat} {ty : Nat → FieldType} {fs : List Value} {v : Value} (i : Nat) (hC : fCls ci C T M ty) (hc : ct k = .inr (ci, fs)) (hk : k < N) (hi : i < M) (hlink : Cond.fieldLink own idx (T i).1 (T i).2.1 (T i).2.2.1 ∈ wsL_law) (hv : fs[i]? = some v) (hdg : decode cc pc = .ok (.getfield idx, 3))
    (kk : W p l e R s m args below meth c H locs cells slots Q (F0 m (pc + 3) ls (v :: rest))) : W p l e R s m args below meth c H locs cells slots Q (F0 m pc ls (.ref (fa g k) :: rest)) :=
  va_get (D := g.1) (cl := vwCl) (ws := [(fa g k, ct k)]) (tys := fT g) E.1.1 E.1.2.1 E.1.2.2.2.2 hC.2.1 E.1.2.2.2.1 E.2.1.1 (fP_one hP hk) 0 (by rw [hc]; rfl) hC.1 i hi (E.1.2.2.2.2 _ hlink) (fun _ h => h) hv hdg kk
theorem fs_getN (E : fE p m c cc nL s args own g) (hP : fP g N ct H) {C host : String} {T : u_T} {M ci idx k : Nat} {ty : Nat → FieldType} {fs : List Value} {v : Value} (i : Nat) (hC : fCls ci C T M ty) (hc : ct k = .inr (ci, fs)) (hk : k < N) (hi : i < M) {j : Nat} (hlink : fNest[j]? = some (Cond.fieldLinkNest own idx (T i).1 (T i).2.1 (T i).2.2.1 host)) (hv : fs[i]? = some v) (hdg : decode cc pc = .ok (.getfield idx, 3))
    (kk : W p l e R s m args below meth c H locs cells slots Q (F0 m (pc + 3) ls (v :: rest))) : W p l e R s m args below meth c H locs cells slots Q (F0 m pc ls (.ref (fa g k) :: rest)) :=
  va_getN (D := g.1) (cl := vwCl) (ws := [(fa g k, ct k)]) (tys := fT g) E.1.1 E.1.2.1 E.1.2.2.2.2 hC.2.1 E.1.2.2.2.1 E.2.1.1 (fP_one hP hk) 0 (by rw [hc]; rfl) hC.1 i hi (va_Nw.use rfl (E.2.1.2.1 _ (List.mem_of_getElem? hlink))) (fun _ h => h) hv hdg kk
theorem fs_put (E : fE p m c cc nL s args own g) (hP : fP g N ct H) (hS0 : va_S (fB g) s.heap H locs) {C : String} {T : u_T} {M ci idx k : Nat} {ty0 : Nat → FieldType} {fs : List Value} {ty : FieldType} {v : Value} (i : Nat) (hC : fCls ci C T M ty0) (hc : ct k = .inr (ci, fs)) (hk : k < N) (hi : i < M) (hlink : Cond.fieldLink own idx (T i).1 (T i).2.1 (T i).2.2.1 ∈ wsL_law) (hfin : (T i).2.2.2 = false) (hd : ty0 i = ty) (hn : narrow ty v = v) (hfit : fits ty v = true) (hl : i < fs.length) (hdg : decode cc pc = .ok (.putfield idx, 3))
    (kk : ∀ (ct1 : Nat → va_E) (H1 : Heap) (locs1 : List Loc), ct1 = fu ct k (.inr (ci, fs.set i v)) → fP g N ct1 H1 → va_S (fB g) s.heap H1 locs1 → W p l e R s m args below meth c H1 locs1 cells slots Q (F0 m (pc + 3) ls rest)) : W p l e R s m args below meth c H locs cells slots Q (F0 m pc ls (v :: .ref (fa g k) :: rest)) := by
  obtain ⟨hcl, hin, hty, hnm⟩ := hC
  subst hd
  have hap := va_apart (own := own) E.1.2.2.2.2 hin ty0 hty hnm E.2.1.1 hcl
  obtain ⟨r, h1, cell, q1, q2, q3, q4⟩ := fP_one hP hk 0 (fa g k, .inr (ci, fs)) (by rw [hc]; rfl)
  have hr : r = (C, T, M) := Option.some.inj (h1.symm.trans hcl)
  subst hr
  obtain ⟨hS, hfc, kC, hkC, hkind⟩ := E.2.1.1.1 ci _ hcl
  obtain ⟨cf, kf, fi, f, hif, hsl⟩ := hS i hi
  have hlay := E.1.2.2.2.2 _ (hin _ (u_in_lay hi))
  unfold u_lay at hlay
  rw [if_neg (by rw [hfin]; decide)] at hlay
  have hst := (u_facts hfc hkC (u_lays E.1.2.2.2.2 hin hi) hif).1
  have h6 := u_store hfc hkC hkind hlay hif (hty i hi) hn hfit
  refine W.putK E.1.1 E.1.2.1 (f := f) ⟨E.1.2.2.2.1, E.1.2.2.2.2 _ hlink, ⟨_, _, _, hif⟩, hst⟩ (by rw [q2]; exact h6) q1 q3 (by rw [hsl]; exact k2_hasslot (q4 i hi)) rfl rfl hdg fun H' e1 e2 e3 => ?_
  rw [hsl] at e1 ⊢
  exact kk _ H' _ rfl (fP_set hP e2 ⟨_, hcl, t_OB.to (V := updV (vp_V fs) i v) ⟨_, e1, q2, q3, t_set q4 hap hi v⟩ (fun j _ => vp_updV_set hl v j)⟩ e3) (hS0.put e2 e3 (fB_in g k))
theorem fs_putN (E : fE p m c cc nL s args own g) (hP : fP g N ct H) (hS0 : va_S (fB g) s.heap H locs) {C host : String} {T : u_T} {M ci idx k : Nat} {ty0 : Nat → FieldType} {fs : List Value} {ty : FieldType} {v : Value} (i : Nat) (hC : fCls ci C T M ty0) (hc : ct k = .inr (ci, fs)) (hk : k < N) (hi : i < M) {j : Nat} (hlink : fNest[j]? = some (Cond.fieldLinkNest own idx (T i).1 (T i).2.1 (T i).2.2.1 host)) (hfin : (T i).2.2.2 = false) (hd : ty0 i = ty) (hn : narrow ty v = v) (hfit : fits ty v = true) (hl : i < fs.length) (hdg : decode cc pc = .ok (.putfield idx, 3))
    (kk : ∀ (ct1 : Nat → va_E) (H1 : Heap) (locs1 : List Loc), ct1 = fu ct k (.inr (ci, fs.set i v)) → fP g N ct1 H1 → va_S (fB g) s.heap H1 locs1 → W p l e R s m args below meth c H1 locs1 cells slots Q (F0 m (pc + 3) ls rest)) : W p l e R s m args below meth c H locs cells slots Q (F0 m pc ls (v :: .ref (fa g k) :: rest)) := by
  obtain ⟨hcl, hin, hty, hnm⟩ := hC
  subst hd
  have hap := va_apart (own := own) E.1.2.2.2.2 hin ty0 hty hnm E.2.1.1 hcl
  obtain ⟨r, h1, cell, q1, q2, q3, q4⟩ := fP_one hP hk 0 (fa g k, .inr (ci, fs)) (by rw [hc]; rfl)
  have hr : r = (C, T, M) := Option.some.inj (h1.symm.trans hcl)
  subst hr
  obtain ⟨hS, hfc, kC, hkC, hkind⟩ := E.2.1.1.1 ci _ hcl
  obtain ⟨cf, kf, fi, f, hif, hsl⟩ := hS i hi
  have hlay := E.1.2.2.2.2 _ (hin _ (u_in_lay hi))
  unfold u_lay at hlay
  rw [if_neg (by rw [hfin]; decide)] at hlay
  have hst := (u_facts hfc hkC (u_lays E.1.2.2.2.2 hin hi) hif).1
  have h6 := u_store hfc hkC hkind hlay hif (hty i hi) hn hfit
  refine va_WputK E.1.1 E.1.2.1 (f := f) E.1.2.2.2.1 (va_Nw.use rfl (E.2.1.2.1 _ (List.mem_of_getElem? hlink))) hif hst (by rw [q2]; exact h6) q1 q3 (by rw [hsl]; exact k2_hasslot (q4 i hi)) rfl rfl hdg fun H' e1 e2 e3 => ?_
  rw [hsl] at e1 ⊢
  exact kk _ H' _ rfl (fP_set hP e2 ⟨_, hcl, t_OB.to (V := updV (vp_V fs) i v) ⟨_, e1, q2, q3, t_set q4 hap hi v⟩ (fun j _ => vp_updV_set hl v j)⟩ e3) (hS0.put e2 e3 (fB_in g k))
theorem fs_putF (E : fE p m c cc nL s args own g) (hin2 : meth.name = "<init>") (hP : fP g N ct H) (hS0 : va_S (fB g) s.heap H locs) {C : String} {T : u_T} {M ci idx k : Nat} {ty0 : Nat → FieldType} {fs : List Value} {ty : FieldType} {v : Value} (i : Nat) (hC : fCls ci C T M ty0) (hc : ct k = .inr (ci, fs)) (hk : k < N) (hi : i < M) (hlink : Cond.fieldLink own idx (T i).1 (T i).2.1 (T i).2.2.1 ∈ wsL_law) (hfin : (T i).2.2.2 = true) (hdecl : (T i).1 = own) (hd : ty0 i = ty) (hn : narrow ty v = v) (hfit : fits ty v = true) (hl : i < fs.length) (hdg : decode cc pc = .ok (.putfield idx, 3))
    (kk : ∀ (ct1 : Nat → va_E) (H1 : Heap) (locs1 : List Loc), ct1 = fu ct k (.inr (ci, fs.set i v)) → fP g N ct1 H1 → va_S (fB g) s.heap H1 locs1 → W p l e R s m args below meth c H1 locs1 cells slots Q (F0 m (pc + 3) ls rest)) : W p l e R s m args below meth c H locs cells slots Q (F0 m pc ls (v :: .ref (fa g k) :: rest)) := by
  obtain ⟨hcl, hin, hty, hnm⟩ := hC
  subst hd
  have hap := va_apart (own := own) E.1.2.2.2.2 hin ty0 hty hnm E.2.1.1 hcl
  obtain ⟨r, h1, cell, q1, q2, q3, q4⟩ := fP_one hP hk 0 (fa g k, .inr (ci, fs)) (by rw [hc]; rfl)
  have hr : r = (C, T, M) := Option.some.inj (h1.symm.trans hcl)
  subst hr
  obtain ⟨hS, hfc, kC, hkC, hkind⟩ := E.2.1.1.1 ci _ hcl
  obtain ⟨cf, kf, fi, f, hif, hsl⟩ := hS i hi
  have hlay := E.1.2.2.2.2 _ (hin _ (u_in_lay hi))
  unfold u_lay at hlay
  rw [if_pos hfin] at hlay
  have hst := (u_facts hfc hkC (u_lays E.1.2.2.2.2 hin hi) hif).1
  have hcf : m.cls = cf := by
    obtain ⟨_, _, c', _, _, _, -, -, hf', -, -, -, hown2, -⟩ := Cond.laysFinal_spec hlay
    have e1 : c' = cf := by have := hif.symm.trans hf'; simp at this; exact this.1.symm
    rw [hdecl] at hown2
    rw [← e1]; exact Option.some.inj (E.1.2.2.2.1.symm.trans hown2)
  have h6 := u_fits hfc hkC hkind (Or.inr hlay) hif (hty i hi) hn hfit
  refine W.putFinK E.1.1 E.1.2.1 E.1.2.2.2.1 (E.1.2.2.2.2 _ hlink) hif hst hcf hin2 (by rw [q2]; exact h6) q1 q3 (by rw [hsl]; exact k2_hasslot (q4 i hi)) rfl rfl hdg fun H' e1 e2 e3 => ?_
  rw [hsl] at e1 ⊢
  exact kk _ H' _ rfl (fP_set hP e2 ⟨_, hcl, t_OB.to (V := updV (vp_V fs) i v) ⟨_, e1, q2, q3, t_set q4 hap hi v⟩ (fun j _ => vp_updV_set hl v j)⟩ e3) (hS0.put e2 e3 (fB_in g k))
theorem fs_iald (E : fE p m c cc nL s args own g) (hP : fP g N ct H) {k n : Nat} {f : Nat → Int32} {i : Int32} (hc : ct k = .inl (fcI g, n, .inl f)) (hk : k < N) (hin : vp_in i n) (hdg : decode cc pc = .ok (.iaload, 1))
    (kk : W p l e R s m args below meth c H locs cells slots Q (F0 m (pc + 1) ls (.int (f i.toNatClampNeg) :: rest))) : W p l e R s m args below meth c H locs cells slots Q (F0 m pc ls (.int i :: .ref (fa g k) :: rest)) :=
  va_iald (D := g.1) (cl := vwCl) (ws := [(fa g k, ct k)]) (tys := fT g) E.1.1 E.1.2.1 E.2.1.1 (fP_one hP hk) 0 0 (by rw [hc]; rfl) rfl hin hdg kk
theorem fs_cald (E : fE p m c cc nL s args own g) (hP : fP g N ct H) {k n : Nat} {f : Nat → Int32} {i : Int32} (hc : ct k = .inl (fcC g, n, .inl f)) (hk : k < N) (hin : vp_in i n) (hdg : decode cc pc = .ok (.caload, 1))
    (kk : W p l e R s m args below meth c H locs cells slots Q (F0 m (pc + 1) ls (.int (f i.toNatClampNeg) :: rest))) : W p l e R s m args below meth c H locs cells slots Q (F0 m pc ls (.int i :: .ref (fa g k) :: rest)) :=
  va_cald (D := g.1) (cl := vwCl) (ws := [(fa g k, ct k)]) (tys := fT g) E.1.1 E.1.2.1 E.2.1.1 (fP_one hP hk) 0 1 (by rw [hc]; rfl) rfl hin hdg kk
theorem fs_aaldR (E : fE p m c cc nL s args own g) (hP : fP g N ct H) {k n : Nat} {f : Nat → Option Nat} {i : Int32} (hc : ct k = .inl (fcR g, n, .inr (.inr (.inr (.inr f))))) (hk : k < N) (hin : vp_in i n) (hdg : decode cc pc = .ok (.aaload, 1))
    (kk : W p l e R s m args below meth c H locs cells slots Q (F0 m (pc + 1) ls (va_rf (f i.toNatClampNeg) :: rest))) : W p l e R s m args below meth c H locs cells slots Q (F0 m pc ls (.int i :: .ref (fa g k) :: rest)) :=
  va_aldq (D := g.1) (cl := vwCl) (ws := [(fa g k, ct k)]) (tys := fT g) E.1.1 E.1.2.1 E.2.1.1 (fP_one hP hk) 0 2 (by rw [hc]; rfl) rfl hin hdg kk
theorem fs_aaldH (E : fE p m c cc nL s args own g) (hP : fP g N ct H) {k n : Nat} {f : Nat → Option Nat} {i : Int32} (hc : ct k = .inl (fcH g, n, .inr (.inr (.inr (.inr f))))) (hk : k < N) (hin : vp_in i n) (hdg : decode cc pc = .ok (.aaload, 1))
    (kk : W p l e R s m args below meth c H locs cells slots Q (F0 m (pc + 1) ls (va_rf (f i.toNatClampNeg) :: rest))) : W p l e R s m args below meth c H locs cells slots Q (F0 m pc ls (.int i :: .ref (fa g k) :: rest)) :=
  va_aldq (D := g.1) (cl := vwCl) (ws := [(fa g k, ct k)]) (tys := fT g) E.1.1 E.1.2.1 E.2.1.1 (fP_one hP hk) 0 3 (by rw [hc]; rfl) rfl hin hdg kk
theorem fs_alenI (E : fE p m c cc nL s args own g) (hP : fP g N ct H) {k n : Nat} {x : (Nat → Int32) ⊕ (Nat → Int64) ⊕ (Nat → UInt32) ⊕ (Nat → UInt64) ⊕ (Nat → Option Nat)} (hc : ct k = .inl (fcI g, n, x)) (hk : k < N) (hdg : decode cc pc = .ok (.arraylength, 1))
    (kk : W p l e R s m args below meth c H locs cells slots Q (F0 m (pc + 1) ls (.int (nI n) :: rest))) : W p l e R s m args below meth c H locs cells slots Q (F0 m pc ls (.ref (fa g k) :: rest)) :=
  va_alen (D := g.1) (cl := vwCl) (ws := [(fa g k, ct k)]) (tys := fT g) (x := (n, x)) E.1.1 E.1.2.1 E.2.1.1 (fP_one hP hk) 0 0 (by rw [hc]; rfl) rfl rfl hdg kk
theorem fs_alenC (E : fE p m c cc nL s args own g) (hP : fP g N ct H) {k n : Nat} {x : (Nat → Int32) ⊕ (Nat → Int64) ⊕ (Nat → UInt32) ⊕ (Nat → UInt64) ⊕ (Nat → Option Nat)} (hc : ct k = .inl (fcC g, n, x)) (hk : k < N) (hdg : decode cc pc = .ok (.arraylength, 1))
    (kk : W p l e R s m args below meth c H locs cells slots Q (F0 m (pc + 1) ls (.int (nI n) :: rest))) : W p l e R s m args below meth c H locs cells slots Q (F0 m pc ls (.ref (fa g k) :: rest)) :=
  va_alen (D := g.1) (cl := vwCl) (ws := [(fa g k, ct k)]) (tys := fT g) (x := (n, x)) E.1.1 E.1.2.1 E.2.1.1 (fP_one hP hk) 0 1 (by rw [hc]; rfl) rfl rfl hdg kk
theorem fs_alenR (E : fE p m c cc nL s args own g) (hP : fP g N ct H) {k n : Nat} {x : (Nat → Int32) ⊕ (Nat → Int64) ⊕ (Nat → UInt32) ⊕ (Nat → UInt64) ⊕ (Nat → Option Nat)} (hc : ct k = .inl (fcR g, n, x)) (hk : k < N) (hdg : decode cc pc = .ok (.arraylength, 1))
    (kk : W p l e R s m args below meth c H locs cells slots Q (F0 m (pc + 1) ls (.int (nI n) :: rest))) : W p l e R s m args below meth c H locs cells slots Q (F0 m pc ls (.ref (fa g k) :: rest)) :=
  va_alen (D := g.1) (cl := vwCl) (ws := [(fa g k, ct k)]) (tys := fT g) (x := (n, x)) E.1.1 E.1.2.1 E.2.1.1 (fP_one hP hk) 0 2 (by rw [hc]; rfl) rfl rfl hdg kk
theorem fs_alenH (E : fE p m c cc nL s args own g) (hP : fP g N ct H) {k n : Nat} {x : (Nat → Int32) ⊕ (Nat → Int64) ⊕ (Nat → UInt32) ⊕ (Nat → UInt64) ⊕ (Nat → Option Nat)} (hc : ct k = .inl (fcH g, n, x)) (hk : k < N) (hdg : decode cc pc = .ok (.arraylength, 1))
    (kk : W p l e R s m args below meth c H locs cells slots Q (F0 m (pc + 1) ls (.int (nI n) :: rest))) : W p l e R s m args below meth c H locs cells slots Q (F0 m pc ls (.ref (fa g k) :: rest)) :=
  va_alen (D := g.1) (cl := vwCl) (ws := [(fa g k, ct k)]) (tys := fT g) (x := (n, x)) E.1.1 E.1.2.1 E.2.1.1 (fP_one hP hk) 0 3 (by rw [hc]; rfl) rfl rfl hdg kk
theorem fs_iast (E : fE p m c cc nL s args own g) (hP : fP g N ct H) (hS : va_S (fB g) s.heap H locs) {k n : Nat} {f : Nat → Int32} {i x : Int32} (hc : ct k = .inl (fcI g, n, .inl f)) (hk : k < N) (hin : vp_in i n) (hdg : decode cc pc = .ok (.iastore, 1))
    (kk : ∀ (ct1 : Nat → va_E) (H1 : Heap) (locs1 : List Loc), ct1 = fu ct k (.inl (fcI g, n, .inl (upd f i.toNatClampNeg x))) → fP g N ct1 H1 → va_S (fB g) s.heap H1 locs1 → W p l e R s m args below meth c H1 locs1 cells slots Q (F0 m (pc + 1) ls rest)) : W p l e R s m args below meth c H locs cells slots Q (F0 m pc ls (.int x :: .int i :: .ref (fa g k) :: rest)) := by
  have ha : va_at g.1 vwCl (fa g k, .inl (fcI g, n, .inl f)) H := by rw [← hc]; exact hP.2 k hk
  refine W.iast E.1.1 E.1.2.1 ha ((E.2.1.1.2 0 (fcI g, .int) rfl).1 n (fun j => .int (f j))) (fun q => by cases q) (by show ¬ (i < 0 ∨ (arrV _ _ _).slots.size ≤ _); rw [arrV_size]; exact hin) rfl rfl hdg fun H1 e z oq => ?_
  refine kk _ H1 _ rfl (fP_set hP z ?_ oq) (hS.put z oq (fB_in g k))
  show H1[fa g k]? = some (vp_cell _ _)
  rw [e]
  rw [vp_cell_i, vp_cell_i, arrV_store]
  congr 2
  funext q
  by_cases hq : q = i.toNatClampNeg
  · subst hq
    simp [updV, upd]
  · simp [updV, upd, hq]
theorem fs_cast (E : fE p m c cc nL s args own g) (hP : fP g N ct H) (hS : va_S (fB g) s.heap H locs) {k n : Nat} {f : Nat → Int32} {i x : Int32} (hc : ct k = .inl (fcC g, n, .inl f)) (hk : k < N) (hin : vp_in i n) (hnx : narrow .char (.int x) = .int x) (hdg : decode cc pc = .ok (.castore, 1))
    (kk : ∀ (ct1 : Nat → va_E) (H1 : Heap) (locs1 : List Loc), ct1 = fu ct k (.inl (fcC g, n, .inl (upd f i.toNatClampNeg x))) → fP g N ct1 H1 → va_S (fB g) s.heap H1 locs1 → W p l e R s m args below meth c H1 locs1 cells slots Q (F0 m (pc + 1) ls rest)) : W p l e R s m args below meth c H locs cells slots Q (F0 m pc ls (.int x :: .int i :: .ref (fa g k) :: rest)) := by
  have ha : va_at g.1 vwCl (fa g k, .inl (fcC g, n, .inl f)) H := by rw [← hc]; exact hP.2 k hk
  refine W.cast E.1.1 E.1.2.1 ha ((E.2.1.1.2 1 (fcC g, .char) rfl).1 n (fun j => .int (f j))) (fun q => by cases q) (by show ¬ (i < 0 ∨ (arrV _ _ _).slots.size ≤ _); rw [arrV_size]; exact hin) rfl rfl hdg fun H1 e z oq => ?_
  refine kk _ H1 _ rfl (fP_set hP z ?_ oq) (hS.put z oq (fB_in g k))
  show H1[fa g k]? = some (vp_cell _ _)
  rw [e]
  rw [vp_cell_i, vp_cell_i, arrV_store]
  congr 2
  funext q
  by_cases hq : q = i.toNatClampNeg
  · subst hq
    simp [updV, upd, hnx]
  · simp [updV, upd, hq]
/-- what a call asks -/
theorem fpreV (E : fE p m c cc nL s args own g) (hP : fP g N ct H) (hS : va_S (fB g) s.heap H locs) {ci M k : Nat} {C : String} {T : u_T} {ty : Nat → FieldType} {fs : List Value} (hC : fCls ci C T M ty) (hc : ct k = .inr (ci, fs)) (hk : k < N) {As : List Value} : PreV s H C (fa g k) (fPre g N ct (.ref (fa g k) :: As)) As :=
  ⟨fblind, va_recv (q0 := 0) E.2.1.1 (fP_one hP hk) hC.1 (by rw [hc]; rfl), fun U hU hW => ⟨rfl, E.2.1.moved hW, by rw [hU]; exact fX.moved hW.alike hS.2.1 E.2.2, by rw [hU]; exact hP⟩⟩
theorem fpreS (E : fE p m c cc nL s args own g) (hP : fP g N ct H) (hS : va_S (fB g) s.heap H locs) {As : List Value} : PreS s H (fPre g N ct As) As :=
  ⟨fblind, fun U hU hW => ⟨rfl, E.2.1.moved hW, by rw [hU]; exact fX.moved hW.alike hS.2.1 E.2.2, by rw [hU]; exact hP⟩⟩
theorem flocs {L : List Loc} (hS : va_S (fB g) s.heap H locs) (hL : ∀ q ∈ L, fB g q.base) : ∀ q ∈ locs ++ L, fB g q.base := by
  intro q hq
  rcases List.mem_append.mp hq with h | h
  · exact hS.2.2 q h
  · exact hL q h
variable {a : Array Value} {st0 : List Value} {mc ms N1 : Nat}
theorem fs_pi {post : Int32 → Prop} (hr : va_Run p l e R s m args below meth c H locs cells slots 0 0 (F0 m pc ls st0) rest (fQpi post a) (fB g)) (hS : va_S (fB g) s.heap H locs)
    (kk : ∀ (r : Int32) (locs1 : List Loc), post r → va_S (fB g) s.heap H locs1 → W p l e R s m args below meth c H locs1 cells slots Q (F0 m (pc + 3) ls (.int r :: rest))) : W p l e R s m args below meth c H locs cells slots Q (F0 m pc ls st0) := by
  intro T hT X
  obtain ⟨v, st₀, t, T', L, h0, X', hL, e1, e2, ⟨r, hv, hp, hh⟩, st⟩ := hr T hT X
  cases hv
  obtain ⟨t2, a1, b1⟩ := kk r (locs ++ L) hp ⟨hS.1, hS.2.1, flocs hS hL⟩ T' (by rw [e1, hh, h0]) X'
  exact ⟨t2, st t2 a1, b1⟩
theorem fs_pr {post : Value → Prop} (hr : va_Run p l e R s m args below meth c H locs cells slots 0 0 (F0 m pc ls st0) rest (fQpr post a) (fB g)) (hS : va_S (fB g) s.heap H locs)
    (kk : ∀ (r : Value) (locs1 : List Loc), post r → va_S (fB g) s.heap H locs1 → W p l e R s m args below meth c H locs1 cells slots Q (F0 m (pc + 3) ls (r :: rest))) : W p l e R s m args below meth c H locs cells slots Q (F0 m pc ls st0) := by
  intro T hT X
  obtain ⟨v, st₀, t, T', L, h0, X', hL, e1, e2, ⟨r, hv, hp, hh⟩, st⟩ := hr T hT X
  cases hv
  obtain ⟨t2, a1, b1⟩ := kk r (locs ++ L) hp ⟨hS.1, hS.2.1, flocs hS hL⟩ T' (by rw [e1, hh, h0]) X'
  exact ⟨t2, st t2 a1, b1⟩
theorem fs_i {post : Int32 → (Nat → va_E) → Prop} (hr : va_Run p l e R s m args below meth c H locs cells slots mc ms (F0 m pc ls st0) rest (fQi g N1 post a) (fB g)) (hS : va_S (fB g) s.heap H locs)
    (kk : ∀ (r : Int32) (ct1 : Nat → va_E) (H1 : Heap) (locs1 : List Loc), post r ct1 → fP g N1 ct1 H1 → va_S (fB g) s.heap H1 locs1 → W p l e R s m args below meth c H1 locs1 (cells + mc) (slots + ms) Q (F0 m (pc + 3) ls (.int r :: rest))) : W p l e R s m args below meth c H locs cells slots Q (F0 m pc ls st0) := by
  intro T hT X
  obtain ⟨v, st₀, t, T', L, h0, X', hL, e1, e2, ⟨r, ct1, hv, hp, hP1, hz, hk⟩, st⟩ := hr T hT X
  cases hv
  rw [h0] at hz hk
  obtain ⟨t2, a1, b1⟩ := kk r ct1 T'.heap (locs ++ L) hp (by rw [e1]; exact hP1) ⟨Nat.le_trans hS.1 (by rw [e1]; exact hz), fun q h1 h2 => by rw [e1, hk q (Nat.lt_of_lt_of_le h1 hS.1) h2]; exact hS.2.1 q h1 h2, flocs hS hL⟩ T' rfl X'
  exact ⟨t2, st t2 a1, b1⟩
theorem fs_r {post : Value → (Nat → va_E) → Prop} (hr : va_Run p l e R s m args below meth c H locs cells slots mc ms (F0 m pc ls st0) rest (fQr g N1 post a) (fB g)) (hS : va_S (fB g) s.heap H locs)
    (kk : ∀ (r : Value) (ct1 : Nat → va_E) (H1 : Heap) (locs1 : List Loc), post r ct1 → fP g N1 ct1 H1 → va_S (fB g) s.heap H1 locs1 → W p l e R s m args below meth c H1 locs1 (cells + mc) (slots + ms) Q (F0 m (pc + 3) ls (r :: rest))) : W p l e R s m args below meth c H locs cells slots Q (F0 m pc ls st0) := by
  intro T hT X
  obtain ⟨v, st₀, t, T', L, h0, X', hL, e1, e2, ⟨r, ct1, hv, hp, hP1, hz, hk⟩, st⟩ := hr T hT X
  cases hv
  rw [h0] at hz hk
  obtain ⟨t2, a1, b1⟩ := kk r ct1 T'.heap (locs ++ L) hp (by rw [e1]; exact hP1) ⟨Nat.le_trans hS.1 (by rw [e1]; exact hz), fun q h1 h2 => by rw [e1, hk q (Nat.lt_of_lt_of_le h1 hS.1) h2]; exact hS.2.1 q h1 h2, flocs hS hL⟩ T' rfl X'
  exact ⟨t2, st t2 a1, b1⟩
theorem fs_v {post : (Nat → va_E) → Prop} (hr : va_Run p l e R s m args below meth c H locs cells slots mc ms (F0 m pc ls st0) rest (fQv g N1 post a) (fB g)) (hS : va_S (fB g) s.heap H locs)
    (kk : ∀ (ct1 : Nat → va_E) (H1 : Heap) (locs1 : List Loc), post ct1 → fP g N1 ct1 H1 → va_S (fB g) s.heap H1 locs1 → W p l e R s m args below meth c H1 locs1 (cells + mc) (slots + ms) Q (F0 m (pc + 3) ls rest)) : W p l e R s m args below meth c H locs cells slots Q (F0 m pc ls st0) := by
  intro T hT X
  obtain ⟨v, st₀, t, T', L, h0, X', hL, e1, e2, ⟨ct1, hv, hp, hP1, hz, hk⟩, st⟩ := hr T hT X
  cases hv
  rw [h0] at hz hk
  obtain ⟨t2, a1, b1⟩ := kk ct1 T'.heap (locs ++ L) hp (by rw [e1]; exact hP1) ⟨Nat.le_trans hS.1 (by rw [e1]; exact hz), fun q h1 h2 => by rw [e1, hk q (Nat.lt_of_lt_of_le h1 hS.1) h2]; exact hS.2.1 q h1 h2, flocs hS hL⟩ T' rfl X'
  exact ⟨t2, st t2 a1, b1⟩
/-- ends -/
theorem fs_piret {post : Int32 → Prop} {v : Int32} (E : fE p m c cc nL s args own g) (hr : meth.sig.returnType = some .int) (hlk : meth.locks = false) (hS : va_S (fB g) s.heap s.heap locs) (hdg : decode cc pc = .ok (.ireturn, 1)) (hp : post v) : W p l e R s m args below meth c s.heap locs 0 0 (MQ below (fQpi post) args s 0 0 (fB g)) (F0 m pc ls [.int v]) :=
  W.iret E.1.1 E.1.2.1 hr (fun t ht _ => ⟨v, rfl, hp, ht⟩) hS.2.2 hdg hlk
theorem fs_pzret {post : Int32 → Prop} {v : Int32} {ty : FieldType} (E : fE p m c cc nL s args own g) (hr : meth.sig.returnType = some ty) (hn : narrow ty (.int v) = .int v) (hlk : meth.locks = false) (hS : va_S (fB g) s.heap s.heap locs) (hdg : decode cc pc = .ok (.ireturn, 1)) (hp : post v) : W p l e R s m args below meth c s.heap locs 0 0 (MQ below (fQpi post) args s 0 0 (fB g)) (F0 m pc ls [.int v]) :=
  W.zret E.1.1 E.1.2.1 hr hn (fun t ht _ => ⟨v, rfl, hp, ht⟩) hS.2.2 hdg hlk
theorem fs_paret {post : Value → Prop} {v : Value} {C : String} (E : fE p m c cc nL s args own g) (hr : meth.sig.returnType = some (.object C)) (hv : v = .null ∨ ∃ a, v = .ref a) (hlk : meth.locks = false) (hS : va_S (fB g) s.heap s.heap locs) (hdg : decode cc pc = .ok (.areturn, 1)) (hp : post v) : W p l e R s m args below meth c s.heap locs 0 0 (MQ below (fQpr post) args s 0 0 (fB g)) (F0 m pc ls [v]) :=
  W.aret E.1.1 E.1.2.1 hr (Or.inl ⟨_, rfl⟩) hv (fun t ht _ => ⟨v, rfl, hp, ht⟩) hS.2.2 hdg hlk
theorem fs_iret {post : Int32 → (Nat → va_E) → Prop} {v : Int32} (E : fE p m c cc nL s args own g) (hr : meth.sig.returnType = some .int) (hlk : meth.locks = false) (hP : fP g N ct H) (hS : va_S (fB g) s.heap H locs) (hdg : decode cc pc = .ok (.ireturn, 1)) (hp : post v ct) : W p l e R s m args below meth c H locs mc ms (MQ below (fQi g N post) args s mc ms (fB g)) (F0 m pc ls [.int v]) :=
  W.iret E.1.1 E.1.2.1 hr (fun t ht _ => ⟨v, ct, rfl, hp, by rw [ht]; exact hP, hS.F ht⟩) hS.2.2 hdg hlk
theorem fs_zret {post : Int32 → (Nat → va_E) → Prop} {v : Int32} {ty : FieldType} (E : fE p m c cc nL s args own g) (hr : meth.sig.returnType = some ty) (hn : narrow ty (.int v) = .int v) (hlk : meth.locks = false) (hP : fP g N ct H) (hS : va_S (fB g) s.heap H locs) (hdg : decode cc pc = .ok (.ireturn, 1)) (hp : post v ct) : W p l e R s m args below meth c H locs mc ms (MQ below (fQi g N post) args s mc ms (fB g)) (F0 m pc ls [.int v]) :=
  W.zret E.1.1 E.1.2.1 hr hn (fun t ht _ => ⟨v, ct, rfl, hp, by rw [ht]; exact hP, hS.F ht⟩) hS.2.2 hdg hlk
theorem fs_vret {post : (Nat → va_E) → Prop} (E : fE p m c cc nL s args own g) (hr : meth.sig.returnType = none) (hlk : meth.locks = false) (hP : fP g N ct H) (hS : va_S (fB g) s.heap H locs) (hdg : decode cc pc = .ok (.return_, 1)) (hp : post ct) : W p l e R s m args below meth c H locs mc ms (MQ below (fQv g N post) args s mc ms (fB g)) (F0 m pc ls []) :=
  W.vret E.1.1 E.1.2.1 hr (fun t ht _ => ⟨ct, rfl, hp, by rw [ht]; exact hP, hS.F ht⟩) hS.2.2 hdg hlk
theorem fs_aret {post : Value → (Nat → va_E) → Prop} {v : Value} {C : String} (E : fE p m c cc nL s args own g) (hr : meth.sig.returnType = some (.object C)) (hv : v = .null ∨ ∃ a, v = .ref a) (hlk : meth.locks = false) (hP : fP g N ct H) (hS : va_S (fB g) s.heap H locs) (hdg : decode cc pc = .ok (.areturn, 1)) (hp : post v ct) : W p l e R s m args below meth c H locs mc ms (MQ below (fQr g N post) args s mc ms (fB g)) (F0 m pc ls [v]) :=
  W.aret E.1.1 E.1.2.1 hr (Or.inl ⟨_, rfl⟩) hv (fun t ht _ => ⟨v, ct, rfl, hp, by rw [ht]; exact hP, hS.F ht⟩) hS.2.2 hdg hlk
/-- a value by another name -/
theorem fs_vi {x y : Int32} (h : x = y) (kk : W p l e R s m args below meth c H locs cells slots Q (F0 m pc ls (.int y :: rest))) : W p l e R s m args below meth c H locs cells slots Q (F0 m pc ls (.int x :: rest)) := h ▸ kk
theorem fs_vv {x y : Value} (h : x = y) (kk : W p l e R s m args below meth c H locs cells slots Q (F0 m pc ls (y :: rest))) : W p l e R s m args below meth c H locs cells slots Q (F0 m pc ls (x :: rest)) := h ▸ kk
end FS
end
section
abbrev rX0_init : Room := { frames := 3, cells := 151, slots := 876, locals := 53 }
abbrev rX0_stateAt : Room := { frames := 0, cells := 0, slots := 0, locals := 0 }
abbrev rX0_record : Room := { frames := 3, cells := 0, slots := 0, locals := 69 }
abbrev rX0_takeBack : Room := { frames := 3, cells := 0, slots := 0, locals := 69 }
abbrev rX1_init : Room := { frames := 2, cells := 24, slots := 138, locals := 32 }
abbrev rX1_arrange : Room := { frames := 1, cells := 0, slots := 0, locals := 22 }
abbrev rX1_copyFrom : Room := { frames := 2, cells := 0, slots := 0, locals := 45 }
abbrev rX1_hasBox : Room := { frames := 0, cells := 0, slots := 0, locals := 0 }
abbrev rX1_suits : Room := { frames := 1, cells := 0, slots := 0, locals := 21 }
abbrev rX1_hasRoomFor : Room := { frames := 0, cells := 0, slots := 0, locals := 0 }
abbrev rX1_rumourAt : Room := { frames := 0, cells := 0, slots := 0, locals := 0 }
abbrev rX1_addRumour : Room := { frames := 1, cells := 0, slots := 0, locals := 24 }
abbrev rX1_openRumours : Room := { frames := 2, cells := 0, slots := 0, locals := 43 }
abbrev rX1_isOpen : Room := { frames := 1, cells := 0, slots := 0, locals := 21 }
abbrev rX1_isTrue : Room := { frames := 2, cells := 0, slots := 0, locals := 45 }
abbrev rX1_revealOpen : Room := { frames := 2, cells := 0, slots := 0, locals := 45 }
abbrev rX1_finishAct : Room := { frames := 3, cells := 0, slots := 0, locals := 67 }
abbrev rX1_tellerOf : Room := { frames := 1, cells := 0, slots := 0, locals := 21 }
abbrev rX1_toldBy : Room := { frames := 2, cells := 0, slots := 0, locals := 43 }
abbrev rX1_toldTrulyBy : Room := { frames := 3, cells := 0, slots := 0, locals := 67 }
abbrev rX1_firstBroken : Room := { frames := 3, cells := 0, slots := 0, locals := 66 }
abbrev rX2_init : Room := { frames := 1, cells := 1, slots := 60, locals := 12 }
abbrev rX2_append : Room := { frames := 0, cells := 0, slots := 0, locals := 0 }
abbrev rX2_empty : Room := { frames := 0, cells := 0, slots := 0, locals := 0 }
abbrev rX2_characterAt : Room := { frames := 0, cells := 0, slots := 0, locals := 0 }
abbrev rX2_firstFault : Room := { frames := 8, cells := 0, slots := 0, locals := 181 }
abbrev rX2_canStandAt : Room := { frames := 7, cells := 0, slots := 0, locals := 159 }
abbrev rX2_canBeB : Room := { frames := 1, cells := 0, slots := 0, locals := 21 }
abbrev rX2_isDigit : Room := { frames := 0, cells := 0, slots := 0, locals := 0 }
abbrev rX2_rumours : Room := { frames := 0, cells := 0, slots := 0, locals := 0 }
abbrev rX2_tellerOf : Room := { frames := 2, cells := 0, slots := 0, locals := 42 }
abbrev rX2_kindOf : Room := { frames := 7, cells := 0, slots := 0, locals := 159 }
abbrev rX2_aOf : Room := { frames := 2, cells := 0, slots := 0, locals := 42 }
abbrev rX2_bOf : Room := { frames := 2, cells := 0, slots := 0, locals := 42 }
abbrev rX2_digitAt : Room := { frames := 1, cells := 0, slots := 0, locals := 21 }
abbrev rX3_init : Room := { frames := 1, cells := 0, slots := 0, locals := 12 }
abbrev rX3_become : Room := { frames := 0, cells := 0, slots := 0, locals := 0 }
abbrev rX3_copyFrom : Room := { frames := 1, cells := 0, slots := 0, locals := 24 }
abbrev rX3_decide : Room := { frames := 0, cells := 0, slots := 0, locals := 0 }
abbrev rX3_holdsIn : Room := { frames := 1, cells := 0, slots := 0, locals := 23 }
abbrev rX3_isBrokenIn : Room := { frames := 2, cells := 0, slots := 0, locals := 45 }
abbrev rX4_init : Room := { frames := 3, cells := 25, slots := 145, locals := 53 }
abbrev rX5_init : Room := { frames := 2, cells := 6, slots := 89, locals := 32 }
abbrev rX5_take : Room := { frames := 4, cells := 0, slots := 0, locals := 90 }
abbrev rX5_forget : Room := { frames := 1, cells := 0, slots := 0, locals := 22 }
abbrev rX5_tally : Room := { frames := 2, cells := 0, slots := 0, locals := 45 }
abbrev rX5_lookingAt : Room := { frames := 1, cells := 0, slots := 0, locals := 21 }
abbrev rX5_isCertain : Room := { frames := 0, cells := 0, slots := 0, locals := 0 }
abbrev rX5_isRuledOut : Room := { frames := 0, cells := 0, slots := 0, locals := 0 }
abbrev rX5_certainBox : Room := { frames := 2, cells := 0, slots := 0, locals := 43 }
abbrev rX5_certainPersons : Room := { frames := 3, cells := 0, slots := 0, locals := 65 }
abbrev rX5_openCertain : Room := { frames := 2, cells := 0, slots := 0, locals := 43 }
abbrev rX5_openRuledOut : Room := { frames := 2, cells := 0, slots := 0, locals := 43 }
abbrev rX5_worseOutcome : Room := { frames := 1, cells := 0, slots := 0, locals := 21 }
abbrev rX5_sharpestRumour : Room := { frames := 2, cells := 0, slots := 0, locals := 43 }
abbrev rX5_mostToBlame : Room := { frames := 2, cells := 0, slots := 0, locals := 43 }
abbrev rX5_worldsWith : Room := { frames := 4, cells := 0, slots := 0, locals := 90 }
abbrev rX5_findMostWatched : Room := { frames := 4, cells := 0, slots := 0, locals := 90 }
abbrev rX5_compareWatchers : Room := { frames := 0, cells := 0, slots := 0, locals := 0 }
abbrev rX5_boxInWorld : Room := { frames := 4, cells := 0, slots := 0, locals := 90 }
abbrev rX6_init : Room := { frames := 1, cells := 1, slots := 6, locals := 12 }
abbrev rX6_begin : Room := { frames := 1, cells := 0, slots := 0, locals := 20 }
abbrev rX6_step : Room := { frames := 1, cells := 0, slots := 0, locals := 22 }
abbrev rX6_firstBoxFor : Room := { frames := 0, cells := 0, slots := 0, locals := 0 }
abbrev rX7_init : Room := { frames := 4, cells := 238, slots := 1477, locals := 74 }
abbrev rX7_open : Room := { frames := 5, cells := 0, slots := 0, locals := 111 }
abbrev rX7_look : Room := { frames := 5, cells := 0, slots := 0, locals := 111 }
abbrev rX7_tell : Room := { frames := 5, cells := 0, slots := 0, locals := 111 }
abbrev rX7_tellAll : Room := { frames := 9, cells := 0, slots := 0, locals := 202 }
abbrev rX7_prove : Room := { frames := 6, cells := 0, slots := 0, locals := 133 }
abbrev rX7_reveal : Room := { frames := 5, cells := 0, slots := 0, locals := 111 }
abbrev rX7_doubt : Room := { frames := 6, cells := 0, slots := 0, locals := 133 }
abbrev rX7_guess : Room := { frames := 6, cells := 0, slots := 0, locals := 133 }
abbrev rX7_endAct : Room := { frames := 5, cells := 0, slots := 0, locals := 111 }
abbrev rX7_person : Room := { frames := 4, cells := 0, slots := 0, locals := 90 }
abbrev rX7_rumour : Room := { frames := 6, cells := 0, slots := 0, locals := 133 }
abbrev rX7_count : Room := { frames := 6, cells := 0, slots := 0, locals := 133 }
abbrev rX7_possible : Room := { frames := 6, cells := 0, slots := 0, locals := 133 }
abbrev rX7_certain : Room := { frames := 6, cells := 0, slots := 0, locals := 133 }
abbrev rX7_world : Room := { frames := 5, cells := 0, slots := 0, locals := 115 }
abbrev rX7_ifProved : Room := { frames := 5, cells := 0, slots := 0, locals := 116 }
abbrev rX7_sharpest : Room := { frames := 6, cells := 0, slots := 0, locals := 133 }
abbrev rX7_blame : Room := { frames := 6, cells := 0, slots := 0, locals := 133 }
abbrev rX7_mostWatched : Room := { frames := 5, cells := 0, slots := 0, locals := 113 }
abbrev rX7_put : Room := { frames := 1, cells := 0, slots := 0, locals := 26 }
abbrev rX7_wipe : Room := { frames := 1, cells := 0, slots := 0, locals := 20 }
abbrev rX7_fault : Room := { frames := 9, cells := 0, slots := 0, locals := 202 }
abbrev rX7_undo : Room := { frames := 4, cells := 0, slots := 0, locals := 92 }
abbrev rX7_save : Room := { frames := 3, cells := 0, slots := 0, locals := 69 }
abbrev rX7_restore : Room := { frames := 5, cells := 0, slots := 0, locals := 111 }
abbrev rX7_beginChange : Room := { frames := 4, cells := 0, slots := 0, locals := 91 }
abbrev rX7_surveyNow : Room := { frames := 5, cells := 0, slots := 0, locals := 113 }
abbrev rX7_slotAt : Room := { frames := 0, cells := 0, slots := 0, locals := 0 }
abbrev rX7_allTellersAreThere : Room := { frames := 3, cells := 0, slots := 0, locals := 63 }
abbrev rX7_allOnPadSuit : Room := { frames := 8, cells := 0, slots := 0, locals := 180 }
abbrev rX7_pointsOfGuess : Room := { frames := 2, cells := 0, slots := 0, locals := 43 }
abbrev rX7_lengthOfText : Room := { frames := 0, cells := 0, slots := 0, locals := 0 }
abbrev rX7_watchers : Room := { frames := 0, cells := 0, slots := 0, locals := 0 }
abbrev rX7_at : Room := { frames := 0, cells := 0, slots := 0, locals := 0 }
abbrev rX7_setAt : Room := { frames := 0, cells := 0, slots := 0, locals := 0 }
abbrev rX7_addAt : Room := { frames := 0, cells := 0, slots := 0, locals := 0 }
abbrev rX7_fillRow : Room := { frames := 0, cells := 0, slots := 0, locals := 0 }
abbrev rX7_copyRow : Room := { frames := 0, cells := 0, slots := 0, locals := 0 }
abbrev rX8_init : Room := { frames := 1, cells := 9, slots := 1233, locals := 22 }
abbrev rX8_moves : Room := { frames := 0, cells := 0, slots := 0, locals := 0 }
abbrev rX8_within : Room := { frames := 0, cells := 0, slots := 0, locals := 0 }
abbrev rX8_record : Room := { frames := 1, cells := 0, slots := 0, locals := 24 }
abbrev rX8_begins : Room := { frames := 0, cells := 0, slots := 0, locals := 0 }
abbrev rX8_isBox : Room := { frames := 1, cells := 0, slots := 0, locals := 22 }
abbrev rX8_isRumour : Room := { frames := 1, cells := 0, slots := 0, locals := 22 }
abbrev rX8_part : Room := { frames := 0, cells := 0, slots := 0, locals := 0 }
abbrev rX8_setHow : Room := { frames := 0, cells := 0, slots := 0, locals := 0 }
abbrev rX8_isOpen : Room := { frames := 1, cells := 0, slots := 0, locals := 22 }
abbrev rX8_suits : Room := { frames := 2, cells := 0, slots := 0, locals := 43 }
abbrev rX8_lookers : Room := { frames := 0, cells := 0, slots := 0, locals := 0 }
abbrev rX8_holds : Room := { frames := 1, cells := 0, slots := 0, locals := 23 }
abbrev rX8_holdsRumour : Room := { frames := 2, cells := 0, slots := 0, locals := 46 }
abbrev rX8_takeTruth : Room := { frames := 0, cells := 0, slots := 0, locals := 0 }
abbrev rX8_isTrue : Room := { frames := 3, cells := 0, slots := 0, locals := 67 }
abbrev rX8_worldsInAll : Room := { frames := 0, cells := 0, slots := 0, locals := 0 }
abbrev rX8_takeWorld : Room := { frames := 0, cells := 0, slots := 0, locals := 0 }
abbrev rX8_wrongOne : Room := { frames := 3, cells := 0, slots := 0, locals := 67 }
abbrev rX8_clear : Room := { frames := 0, cells := 0, slots := 0, locals := 0 }
abbrev rX8_takesIn : Room := { frames := 3, cells := 0, slots := 0, locals := 67 }
abbrev rX8_goThrough : Room := { frames := 4, cells := 0, slots := 0, locals := 90 }
abbrev rX8_worldsNow : Room := { frames := 5, cells := 0, slots := 0, locals := 113 }
abbrev rX8_isTruthPossible : Room := { frames := 4, cells := 0, slots := 0, locals := 90 }
abbrev rX8_certainBox : Room := { frames := 0, cells := 0, slots := 0, locals := 0 }
abbrev rX8_open : Room := { frames := 2, cells := 0, slots := 0, locals := 45 }
abbrev rX8_look : Room := { frames := 2, cells := 0, slots := 0, locals := 45 }
abbrev rX8_tells : Room := { frames := 0, cells := 0, slots := 0, locals := 0 }
abbrev rX8_tell : Room := { frames := 3, cells := 0, slots := 0, locals := 66 }
abbrev rX8_lookThrough : Room := { frames := 3, cells := 0, slots := 0, locals := 66 }
abbrev rX8_tellAll : Room := { frames := 4, cells := 0, slots := 0, locals := 89 }
abbrev rX8_prove : Room := { frames := 6, cells := 0, slots := 0, locals := 133 }
abbrev rX8_reveal : Room := { frames := 4, cells := 0, slots := 0, locals := 88 }
abbrev rX8_doubt : Room := { frames := 6, cells := 0, slots := 0, locals := 133 }
abbrev rX8_guess : Room := { frames := 5, cells := 0, slots := 0, locals := 113 }
abbrev rX8_endAct : Room := { frames := 4, cells := 0, slots := 0, locals := 88 }
abbrev rX8_told : Room := { frames := 4, cells := 0, slots := 0, locals := 88 }
abbrev rX8_person : Room := { frames := 5, cells := 0, slots := 0, locals := 112 }
abbrev rX8_rumour : Room := { frames := 5, cells := 0, slots := 0, locals := 113 }
abbrev rX8_openMany : Room := { frames := 2, cells := 0, slots := 0, locals := 43 }
abbrev rX8_certainPersons : Room := { frames := 5, cells := 0, slots := 0, locals := 113 }
abbrev rX8_certainRumours : Room := { frames := 5, cells := 0, slots := 0, locals := 113 }
abbrev rX8_count : Room := { frames := 6, cells := 0, slots := 0, locals := 136 }
abbrev rX8_possible : Room := { frames := 5, cells := 0, slots := 0, locals := 113 }
abbrev rX8_certain : Room := { frames := 5, cells := 0, slots := 0, locals := 113 }
abbrev rX8_world : Room := { frames := 4, cells := 0, slots := 0, locals := 90 }
abbrev rX8_ifProved : Room := { frames := 4, cells := 0, slots := 0, locals := 90 }
abbrev rX8_sharpest : Room := { frames := 5, cells := 0, slots := 0, locals := 113 }
abbrev rX8_blame : Room := { frames := 5, cells := 0, slots := 0, locals := 113 }
abbrev rX8_mostWatched : Room := { frames := 5, cells := 0, slots := 0, locals := 113 }
abbrev rX8_put : Room := { frames := 1, cells := 0, slots := 0, locals := 22 }
abbrev rX8_wipe : Room := { frames := 0, cells := 0, slots := 0, locals := 0 }
abbrev rX8_character : Room := { frames := 0, cells := 0, slots := 0, locals := 0 }
abbrev rX8_isNext : Room := { frames := 1, cells := 0, slots := 0, locals := 21 }
abbrev rX8_takeDigit : Room := { frames := 1, cells := 0, slots := 0, locals := 22 }
abbrev rX8_takeKind : Room := { frames := 1, cells := 0, slots := 0, locals := 21 }
abbrev rX8_readsRumour : Room := { frames := 2, cells := 0, slots := 0, locals := 44 }
abbrev rX8_findFault : Room := { frames := 3, cells := 0, slots := 0, locals := 64 }
abbrev rX8_fault : Room := { frames := 4, cells := 0, slots := 0, locals := 84 }
abbrev rX8_undo : Room := { frames := 1, cells := 0, slots := 0, locals := 24 }
abbrev rX8_save : Room := { frames := 1, cells := 0, slots := 0, locals := 24 }
abbrev rX8_restore : Room := { frames := 2, cells := 0, slots := 0, locals := 45 }
abbrev rJ11_isValidCodePoint_9a6ad : Room := { frames := 0, cells := 0, slots := 0, locals := 0 }
abbrev rJ11_highSurrogate_5068e : Room := { frames := 0, cells := 0, slots := 0, locals := 0 }
abbrev rJ11_lowSurrogate_5068e : Room := { frames := 0, cells := 0, slots := 0, locals := 0 }
abbrev rJ0_length_8abf5 : Room := { frames := 1, cells := 0, slots := 0, locals := 20 }
abbrev rJ0_indexOf_0f7a4 : Room := { frames := 6, cells := 0, slots := 0, locals := 138 }
abbrev rJ0_indexOf_7cf53 : Room := { frames := 5, cells := 0, slots := 0, locals := 116 }
abbrev rJ0_coder_7d493 : Room := { frames := 0, cells := 0, slots := 0, locals := 0 }
abbrev rJ0_isLatin1_aae02 : Room := { frames := 0, cells := 0, slots := 0, locals := 0 }
abbrev rJ0_checkBoundsBeginEnd_23922 : Room := { frames := 1, cells := 0, slots := 0, locals := 23 }
abbrev rJ1_canEncode_9a6ad : Room := { frames := 0, cells := 0, slots := 0, locals := 0 }
abbrev rJ1_indexOf_4cfef : Room := { frames := 1, cells := 0, slots := 0, locals := 25 }
abbrev rJ1_indexOfChar_4cfef : Room := { frames := 0, cells := 0, slots := 0, locals := 0 }
abbrev rJ2_getChar_3b067 : Room := { frames := 1, cells := 0, slots := 0, locals := 20 }
abbrev rJ2_length_9d52b : Room := { frames := 0, cells := 0, slots := 0, locals := 0 }
abbrev rJ2_indexOf_4cfef : Room := { frames := 4, cells := 0, slots := 0, locals := 93 }
abbrev rJ2_indexOfChar_4cfef : Room := { frames := 3, cells := 0, slots := 0, locals := 67 }
abbrev rJ2_indexOfCharUnsafe_4cfef : Room := { frames := 2, cells := 0, slots := 0, locals := 41 }
abbrev rJ2_indexOfSupplementary_4cfef : Room := { frames := 3, cells := 0, slots := 0, locals := 67 }
abbrev rJ2_checkBoundsBeginEnd_d044e : Room := { frames := 2, cells := 0, slots := 0, locals := 45 }
abbrev rJ3_checkFromToIndex_8c36e : Room := { frames := 0, cells := 0, slots := 0, locals := 0 }
theorem lk_RX0_17 {R : Room} {s : State} {args : Array Value} (hts : ∀ w ∈ wsL_law, w.before args s = true) (hR : 2 + 1 ≤ R.frames ∧ 8 + (2 + 11) + 32 ≤ R.locals) : CallB R s args RX0 17 yX1_init cX1_init 2 none (wsU yX1_init cX1_init 2 none) rX1_init 24 138 0 ∧ yX1_init.name = "<init>" ∧ (Cond.instanceMethod yX1_init).before args s = true := cwI 0 hts (fgood (wm wl_2 (i := 12) rfl)) rfl rfl rfl (hts _ (wm wl_1 (i := 15) rfl)) (hts _ (wm wl_3 (i := 7) rfl)) (hts _ (wm wl_2 (i := 11) rfl)) rfl (by decide +kernel) hR
theorem lk_RX0_22 {R : Room} {s : State} {args : Array Value} (hts : ∀ w ∈ wsL_law, w.before args s = true) (hR : 0 + 1 ≤ R.frames ∧ 8 + (2 + 11) + 0 ≤ R.locals) : CallW R s args RX0 RX0 22 yX0_stateAt cX0_stateAt 2 (some (.object "OperaGlasses$House")) (wsU yX0_stateAt cX0_stateAt 2 (some (.object "OperaGlasses$House"))) rX0_stateAt 0 0 1 := cwV 1 hts (fgV (wm wl_6 (i := 8) rfl) (wm wl_6 (i := 9) rfl) (wm wl_6 (i := 10) rfl) (wm wl_1 (i := 19) rfl) (wm wl_6 (i := 11) rfl)) rfl rfl rfl (by decide +kernel) hR
theorem lk_RX0_26 {R : Room} {s : State} {args : Array Value} (hts : ∀ w ∈ wsL_law, w.before args s = true) (hR : 2 + 1 ≤ R.frames ∧ 8 + (5 + 11) + 45 ≤ R.locals) : CallW R s args RX0 RX1 26 yX1_copyFrom cX1_copyFrom 5 none (wsU yX1_copyFrom cX1_copyFrom 5 none) rX1_copyFrom 0 0 1 := cwV 1 hts (fgV (wm wl_6 (i := 12) rfl) (wm wl_6 (i := 13) rfl) (wm wl_6 (i := 14) rfl) (wm wl_1 (i := 15) rfl) (wm wl_6 (i := 15) rfl)) rfl rfl rfl (by decide +kernel) hR
theorem lk_RX1_27 {R : Room} {s : State} {args : Array Value} (hts : ∀ w ∈ wsL_law, w.before args s = true) (hnw : va_Nw (.methodLinkNest RX1 27 yX3_init "OperaGlasses") s) (hR : 1 + 1 ≤ R.frames ∧ 8 + (1 + 11) + 12 ≤ R.locals) : va_CN R s args RX1 27 yX3_init "OperaGlasses" cX3_init 1 none (wsU yX3_init cX3_init 1 none) rX3_init 0 0 0 ∧ yX3_init.name = "<init>" ∧ (Cond.instanceMethod yX3_init).before args s = true := ⟨va_cnB 0 hts (fgood (wm wl_2 (i := 23) rfl)) rfl rfl rfl hnw (hts _ (wm wl_2 (i := 21) rfl)) (by decide +kernel) hR, ⟨rfl, hts _ (wm wl_2 (i := 22) rfl)⟩⟩
theorem lk_RX1_38 {R : Room} {s : State} {args : Array Value} (hts : ∀ w ∈ wsL_law, w.before args s = true) (hnw : va_Nw (.methodLinkNest RX1 38 yX7_fillRow "OperaGlasses") s) (hR : 0 + 1 ≤ R.frames ∧ 8 + (3 + 11) + 0 ≤ R.locals) : va_CN R s args RX1 38 yX7_fillRow "OperaGlasses" cX7_fillRow 3 none (wsU yX7_fillRow cX7_fillRow 3 none) rX7_fillRow 0 0 2 ∧ (Cond.static yX7_fillRow).before args s = true ∧ True := ⟨va_cnB 2 hts (fgood (wm wl_4 (i := 19) rfl)) rfl rfl rfl hnw (hts _ (wm wl_1 (i := 2) rfl)) (by decide +kernel) hR, ⟨hts _ (wm wl_4 (i := 18) rfl), trivial⟩⟩
theorem lk_RX1_42 {R : Room} {s : State} {args : Array Value} (hts : ∀ w ∈ wsL_law, w.before args s = true) (hnw : va_Nw (.methodLinkNest RX1 42 yX7_copyRow "OperaGlasses") s) (hR : 0 + 1 ≤ R.frames ∧ 8 + (3 + 11) + 0 ≤ R.locals) : va_CN R s args RX1 42 yX7_copyRow "OperaGlasses" cX7_copyRow 3 none (wsU yX7_copyRow cX7_copyRow 3 none) rX7_copyRow 0 0 2 ∧ (Cond.static yX7_copyRow).before args s = true ∧ True := ⟨va_cnB 2 hts (fgood (wm wl_6 (i := 17) rfl)) rfl rfl rfl hnw (hts _ (wm wl_1 (i := 2) rfl)) (by decide +kernel) hR, ⟨hts _ (wm wl_6 (i := 16) rfl), trivial⟩⟩
theorem lk_RX1_46 {R : Room} {s : State} {args : Array Value} (hts : ∀ w ∈ wsL_law, w.before args s = true) (hR : 0 + 1 ≤ R.frames ∧ 8 + (2 + 11) + 0 ≤ R.locals) : CallW R s args RX1 RX1 46 yX1_rumourAt cX1_rumourAt 2 (some (.object "OperaGlasses$Rumour")) (wsU yX1_rumourAt cX1_rumourAt 2 (some (.object "OperaGlasses$Rumour"))) rX1_rumourAt 0 0 1 := cwV 1 hts (fgV (wm wl_6 (i := 18) rfl) (wm wl_6 (i := 19) rfl) (wm wl_6 (i := 20) rfl) (wm wl_1 (i := 15) rfl) (wm wl_6 (i := 21) rfl)) rfl rfl rfl (by decide +kernel) hR
theorem lk_RX1_50 {R : Room} {s : State} {args : Array Value} (hts : ∀ w ∈ wsL_law, w.before args s = true) (hR : 1 + 1 ≤ R.frames ∧ 8 + (2 + 11) + 24 ≤ R.locals) : CallW R s args RX1 RX3 50 yX3_copyFrom cX3_copyFrom 2 none (wsU yX3_copyFrom cX3_copyFrom 2 none) rX3_copyFrom 0 0 1 := cwV 1 hts (fgV (wm wl_6 (i := 22) rfl) (wm wl_6 (i := 23) rfl) (wm wl_7 (i := 0) rfl) (wm wl_2 (i := 21) rfl) (wm wl_7 (i := 1) rfl)) rfl rfl rfl (by decide +kernel) hR
theorem lk_RX1_54 {R : Room} {s : State} {args : Array Value} (hts : ∀ w ∈ wsL_law, w.before args s = true) (hR : 0 + 1 ≤ R.frames ∧ 8 + (2 + 11) + 0 ≤ R.locals) : CallW R s args RX1 RX1 54 yX1_hasBox cX1_hasBox 2 (some .boolean) (wsU yX1_hasBox cX1_hasBox 2 (some .boolean)) rX1_hasBox 0 0 1 := cwV 1 hts (fgV (wm wl_9 (i := 8) rfl) (wm wl_8 (i := 7) rfl) (wm wl_8 (i := 8) rfl) (wm wl_1 (i := 15) rfl) (wm wl_8 (i := 9) rfl)) rfl rfl rfl (by decide +kernel) hR
theorem lk_RX1_58 {R : Room} {s : State} {args : Array Value} (hts : ∀ w ∈ wsL_law, w.before args s = true) (hR : 0 + 1 ≤ R.frames ∧ 8 + (2 + 11) + 0 ≤ R.locals) : CallW R s args RX1 RX1 58 yX1_hasRoomFor cX1_hasRoomFor 2 (some .boolean) (wsU yX1_hasRoomFor cX1_hasRoomFor 2 (some .boolean)) rX1_hasRoomFor 0 0 1 := cwV 1 hts (fgV (wm wl_9 (i := 17) rfl) (wm wl_9 (i := 10) rfl) (wm wl_9 (i := 11) rfl) (wm wl_1 (i := 15) rfl) (wm wl_9 (i := 12) rfl)) rfl rfl rfl (by decide +kernel) hR
theorem lk_RX1_61 {R : Room} {s : State} {args : Array Value} (hts : ∀ w ∈ wsL_law, w.before args s = true) (hR : 0 + 1 ≤ R.frames ∧ 8 + (5 + 11) + 0 ≤ R.locals) : CallW R s args RX1 RX3 61 yX3_become cX3_become 5 none (wsU yX3_become cX3_become 5 none) rX3_become 0 0 4 := cwV 4 hts (fgV (wm wl_9 (i := 18) rfl) (wm wl_7 (i := 8) rfl) (wm wl_7 (i := 9) rfl) (wm wl_2 (i := 21) rfl) (wm wl_7 (i := 10) rfl)) rfl rfl rfl (by decide +kernel) hR
theorem lk_RX1_65 {R : Room} {s : State} {args : Array Value} (hts : ∀ w ∈ wsL_law, w.before args s = true) (hR : 1 + 1 ≤ R.frames ∧ 8 + (3 + 11) + 21 ≤ R.locals) : CallW R s args RX1 RX1 65 yX1_isOpen cX1_isOpen 3 (some .boolean) (wsU yX1_isOpen cX1_isOpen 3 (some .boolean)) rX1_isOpen 0 0 1 := cwV 1 hts (fgV (wm wl_27 (i := 19) rfl) (wm wl_27 (i := 20) rfl) (wm wl_27 (i := 21) rfl) (wm wl_1 (i := 15) rfl) (wm wl_27 (i := 22) rfl)) rfl rfl rfl (by decide +kernel) hR
theorem lk_RX1_71 {R : Room} {s : State} {args : Array Value} (hts : ∀ w ∈ wsL_law, w.before args s = true) (hR : 1 + 1 ≤ R.frames ∧ 8 + (3 + 11) + 23 ≤ R.locals) : CallW R s args RX1 RX3 71 yX3_holdsIn cX3_holdsIn 3 (some .boolean) (wsU yX3_holdsIn cX3_holdsIn 3 (some .boolean)) rX3_holdsIn 0 0 1 := cwV 1 hts (fgV (wm wl_23 (i := 6) rfl) (wm wl_19 (i := 14) rfl) (wm wl_19 (i := 15) rfl) (wm wl_2 (i := 21) rfl) (wm wl_19 (i := 16) rfl)) rfl rfl rfl (by decide +kernel) hR
theorem lk_RX1_75 {R : Room} {s : State} {args : Array Value} (hts : ∀ w ∈ wsL_law, w.before args s = true) (hR : 0 + 1 ≤ R.frames ∧ 8 + (2 + 11) + 0 ≤ R.locals) : CallW R s args RX1 RX3 75 yX3_decide cX3_decide 2 none (wsU yX3_decide cX3_decide 2 none) rX3_decide 0 0 1 := cwV 1 hts (fgV (wm wl_23 (i := 7) rfl) (wm wl_18 (i := 4) rfl) (wm wl_18 (i := 5) rfl) (wm wl_2 (i := 21) rfl) (wm wl_18 (i := 6) rfl)) rfl rfl rfl (by decide +kernel) hR
theorem lk_RX1_79 {R : Room} {s : State} {args : Array Value} (hts : ∀ w ∈ wsL_law, w.before args s = true) (hR : 1 + 1 ≤ R.frames ∧ 8 + (3 + 11) + 21 ≤ R.locals) : CallW R s args RX1 RX1 79 yX1_tellerOf cX1_tellerOf 3 (some .int) (wsU yX1_tellerOf cX1_tellerOf 3 (some .int)) rX1_tellerOf 0 0 1 := cwV 1 hts (fgV (wm wl_25 (i := 17) rfl) (wm wl_25 (i := 18) rfl) (wm wl_25 (i := 19) rfl) (wm wl_1 (i := 15) rfl) (wm wl_25 (i := 20) rfl)) rfl rfl rfl (by decide +kernel) hR
theorem lk_RX1_83 {R : Room} {s : State} {args : Array Value} (hts : ∀ w ∈ wsL_law, w.before args s = true) (hR : 2 + 1 ≤ R.frames ∧ 8 + (3 + 11) + 45 ≤ R.locals) : CallW R s args RX1 RX1 83 yX1_isTrue cX1_isTrue 3 (some .boolean) (wsU yX1_isTrue cX1_isTrue 3 (some .boolean)) rX1_isTrue 0 0 1 := cwV 1 hts (fgV (wm wl_25 (i := 21) rfl) (wm wl_25 (i := 22) rfl) (wm wl_25 (i := 23) rfl) (wm wl_1 (i := 15) rfl) (wm wl_26 (i := 0) rfl)) rfl rfl rfl (by decide +kernel) hR
theorem lk_RX1_86 {R : Room} {s : State} {args : Array Value} (hts : ∀ w ∈ wsL_law, w.before args s = true) (hnw : va_Nw (.methodLinkNest RX1 86 yX7_addAt "OperaGlasses") s) (hR : 0 + 1 ≤ R.frames ∧ 8 + (3 + 11) + 0 ≤ R.locals) : va_CN R s args RX1 86 yX7_addAt "OperaGlasses" cX7_addAt 3 none (wsU yX7_addAt cX7_addAt 3 none) rX7_addAt 0 0 3 ∧ (Cond.static yX7_addAt).before args s = true ∧ True := ⟨va_cnB 3 hts (fgood (wm wl_20 (i := 0) rfl)) rfl rfl rfl hnw (hts _ (wm wl_1 (i := 2) rfl)) (by decide +kernel) hR, ⟨hts _ (wm wl_19 (i := 23) rfl), trivial⟩⟩
theorem lk_RX1_99 {R : Room} {s : State} {args : Array Value} (hts : ∀ w ∈ wsL_law, w.before args s = true) (hR : 2 + 1 ≤ R.frames ∧ 8 + (2 + 11) + 45 ≤ R.locals) : CallW R s args RX1 RX3 99 yX3_isBrokenIn cX3_isBrokenIn 2 (some .boolean) (wsU yX3_isBrokenIn cX3_isBrokenIn 2 (some .boolean)) rX3_isBrokenIn 0 0 1 := cwV 1 hts (fgV (wm wl_19 (i := 9) rfl) (wm wl_19 (i := 10) rfl) (wm wl_19 (i := 11) rfl) (wm wl_2 (i := 21) rfl) (wm wl_19 (i := 12) rfl)) rfl rfl rfl (by decide +kernel) hR
theorem lk_RX2_19 {R : Room} {s : State} {args : Array Value} (hts : ∀ w ∈ wsL_law, w.before args s = true) (hR : 7 + 1 ≤ R.frames ∧ 8 + (3 + 11) + 159 ≤ R.locals) : CallW R s args RX2 RX2 19 yX2_canStandAt cX2_canStandAt 3 (some .boolean) (wsU yX2_canStandAt cX2_canStandAt 3 (some .boolean)) rX2_canStandAt 0 0 1 := cwV 1 hts (fgV (wm wl_10 (i := 16) rfl) (wm wl_10 (i := 17) rfl) (wm wl_10 (i := 18) rfl) (wm wl_2 (i := 4) rfl) (wm wl_10 (i := 19) rfl)) rfl rfl rfl (by decide +kernel) hR
theorem lk_RX2_23 {R : Room} {s : State} {args : Array Value} (hts : ∀ w ∈ wsL_law, w.before args s = true) (hR : 0 + 1 ≤ R.frames ∧ 8 + (2 + 11) + 0 ≤ R.locals) : CallW R s args RX2 RX2 23 yX2_characterAt cX2_characterAt 2 (some .char) (wsU yX2_characterAt cX2_characterAt 2 (some .char)) rX2_characterAt 0 0 1 := cwV 1 hts (fgV (wm wl_10 (i := 20) rfl) (wm wl_10 (i := 21) rfl) (wm wl_10 (i := 22) rfl) (wm wl_2 (i := 4) rfl) (wm wl_10 (i := 23) rfl)) rfl rfl rfl (by decide +kernel) hR
theorem lk_RX2_27 {R : Room} {s : State} {args : Array Value} (hts : ∀ w ∈ wsL_law, w.before args s = true) (hR : 0 + 1 ≤ R.frames ∧ 8 + (2 + 11) + 0 ≤ R.locals) : CallB R s args RX2 27 yX2_isDigit cX2_isDigit 2 (some .boolean) (wsU yX2_isDigit cX2_isDigit 2 (some .boolean)) rX2_isDigit 0 0 2 ∧ (Cond.static yX2_isDigit).before args s = true := va_cwS 2 hts (fgS (wm wl_11 (i := 0) rfl) (wm wl_11 (i := 1) rfl) (wm wl_2 (i := 4) rfl) (wm wl_11 (i := 2) rfl)) rfl rfl rfl (by decide +kernel) hR
theorem lk_RX2_33 {R : Room} {s : State} {args : Array Value} (hts : ∀ w ∈ wsL_law, w.before args s = true) (hR : 6 + 1 ≤ R.frames ∧ 8 + (2 + 11) + 138 ≤ R.locals) : CallW R s args RX2 RJ0 33 yJ0_indexOf_0f7a4 cJ0_indexOf_0f7a4 2 (some .int) (wsU yJ0_indexOf_0f7a4 cJ0_indexOf_0f7a4 2 (some .int)) rJ0_indexOf_0f7a4 0 0 1 := cwV 1 hts (fgV (wm wl_11 (i := 3) rfl) (wm wl_11 (i := 4) rfl) (wm wl_11 (i := 5) rfl) (wm wl_11 (i := 6) rfl) (wm wl_11 (i := 7) rfl)) rfl rfl rfl (by decide +kernel) hR
theorem lk_RX2_39 {R : Room} {s : State} {args : Array Value} (hts : ∀ w ∈ wsL_law, w.before args s = true) (hR : 1 + 1 ≤ R.frames ∧ 8 + (3 + 11) + 21 ≤ R.locals) : CallB R s args RX2 39 yX2_canBeB cX2_canBeB 3 (some .boolean) (wsU yX2_canBeB cX2_canBeB 3 (some .boolean)) rX2_canBeB 0 0 3 ∧ (Cond.static yX2_canBeB).before args s = true := va_cwS 3 hts (fgS (wm wl_14 (i := 17) rfl) (wm wl_14 (i := 18) rfl) (wm wl_2 (i := 4) rfl) (wm wl_14 (i := 19) rfl)) rfl rfl rfl (by decide +kernel) hR
theorem lk_RX2_43 {R : Room} {s : State} {args : Array Value} (hts : ∀ w ∈ wsL_law, w.before args s = true) (hR : 1 + 1 ≤ R.frames ∧ 8 + (2 + 11) + 21 ≤ R.locals) : CallW R s args RX2 RX2 43 yX2_digitAt cX2_digitAt 2 (some .int) (wsU yX2_digitAt cX2_digitAt 2 (some .int)) rX2_digitAt 0 0 1 := cwV 1 hts (fgV (wm wl_15 (i := 8) rfl) (wm wl_15 (i := 9) rfl) (wm wl_15 (i := 10) rfl) (wm wl_2 (i := 4) rfl) (wm wl_15 (i := 11) rfl)) rfl rfl rfl (by decide +kernel) hR
theorem lk_RX3_27 {R : Room} {s : State} {args : Array Value} (hts : ∀ w ∈ wsL_law, w.before args s = true) (hR : 0 + 1 ≤ R.frames ∧ 8 + (5 + 11) + 0 ≤ R.locals) : CallW R s args RX3 RX3 27 yX3_become cX3_become 5 none (wsU yX3_become cX3_become 5 none) rX3_become 0 0 4 := cwV 4 hts (fgV (wm wl_7 (i := 7) rfl) (wm wl_7 (i := 8) rfl) (wm wl_7 (i := 9) rfl) (wm wl_2 (i := 21) rfl) (wm wl_7 (i := 10) rfl)) rfl rfl rfl (by decide +kernel) hR
theorem lk_RX3_31 {R : Room} {s : State} {args : Array Value} (hts : ∀ w ∈ wsL_law, w.before args s = true) (hnw : va_Nw (.methodLinkNest RX3 31 yX7_at "OperaGlasses") s) (hR : 0 + 1 ≤ R.frames ∧ 8 + (2 + 11) + 0 ≤ R.locals) : va_CN R s args RX3 31 yX7_at "OperaGlasses" cX7_at 2 (some .int) (wsU yX7_at cX7_at 2 (some .int)) rX7_at 0 0 2 ∧ (Cond.static yX7_at).before args s = true ∧ True := ⟨va_cnB 2 hts (fgood (wm wl_8 (i := 12) rfl)) rfl rfl rfl hnw (hts _ (wm wl_1 (i := 2) rfl)) (by decide +kernel) hR, ⟨hts _ (wm wl_8 (i := 11) rfl), trivial⟩⟩
theorem lk_RX3_35 {R : Room} {s : State} {args : Array Value} (hts : ∀ w ∈ wsL_law, w.before args s = true) (hnw : va_Nw (.methodLinkNest RX3 35 yX7_watchers "OperaGlasses") s) (hR : 0 + 1 ≤ R.frames ∧ 8 + (4 + 11) + 0 ≤ R.locals) : va_CN R s args RX3 35 yX7_watchers "OperaGlasses" cX7_watchers 4 (some .int) (wsU yX7_watchers cX7_watchers 4 (some .int)) rX7_watchers 0 0 2 ∧ (Cond.static yX7_watchers).before args s = true ∧ True := ⟨va_cnB 2 hts (fgood (wm wl_19 (i := 18) rfl)) rfl rfl rfl hnw (hts _ (wm wl_1 (i := 2) rfl)) (by decide +kernel) hR, ⟨hts _ (wm wl_19 (i := 17) rfl), trivial⟩⟩
theorem lk_RX3_38 {R : Room} {s : State} {args : Array Value} (hts : ∀ w ∈ wsL_law, w.before args s = true) (hR : 1 + 1 ≤ R.frames ∧ 8 + (3 + 11) + 23 ≤ R.locals) : CallW R s args RX3 RX3 38 yX3_holdsIn cX3_holdsIn 3 (some .boolean) (wsU yX3_holdsIn cX3_holdsIn 3 (some .boolean)) rX3_holdsIn 0 0 1 := cwV 1 hts (fgV (wm wl_19 (i := 13) rfl) (wm wl_19 (i := 14) rfl) (wm wl_19 (i := 15) rfl) (wm wl_2 (i := 21) rfl) (wm wl_19 (i := 16) rfl)) rfl rfl rfl (by decide +kernel) hR
theorem lk_RX4_9 {R : Room} {s : State} {args : Array Value} (hts : ∀ w ∈ wsL_law, w.before args s = true) (hR : 2 + 1 ≤ R.frames ∧ 8 + (2 + 11) + 32 ≤ R.locals) : CallB R s args RX4 9 yX1_init cX1_init 2 none (wsU yX1_init cX1_init 2 none) rX1_init 24 138 0 ∧ yX1_init.name = "<init>" ∧ (Cond.instanceMethod yX1_init).before args s = true := cwI 0 hts (fgood (wm wl_2 (i := 12) rfl)) rfl rfl rfl (hts _ (wm wl_1 (i := 15) rfl)) (hts _ (wm wl_3 (i := 13) rfl)) (hts _ (wm wl_2 (i := 11) rfl)) rfl (by decide +kernel) hR
theorem lk_RX5_11 {R : Room} {s : State} {args : Array Value} (hts : ∀ w ∈ wsL_law, w.before args s = true) (hnw : va_Nw (.methodLinkNest RX5 11 yX6_init "OperaGlasses") s) (hR : 1 + 1 ≤ R.frames ∧ 8 + (1 + 11) + 12 ≤ R.locals) : va_CN R s args RX5 11 yX6_init "OperaGlasses" cX6_init 1 none (wsU yX6_init cX6_init 1 none) rX6_init 1 6 0 ∧ yX6_init.name = "<init>" ∧ (Cond.instanceMethod yX6_init).before args s = true := ⟨va_cnB 0 hts (fgood (wm wl_4 (i := 8) rfl)) rfl rfl rfl hnw (hts _ (wm wl_4 (i := 0) rfl)) (by decide +kernel) hR, ⟨rfl, hts _ (wm wl_4 (i := 7) rfl)⟩⟩
theorem lk_RX5_30 {R : Room} {s : State} {args : Array Value} (hts : ∀ w ∈ wsL_law, w.before args s = true) (hnw : va_Nw (.methodLinkNest RX5 30 yX3_init "OperaGlasses") s) (hR : 1 + 1 ≤ R.frames ∧ 8 + (1 + 11) + 12 ≤ R.locals) : va_CN R s args RX5 30 yX3_init "OperaGlasses" cX3_init 1 none (wsU yX3_init cX3_init 1 none) rX3_init 0 0 0 ∧ yX3_init.name = "<init>" ∧ (Cond.instanceMethod yX3_init).before args s = true := ⟨va_cnB 0 hts (fgood (wm wl_2 (i := 23) rfl)) rfl rfl rfl hnw (hts _ (wm wl_2 (i := 21) rfl)) (by decide +kernel) hR, ⟨rfl, hts _ (wm wl_2 (i := 22) rfl)⟩⟩
theorem lk_RX5_35 {R : Room} {s : State} {args : Array Value} (hts : ∀ w ∈ wsL_law, w.before args s = true) (hR : 1 + 1 ≤ R.frames ∧ 8 + (1 + 11) + 22 ≤ R.locals) : CallW R s args RX5 RX5 35 yX5_forget cX5_forget 1 none (wsU yX5_forget cX5_forget 1 none) rX5_forget 0 0 0 := cwV 0 hts (fgV (wm wl_18 (i := 15) rfl) (wm wl_18 (i := 16) rfl) (wm wl_18 (i := 17) rfl) (wm wl_2 (i := 8) rfl) (wm wl_18 (i := 18) rfl)) rfl rfl rfl (by decide +kernel) hR
theorem lk_RX5_44 {R : Room} {s : State} {args : Array Value} (hts : ∀ w ∈ wsL_law, w.before args s = true) (hR : 1 + 1 ≤ R.frames ∧ 8 + (4 + 11) + 20 ≤ R.locals) : CallW R s args RX5 RX6 44 yX6_begin cX6_begin 4 (some .int) (wsU yX6_begin cX6_begin 4 (some .int)) rX6_begin 0 0 1 := cwV 1 hts (fgV (wm wl_18 (i := 20) rfl) (wm wl_18 (i := 21) rfl) (wm wl_18 (i := 22) rfl) (wm wl_4 (i := 0) rfl) (wm wl_18 (i := 23) rfl)) rfl rfl rfl (by decide +kernel) hR
theorem lk_RX5_51 {R : Room} {s : State} {args : Array Value} (hts : ∀ w ∈ wsL_law, w.before args s = true) (hR : 3 + 1 ≤ R.frames ∧ 8 + (5 + 11) + 66 ≤ R.locals) : CallW R s args RX5 RX1 51 yX1_firstBroken cX1_firstBroken 5 (some .int) (wsU yX1_firstBroken cX1_firstBroken 5 (some .int)) rX1_firstBroken 0 0 2 := cwV 2 hts (fgV (wm wl_19 (i := 4) rfl) (wm wl_19 (i := 5) rfl) (wm wl_19 (i := 6) rfl) (wm wl_1 (i := 15) rfl) (wm wl_19 (i := 7) rfl)) rfl rfl rfl (by decide +kernel) hR
theorem lk_RX5_55 {R : Room} {s : State} {args : Array Value} (hts : ∀ w ∈ wsL_law, w.before args s = true) (hR : 2 + 1 ≤ R.frames ∧ 8 + (4 + 11) + 45 ≤ R.locals) : CallW R s args RX5 RX5 55 yX5_tally cX5_tally 4 none (wsU yX5_tally cX5_tally 4 none) rX5_tally 0 0 1 := cwV 1 hts (fgV (wm wl_19 (i := 19) rfl) (wm wl_19 (i := 20) rfl) (wm wl_19 (i := 21) rfl) (wm wl_2 (i := 8) rfl) (wm wl_19 (i := 22) rfl)) rfl rfl rfl (by decide +kernel) hR
theorem lk_RX5_59 {R : Room} {s : State} {args : Array Value} (hts : ∀ w ∈ wsL_law, w.before args s = true) (hnw : va_Nw (.methodLinkNest RX5 59 yX7_addAt "OperaGlasses") s) (hR : 0 + 1 ≤ R.frames ∧ 8 + (3 + 11) + 0 ≤ R.locals) : va_CN R s args RX5 59 yX7_addAt "OperaGlasses" cX7_addAt 3 none (wsU yX7_addAt cX7_addAt 3 none) rX7_addAt 0 0 3 ∧ (Cond.static yX7_addAt).before args s = true ∧ True := ⟨va_cnB 3 hts (fgood (wm wl_20 (i := 0) rfl)) rfl rfl rfl hnw (hts _ (wm wl_1 (i := 2) rfl)) (by decide +kernel) hR, ⟨hts _ (wm wl_19 (i := 23) rfl), trivial⟩⟩
theorem lk_RX5_63 {R : Room} {s : State} {args : Array Value} (hts : ∀ w ∈ wsL_law, w.before args s = true) (hR : 1 + 1 ≤ R.frames ∧ 8 + (3 + 11) + 22 ≤ R.locals) : CallW R s args RX5 RX6 63 yX6_step cX6_step 3 none (wsU yX6_step cX6_step 3 none) rX6_step 0 0 0 := cwV 0 hts (fgV (wm wl_20 (i := 3) rfl) (wm wl_20 (i := 4) rfl) (wm wl_20 (i := 5) rfl) (wm wl_4 (i := 0) rfl) (wm wl_20 (i := 6) rfl)) rfl rfl rfl (by decide +kernel) hR
theorem lk_RX5_69 {R : Room} {s : State} {args : Array Value} (hts : ∀ w ∈ wsL_law, w.before args s = true) (hnw : va_Nw (.methodLinkNest RX5 69 yX7_fillRow "OperaGlasses") s) (hR : 0 + 1 ≤ R.frames ∧ 8 + (3 + 11) + 0 ≤ R.locals) : va_CN R s args RX5 69 yX7_fillRow "OperaGlasses" cX7_fillRow 3 none (wsU yX7_fillRow cX7_fillRow 3 none) rX7_fillRow 0 0 2 ∧ (Cond.static yX7_fillRow).before args s = true ∧ True := ⟨va_cnB 2 hts (fgood (wm wl_4 (i := 19) rfl)) rfl rfl rfl hnw (hts _ (wm wl_1 (i := 2) rfl)) (by decide +kernel) hR, ⟨hts _ (wm wl_4 (i := 18) rfl), trivial⟩⟩
theorem lk_RX5_73 {R : Room} {s : State} {args : Array Value} (hts : ∀ w ∈ wsL_law, w.before args s = true) (hnw : va_Nw (.methodLinkNest RX5 73 yX7_at "OperaGlasses") s) (hR : 0 + 1 ≤ R.frames ∧ 8 + (2 + 11) + 0 ≤ R.locals) : va_CN R s args RX5 73 yX7_at "OperaGlasses" cX7_at 2 (some .int) (wsU yX7_at cX7_at 2 (some .int)) rX7_at 0 0 2 ∧ (Cond.static yX7_at).before args s = true ∧ True := ⟨va_cnB 2 hts (fgood (wm wl_8 (i := 12) rfl)) rfl rfl rfl hnw (hts _ (wm wl_1 (i := 2) rfl)) (by decide +kernel) hR, ⟨hts _ (wm wl_8 (i := 11) rfl), trivial⟩⟩
theorem lk_RX5_80 {R : Room} {s : State} {args : Array Value} (hts : ∀ w ∈ wsL_law, w.before args s = true) (hR : 0 + 1 ≤ R.frames ∧ 8 + (2 + 11) + 0 ≤ R.locals) : CallW R s args RX5 RX1 80 yX1_rumourAt cX1_rumourAt 2 (some (.object "OperaGlasses$Rumour")) (wsU yX1_rumourAt cX1_rumourAt 2 (some (.object "OperaGlasses$Rumour"))) rX1_rumourAt 0 0 1 := cwV 1 hts (fgV (wm wl_20 (i := 1) rfl) (wm wl_6 (i := 19) rfl) (wm wl_6 (i := 20) rfl) (wm wl_1 (i := 15) rfl) (wm wl_6 (i := 21) rfl)) rfl rfl rfl (by decide +kernel) hR
theorem lk_RX5_84 {R : Room} {s : State} {args : Array Value} (hts : ∀ w ∈ wsL_law, w.before args s = true) (hR : 1 + 1 ≤ R.frames ∧ 8 + (3 + 11) + 23 ≤ R.locals) : CallW R s args RX5 RX3 84 yX3_holdsIn cX3_holdsIn 3 (some .boolean) (wsU yX3_holdsIn cX3_holdsIn 3 (some .boolean)) rX3_holdsIn 0 0 1 := cwV 1 hts (fgV (wm wl_20 (i := 2) rfl) (wm wl_19 (i := 14) rfl) (wm wl_19 (i := 15) rfl) (wm wl_2 (i := 21) rfl) (wm wl_19 (i := 16) rfl)) rfl rfl rfl (by decide +kernel) hR
theorem lk_RX5_88 {R : Room} {s : State} {args : Array Value} (hts : ∀ w ∈ wsL_law, w.before args s = true) (hR : 1 + 1 ≤ R.frames ∧ 8 + (3 + 11) + 21 ≤ R.locals) : CallW R s args RX5 RX5 88 yX5_lookingAt cX5_lookingAt 3 (some .int) (wsU yX5_lookingAt cX5_lookingAt 3 (some .int)) rX5_lookingAt 0 0 2 := cwV 2 hts (fgV (wm wl_28 (i := 8) rfl) (wm wl_24 (i := 13) rfl) (wm wl_24 (i := 14) rfl) (wm wl_2 (i := 8) rfl) (wm wl_24 (i := 15) rfl)) rfl rfl rfl (by decide +kernel) hR
theorem lk_RX5_92 {R : Room} {s : State} {args : Array Value} (hts : ∀ w ∈ wsL_law, w.before args s = true) (hR : 0 + 1 ≤ R.frames ∧ 8 + (2 + 11) + 0 ≤ R.locals) : CallW R s args RX5 RX5 92 yX5_isCertain cX5_isCertain 2 (some .boolean) (wsU yX5_isCertain cX5_isCertain 2 (some .boolean)) rX5_isCertain 0 0 1 := cwV 1 hts (fgV (wm wl_28 (i := 9) rfl) (wm wl_24 (i := 17) rfl) (wm wl_24 (i := 18) rfl) (wm wl_2 (i := 8) rfl) (wm wl_24 (i := 19) rfl)) rfl rfl rfl (by decide +kernel) hR
theorem lk_RX5_96 {R : Room} {s : State} {args : Array Value} (hts : ∀ w ∈ wsL_law, w.before args s = true) (hR : 2 + 1 ≤ R.frames ∧ 8 + (3 + 11) + 43 ≤ R.locals) : CallW R s args RX5 RX5 96 yX5_certainBox cX5_certainBox 3 (some .int) (wsU yX5_certainBox cX5_certainBox 3 (some .int)) rX5_certainBox 0 0 1 := cwV 1 hts (fgV (wm wl_28 (i := 4) rfl) (wm wl_28 (i := 5) rfl) (wm wl_28 (i := 6) rfl) (wm wl_2 (i := 8) rfl) (wm wl_28 (i := 7) rfl)) rfl rfl rfl (by decide +kernel) hR
theorem lk_RX5_99 {R : Room} {s : State} {args : Array Value} (hts : ∀ w ∈ wsL_law, w.before args s = true) (hR : 1 + 1 ≤ R.frames ∧ 8 + (3 + 11) + 21 ≤ R.locals) : CallW R s args RX5 RX1 99 yX1_isOpen cX1_isOpen 3 (some .boolean) (wsU yX1_isOpen cX1_isOpen 3 (some .boolean)) rX1_isOpen 0 0 1 := cwV 1 hts (fgV (wm wl_28 (i := 14) rfl) (wm wl_27 (i := 20) rfl) (wm wl_27 (i := 21) rfl) (wm wl_1 (i := 15) rfl) (wm wl_27 (i := 22) rfl)) rfl rfl rfl (by decide +kernel) hR
theorem lk_RX5_102 {R : Room} {s : State} {args : Array Value} (hts : ∀ w ∈ wsL_law, w.before args s = true) (hR : 0 + 1 ≤ R.frames ∧ 8 + (2 + 11) + 0 ≤ R.locals) : CallW R s args RX5 RX5 102 yX5_isRuledOut cX5_isRuledOut 2 (some .boolean) (wsU yX5_isRuledOut cX5_isRuledOut 2 (some .boolean)) rX5_isRuledOut 0 0 1 := cwV 1 hts (fgV (wm wl_28 (i := 19) rfl) (wm wl_24 (i := 21) rfl) (wm wl_24 (i := 22) rfl) (wm wl_2 (i := 8) rfl) (wm wl_24 (i := 23) rfl)) rfl rfl rfl (by decide +kernel) hR
theorem lk_RX5_110 {R : Room} {s : State} {args : Array Value} (hts : ∀ w ∈ wsL_law, w.before args s = true) (hR : 1 + 1 ≤ R.frames ∧ 8 + (3 + 11) + 21 ≤ R.locals) : CallW R s args RX5 RX5 110 yX5_worseOutcome cX5_worseOutcome 3 (some .int) (wsU yX5_worseOutcome cX5_worseOutcome 3 (some .int)) rX5_worseOutcome 0 0 1 := cwV 1 hts (fgV (wm wl_31 (i := 18) rfl) (wm wl_31 (i := 19) rfl) (wm wl_31 (i := 20) rfl) (wm wl_2 (i := 8) rfl) (wm wl_31 (i := 21) rfl)) rfl rfl rfl (by decide +kernel) hR
theorem lk_RX5_113 {R : Room} {s : State} {args : Array Value} (hts : ∀ w ∈ wsL_law, w.before args s = true) (hR : 0 + 1 ≤ R.frames ∧ 8 + (5 + 11) + 0 ≤ R.locals) : CallW R s args RX5 RX3 113 yX3_become cX3_become 5 none (wsU yX3_become cX3_become 5 none) rX3_become 0 0 4 := cwV 4 hts (fgV (wm wl_31 (i := 5) rfl) (wm wl_7 (i := 8) rfl) (wm wl_7 (i := 9) rfl) (wm wl_2 (i := 21) rfl) (wm wl_7 (i := 10) rfl)) rfl rfl rfl (by decide +kernel) hR
theorem lk_RX5_123 {R : Room} {s : State} {args : Array Value} (hts : ∀ w ∈ wsL_law, w.before args s = true) (hnw : va_Nw (.methodLinkNest RX5 123 yX7_watchers "OperaGlasses") s) (hR : 0 + 1 ≤ R.frames ∧ 8 + (4 + 11) + 0 ≤ R.locals) : va_CN R s args RX5 123 yX7_watchers "OperaGlasses" cX7_watchers 4 (some .int) (wsU yX7_watchers cX7_watchers 4 (some .int)) rX7_watchers 0 0 2 ∧ (Cond.static yX7_watchers).before args s = true ∧ True := ⟨va_cnB 2 hts (fgood (wm wl_19 (i := 18) rfl)) rfl rfl rfl hnw (hts _ (wm wl_1 (i := 2) rfl)) (by decide +kernel) hR, ⟨hts _ (wm wl_19 (i := 17) rfl), trivial⟩⟩
theorem lk_RX5_126 {R : Room} {s : State} {args : Array Value} (hts : ∀ w ∈ wsL_law, w.before args s = true) (hR : 0 + 1 ≤ R.frames ∧ 8 + (3 + 11) + 0 ≤ R.locals) : CallW R s args RX5 RX5 126 yX5_compareWatchers cX5_compareWatchers 3 none (wsU yX5_compareWatchers cX5_compareWatchers 3 none) rX5_compareWatchers 0 0 2 := cwV 2 hts (fgV (wm wl_33 (i := 2) rfl) (wm wl_33 (i := 3) rfl) (wm wl_33 (i := 4) rfl) (wm wl_2 (i := 8) rfl) (wm wl_33 (i := 5) rfl)) rfl rfl rfl (by decide +kernel) hR
theorem lk_RX6_19 {R : Room} {s : State} {args : Array Value} (hts : ∀ w ∈ wsL_law, w.before args s = true) (hR : 0 + 1 ≤ R.frames ∧ 8 + (1 + 11) + 0 ≤ R.locals) : CallB R s args RX6 19 yX6_firstBoxFor cX6_firstBoxFor 1 (some .int) (wsU yX6_firstBoxFor cX6_firstBoxFor 1 (some .int)) rX6_firstBoxFor 0 0 1 ∧ (Cond.static yX6_firstBoxFor).before args s = true := va_cwS 1 hts (fgS (wm wl_19 (i := 1) rfl) (wm wl_19 (i := 2) rfl) (wm wl_4 (i := 0) rfl) (wm wl_19 (i := 3) rfl)) rfl rfl rfl (by decide +kernel) hR
theorem lk_RX6_23 {R : Room} {s : State} {args : Array Value} (hts : ∀ w ∈ wsL_law, w.before args s = true) (hnw : va_Nw (.methodLinkNest RX6 23 yX7_at "OperaGlasses") s) (hR : 0 + 1 ≤ R.frames ∧ 8 + (2 + 11) + 0 ≤ R.locals) : va_CN R s args RX6 23 yX7_at "OperaGlasses" cX7_at 2 (some .int) (wsU yX7_at cX7_at 2 (some .int)) rX7_at 0 0 2 ∧ (Cond.static yX7_at).before args s = true ∧ True := ⟨va_cnB 2 hts (fgood (wm wl_8 (i := 12) rfl)) rfl rfl rfl hnw (hts _ (wm wl_1 (i := 2) rfl)) (by decide +kernel) hR, ⟨hts _ (wm wl_8 (i := 11) rfl), trivial⟩⟩
theorem lk_RX6_27 {R : Room} {s : State} {args : Array Value} (hts : ∀ w ∈ wsL_law, w.before args s = true) (hnw : va_Nw (.methodLinkNest RX6 27 yX7_setAt "OperaGlasses") s) (hR : 0 + 1 ≤ R.frames ∧ 8 + (3 + 11) + 0 ≤ R.locals) : va_CN R s args RX6 27 yX7_setAt "OperaGlasses" cX7_setAt 3 none (wsU yX7_setAt cX7_setAt 3 none) rX7_setAt 0 0 3 ∧ (Cond.static yX7_setAt).before args s = true ∧ True := ⟨va_cnB 3 hts (fgood (wm wl_8 (i := 15) rfl)) rfl rfl rfl hnw (hts _ (wm wl_1 (i := 2) rfl)) (by decide +kernel) hR, ⟨hts _ (wm wl_8 (i := 14) rfl), trivial⟩⟩
theorem lk_RX7_9 {R : Room} {s : State} {args : Array Value} (hts : ∀ w ∈ wsL_law, w.before args s = true) (hR : 2 + 1 ≤ R.frames ∧ 8 + (2 + 11) + 32 ≤ R.locals) : CallB R s args RX7 9 yX1_init cX1_init 2 none (wsU yX1_init cX1_init 2 none) rX1_init 24 138 0 ∧ yX1_init.name = "<init>" ∧ (Cond.instanceMethod yX1_init).before args s = true := cwI 0 hts (fgood (wm wl_2 (i := 12) rfl)) rfl rfl rfl (hts _ (wm wl_1 (i := 15) rfl)) (hts _ (wm wl_2 (i := 10) rfl)) (hts _ (wm wl_2 (i := 11) rfl)) rfl (by decide +kernel) hR
theorem lk_RX7_18 {R : Room} {s : State} {args : Array Value} (hts : ∀ w ∈ wsL_law, w.before args s = true) (hR : 3 + 1 ≤ R.frames ∧ 8 + (2 + 11) + 53 ≤ R.locals) : CallB R s args RX7 18 yX0_init cX0_init 2 none (wsU yX0_init cX0_init 2 none) rX0_init 151 876 0 ∧ yX0_init.name = "<init>" ∧ (Cond.instanceMethod yX0_init).before args s = true := cwI 0 hts (fgood (wm wl_3 (i := 3) rfl)) rfl rfl rfl (hts _ (wm wl_1 (i := 19) rfl)) (hts _ (wm wl_3 (i := 1) rfl)) (hts _ (wm wl_3 (i := 2) rfl)) rfl (by decide +kernel) hR
theorem lk_RX7_25 {R : Room} {s : State} {args : Array Value} (hts : ∀ w ∈ wsL_law, w.before args s = true) (hnw : va_Nw (.methodLinkNest RX7 25 yX4_init "OperaGlasses") s) (hR : 3 + 1 ≤ R.frames ∧ 8 + (1 + 11) + 53 ≤ R.locals) : va_CN R s args RX7 25 yX4_init "OperaGlasses" cX4_init 1 none (wsU yX4_init cX4_init 1 none) rX4_init 25 145 0 ∧ yX4_init.name = "<init>" ∧ (Cond.instanceMethod yX4_init).before args s = true := ⟨va_cnB 0 hts (fgood (wm wl_3 (i := 9) rfl)) rfl rfl rfl hnw (hts _ (wm wl_1 (i := 23) rfl)) (by decide +kernel) hR, ⟨rfl, hts _ (wm wl_3 (i := 8) rfl)⟩⟩
theorem lk_RX7_35 {R : Room} {s : State} {args : Array Value} (hts : ∀ w ∈ wsL_law, w.before args s = true) (hnw : va_Nw (.methodLinkNest RX7 35 yX2_init "OperaGlasses") s) (hR : 1 + 1 ≤ R.frames ∧ 8 + (1 + 11) + 12 ≤ R.locals) : va_CN R s args RX7 35 yX2_init "OperaGlasses" cX2_init 1 none (wsU yX2_init cX2_init 1 none) rX2_init 1 60 0 ∧ yX2_init.name = "<init>" ∧ (Cond.instanceMethod yX2_init).before args s = true := ⟨va_cnB 0 hts (fgood (wm wl_3 (i := 15) rfl)) rfl rfl rfl hnw (hts _ (wm wl_2 (i := 4) rfl)) (by decide +kernel) hR, ⟨rfl, hts _ (wm wl_3 (i := 14) rfl)⟩⟩
theorem lk_RX7_42 {R : Room} {s : State} {args : Array Value} (hts : ∀ w ∈ wsL_law, w.before args s = true) (hnw : va_Nw (.methodLinkNest RX7 42 yX5_init "OperaGlasses") s) (hR : 2 + 1 ≤ R.frames ∧ 8 + (1 + 11) + 32 ≤ R.locals) : va_CN R s args RX7 42 yX5_init "OperaGlasses" cX5_init 1 none (wsU yX5_init cX5_init 1 none) rX5_init 6 89 0 ∧ yX5_init.name = "<init>" ∧ (Cond.instanceMethod yX5_init).before args s = true := ⟨va_cnB 0 hts (fgood (wm wl_3 (i := 20) rfl)) rfl rfl rfl hnw (hts _ (wm wl_2 (i := 8) rfl)) (by decide +kernel) hR, ⟨rfl, hts _ (wm wl_3 (i := 19) rfl)⟩⟩
theorem lk_RX7_47 {R : Room} {s : State} {args : Array Value} (hts : ∀ w ∈ wsL_law, w.before args s = true) (hR : 1 + 1 ≤ R.frames ∧ 8 + (3 + 11) + 22 ≤ R.locals) : CallW R s args RX7 RX1 47 yX1_arrange cX1_arrange 3 none (wsU yX1_arrange cX1_arrange 3 none) rX1_arrange 0 0 1 := cwV 1 hts (fgV (wm wl_4 (i := 11) rfl) (wm wl_4 (i := 12) rfl) (wm wl_4 (i := 13) rfl) (wm wl_1 (i := 15) rfl) (wm wl_4 (i := 14) rfl)) rfl rfl rfl (by decide +kernel) hR
theorem lk_RX7_55 {R : Room} {s : State} {args : Array Value} (hts : ∀ w ∈ wsL_law, w.before args s = true) (hR : 4 + 1 ≤ R.frames ∧ 8 + (1 + 11) + 91 ≤ R.locals) : CallW R s args RX7 RX7 55 yX7_beginChange cX7_beginChange 1 none (wsU yX7_beginChange cX7_beginChange 1 none) rX7_beginChange 0 0 0 := cwV 0 hts (fgV (wm wl_5 (i := 17) rfl) (wm wl_5 (i := 18) rfl) (wm wl_5 (i := 19) rfl) (wm wl_1 (i := 2) rfl) (wm wl_5 (i := 20) rfl)) rfl rfl rfl (by decide +kernel) hR
theorem lk_RX7_58 {R : Room} {s : State} {args : Array Value} (hts : ∀ w ∈ wsL_law, w.before args s = true) (hR : 0 + 1 ≤ R.frames ∧ 8 + (2 + 11) + 0 ≤ R.locals) : CallW R s args RX7 RX1 58 yX1_hasBox cX1_hasBox 2 (some .boolean) (wsU yX1_hasBox cX1_hasBox 2 (some .boolean)) rX1_hasBox 0 0 1 := cwV 1 hts (fgV (wm wl_8 (i := 6) rfl) (wm wl_8 (i := 7) rfl) (wm wl_8 (i := 8) rfl) (wm wl_1 (i := 15) rfl) (wm wl_8 (i := 9) rfl)) rfl rfl rfl (by decide +kernel) hR
theorem lk_RX7_66 {R : Room} {s : State} {args : Array Value} (hts : ∀ w ∈ wsL_law, w.before args s = true) (hR : 0 + 1 ≤ R.frames ∧ 8 + (2 + 11) + 0 ≤ R.locals) : CallB R s args RX7 66 yX7_at cX7_at 2 (some .int) (wsU yX7_at cX7_at 2 (some .int)) rX7_at 0 0 2 ∧ (Cond.static yX7_at).before args s = true := va_cwS 2 hts (fgS (wm wl_8 (i := 10) rfl) (wm wl_8 (i := 11) rfl) (wm wl_1 (i := 2) rfl) (wm wl_8 (i := 12) rfl)) rfl rfl rfl (by decide +kernel) hR
theorem lk_RX7_70 {R : Room} {s : State} {args : Array Value} (hts : ∀ w ∈ wsL_law, w.before args s = true) (hR : 0 + 1 ≤ R.frames ∧ 8 + (3 + 11) + 0 ≤ R.locals) : CallB R s args RX7 70 yX7_setAt cX7_setAt 3 none (wsU yX7_setAt cX7_setAt 3 none) rX7_setAt 0 0 3 ∧ (Cond.static yX7_setAt).before args s = true := va_cwS 3 hts (fgS (wm wl_8 (i := 13) rfl) (wm wl_8 (i := 14) rfl) (wm wl_1 (i := 2) rfl) (wm wl_8 (i := 15) rfl)) rfl rfl rfl (by decide +kernel) hR
theorem lk_RX7_74 {R : Room} {s : State} {args : Array Value} (hts : ∀ w ∈ wsL_law, w.before args s = true) (hR : 1 + 1 ≤ R.frames ∧ 8 + (4 + 11) + 21 ≤ R.locals) : CallW R s args RX7 RX1 74 yX1_suits cX1_suits 4 (some .boolean) (wsU yX1_suits cX1_suits 4 (some .boolean)) rX1_suits 0 0 3 := cwV 3 hts (fgV (wm wl_9 (i := 4) rfl) (wm wl_9 (i := 5) rfl) (wm wl_9 (i := 6) rfl) (wm wl_1 (i := 15) rfl) (wm wl_9 (i := 7) rfl)) rfl rfl rfl (by decide +kernel) hR
theorem lk_RX7_78 {R : Room} {s : State} {args : Array Value} (hts : ∀ w ∈ wsL_law, w.before args s = true) (hR : 0 + 1 ≤ R.frames ∧ 8 + (2 + 11) + 0 ≤ R.locals) : CallW R s args RX7 RX1 78 yX1_hasRoomFor cX1_hasRoomFor 2 (some .boolean) (wsU yX1_hasRoomFor cX1_hasRoomFor 2 (some .boolean)) rX1_hasRoomFor 0 0 1 := cwV 1 hts (fgV (wm wl_9 (i := 9) rfl) (wm wl_9 (i := 10) rfl) (wm wl_9 (i := 11) rfl) (wm wl_1 (i := 15) rfl) (wm wl_9 (i := 12) rfl)) rfl rfl rfl (by decide +kernel) hR
theorem lk_RX7_81 {R : Room} {s : State} {args : Array Value} (hts : ∀ w ∈ wsL_law, w.before args s = true) (hR : 1 + 1 ≤ R.frames ∧ 8 + (6 + 11) + 24 ≤ R.locals) : CallW R s args RX7 RX1 81 yX1_addRumour cX1_addRumour 6 none (wsU yX1_addRumour cX1_addRumour 6 none) rX1_addRumour 0 0 4 := cwV 4 hts (fgV (wm wl_9 (i := 13) rfl) (wm wl_9 (i := 14) rfl) (wm wl_9 (i := 15) rfl) (wm wl_1 (i := 15) rfl) (wm wl_9 (i := 16) rfl)) rfl rfl rfl (by decide +kernel) hR
theorem lk_RX7_88 {R : Room} {s : State} {args : Array Value} (hts : ∀ w ∈ wsL_law, w.before args s = true) (hR : 8 + 1 ≤ R.frames ∧ 8 + (2 + 11) + 181 ≤ R.locals) : CallW R s args RX7 RX2 88 yX2_firstFault cX2_firstFault 2 (some .int) (wsU yX2_firstFault cX2_firstFault 2 (some .int)) rX2_firstFault 0 0 0 := cwV 0 hts (fgV (wm wl_10 (i := 11) rfl) (wm wl_10 (i := 12) rfl) (wm wl_10 (i := 13) rfl) (wm wl_2 (i := 4) rfl) (wm wl_10 (i := 14) rfl)) rfl rfl rfl (by decide +kernel) hR
theorem lk_RX7_92 {R : Room} {s : State} {args : Array Value} (hts : ∀ w ∈ wsL_law, w.before args s = true) (hR : 3 + 1 ≤ R.frames ∧ 8 + (2 + 11) + 63 ≤ R.locals) : CallW R s args RX7 RX7 92 yX7_allTellersAreThere cX7_allTellersAreThere 2 (some .boolean) (wsU yX7_allTellersAreThere cX7_allTellersAreThere 2 (some .boolean)) rX7_allTellersAreThere 0 0 0 := cwV 0 hts (fgV (wm wl_14 (i := 20) rfl) (wm wl_14 (i := 21) rfl) (wm wl_14 (i := 22) rfl) (wm wl_1 (i := 2) rfl) (wm wl_14 (i := 23) rfl)) rfl rfl rfl (by decide +kernel) hR
theorem lk_RX7_96 {R : Room} {s : State} {args : Array Value} (hts : ∀ w ∈ wsL_law, w.before args s = true) (hR : 8 + 1 ≤ R.frames ∧ 8 + (2 + 11) + 180 ≤ R.locals) : CallW R s args RX7 RX7 96 yX7_allOnPadSuit cX7_allOnPadSuit 2 (some .boolean) (wsU yX7_allOnPadSuit cX7_allOnPadSuit 2 (some .boolean)) rX7_allOnPadSuit 0 0 0 := cwV 0 hts (fgV (wm wl_15 (i := 12) rfl) (wm wl_15 (i := 13) rfl) (wm wl_15 (i := 14) rfl) (wm wl_1 (i := 2) rfl) (wm wl_15 (i := 15) rfl)) rfl rfl rfl (by decide +kernel) hR
theorem lk_RX7_99 {R : Room} {s : State} {args : Array Value} (hts : ∀ w ∈ wsL_law, w.before args s = true) (hR : 0 + 1 ≤ R.frames ∧ 8 + (1 + 11) + 0 ≤ R.locals) : CallW R s args RX7 RX2 99 yX2_rumours cX2_rumours 1 (some .int) (wsU yX2_rumours cX2_rumours 1 (some .int)) rX2_rumours 0 0 0 := cwV 0 hts (fgV (wm wl_15 (i := 0) rfl) (wm wl_15 (i := 1) rfl) (wm wl_15 (i := 2) rfl) (wm wl_2 (i := 4) rfl) (wm wl_15 (i := 3) rfl)) rfl rfl rfl (by decide +kernel) hR
theorem lk_RX7_102 {R : Room} {s : State} {args : Array Value} (hts : ∀ w ∈ wsL_law, w.before args s = true) (hR : 2 + 1 ≤ R.frames ∧ 8 + (2 + 11) + 42 ≤ R.locals) : CallW R s args RX7 RX2 102 yX2_tellerOf cX2_tellerOf 2 (some .int) (wsU yX2_tellerOf cX2_tellerOf 2 (some .int)) rX2_tellerOf 0 0 1 := cwV 1 hts (fgV (wm wl_15 (i := 4) rfl) (wm wl_15 (i := 5) rfl) (wm wl_15 (i := 6) rfl) (wm wl_2 (i := 4) rfl) (wm wl_15 (i := 7) rfl)) rfl rfl rfl (by decide +kernel) hR
theorem lk_RX7_106 {R : Room} {s : State} {args : Array Value} (hts : ∀ w ∈ wsL_law, w.before args s = true) (hR : 7 + 1 ≤ R.frames ∧ 8 + (2 + 11) + 159 ≤ R.locals) : CallW R s args RX7 RX2 106 yX2_kindOf cX2_kindOf 2 (some .int) (wsU yX2_kindOf cX2_kindOf 2 (some .int)) rX2_kindOf 0 0 1 := cwV 1 hts (fgV (wm wl_15 (i := 16) rfl) (wm wl_15 (i := 17) rfl) (wm wl_15 (i := 18) rfl) (wm wl_2 (i := 4) rfl) (wm wl_15 (i := 19) rfl)) rfl rfl rfl (by decide +kernel) hR
theorem lk_RX7_109 {R : Room} {s : State} {args : Array Value} (hts : ∀ w ∈ wsL_law, w.before args s = true) (hR : 2 + 1 ≤ R.frames ∧ 8 + (2 + 11) + 42 ≤ R.locals) : CallW R s args RX7 RX2 109 yX2_aOf cX2_aOf 2 (some .int) (wsU yX2_aOf cX2_aOf 2 (some .int)) rX2_aOf 0 0 1 := cwV 1 hts (fgV (wm wl_15 (i := 20) rfl) (wm wl_15 (i := 21) rfl) (wm wl_15 (i := 22) rfl) (wm wl_2 (i := 4) rfl) (wm wl_15 (i := 23) rfl)) rfl rfl rfl (by decide +kernel) hR
theorem lk_RX7_112 {R : Room} {s : State} {args : Array Value} (hts : ∀ w ∈ wsL_law, w.before args s = true) (hR : 2 + 1 ≤ R.frames ∧ 8 + (2 + 11) + 42 ≤ R.locals) : CallW R s args RX7 RX2 112 yX2_bOf cX2_bOf 2 (some .int) (wsU yX2_bOf cX2_bOf 2 (some .int)) rX2_bOf 0 0 1 := cwV 1 hts (fgV (wm wl_16 (i := 0) rfl) (wm wl_16 (i := 1) rfl) (wm wl_16 (i := 2) rfl) (wm wl_2 (i := 4) rfl) (wm wl_16 (i := 3) rfl)) rfl rfl rfl (by decide +kernel) hR
theorem lk_RX7_115 {R : Room} {s : State} {args : Array Value} (hts : ∀ w ∈ wsL_law, w.before args s = true) (hR : 0 + 1 ≤ R.frames ∧ 8 + (1 + 11) + 0 ≤ R.locals) : CallW R s args RX7 RX2 115 yX2_empty cX2_empty 1 none (wsU yX2_empty cX2_empty 1 none) rX2_empty 0 0 0 := cwV 0 hts (fgV (wm wl_16 (i := 4) rfl) (wm wl_16 (i := 5) rfl) (wm wl_16 (i := 6) rfl) (wm wl_2 (i := 4) rfl) (wm wl_16 (i := 7) rfl)) rfl rfl rfl (by decide +kernel) hR
theorem lk_RX7_118 {R : Room} {s : State} {args : Array Value} (hts : ∀ w ∈ wsL_law, w.before args s = true) (hR : 0 + 1 ≤ R.frames ∧ 8 + (2 + 11) + 0 ≤ R.locals) : CallW R s args RX7 RX1 118 yX1_rumourAt cX1_rumourAt 2 (some (.object "OperaGlasses$Rumour")) (wsU yX1_rumourAt cX1_rumourAt 2 (some (.object "OperaGlasses$Rumour"))) rX1_rumourAt 0 0 1 := cwV 1 hts (fgV (wm wl_18 (i := 2) rfl) (wm wl_6 (i := 19) rfl) (wm wl_6 (i := 20) rfl) (wm wl_1 (i := 15) rfl) (wm wl_6 (i := 21) rfl)) rfl rfl rfl (by decide +kernel) hR
theorem lk_RX7_127 {R : Room} {s : State} {args : Array Value} (hts : ∀ w ∈ wsL_law, w.before args s = true) (hR : 0 + 1 ≤ R.frames ∧ 8 + (2 + 11) + 0 ≤ R.locals) : CallW R s args RX7 RX3 127 yX3_decide cX3_decide 2 none (wsU yX3_decide cX3_decide 2 none) rX3_decide 0 0 1 := cwV 1 hts (fgV (wm wl_18 (i := 3) rfl) (wm wl_18 (i := 4) rfl) (wm wl_18 (i := 5) rfl) (wm wl_2 (i := 21) rfl) (wm wl_18 (i := 6) rfl)) rfl rfl rfl (by decide +kernel) hR
theorem lk_RX7_131 {R : Room} {s : State} {args : Array Value} (hts : ∀ w ∈ wsL_law, w.before args s = true) (hR : 5 + 1 ≤ R.frames ∧ 8 + (1 + 11) + 113 ≤ R.locals) : CallW R s args RX7 RX7 131 yX7_surveyNow cX7_surveyNow 1 (some (.object "OperaGlasses$Survey")) (wsU yX7_surveyNow cX7_surveyNow 1 (some (.object "OperaGlasses$Survey"))) rX7_surveyNow 0 0 0 := cwV 0 hts (fgV (wm wl_18 (i := 7) rfl) (wm wl_18 (i := 8) rfl) (wm wl_18 (i := 9) rfl) (wm wl_1 (i := 2) rfl) (wm wl_18 (i := 10) rfl)) rfl rfl rfl (by decide +kernel) hR
theorem lk_RX7_138 {R : Room} {s : State} {args : Array Value} (hts : ∀ w ∈ wsL_law, w.before args s = true) (hR : 2 + 1 ≤ R.frames ∧ 8 + (4 + 11) + 45 ≤ R.locals) : CallW R s args RX7 RX1 138 yX1_revealOpen cX1_revealOpen 4 (some .int) (wsU yX1_revealOpen cX1_revealOpen 4 (some .int)) rX1_revealOpen 0 0 0 := cwV 0 hts (fgV (wm wl_23 (i := 2) rfl) (wm wl_23 (i := 3) rfl) (wm wl_23 (i := 4) rfl) (wm wl_1 (i := 15) rfl) (wm wl_23 (i := 5) rfl)) rfl rfl rfl (by decide +kernel) hR
theorem lk_RX7_144 {R : Room} {s : State} {args : Array Value} (hts : ∀ w ∈ wsL_law, w.before args s = true) (hR : 2 + 1 ≤ R.frames ∧ 8 + (4 + 11) + 43 ≤ R.locals) : CallW R s args RX7 RX7 144 yX7_pointsOfGuess cX7_pointsOfGuess 4 (some .int) (wsU yX7_pointsOfGuess cX7_pointsOfGuess 4 (some .int)) rX7_pointsOfGuess 0 0 3 := cwV 3 hts (fgV (wm wl_24 (i := 8) rfl) (wm wl_24 (i := 9) rfl) (wm wl_24 (i := 10) rfl) (wm wl_1 (i := 2) rfl) (wm wl_24 (i := 11) rfl)) rfl rfl rfl (by decide +kernel) hR
theorem lk_RX7_151 {R : Room} {s : State} {args : Array Value} (hts : ∀ w ∈ wsL_law, w.before args s = true) (hR : 0 + 1 ≤ R.frames ∧ 8 + (3 + 11) + 0 ≤ R.locals) : CallB R s args RX7 151 yX7_addAt cX7_addAt 3 none (wsU yX7_addAt cX7_addAt 3 none) rX7_addAt 0 0 3 ∧ (Cond.static yX7_addAt).before args s = true := va_cwS 3 hts (fgS (wm wl_25 (i := 0) rfl) (wm wl_19 (i := 23) rfl) (wm wl_1 (i := 2) rfl) (wm wl_20 (i := 0) rfl)) rfl rfl rfl (by decide +kernel) hR
theorem lk_RX7_154 {R : Room} {s : State} {args : Array Value} (hts : ∀ w ∈ wsL_law, w.before args s = true) (hR : 3 + 1 ≤ R.frames ∧ 8 + (2 + 11) + 67 ≤ R.locals) : CallW R s args RX7 RX1 154 yX1_finishAct cX1_finishAct 2 none (wsU yX1_finishAct cX1_finishAct 2 none) rX1_finishAct 0 0 0 := cwV 0 hts (fgV (wm wl_25 (i := 13) rfl) (wm wl_25 (i := 14) rfl) (wm wl_25 (i := 15) rfl) (wm wl_1 (i := 15) rfl) (wm wl_25 (i := 16) rfl)) rfl rfl rfl (by decide +kernel) hR
theorem lk_RX7_160 {R : Room} {s : State} {args : Array Value} (hts : ∀ w ∈ wsL_law, w.before args s = true) (hR : 2 + 1 ≤ R.frames ∧ 8 + (4 + 11) + 43 ≤ R.locals) : CallW R s args RX7 RX1 160 yX1_toldBy cX1_toldBy 4 (some .int) (wsU yX1_toldBy cX1_toldBy 4 (some .int)) rX1_toldBy 0 0 1 := cwV 1 hts (fgV (wm wl_26 (i := 9) rfl) (wm wl_26 (i := 10) rfl) (wm wl_26 (i := 11) rfl) (wm wl_1 (i := 15) rfl) (wm wl_26 (i := 12) rfl)) rfl rfl rfl (by decide +kernel) hR
theorem lk_RX7_163 {R : Room} {s : State} {args : Array Value} (hts : ∀ w ∈ wsL_law, w.before args s = true) (hR : 3 + 1 ≤ R.frames ∧ 8 + (4 + 11) + 67 ≤ R.locals) : CallW R s args RX7 RX1 163 yX1_toldTrulyBy cX1_toldTrulyBy 4 (some .int) (wsU yX1_toldTrulyBy cX1_toldTrulyBy 4 (some .int)) rX1_toldTrulyBy 0 0 1 := cwV 1 hts (fgV (wm wl_26 (i := 13) rfl) (wm wl_26 (i := 14) rfl) (wm wl_26 (i := 15) rfl) (wm wl_1 (i := 15) rfl) (wm wl_26 (i := 16) rfl)) rfl rfl rfl (by decide +kernel) hR
theorem lk_RX7_166 {R : Room} {s : State} {args : Array Value} (hts : ∀ w ∈ wsL_law, w.before args s = true) (hR : 0 + 1 ≤ R.frames ∧ 8 + (4 + 11) + 0 ≤ R.locals) : CallB R s args RX7 166 yX7_watchers cX7_watchers 4 (some .int) (wsU yX7_watchers cX7_watchers 4 (some .int)) rX7_watchers 0 0 2 ∧ (Cond.static yX7_watchers).before args s = true := va_cwS 2 hts (fgS (wm wl_26 (i := 17) rfl) (wm wl_19 (i := 17) rfl) (wm wl_1 (i := 2) rfl) (wm wl_19 (i := 18) rfl)) rfl rfl rfl (by decide +kernel) hR
theorem lk_RX7_181 {R : Room} {s : State} {args : Array Value} (hts : ∀ w ∈ wsL_law, w.before args s = true) (hR : 1 + 1 ≤ R.frames ∧ 8 + (3 + 11) + 23 ≤ R.locals) : CallW R s args RX7 RX3 181 yX3_holdsIn cX3_holdsIn 3 (some .boolean) (wsU yX3_holdsIn cX3_holdsIn 3 (some .boolean)) rX3_holdsIn 0 0 1 := cwV 1 hts (fgV (wm wl_27 (i := 6) rfl) (wm wl_19 (i := 14) rfl) (wm wl_19 (i := 15) rfl) (wm wl_2 (i := 21) rfl) (wm wl_19 (i := 16) rfl)) rfl rfl rfl (by decide +kernel) hR
theorem lk_RX7_188 {R : Room} {s : State} {args : Array Value} (hts : ∀ w ∈ wsL_law, w.before args s = true) (hR : 2 + 1 ≤ R.frames ∧ 8 + (3 + 11) + 43 ≤ R.locals) : CallW R s args RX7 RX1 188 yX1_openRumours cX1_openRumours 3 (some .int) (wsU yX1_openRumours cX1_openRumours 3 (some .int)) rX1_openRumours 0 0 0 := cwV 0 hts (fgV (wm wl_27 (i := 15) rfl) (wm wl_27 (i := 16) rfl) (wm wl_27 (i := 17) rfl) (wm wl_1 (i := 15) rfl) (wm wl_27 (i := 18) rfl)) rfl rfl rfl (by decide +kernel) hR
theorem lk_RX7_191 {R : Room} {s : State} {args : Array Value} (hts : ∀ w ∈ wsL_law, w.before args s = true) (hR : 3 + 1 ≤ R.frames ∧ 8 + (5 + 11) + 66 ≤ R.locals) : CallW R s args RX7 RX1 191 yX1_firstBroken cX1_firstBroken 5 (some .int) (wsU yX1_firstBroken cX1_firstBroken 5 (some .int)) rX1_firstBroken 0 0 2 := cwV 2 hts (fgV (wm wl_27 (i := 23) rfl) (wm wl_19 (i := 5) rfl) (wm wl_19 (i := 6) rfl) (wm wl_1 (i := 15) rfl) (wm wl_19 (i := 7) rfl)) rfl rfl rfl (by decide +kernel) hR
theorem lk_RX7_195 {R : Room} {s : State} {args : Array Value} (hts : ∀ w ∈ wsL_law, w.before args s = true) (hR : 3 + 1 ≤ R.frames ∧ 8 + (4 + 11) + 65 ≤ R.locals) : CallW R s args RX7 RX5 195 yX5_certainPersons cX5_certainPersons 4 (some .int) (wsU yX5_certainPersons cX5_certainPersons 4 (some .int)) rX5_certainPersons 0 0 1 := cwV 1 hts (fgV (wm wl_28 (i := 0) rfl) (wm wl_28 (i := 1) rfl) (wm wl_28 (i := 2) rfl) (wm wl_2 (i := 8) rfl) (wm wl_28 (i := 3) rfl)) rfl rfl rfl (by decide +kernel) hR
theorem lk_RX7_198 {R : Room} {s : State} {args : Array Value} (hts : ∀ w ∈ wsL_law, w.before args s = true) (hR : 2 + 1 ≤ R.frames ∧ 8 + (4 + 11) + 43 ≤ R.locals) : CallW R s args RX7 RX5 198 yX5_openCertain cX5_openCertain 4 (some .int) (wsU yX5_openCertain cX5_openCertain 4 (some .int)) rX5_openCertain 0 0 1 := cwV 1 hts (fgV (wm wl_28 (i := 10) rfl) (wm wl_28 (i := 11) rfl) (wm wl_28 (i := 12) rfl) (wm wl_2 (i := 8) rfl) (wm wl_28 (i := 13) rfl)) rfl rfl rfl (by decide +kernel) hR
theorem lk_RX7_202 {R : Room} {s : State} {args : Array Value} (hts : ∀ w ∈ wsL_law, w.before args s = true) (hR : 2 + 1 ≤ R.frames ∧ 8 + (4 + 11) + 43 ≤ R.locals) : CallW R s args RX7 RX5 202 yX5_openRuledOut cX5_openRuledOut 4 (some .int) (wsU yX5_openRuledOut cX5_openRuledOut 4 (some .int)) rX5_openRuledOut 0 0 1 := cwV 1 hts (fgV (wm wl_28 (i := 15) rfl) (wm wl_28 (i := 16) rfl) (wm wl_28 (i := 17) rfl) (wm wl_2 (i := 8) rfl) (wm wl_28 (i := 18) rfl)) rfl rfl rfl (by decide +kernel) hR
theorem lk_RX7_211 {R : Room} {s : State} {args : Array Value} (hts : ∀ w ∈ wsL_law, w.before args s = true) (hR : 1 + 1 ≤ R.frames ∧ 8 + (3 + 11) + 21 ≤ R.locals) : CallW R s args RX7 RX5 211 yX5_lookingAt cX5_lookingAt 3 (some .int) (wsU yX5_lookingAt cX5_lookingAt 3 (some .int)) rX5_lookingAt 0 0 2 := cwV 2 hts (fgV (wm wl_24 (i := 12) rfl) (wm wl_24 (i := 13) rfl) (wm wl_24 (i := 14) rfl) (wm wl_2 (i := 8) rfl) (wm wl_24 (i := 15) rfl)) rfl rfl rfl (by decide +kernel) hR
theorem lk_RX7_215 {R : Room} {s : State} {args : Array Value} (hts : ∀ w ∈ wsL_law, w.before args s = true) (hR : 2 + 1 ≤ R.frames ∧ 8 + (3 + 11) + 43 ≤ R.locals) : CallW R s args RX7 RX5 215 yX5_certainBox cX5_certainBox 3 (some .int) (wsU yX5_certainBox cX5_certainBox 3 (some .int)) rX5_certainBox 0 0 1 := cwV 1 hts (fgV (wm wl_30 (i := 4) rfl) (wm wl_28 (i := 5) rfl) (wm wl_28 (i := 6) rfl) (wm wl_2 (i := 8) rfl) (wm wl_28 (i := 7) rfl)) rfl rfl rfl (by decide +kernel) hR
theorem lk_RX7_218 {R : Room} {s : State} {args : Array Value} (hts : ∀ w ∈ wsL_law, w.before args s = true) (hR : 4 + 1 ≤ R.frames ∧ 8 + (6 + 11) + 90 ≤ R.locals) : CallW R s args RX7 RX5 218 yX5_boxInWorld cX5_boxInWorld 6 (some .int) (wsU yX5_boxInWorld cX5_boxInWorld 6 (some .int)) rX5_boxInWorld 0 0 3 := cwV 3 hts (fgV (wm wl_30 (i := 13) rfl) (wm wl_30 (i := 14) rfl) (wm wl_30 (i := 15) rfl) (wm wl_2 (i := 8) rfl) (wm wl_30 (i := 16) rfl)) rfl rfl rfl (by decide +kernel) hR
theorem lk_RX7_222 {R : Room} {s : State} {args : Array Value} (hts : ∀ w ∈ wsL_law, w.before args s = true) (hR : 4 + 1 ≤ R.frames ∧ 8 + (7 + 11) + 90 ≤ R.locals) : CallW R s args RX7 RX5 222 yX5_worldsWith cX5_worldsWith 7 (some .int) (wsU yX5_worldsWith cX5_worldsWith 7 (some .int)) rX5_worldsWith 0 0 4 := cwV 4 hts (fgV (wm wl_31 (i := 1) rfl) (wm wl_31 (i := 2) rfl) (wm wl_31 (i := 3) rfl) (wm wl_2 (i := 8) rfl) (wm wl_31 (i := 4) rfl)) rfl rfl rfl (by decide +kernel) hR
theorem lk_RX7_226 {R : Room} {s : State} {args : Array Value} (hts : ∀ w ∈ wsL_law, w.before args s = true) (hR : 2 + 1 ≤ R.frames ∧ 8 + (4 + 11) + 43 ≤ R.locals) : CallW R s args RX7 RX5 226 yX5_sharpestRumour cX5_sharpestRumour 4 (some .int) (wsU yX5_sharpestRumour cX5_sharpestRumour 4 (some .int)) rX5_sharpestRumour 0 0 1 := cwV 1 hts (fgV (wm wl_31 (i := 14) rfl) (wm wl_31 (i := 15) rfl) (wm wl_31 (i := 16) rfl) (wm wl_2 (i := 8) rfl) (wm wl_31 (i := 17) rfl)) rfl rfl rfl (by decide +kernel) hR
theorem lk_RX7_229 {R : Room} {s : State} {args : Array Value} (hts : ∀ w ∈ wsL_law, w.before args s = true) (hR : 1 + 1 ≤ R.frames ∧ 8 + (3 + 11) + 21 ≤ R.locals) : CallW R s args RX7 RX5 229 yX5_worseOutcome cX5_worseOutcome 3 (some .int) (wsU yX5_worseOutcome cX5_worseOutcome 3 (some .int)) rX5_worseOutcome 0 0 1 := cwV 1 hts (fgV (wm wl_31 (i := 23) rfl) (wm wl_31 (i := 19) rfl) (wm wl_31 (i := 20) rfl) (wm wl_2 (i := 8) rfl) (wm wl_31 (i := 21) rfl)) rfl rfl rfl (by decide +kernel) hR
theorem lk_RX7_232 {R : Room} {s : State} {args : Array Value} (hts : ∀ w ∈ wsL_law, w.before args s = true) (hR : 2 + 1 ≤ R.frames ∧ 8 + (4 + 11) + 43 ≤ R.locals) : CallW R s args RX7 RX5 232 yX5_mostToBlame cX5_mostToBlame 4 (some .int) (wsU yX5_mostToBlame cX5_mostToBlame 4 (some .int)) rX5_mostToBlame 0 0 1 := cwV 1 hts (fgV (wm wl_32 (i := 8) rfl) (wm wl_32 (i := 9) rfl) (wm wl_32 (i := 10) rfl) (wm wl_2 (i := 8) rfl) (wm wl_32 (i := 11) rfl)) rfl rfl rfl (by decide +kernel) hR
theorem lk_RX7_238 {R : Room} {s : State} {args : Array Value} (hts : ∀ w ∈ wsL_law, w.before args s = true) (hR : 4 + 1 ≤ R.frames ∧ 8 + (4 + 11) + 90 ≤ R.locals) : CallW R s args RX7 RX5 238 yX5_findMostWatched cX5_findMostWatched 4 none (wsU yX5_findMostWatched cX5_findMostWatched 4 none) rX5_findMostWatched 0 0 1 := cwV 1 hts (fgV (wm wl_32 (i := 20) rfl) (wm wl_32 (i := 21) rfl) (wm wl_32 (i := 22) rfl) (wm wl_2 (i := 8) rfl) (wm wl_32 (i := 23) rfl)) rfl rfl rfl (by decide +kernel) hR
theorem lk_RX7_248 {R : Room} {s : State} {args : Array Value} (hts : ∀ w ∈ wsL_law, w.before args s = true) (hR : 0 + 1 ≤ R.frames ∧ 8 + (7 + 11) + 0 ≤ R.locals) : CallB R s args RX7 248 yX7_lengthOfText cX7_lengthOfText 7 (some .int) (wsU yX7_lengthOfText cX7_lengthOfText 7 (some .int)) rX7_lengthOfText 0 0 1 ∧ (Cond.static yX7_lengthOfText).before args s = true := va_cwS 1 hts (fgS (wm wl_33 (i := 15) rfl) (wm wl_33 (i := 16) rfl) (wm wl_1 (i := 2) rfl) (wm wl_33 (i := 17) rfl)) rfl rfl rfl (by decide +kernel) hR
theorem lk_RX7_254 {R : Room} {s : State} {args : Array Value} (hts : ∀ w ∈ wsL_law, w.before args s = true) (hR : 0 + 1 ≤ R.frames ∧ 8 + (2 + 11) + 0 ≤ R.locals) : CallW R s args RX7 RX2 254 yX2_append cX2_append 2 none (wsU yX2_append cX2_append 2 none) rX2_append 0 0 1 := cwV 1 hts (fgV (wm wl_33 (i := 20) rfl) (wm wl_33 (i := 21) rfl) (wm wl_33 (i := 22) rfl) (wm wl_2 (i := 4) rfl) (wm wl_33 (i := 23) rfl)) rfl rfl rfl (by decide +kernel) hR
theorem lk_RX7_258 {R : Room} {s : State} {args : Array Value} (hts : ∀ w ∈ wsL_law, w.before args s = true) (hR : 3 + 1 ≤ R.frames ∧ 8 + (4 + 11) + 69 ≤ R.locals) : CallW R s args RX7 RX0 258 yX0_takeBack cX0_takeBack 4 none (wsU yX0_takeBack cX0_takeBack 4 none) rX0_takeBack 0 0 1 := cwV 1 hts (fgV (wm wl_35 (i := 1) rfl) (wm wl_35 (i := 2) rfl) (wm wl_35 (i := 3) rfl) (wm wl_1 (i := 19) rfl) (wm wl_35 (i := 4) rfl)) rfl rfl rfl (by decide +kernel) hR
theorem lk_RX7_265 {R : Room} {s : State} {args : Array Value} (hts : ∀ w ∈ wsL_law, w.before args s = true) (hR : 0 + 1 ≤ R.frames ∧ 8 + (2 + 11) + 0 ≤ R.locals) : CallW R s args RX7 RX7 265 yX7_slotAt cX7_slotAt 2 (some (.object "OperaGlasses$Slot")) (wsU yX7_slotAt cX7_slotAt 2 (some (.object "OperaGlasses$Slot"))) rX7_slotAt 0 0 1 := cwV 1 hts (fgV (wm wl_35 (i := 13) rfl) (wm wl_35 (i := 14) rfl) (wm wl_35 (i := 15) rfl) (wm wl_1 (i := 2) rfl) (wm wl_35 (i := 16) rfl)) rfl rfl rfl (by decide +kernel) hR
theorem lk_RX7_272 {R : Room} {s : State} {args : Array Value} (hts : ∀ w ∈ wsL_law, w.before args s = true) (hR : 2 + 1 ≤ R.frames ∧ 8 + (5 + 11) + 45 ≤ R.locals) : CallW R s args RX7 RX1 272 yX1_copyFrom cX1_copyFrom 5 none (wsU yX1_copyFrom cX1_copyFrom 5 none) rX1_copyFrom 0 0 1 := cwV 1 hts (fgV (wm wl_35 (i := 17) rfl) (wm wl_6 (i := 13) rfl) (wm wl_6 (i := 14) rfl) (wm wl_1 (i := 15) rfl) (wm wl_6 (i := 15) rfl)) rfl rfl rfl (by decide +kernel) hR
theorem lk_RX7_278 {R : Room} {s : State} {args : Array Value} (hts : ∀ w ∈ wsL_law, w.before args s = true) (hR : 3 + 1 ≤ R.frames ∧ 8 + (3 + 11) + 69 ≤ R.locals) : CallW R s args RX7 RX0 278 yX0_record cX0_record 3 none (wsU yX0_record cX0_record 3 none) rX0_record 0 0 1 := cwV 1 hts (fgV (wm wl_5 (i := 22) rfl) (wm wl_5 (i := 23) rfl) (wm wl_6 (i := 0) rfl) (wm wl_1 (i := 19) rfl) (wm wl_6 (i := 1) rfl)) rfl rfl rfl (by decide +kernel) hR
theorem lk_RX7_281 {R : Room} {s : State} {args : Array Value} (hts : ∀ w ∈ wsL_law, w.before args s = true) (hR : 4 + 1 ≤ R.frames ∧ 8 + (4 + 11) + 90 ≤ R.locals) : CallW R s args RX7 RX5 281 yX5_take cX5_take 4 none (wsU yX5_take cX5_take 4 none) rX5_take 0 0 1 := cwV 1 hts (fgV (wm wl_18 (i := 11) rfl) (wm wl_18 (i := 12) rfl) (wm wl_18 (i := 13) rfl) (wm wl_2 (i := 8) rfl) (wm wl_18 (i := 14) rfl)) rfl rfl rfl (by decide +kernel) hR
theorem lk_RX7_284 {R : Room} {s : State} {args : Array Value} (hts : ∀ w ∈ wsL_law, w.before args s = true) (hR : 0 + 1 ≤ R.frames ∧ 8 + (2 + 11) + 0 ≤ R.locals) : CallW R s args RX7 RX5 284 yX5_isCertain cX5_isCertain 2 (some .boolean) (wsU yX5_isCertain cX5_isCertain 2 (some .boolean)) rX5_isCertain 0 0 1 := cwV 1 hts (fgV (wm wl_24 (i := 16) rfl) (wm wl_24 (i := 17) rfl) (wm wl_24 (i := 18) rfl) (wm wl_2 (i := 8) rfl) (wm wl_24 (i := 19) rfl)) rfl rfl rfl (by decide +kernel) hR
theorem lk_RX7_287 {R : Room} {s : State} {args : Array Value} (hts : ∀ w ∈ wsL_law, w.before args s = true) (hR : 0 + 1 ≤ R.frames ∧ 8 + (2 + 11) + 0 ≤ R.locals) : CallW R s args RX7 RX5 287 yX5_isRuledOut cX5_isRuledOut 2 (some .boolean) (wsU yX5_isRuledOut cX5_isRuledOut 2 (some .boolean)) rX5_isRuledOut 0 0 1 := cwV 1 hts (fgV (wm wl_24 (i := 20) rfl) (wm wl_24 (i := 21) rfl) (wm wl_24 (i := 22) rfl) (wm wl_2 (i := 8) rfl) (wm wl_24 (i := 23) rfl)) rfl rfl rfl (by decide +kernel) hR
theorem lk_RX8_37 {R : Room} {s : State} {args : Array Value} (hts : ∀ w ∈ wsL_law, w.before args s = true) (hR : 0 + 1 ≤ R.frames ∧ 8 + (3 + 11) + 0 ≤ R.locals) : CallW R s args RX8 RX8 37 yX8_begins cX8_begins 3 none (wsU yX8_begins cX8_begins 3 none) rX8_begins 0 0 1 := cwV 1 hts (fgV (wm wl_5 (i := 9) rfl) (wm wl_5 (i := 10) rfl) (wm wl_5 (i := 11) rfl) (wm wl_1 (i := 5) rfl) (wm wl_5 (i := 12) rfl)) rfl rfl rfl (by decide +kernel) hR
theorem lk_RX8_45 {R : Room} {s : State} {args : Array Value} (hts : ∀ w ∈ wsL_law, w.before args s = true) (hR : 0 + 1 ≤ R.frames ∧ 8 + (5 + 11) + 0 ≤ R.locals) : CallB R s args RX8 45 yX8_moves cX8_moves 5 none (wsU yX8_moves cX8_moves 5 none) rX8_moves 0 0 4 ∧ (Cond.static yX8_moves).before args s = true := va_cwS 4 hts (fgS (wm wl_7 (i := 23) rfl) (wm wl_8 (i := 0) rfl) (wm wl_1 (i := 5) rfl) (wm wl_8 (i := 1) rfl)) rfl rfl rfl (by decide +kernel) hR
theorem lk_RX8_49 {R : Room} {s : State} {args : Array Value} (hts : ∀ w ∈ wsL_law, w.before args s = true) (hR : 0 + 1 ≤ R.frames ∧ 8 + (3 + 11) + 0 ≤ R.locals) : CallB R s args RX8 49 yX8_within cX8_within 3 (some .boolean) (wsU yX8_within cX8_within 3 (some .boolean)) rX8_within 0 0 3 ∧ (Cond.static yX8_within).before args s = true := va_cwS 3 hts (fgS (wm wl_7 (i := 15) rfl) (wm wl_7 (i := 16) rfl) (wm wl_1 (i := 5) rfl) (wm wl_7 (i := 17) rfl)) rfl rfl rfl (by decide +kernel) hR
theorem lk_RX8_53 {R : Room} {s : State} {args : Array Value} (hts : ∀ w ∈ wsL_law, w.before args s = true) (hR : 0 + 1 ≤ R.frames ∧ 8 + (3 + 11) + 0 ≤ R.locals) : CallW R s args RX8 RX8 53 yX8_part cX8_part 3 (some .int) (wsU yX8_part cX8_part 3 (some .int)) rX8_part 0 0 2 := cwV 2 hts (fgV (wm wl_20 (i := 19) rfl) (wm wl_20 (i := 20) rfl) (wm wl_20 (i := 21) rfl) (wm wl_1 (i := 5) rfl) (wm wl_20 (i := 22) rfl)) rfl rfl rfl (by decide +kernel) hR
theorem lk_RX8_57 {R : Room} {s : State} {args : Array Value} (hts : ∀ w ∈ wsL_law, w.before args s = true) (hR : 1 + 1 ≤ R.frames ∧ 8 + (2 + 11) + 22 ≤ R.locals) : CallW R s args RX8 RX8 57 yX8_isBox cX8_isBox 2 (some .boolean) (wsU yX8_isBox cX8_isBox 2 (some .boolean)) rX8_isBox 0 0 1 := cwV 1 hts (fgV (wm wl_8 (i := 20) rfl) (wm wl_8 (i := 21) rfl) (wm wl_8 (i := 22) rfl) (wm wl_1 (i := 5) rfl) (wm wl_8 (i := 23) rfl)) rfl rfl rfl (by decide +kernel) hR
theorem lk_RX8_61 {R : Room} {s : State} {args : Array Value} (hts : ∀ w ∈ wsL_law, w.before args s = true) (hR : 0 + 1 ≤ R.frames ∧ 8 + (4 + 11) + 0 ≤ R.locals) : CallW R s args RX8 RX8 61 yX8_lookers cX8_lookers 4 (some .int) (wsU yX8_lookers cX8_lookers 4 (some .int)) rX8_lookers 0 0 1 := cwV 1 hts (fgV (wm wl_22 (i := 14) rfl) (wm wl_22 (i := 15) rfl) (wm wl_22 (i := 16) rfl) (wm wl_1 (i := 5) rfl) (wm wl_22 (i := 17) rfl)) rfl rfl rfl (by decide +kernel) hR
theorem lk_RX8_65 {R : Room} {s : State} {args : Array Value} (hts : ∀ w ∈ wsL_law, w.before args s = true) (hR : 1 + 1 ≤ R.frames ∧ 8 + (4 + 11) + 23 ≤ R.locals) : CallW R s args RX8 RX8 65 yX8_holds cX8_holds 4 (some .boolean) (wsU yX8_holds cX8_holds 4 (some .boolean)) rX8_holds 0 0 3 := cwV 3 hts (fgV (wm wl_22 (i := 10) rfl) (wm wl_22 (i := 11) rfl) (wm wl_22 (i := 12) rfl) (wm wl_1 (i := 5) rfl) (wm wl_22 (i := 13) rfl)) rfl rfl rfl (by decide +kernel) hR
theorem lk_RX8_68 {R : Room} {s : State} {args : Array Value} (hts : ∀ w ∈ wsL_law, w.before args s = true) (hR : 0 + 1 ≤ R.frames ∧ 8 + (2 + 11) + 0 ≤ R.locals) : CallW R s args RX8 RX8 68 yX8_takeTruth cX8_takeTruth 2 none (wsU yX8_takeTruth cX8_takeTruth 2 none) rX8_takeTruth 0 0 0 := cwV 0 hts (fgV (wm wl_23 (i := 16) rfl) (wm wl_23 (i := 17) rfl) (wm wl_23 (i := 18) rfl) (wm wl_1 (i := 5) rfl) (wm wl_23 (i := 19) rfl)) rfl rfl rfl (by decide +kernel) hR
theorem lk_RX8_71 {R : Room} {s : State} {args : Array Value} (hts : ∀ w ∈ wsL_law, w.before args s = true) (hR : 2 + 1 ≤ R.frames ∧ 8 + (2 + 11) + 46 ≤ R.locals) : CallW R s args RX8 RX8 71 yX8_holdsRumour cX8_holdsRumour 2 (some .boolean) (wsU yX8_holdsRumour cX8_holdsRumour 2 (some .boolean)) rX8_holdsRumour 0 0 1 := cwV 1 hts (fgV (wm wl_22 (i := 6) rfl) (wm wl_22 (i := 7) rfl) (wm wl_22 (i := 8) rfl) (wm wl_1 (i := 5) rfl) (wm wl_22 (i := 9) rfl)) rfl rfl rfl (by decide +kernel) hR
theorem lk_RX8_74 {R : Room} {s : State} {args : Array Value} (hts : ∀ w ∈ wsL_law, w.before args s = true) (hR : 1 + 1 ≤ R.frames ∧ 8 + (2 + 11) + 22 ≤ R.locals) : CallW R s args RX8 RX8 74 yX8_isOpen cX8_isOpen 2 (some .boolean) (wsU yX8_isOpen cX8_isOpen 2 (some .boolean)) rX8_isOpen 0 0 1 := cwV 1 hts (fgV (wm wl_20 (i := 15) rfl) (wm wl_20 (i := 16) rfl) (wm wl_20 (i := 17) rfl) (wm wl_1 (i := 5) rfl) (wm wl_20 (i := 18) rfl)) rfl rfl rfl (by decide +kernel) hR
theorem lk_RX8_86 {R : Room} {s : State} {args : Array Value} (hts : ∀ w ∈ wsL_law, w.before args s = true) (hR : 0 + 1 ≤ R.frames ∧ 8 + (2 + 11) + 0 ≤ R.locals) : CallW R s args RX8 RX8 86 yX8_clear cX8_clear 2 none (wsU yX8_clear cX8_clear 2 none) rX8_clear 0 0 0 := cwV 0 hts (fgV (wm wl_21 (i := 12) rfl) (wm wl_21 (i := 13) rfl) (wm wl_21 (i := 14) rfl) (wm wl_1 (i := 5) rfl) (wm wl_21 (i := 15) rfl)) rfl rfl rfl (by decide +kernel) hR
theorem lk_RX8_89 {R : Room} {s : State} {args : Array Value} (hts : ∀ w ∈ wsL_law, w.before args s = true) (hR : 0 + 1 ≤ R.frames ∧ 8 + (3 + 11) + 0 ≤ R.locals) : CallW R s args RX8 RX8 89 yX8_worldsInAll cX8_worldsInAll 3 (some .int) (wsU yX8_worldsInAll cX8_worldsInAll 3 (some .int)) rX8_worldsInAll 0 0 0 := cwV 0 hts (fgV (wm wl_21 (i := 18) rfl) (wm wl_21 (i := 19) rfl) (wm wl_21 (i := 20) rfl) (wm wl_1 (i := 5) rfl) (wm wl_21 (i := 21) rfl)) rfl rfl rfl (by decide +kernel) hR
theorem lk_RX8_93 {R : Room} {s : State} {args : Array Value} (hts : ∀ w ∈ wsL_law, w.before args s = true) (hR : 0 + 1 ≤ R.frames ∧ 8 + (5 + 11) + 0 ≤ R.locals) : CallW R s args RX8 RX8 93 yX8_takeWorld cX8_takeWorld 5 none (wsU yX8_takeWorld cX8_takeWorld 5 none) rX8_takeWorld 0 0 1 := cwV 1 hts (fgV (wm wl_21 (i := 22) rfl) (wm wl_21 (i := 23) rfl) (wm wl_22 (i := 0) rfl) (wm wl_1 (i := 5) rfl) (wm wl_22 (i := 1) rfl)) rfl rfl rfl (by decide +kernel) hR
theorem lk_RX8_96 {R : Room} {s : State} {args : Array Value} (hts : ∀ w ∈ wsL_law, w.before args s = true) (hR : 3 + 1 ≤ R.frames ∧ 8 + (4 + 11) + 67 ≤ R.locals) : CallW R s args RX8 RX8 96 yX8_wrongOne cX8_wrongOne 4 (some .int) (wsU yX8_wrongOne cX8_wrongOne 4 (some .int)) rX8_wrongOne 0 0 0 := cwV 0 hts (fgV (wm wl_22 (i := 2) rfl) (wm wl_22 (i := 3) rfl) (wm wl_22 (i := 4) rfl) (wm wl_1 (i := 5) rfl) (wm wl_22 (i := 5) rfl)) rfl rfl rfl (by decide +kernel) hR
theorem lk_RX8_99 {R : Room} {s : State} {args : Array Value} (hts : ∀ w ∈ wsL_law, w.before args s = true) (hR : 3 + 1 ≤ R.frames ∧ 8 + (3 + 11) + 67 ≤ R.locals) : CallW R s args RX8 RX8 99 yX8_takesIn cX8_takesIn 3 none (wsU yX8_takesIn cX8_takesIn 3 none) rX8_takesIn 0 0 0 := cwV 0 hts (fgV (wm wl_22 (i := 18) rfl) (wm wl_22 (i := 19) rfl) (wm wl_22 (i := 20) rfl) (wm wl_1 (i := 5) rfl) (wm wl_22 (i := 21) rfl)) rfl rfl rfl (by decide +kernel) hR
theorem lk_RX8_102 {R : Room} {s : State} {args : Array Value} (hts : ∀ w ∈ wsL_law, w.before args s = true) (hR : 4 + 1 ≤ R.frames ∧ 8 + (4 + 11) + 90 ≤ R.locals) : CallW R s args RX8 RX8 102 yX8_goThrough cX8_goThrough 4 none (wsU yX8_goThrough cX8_goThrough 4 none) rX8_goThrough 0 0 0 := cwV 0 hts (fgV (wm wl_21 (i := 8) rfl) (wm wl_21 (i := 9) rfl) (wm wl_21 (i := 10) rfl) (wm wl_1 (i := 5) rfl) (wm wl_21 (i := 11) rfl)) rfl rfl rfl (by decide +kernel) hR
theorem lk_RX8_105 {R : Room} {s : State} {args : Array Value} (hts : ∀ w ∈ wsL_law, w.before args s = true) (hR : 1 + 1 ≤ R.frames ∧ 8 + (2 + 11) + 24 ≤ R.locals) : CallW R s args RX8 RX8 105 yX8_record cX8_record 2 none (wsU yX8_record cX8_record 2 none) rX8_record 0 0 0 := cwV 0 hts (fgV (wm wl_7 (i := 18) rfl) (wm wl_7 (i := 19) rfl) (wm wl_7 (i := 20) rfl) (wm wl_1 (i := 5) rfl) (wm wl_7 (i := 21) rfl)) rfl rfl rfl (by decide +kernel) hR
theorem lk_RX8_108 {R : Room} {s : State} {args : Array Value} (hts : ∀ w ∈ wsL_law, w.before args s = true) (hR : 2 + 1 ≤ R.frames ∧ 8 + (4 + 11) + 43 ≤ R.locals) : CallW R s args RX8 RX8 108 yX8_suits cX8_suits 4 (some .boolean) (wsU yX8_suits cX8_suits 4 (some .boolean)) rX8_suits 0 0 3 := cwV 3 hts (fgV (wm wl_9 (i := 23) rfl) (wm wl_10 (i := 0) rfl) (wm wl_10 (i := 1) rfl) (wm wl_1 (i := 5) rfl) (wm wl_10 (i := 2) rfl)) rfl rfl rfl (by decide +kernel) hR
theorem lk_RX8_111 {R : Room} {s : State} {args : Array Value} (hts : ∀ w ∈ wsL_law, w.before args s = true) (hR : 0 + 1 ≤ R.frames ∧ 8 + (6 + 11) + 0 ≤ R.locals) : CallW R s args RX8 RX8 111 yX8_tells cX8_tells 6 (some .int) (wsU yX8_tells cX8_tells 6 (some .int)) rX8_tells 0 0 4 := cwV 4 hts (fgV (wm wl_10 (i := 3) rfl) (wm wl_10 (i := 4) rfl) (wm wl_10 (i := 5) rfl) (wm wl_1 (i := 5) rfl) (wm wl_10 (i := 6) rfl)) rfl rfl rfl (by decide +kernel) hR
theorem lk_RX8_121 {R : Room} {s : State} {args : Array Value} (hts : ∀ w ∈ wsL_law, w.before args s = true) (hR : 2 + 1 ≤ R.frames ∧ 8 + (1 + 11) + 44 ≤ R.locals) : CallW R s args RX8 RX8 121 yX8_readsRumour cX8_readsRumour 1 (some .boolean) (wsU yX8_readsRumour cX8_readsRumour 1 (some .boolean)) rX8_readsRumour 0 0 0 := cwV 0 hts (fgV (wm wl_16 (i := 22) rfl) (wm wl_16 (i := 23) rfl) (wm wl_17 (i := 0) rfl) (wm wl_1 (i := 5) rfl) (wm wl_17 (i := 1) rfl)) rfl rfl rfl (by decide +kernel) hR
theorem lk_RX8_125 {R : Room} {s : State} {args : Array Value} (hts : ∀ w ∈ wsL_law, w.before args s = true) (hR : 1 + 1 ≤ R.frames ∧ 8 + (3 + 11) + 21 ≤ R.locals) : CallW R s args RX8 RX8 125 yX8_isNext cX8_isNext 3 (some .boolean) (wsU yX8_isNext cX8_isNext 3 (some .boolean)) rX8_isNext 0 0 1 := cwV 1 hts (fgV (wm wl_17 (i := 10) rfl) (wm wl_17 (i := 11) rfl) (wm wl_17 (i := 12) rfl) (wm wl_1 (i := 5) rfl) (wm wl_17 (i := 13) rfl)) rfl rfl rfl (by decide +kernel) hR
theorem lk_RX8_140 {R : Room} {s : State} {args : Array Value} (hts : ∀ w ∈ wsL_law, w.before args s = true) (hR : 3 + 1 ≤ R.frames ∧ 8 + (1 + 11) + 64 ≤ R.locals) : CallW R s args RX8 RX8 140 yX8_findFault cX8_findFault 1 (some .int) (wsU yX8_findFault cX8_findFault 1 (some .int)) rX8_findFault 0 0 0 := cwV 0 hts (fgV (wm wl_16 (i := 18) rfl) (wm wl_16 (i := 19) rfl) (wm wl_16 (i := 20) rfl) (wm wl_1 (i := 5) rfl) (wm wl_16 (i := 21) rfl)) rfl rfl rfl (by decide +kernel) hR
theorem lk_RX8_143 {R : Room} {s : State} {args : Array Value} (hts : ∀ w ∈ wsL_law, w.before args s = true) (hR : 3 + 1 ≤ R.frames ∧ 8 + (4 + 11) + 66 ≤ R.locals) : CallW R s args RX8 RX8 143 yX8_lookThrough cX8_lookThrough 4 (some .int) (wsU yX8_lookThrough cX8_lookThrough 4 (some .int)) rX8_lookThrough 0 0 0 := cwV 0 hts (fgV (wm wl_17 (i := 18) rfl) (wm wl_17 (i := 19) rfl) (wm wl_17 (i := 20) rfl) (wm wl_1 (i := 5) rfl) (wm wl_17 (i := 21) rfl)) rfl rfl rfl (by decide +kernel) hR
theorem lk_RX8_146 {R : Room} {s : State} {args : Array Value} (hts : ∀ w ∈ wsL_law, w.before args s = true) (hR : 1 + 1 ≤ R.frames ∧ 8 + (2 + 11) + 22 ≤ R.locals) : CallW R s args RX8 RX8 146 yX8_isRumour cX8_isRumour 2 (some .boolean) (wsU yX8_isRumour cX8_isRumour 2 (some .boolean)) rX8_isRumour 0 0 1 := cwV 1 hts (fgV (wm wl_20 (i := 11) rfl) (wm wl_20 (i := 12) rfl) (wm wl_20 (i := 13) rfl) (wm wl_1 (i := 5) rfl) (wm wl_20 (i := 14) rfl)) rfl rfl rfl (by decide +kernel) hR
theorem lk_RX8_149 {R : Room} {s : State} {args : Array Value} (hts : ∀ w ∈ wsL_law, w.before args s = true) (hR : 0 + 1 ≤ R.frames ∧ 8 + (3 + 11) + 0 ≤ R.locals) : CallW R s args RX8 RX8 149 yX8_setHow cX8_setHow 3 none (wsU yX8_setHow cX8_setHow 3 none) rX8_setHow 0 0 2 := cwV 2 hts (fgV (wm wl_20 (i := 23) rfl) (wm wl_21 (i := 0) rfl) (wm wl_21 (i := 1) rfl) (wm wl_1 (i := 5) rfl) (wm wl_21 (i := 2) rfl)) rfl rfl rfl (by decide +kernel) hR
theorem lk_RX8_153 {R : Room} {s : State} {args : Array Value} (hts : ∀ w ∈ wsL_law, w.before args s = true) (hR : 5 + 1 ≤ R.frames ∧ 8 + (1 + 11) + 113 ≤ R.locals) : CallW R s args RX8 RX8 153 yX8_worldsNow cX8_worldsNow 1 (some .int) (wsU yX8_worldsNow cX8_worldsNow 1 (some .int)) rX8_worldsNow 0 0 0 := cwV 0 hts (fgV (wm wl_21 (i := 3) rfl) (wm wl_21 (i := 4) rfl) (wm wl_21 (i := 5) rfl) (wm wl_1 (i := 5) rfl) (wm wl_21 (i := 6) rfl)) rfl rfl rfl (by decide +kernel) hR
theorem lk_RX8_156 {R : Room} {s : State} {args : Array Value} (hts : ∀ w ∈ wsL_law, w.before args s = true) (hR : 3 + 1 ≤ R.frames ∧ 8 + (2 + 11) + 67 ≤ R.locals) : CallW R s args RX8 RX8 156 yX8_isTrue cX8_isTrue 2 (some .boolean) (wsU yX8_isTrue cX8_isTrue 2 (some .boolean)) rX8_isTrue 0 0 1 := cwV 1 hts (fgV (wm wl_23 (i := 12) rfl) (wm wl_23 (i := 13) rfl) (wm wl_23 (i := 14) rfl) (wm wl_1 (i := 5) rfl) (wm wl_23 (i := 15) rfl)) rfl rfl rfl (by decide +kernel) hR
theorem lk_RX8_159 {R : Room} {s : State} {args : Array Value} (hts : ∀ w ∈ wsL_law, w.before args s = true) (hR : 0 + 1 ≤ R.frames ∧ 8 + (4 + 11) + 0 ≤ R.locals) : CallW R s args RX8 RX8 159 yX8_certainBox cX8_certainBox 4 (some .int) (wsU yX8_certainBox cX8_certainBox 4 (some .int)) rX8_certainBox 0 0 1 := cwV 1 hts (fgV (wm wl_25 (i := 5) rfl) (wm wl_25 (i := 6) rfl) (wm wl_25 (i := 7) rfl) (wm wl_1 (i := 5) rfl) (wm wl_25 (i := 8) rfl)) rfl rfl rfl (by decide +kernel) hR
theorem lk_RX8_162 {R : Room} {s : State} {args : Array Value} (hts : ∀ w ∈ wsL_law, w.before args s = true) (hR : 4 + 1 ≤ R.frames ∧ 8 + (5 + 11) + 88 ≤ R.locals) : CallW R s args RX8 RX8 162 yX8_told cX8_told 5 (some .int) (wsU yX8_told cX8_told 5 (some .int)) rX8_told 0 0 2 := cwV 2 hts (fgV (wm wl_26 (i := 22) rfl) (wm wl_26 (i := 23) rfl) (wm wl_27 (i := 0) rfl) (wm wl_1 (i := 5) rfl) (wm wl_27 (i := 1) rfl)) rfl rfl rfl (by decide +kernel) hR
theorem lk_RX8_166 {R : Room} {s : State} {args : Array Value} (hts : ∀ w ∈ wsL_law, w.before args s = true) (hR : 2 + 1 ≤ R.frames ∧ 8 + (3 + 11) + 43 ≤ R.locals) : CallW R s args RX8 RX8 166 yX8_openMany cX8_openMany 3 (some .int) (wsU yX8_openMany cX8_openMany 3 (some .int)) rX8_openMany 0 0 0 := cwV 0 hts (fgV (wm wl_29 (i := 0) rfl) (wm wl_29 (i := 1) rfl) (wm wl_29 (i := 2) rfl) (wm wl_1 (i := 5) rfl) (wm wl_29 (i := 3) rfl)) rfl rfl rfl (by decide +kernel) hR
theorem lk_RX8_169 {R : Room} {s : State} {args : Array Value} (hts : ∀ w ∈ wsL_law, w.before args s = true) (hR : 4 + 1 ≤ R.frames ∧ 8 + (1 + 11) + 90 ≤ R.locals) : CallW R s args RX8 RX8 169 yX8_isTruthPossible cX8_isTruthPossible 1 (some .boolean) (wsU yX8_isTruthPossible cX8_isTruthPossible 1 (some .boolean)) rX8_isTruthPossible 0 0 0 := cwV 0 hts (fgV (wm wl_29 (i := 4) rfl) (wm wl_29 (i := 5) rfl) (wm wl_29 (i := 6) rfl) (wm wl_1 (i := 5) rfl) (wm wl_29 (i := 7) rfl)) rfl rfl rfl (by decide +kernel) hR
theorem lk_RX8_172 {R : Room} {s : State} {args : Array Value} (hts : ∀ w ∈ wsL_law, w.before args s = true) (hR : 5 + 1 ≤ R.frames ∧ 8 + (3 + 11) + 113 ≤ R.locals) : CallW R s args RX8 RX8 172 yX8_certainPersons cX8_certainPersons 3 (some .int) (wsU yX8_certainPersons cX8_certainPersons 3 (some .int)) rX8_certainPersons 0 0 0 := cwV 0 hts (fgV (wm wl_29 (i := 8) rfl) (wm wl_29 (i := 9) rfl) (wm wl_29 (i := 10) rfl) (wm wl_1 (i := 5) rfl) (wm wl_29 (i := 11) rfl)) rfl rfl rfl (by decide +kernel) hR
theorem lk_RX8_175 {R : Room} {s : State} {args : Array Value} (hts : ∀ w ∈ wsL_law, w.before args s = true) (hR : 5 + 1 ≤ R.frames ∧ 8 + (4 + 11) + 113 ≤ R.locals) : CallW R s args RX8 RX8 175 yX8_certainRumours cX8_certainRumours 4 (some .int) (wsU yX8_certainRumours cX8_certainRumours 4 (some .int)) rX8_certainRumours 0 0 1 := cwV 1 hts (fgV (wm wl_29 (i := 12) rfl) (wm wl_29 (i := 13) rfl) (wm wl_29 (i := 14) rfl) (wm wl_1 (i := 5) rfl) (wm wl_29 (i := 15) rfl)) rfl rfl rfl (by decide +kernel) hR
theorem lk_RX8_181 {R : Room} {s : State} {args : Array Value} (hts : ∀ w ∈ wsL_law, w.before args s = true) (hR : 0 + 1 ≤ R.frames ∧ 8 + (2 + 11) + 0 ≤ R.locals) : CallW R s args RX8 RX8 181 yX8_character cX8_character 2 (some .int) (wsU yX8_character cX8_character 2 (some .int)) rX8_character 0 0 1 := cwV 1 hts (fgV (wm wl_17 (i := 6) rfl) (wm wl_17 (i := 7) rfl) (wm wl_17 (i := 8) rfl) (wm wl_1 (i := 5) rfl) (wm wl_17 (i := 9) rfl)) rfl rfl rfl (by decide +kernel) hR
theorem lk_RX8_184 {R : Room} {s : State} {args : Array Value} (hts : ∀ w ∈ wsL_law, w.before args s = true) (hR : 1 + 1 ≤ R.frames ∧ 8 + (3 + 11) + 22 ≤ R.locals) : CallW R s args RX8 RX8 184 yX8_takeDigit cX8_takeDigit 3 (some .int) (wsU yX8_takeDigit cX8_takeDigit 3 (some .int)) rX8_takeDigit 0 0 1 := cwV 1 hts (fgV (wm wl_17 (i := 2) rfl) (wm wl_17 (i := 3) rfl) (wm wl_17 (i := 4) rfl) (wm wl_1 (i := 5) rfl) (wm wl_17 (i := 5) rfl)) rfl rfl rfl (by decide +kernel) hR
theorem lk_RX8_187 {R : Room} {s : State} {args : Array Value} (hts : ∀ w ∈ wsL_law, w.before args s = true) (hR : 1 + 1 ≤ R.frames ∧ 8 + (3 + 11) + 21 ≤ R.locals) : CallW R s args RX8 RX8 187 yX8_takeKind cX8_takeKind 3 (some .int) (wsU yX8_takeKind cX8_takeKind 3 (some .int)) rX8_takeKind 0 0 0 := cwV 0 hts (fgV (wm wl_17 (i := 14) rfl) (wm wl_17 (i := 15) rfl) (wm wl_17 (i := 16) rfl) (wm wl_1 (i := 5) rfl) (wm wl_17 (i := 17) rfl)) rfl rfl rfl (by decide +kernel) hR
theorem lk_RJ0_335 {R : Room} {s : State} {args : Array Value} (hts : ∀ w ∈ wsL_law, w.before args s = true) (hR : 0 + 1 ≤ R.frames ∧ 8 + (1 + 11) + 0 ≤ R.locals) : CallW R s args RJ0 RJ0 335 yJ0_coder_7d493 cJ0_coder_7d493 1 (some .byte) (wsU yJ0_coder_7d493 cJ0_coder_7d493 1 (some .byte)) rJ0_coder_7d493 0 0 0 := cwV 0 hts (fgV (wm wl_11 (i := 23) rfl) (wm wl_12 (i := 0) rfl) (wm wl_12 (i := 1) rfl) (wm wl_11 (i := 6) rfl) (wm wl_12 (i := 2) rfl)) rfl rfl rfl (by decide +kernel) hR
theorem lk_RJ0_633 {R : Room} {s : State} {args : Array Value} (hts : ∀ w ∈ wsL_law, w.before args s = true) (hR : 5 + 1 ≤ R.frames ∧ 8 + (3 + 11) + 116 ≤ R.locals) : CallW R s args RJ0 RJ0 633 yJ0_indexOf_7cf53 cJ0_indexOf_7cf53 3 (some .int) (wsU yJ0_indexOf_7cf53 cJ0_indexOf_7cf53 3 (some .int)) rJ0_indexOf_7cf53 0 0 2 := cwV 2 hts (fgV (wm wl_11 (i := 8) rfl) (wm wl_11 (i := 9) rfl) (wm wl_11 (i := 10) rfl) (wm wl_11 (i := 6) rfl) (wm wl_11 (i := 11) rfl)) rfl rfl rfl (by decide +kernel) hR
theorem lk_RJ0_492 {R : Room} {s : State} {args : Array Value} (hts : ∀ w ∈ wsL_law, w.before args s = true) (hR : 0 + 1 ≤ R.frames ∧ 8 + (1 + 11) + 0 ≤ R.locals) : CallW R s args RJ0 RJ0 492 yJ0_isLatin1_aae02 cJ0_isLatin1_aae02 1 (some .boolean) (wsU yJ0_isLatin1_aae02 cJ0_isLatin1_aae02 1 (some .boolean)) rJ0_isLatin1_aae02 0 0 0 := cwV 0 hts (fgV (wm wl_11 (i := 13) rfl) (wm wl_11 (i := 14) rfl) (wm wl_11 (i := 15) rfl) (wm wl_11 (i := 6) rfl) (wm wl_11 (i := 16) rfl)) rfl rfl rfl (by decide +kernel) hR
theorem lk_RJ0_505 {R : Room} {s : State} {args : Array Value} (hts : ∀ w ∈ wsL_law, w.before args s = true) (hR : 1 + 1 ≤ R.frames ∧ 8 + (1 + 11) + 20 ≤ R.locals) : CallW R s args RJ0 RJ0 505 yJ0_length_8abf5 cJ0_length_8abf5 1 (some .int) (wsU yJ0_length_8abf5 cJ0_length_8abf5 1 (some .int)) rJ0_length_8abf5 0 0 0 := cwV 0 hts (fgV (wm wl_11 (i := 19) rfl) (wm wl_11 (i := 20) rfl) (wm wl_11 (i := 21) rfl) (wm wl_11 (i := 6) rfl) (wm wl_11 (i := 22) rfl)) rfl rfl rfl (by decide +kernel) hR
theorem lk_RJ0_637 {R : Room} {s : State} {args : Array Value} (hts : ∀ w ∈ wsL_law, w.before args s = true) (hR : 1 + 1 ≤ R.frames ∧ 8 + (4 + 11) + 25 ≤ R.locals) : CallB R s args RJ0 637 yJ1_indexOf_4cfef cJ1_indexOf_4cfef 4 (some .int) (wsU yJ1_indexOf_4cfef cJ1_indexOf_4cfef 4 (some .int)) rJ1_indexOf_4cfef 0 0 4 ∧ (Cond.static yJ1_indexOf_4cfef).before args s = true := va_cwS 4 hts (fgS (wm wl_12 (i := 3) rfl) (wm wl_12 (i := 4) rfl) (wm wl_12 (i := 5) rfl) (wm wl_12 (i := 6) rfl)) rfl rfl rfl (by decide +kernel) hR
theorem lk_RJ0_640 {R : Room} {s : State} {args : Array Value} (hts : ∀ w ∈ wsL_law, w.before args s = true) (hR : 4 + 1 ≤ R.frames ∧ 8 + (4 + 11) + 93 ≤ R.locals) : CallB R s args RJ0 640 yJ2_indexOf_4cfef cJ2_indexOf_4cfef 4 (some .int) (wsU yJ2_indexOf_4cfef cJ2_indexOf_4cfef 4 (some .int)) rJ2_indexOf_4cfef 0 0 4 ∧ (Cond.static yJ2_indexOf_4cfef).before args s = true := va_cwS 4 hts (fgS (wm wl_12 (i := 17) rfl) (wm wl_12 (i := 18) rfl) (wm wl_12 (i := 19) rfl) (wm wl_12 (i := 20) rfl)) rfl rfl rfl (by decide +kernel) hR
theorem lk_RJ0_1062 {R : Room} {s : State} {args : Array Value} (hts : ∀ w ∈ wsL_law, w.before args s = true) (hR : 0 + 1 ≤ R.frames ∧ 8 + (4 + 11) + 0 ≤ R.locals) : CallB R s args RJ0 1062 yJ3_checkFromToIndex_8c36e cJ3_checkFromToIndex_8c36e 4 (some .int) (wsU yJ3_checkFromToIndex_8c36e cJ3_checkFromToIndex_8c36e 4 (some .int)) rJ3_checkFromToIndex_8c36e 0 0 4 ∧ (Cond.static yJ3_checkFromToIndex_8c36e).before args s = true := va_cwS 4 hts (fgS (wm wl_13 (i := 13) rfl) (wm wl_13 (i := 14) rfl) (wm wl_13 (i := 15) rfl) (wm wl_13 (i := 16) rfl)) rfl rfl rfl (by decide +kernel) hR
theorem lk_RJ1_88 {R : Room} {s : State} {args : Array Value} (hts : ∀ w ∈ wsL_law, w.before args s = true) (hR : 0 + 1 ≤ R.frames ∧ 8 + (1 + 11) + 0 ≤ R.locals) : CallB R s args RJ1 88 yJ1_canEncode_9a6ad cJ1_canEncode_9a6ad 1 (some .boolean) (wsU yJ1_canEncode_9a6ad cJ1_canEncode_9a6ad 1 (some .boolean)) rJ1_canEncode_9a6ad 0 0 1 ∧ (Cond.static yJ1_canEncode_9a6ad).before args s = true := va_cwS 1 hts (fgS (wm wl_12 (i := 11) rfl) (wm wl_12 (i := 12) rfl) (wm wl_12 (i := 5) rfl) (wm wl_12 (i := 13) rfl)) rfl rfl rfl (by decide +kernel) hR
theorem lk_RJ1_95 {R : Room} {s : State} {args : Array Value} (hts : ∀ w ∈ wsL_law, w.before args s = true) (hR : 0 + 1 ≤ R.frames ∧ 8 + (6 + 11) + 0 ≤ R.locals) : CallB R s args RJ1 95 yJ1_indexOfChar_4cfef cJ1_indexOfChar_4cfef 6 (some .int) (wsU yJ1_indexOfChar_4cfef cJ1_indexOfChar_4cfef 6 (some .int)) rJ1_indexOfChar_4cfef 0 0 4 ∧ (Cond.static yJ1_indexOfChar_4cfef).before args s = true := va_cwS 4 hts (fgS (wm wl_12 (i := 14) rfl) (wm wl_12 (i := 15) rfl) (wm wl_12 (i := 5) rfl) (wm wl_12 (i := 16) rfl)) rfl rfl rfl (by decide +kernel) hR
theorem lk_RJ2_48 {R : Room} {s : State} {args : Array Value} (hts : ∀ w ∈ wsL_law, w.before args s = true) (hR : 0 + 1 ≤ R.frames ∧ 8 + (1 + 11) + 0 ≤ R.locals) : CallB R s args RJ2 48 yJ2_length_9d52b cJ2_length_9d52b 1 (some .int) (wsU yJ2_length_9d52b cJ2_length_9d52b 1 (some .int)) rJ2_length_9d52b 0 0 1 ∧ (Cond.static yJ2_length_9d52b).before args s = true := va_cwS 1 hts (fgS (wm wl_13 (i := 6) rfl) (wm wl_13 (i := 7) rfl) (wm wl_12 (i := 19) rfl) (wm wl_13 (i := 8) rfl)) rfl rfl rfl (by decide +kernel) hR
theorem lk_RJ2_228 {R : Room} {s : State} {args : Array Value} (hts : ∀ w ∈ wsL_law, w.before args s = true) (hR : 3 + 1 ≤ R.frames ∧ 8 + (4 + 11) + 67 ≤ R.locals) : CallB R s args RJ2 228 yJ2_indexOfChar_4cfef cJ2_indexOfChar_4cfef 4 (some .int) (wsU yJ2_indexOfChar_4cfef cJ2_indexOfChar_4cfef 4 (some .int)) rJ2_indexOfChar_4cfef 0 0 4 ∧ (Cond.static yJ2_indexOfChar_4cfef).before args s = true := va_cwS 4 hts (fgS (wm wl_13 (i := 0) rfl) (wm wl_13 (i := 1) rfl) (wm wl_12 (i := 19) rfl) (wm wl_13 (i := 2) rfl)) rfl rfl rfl (by decide +kernel) hR
theorem lk_RJ2_232 {R : Room} {s : State} {args : Array Value} (hts : ∀ w ∈ wsL_law, w.before args s = true) (hR : 3 + 1 ≤ R.frames ∧ 8 + (7 + 11) + 67 ≤ R.locals) : CallB R s args RJ2 232 yJ2_indexOfSupplementary_4cfef cJ2_indexOfSupplementary_4cfef 7 (some .int) (wsU yJ2_indexOfSupplementary_4cfef cJ2_indexOfSupplementary_4cfef 7 (some .int)) rJ2_indexOfSupplementary_4cfef 0 0 4 ∧ (Cond.static yJ2_indexOfSupplementary_4cfef).before args s = true := va_cwS 4 hts (fgS (wm wl_14 (i := 2) rfl) (wm wl_14 (i := 3) rfl) (wm wl_12 (i := 19) rfl) (wm wl_14 (i := 4) rfl)) rfl rfl rfl (by decide +kernel) hR
theorem lk_RJ2_96 {R : Room} {s : State} {args : Array Value} (hts : ∀ w ∈ wsL_law, w.before args s = true) (hR : 2 + 1 ≤ R.frames ∧ 8 + (3 + 11) + 45 ≤ R.locals) : CallB R s args RJ2 96 yJ2_checkBoundsBeginEnd_d044e cJ2_checkBoundsBeginEnd_d044e 3 none (wsU yJ2_checkBoundsBeginEnd_d044e cJ2_checkBoundsBeginEnd_d044e 3 none) rJ2_checkBoundsBeginEnd_d044e 0 0 3 ∧ (Cond.static yJ2_checkBoundsBeginEnd_d044e).before args s = true := va_cwS 3 hts (fgS (wm wl_13 (i := 3) rfl) (wm wl_13 (i := 4) rfl) (wm wl_12 (i := 19) rfl) (wm wl_13 (i := 5) rfl)) rfl rfl rfl (by decide +kernel) hR
theorem lk_RJ2_244 {R : Room} {s : State} {args : Array Value} (hts : ∀ w ∈ wsL_law, w.before args s = true) (hR : 2 + 1 ≤ R.frames ∧ 8 + (5 + 11) + 41 ≤ R.locals) : CallB R s args RJ2 244 yJ2_indexOfCharUnsafe_4cfef cJ2_indexOfCharUnsafe_4cfef 5 (some .int) (wsU yJ2_indexOfCharUnsafe_4cfef cJ2_indexOfCharUnsafe_4cfef 5 (some .int)) rJ2_indexOfCharUnsafe_4cfef 0 0 4 ∧ (Cond.static yJ2_indexOfCharUnsafe_4cfef).before args s = true := va_cwS 4 hts (fgS (wm wl_13 (i := 17) rfl) (wm wl_13 (i := 18) rfl) (wm wl_12 (i := 19) rfl) (wm wl_13 (i := 19) rfl)) rfl rfl rfl (by decide +kernel) hR
theorem lk_RJ2_71 {R : Room} {s : State} {args : Array Value} (hts : ∀ w ∈ wsL_law, w.before args s = true) (hR : 1 + 1 ≤ R.frames ∧ 8 + (2 + 11) + 20 ≤ R.locals) : CallB R s args RJ2 71 yJ2_getChar_3b067 cJ2_getChar_3b067 2 (some .char) (wsU yJ2_getChar_3b067 cJ2_getChar_3b067 2 (some .char)) rJ2_getChar_3b067 0 0 2 ∧ (Cond.static yJ2_getChar_3b067).before args s = true := va_cwS 2 hts (fgS (wm wl_13 (i := 20) rfl) (wm wl_13 (i := 21) rfl) (wm wl_12 (i := 19) rfl) (wm wl_13 (i := 22) rfl)) rfl rfl rfl (by decide +kernel) hR
theorem lk_RJ2_164 {R : Room} {s : State} {args : Array Value} (hts : ∀ w ∈ wsL_law, w.before args s = true) (hR : 0 + 1 ≤ R.frames ∧ 8 + (2 + 11) + 0 ≤ R.locals) : CallB R s args RJ2 164 yJ11_isValidCodePoint_9a6ad cJ11_isValidCodePoint_9a6ad 2 (some .boolean) (wsU yJ11_isValidCodePoint_9a6ad cJ11_isValidCodePoint_9a6ad 2 (some .boolean)) rJ11_isValidCodePoint_9a6ad 0 0 1 ∧ (Cond.static yJ11_isValidCodePoint_9a6ad).before args s = true := va_cwS 1 hts (fgS (wm wl_14 (i := 5) rfl) (wm wl_14 (i := 6) rfl) (wm wl_14 (i := 7) rfl) (wm wl_14 (i := 8) rfl)) rfl rfl rfl (by decide +kernel) hR
theorem lk_RJ2_157 {R : Room} {s : State} {args : Array Value} (hts : ∀ w ∈ wsL_law, w.before args s = true) (hR : 0 + 1 ≤ R.frames ∧ 8 + (1 + 11) + 0 ≤ R.locals) : CallB R s args RJ2 157 yJ11_highSurrogate_5068e cJ11_highSurrogate_5068e 1 (some .char) (wsU yJ11_highSurrogate_5068e cJ11_highSurrogate_5068e 1 (some .char)) rJ11_highSurrogate_5068e 0 0 1 ∧ (Cond.static yJ11_highSurrogate_5068e).before args s = true := va_cwS 1 hts (fgS (wm wl_14 (i := 9) rfl) (wm wl_14 (i := 10) rfl) (wm wl_14 (i := 7) rfl) (wm wl_14 (i := 11) rfl)) rfl rfl rfl (by decide +kernel) hR
theorem lk_RJ2_161 {R : Room} {s : State} {args : Array Value} (hts : ∀ w ∈ wsL_law, w.before args s = true) (hR : 0 + 1 ≤ R.frames ∧ 8 + (1 + 11) + 0 ≤ R.locals) : CallB R s args RJ2 161 yJ11_lowSurrogate_5068e cJ11_lowSurrogate_5068e 1 (some .char) (wsU yJ11_lowSurrogate_5068e cJ11_lowSurrogate_5068e 1 (some .char)) rJ11_lowSurrogate_5068e 0 0 1 ∧ (Cond.static yJ11_lowSurrogate_5068e).before args s = true := va_cwS 1 hts (fgS (wm wl_14 (i := 13) rfl) (wm wl_14 (i := 14) rfl) (wm wl_14 (i := 7) rfl) (wm wl_14 (i := 15) rfl)) rfl rfl rfl (by decide +kernel) hR
theorem lk_RJ2_241 {R : Room} {s : State} {args : Array Value} (hts : ∀ w ∈ wsL_law, w.before args s = true) (hR : 1 + 1 ≤ R.frames ∧ 8 + (3 + 11) + 23 ≤ R.locals) : CallB R s args RJ2 241 yJ0_checkBoundsBeginEnd_23922 cJ0_checkBoundsBeginEnd_23922 3 none (wsU yJ0_checkBoundsBeginEnd_23922 cJ0_checkBoundsBeginEnd_23922 3 none) rJ0_checkBoundsBeginEnd_23922 0 0 3 ∧ (Cond.static yJ0_checkBoundsBeginEnd_23922).before args s = true := va_cwS 3 hts (fgS (wm wl_13 (i := 9) rfl) (wm wl_13 (i := 10) rfl) (wm wl_11 (i := 6) rfl) (wm wl_13 (i := 11) rfl)) rfl rfl rfl (by decide +kernel) hR
theorem lk_RL_9 {R : Room} {s : State} {args : Array Value} (hts : ∀ w ∈ wsL_law, w.before args s = true) (hR : 4 + 1 ≤ R.frames ∧ 8 + (1 + 11) + 74 ≤ R.locals) : CallB R s args RL 9 yX7_init cX7_init 1 none (wsU yX7_init cX7_init 1 none) rX7_init 238 1477 0 ∧ yX7_init.name = "<init>" ∧ (Cond.instanceMethod yX7_init).before args s = true := cwI 0 hts (fgood (wm wl_1 (i := 9) rfl)) rfl rfl rfl (hts _ (wm wl_1 (i := 2) rfl)) (hts _ (wm wl_1 (i := 7) rfl)) (hts _ (wm wl_1 (i := 8) rfl)) rfl (by decide +kernel) hR
theorem lk_RL_12 {R : Room} {s : State} {args : Array Value} (hts : ∀ w ∈ wsL_law, w.before args s = true) (hR : 1 + 1 ≤ R.frames ∧ 8 + (1 + 11) + 22 ≤ R.locals) : CallB R s args RL 12 yX8_init cX8_init 1 none (wsU yX8_init cX8_init 1 none) rX8_init 9 1233 0 ∧ yX8_init.name = "<init>" ∧ (Cond.instanceMethod yX8_init).before args s = true := cwI 0 hts (fgood (wm wl_4 (i := 22) rfl)) rfl rfl rfl (hts _ (wm wl_1 (i := 5) rfl)) (hts _ (wm wl_4 (i := 20) rfl)) (hts _ (wm wl_4 (i := 21) rfl)) rfl (by decide +kernel) hR
theorem lk_RL_13 {R : Room} {s : State} {args : Array Value} (hts : ∀ w ∈ wsL_law, w.before args s = true) (hR : 5 + 1 ≤ R.frames ∧ 8 + (3 + 11) + 111 ≤ R.locals) : CallW R s args RL RX7 13 yX7_open cX7_open 3 (some .int) (wsU yX7_open cX7_open 3 (some .int)) rX7_open 0 0 1 := cwV 1 hts (fgV (wm wl_5 (i := 13) rfl) (wm wl_5 (i := 14) rfl) (wm wl_5 (i := 15) rfl) (wm wl_1 (i := 2) rfl) (wm wl_5 (i := 16) rfl)) rfl rfl rfl (by decide +kernel) hR
theorem lk_RL_17 {R : Room} {s : State} {args : Array Value} (hts : ∀ w ∈ wsL_law, w.before args s = true) (hR : 2 + 1 ≤ R.frames ∧ 8 + (3 + 11) + 45 ≤ R.locals) : CallW R s args RL RX8 17 yX8_open cX8_open 3 (some .int) (wsU yX8_open cX8_open 3 (some .int)) rX8_open 0 0 1 := cwV 1 hts (fgV (wm wl_7 (i := 11) rfl) (wm wl_7 (i := 12) rfl) (wm wl_7 (i := 13) rfl) (wm wl_1 (i := 5) rfl) (wm wl_7 (i := 14) rfl)) rfl rfl rfl (by decide +kernel) hR
theorem lk_RL_18 {R : Room} {s : State} {args : Array Value} (hts : ∀ w ∈ wsL_law, w.before args s = true) (hR : 5 + 1 ≤ R.frames ∧ 8 + (4 + 11) + 111 ≤ R.locals) : CallW R s args RL RX7 18 yX7_look cX7_look 4 (some .int) (wsU yX7_look cX7_look 4 (some .int)) rX7_look 0 0 2 := cwV 2 hts (fgV (wm wl_8 (i := 2) rfl) (wm wl_8 (i := 3) rfl) (wm wl_8 (i := 4) rfl) (wm wl_1 (i := 2) rfl) (wm wl_8 (i := 5) rfl)) rfl rfl rfl (by decide +kernel) hR
theorem lk_RL_22 {R : Room} {s : State} {args : Array Value} (hts : ∀ w ∈ wsL_law, w.before args s = true) (hR : 2 + 1 ≤ R.frames ∧ 8 + (4 + 11) + 45 ≤ R.locals) : CallW R s args RL RX8 22 yX8_look cX8_look 4 (some .int) (wsU yX8_look cX8_look 4 (some .int)) rX8_look 0 0 2 := cwV 2 hts (fgV (wm wl_8 (i := 16) rfl) (wm wl_8 (i := 17) rfl) (wm wl_8 (i := 18) rfl) (wm wl_1 (i := 5) rfl) (wm wl_8 (i := 19) rfl)) rfl rfl rfl (by decide +kernel) hR
theorem lk_RL_23 {R : Room} {s : State} {args : Array Value} (hts : ∀ w ∈ wsL_law, w.before args s = true) (hR : 5 + 1 ≤ R.frames ∧ 8 + (5 + 11) + 111 ≤ R.locals) : CallW R s args RL RX7 23 yX7_tell cX7_tell 5 (some .int) (wsU yX7_tell cX7_tell 5 (some .int)) rX7_tell 0 0 4 := cwV 4 hts (fgV (wm wl_9 (i := 0) rfl) (wm wl_9 (i := 1) rfl) (wm wl_9 (i := 2) rfl) (wm wl_1 (i := 2) rfl) (wm wl_9 (i := 3) rfl)) rfl rfl rfl (by decide +kernel) hR
theorem lk_RL_27 {R : Room} {s : State} {args : Array Value} (hts : ∀ w ∈ wsL_law, w.before args s = true) (hR : 3 + 1 ≤ R.frames ∧ 8 + (5 + 11) + 66 ≤ R.locals) : CallW R s args RL RX8 27 yX8_tell cX8_tell 5 (some .int) (wsU yX8_tell cX8_tell 5 (some .int)) rX8_tell 0 0 4 := cwV 4 hts (fgV (wm wl_9 (i := 19) rfl) (wm wl_9 (i := 20) rfl) (wm wl_9 (i := 21) rfl) (wm wl_1 (i := 5) rfl) (wm wl_9 (i := 22) rfl)) rfl rfl rfl (by decide +kernel) hR
theorem lk_RL_28 {R : Room} {s : State} {args : Array Value} (hts : ∀ w ∈ wsL_law, w.before args s = true) (hR : 9 + 1 ≤ R.frames ∧ 8 + (3 + 11) + 202 ≤ R.locals) : CallW R s args RL RX7 28 yX7_tellAll cX7_tellAll 3 (some .int) (wsU yX7_tellAll cX7_tellAll 3 (some .int)) rX7_tellAll 0 0 0 := cwV 0 hts (fgV (wm wl_10 (i := 7) rfl) (wm wl_10 (i := 8) rfl) (wm wl_10 (i := 9) rfl) (wm wl_1 (i := 2) rfl) (wm wl_10 (i := 10) rfl)) rfl rfl rfl (by decide +kernel) hR
theorem lk_RL_32 {R : Room} {s : State} {args : Array Value} (hts : ∀ w ∈ wsL_law, w.before args s = true) (hR : 4 + 1 ≤ R.frames ∧ 8 + (2 + 11) + 89 ≤ R.locals) : CallW R s args RL RX8 32 yX8_tellAll cX8_tellAll 2 (some .int) (wsU yX8_tellAll cX8_tellAll 2 (some .int)) rX8_tellAll 0 0 0 := cwV 0 hts (fgV (wm wl_16 (i := 8) rfl) (wm wl_16 (i := 9) rfl) (wm wl_16 (i := 10) rfl) (wm wl_1 (i := 5) rfl) (wm wl_16 (i := 11) rfl)) rfl rfl rfl (by decide +kernel) hR
theorem lk_RL_33 {R : Room} {s : State} {args : Array Value} (hts : ∀ w ∈ wsL_law, w.before args s = true) (hR : 6 + 1 ≤ R.frames ∧ 8 + (4 + 11) + 133 ≤ R.locals) : CallW R s args RL RX7 33 yX7_prove cX7_prove 4 (some .int) (wsU yX7_prove cX7_prove 4 (some .int)) rX7_prove 0 0 2 := cwV 2 hts (fgV (wm wl_17 (i := 22) rfl) (wm wl_17 (i := 23) rfl) (wm wl_18 (i := 0) rfl) (wm wl_1 (i := 2) rfl) (wm wl_18 (i := 1) rfl)) rfl rfl rfl (by decide +kernel) hR
theorem lk_RL_37 {R : Room} {s : State} {args : Array Value} (hts : ∀ w ∈ wsL_law, w.before args s = true) (hR : 6 + 1 ≤ R.frames ∧ 8 + (3 + 11) + 133 ≤ R.locals) : CallW R s args RL RX8 37 yX8_prove cX8_prove 3 (some .int) (wsU yX8_prove cX8_prove 3 (some .int)) rX8_prove 0 0 2 := cwV 2 hts (fgV (wm wl_20 (i := 7) rfl) (wm wl_20 (i := 8) rfl) (wm wl_20 (i := 9) rfl) (wm wl_1 (i := 5) rfl) (wm wl_20 (i := 10) rfl)) rfl rfl rfl (by decide +kernel) hR
theorem lk_RL_38 {R : Room} {s : State} {args : Array Value} (hts : ∀ w ∈ wsL_law, w.before args s = true) (hR : 5 + 1 ≤ R.frames ∧ 8 + (1 + 11) + 111 ≤ R.locals) : CallW R s args RL RX7 38 yX7_reveal cX7_reveal 1 (some .int) (wsU yX7_reveal cX7_reveal 1 (some .int)) rX7_reveal 0 0 0 := cwV 0 hts (fgV (wm wl_22 (i := 22) rfl) (wm wl_22 (i := 23) rfl) (wm wl_23 (i := 0) rfl) (wm wl_1 (i := 2) rfl) (wm wl_23 (i := 1) rfl)) rfl rfl rfl (by decide +kernel) hR
theorem lk_RL_41 {R : Room} {s : State} {args : Array Value} (hts : ∀ w ∈ wsL_law, w.before args s = true) (hR : 4 + 1 ≤ R.frames ∧ 8 + (3 + 11) + 88 ≤ R.locals) : CallW R s args RL RX8 41 yX8_reveal cX8_reveal 3 (some .int) (wsU yX8_reveal cX8_reveal 3 (some .int)) rX8_reveal 0 0 0 := cwV 0 hts (fgV (wm wl_23 (i := 8) rfl) (wm wl_23 (i := 9) rfl) (wm wl_23 (i := 10) rfl) (wm wl_1 (i := 5) rfl) (wm wl_23 (i := 11) rfl)) rfl rfl rfl (by decide +kernel) hR
theorem lk_RL_42 {R : Room} {s : State} {args : Array Value} (hts : ∀ w ∈ wsL_law, w.before args s = true) (hR : 6 + 1 ≤ R.frames ∧ 8 + (3 + 11) + 133 ≤ R.locals) : CallW R s args RL RX7 42 yX7_doubt cX7_doubt 3 (some .int) (wsU yX7_doubt cX7_doubt 3 (some .int)) rX7_doubt 0 0 1 := cwV 1 hts (fgV (wm wl_23 (i := 20) rfl) (wm wl_23 (i := 21) rfl) (wm wl_23 (i := 22) rfl) (wm wl_1 (i := 2) rfl) (wm wl_23 (i := 23) rfl)) rfl rfl rfl (by decide +kernel) hR
theorem lk_RL_45 {R : Room} {s : State} {args : Array Value} (hts : ∀ w ∈ wsL_law, w.before args s = true) (hR : 6 + 1 ≤ R.frames ∧ 8 + (2 + 11) + 133 ≤ R.locals) : CallW R s args RL RX8 45 yX8_doubt cX8_doubt 2 (some .int) (wsU yX8_doubt cX8_doubt 2 (some .int)) rX8_doubt 0 0 1 := cwV 1 hts (fgV (wm wl_24 (i := 0) rfl) (wm wl_24 (i := 1) rfl) (wm wl_24 (i := 2) rfl) (wm wl_1 (i := 5) rfl) (wm wl_24 (i := 3) rfl)) rfl rfl rfl (by decide +kernel) hR
theorem lk_RL_46 {R : Room} {s : State} {args : Array Value} (hts : ∀ w ∈ wsL_law, w.before args s = true) (hR : 6 + 1 ≤ R.frames ∧ 8 + (5 + 11) + 133 ≤ R.locals) : CallW R s args RL RX7 46 yX7_guess cX7_guess 5 (some .int) (wsU yX7_guess cX7_guess 5 (some .int)) rX7_guess 0 0 3 := cwV 3 hts (fgV (wm wl_24 (i := 4) rfl) (wm wl_24 (i := 5) rfl) (wm wl_24 (i := 6) rfl) (wm wl_1 (i := 2) rfl) (wm wl_24 (i := 7) rfl)) rfl rfl rfl (by decide +kernel) hR
theorem lk_RL_50 {R : Room} {s : State} {args : Array Value} (hts : ∀ w ∈ wsL_law, w.before args s = true) (hR : 5 + 1 ≤ R.frames ∧ 8 + (7 + 11) + 113 ≤ R.locals) : CallW R s args RL RX8 50 yX8_guess cX8_guess 7 (some .int) (wsU yX8_guess cX8_guess 7 (some .int)) rX8_guess 0 0 3 := cwV 3 hts (fgV (wm wl_25 (i := 1) rfl) (wm wl_25 (i := 2) rfl) (wm wl_25 (i := 3) rfl) (wm wl_1 (i := 5) rfl) (wm wl_25 (i := 4) rfl)) rfl rfl rfl (by decide +kernel) hR
theorem lk_RL_51 {R : Room} {s : State} {args : Array Value} (hts : ∀ w ∈ wsL_law, w.before args s = true) (hR : 5 + 1 ≤ R.frames ∧ 8 + (1 + 11) + 111 ≤ R.locals) : CallW R s args RL RX7 51 yX7_endAct cX7_endAct 1 (some .int) (wsU yX7_endAct cX7_endAct 1 (some .int)) rX7_endAct 0 0 0 := cwV 0 hts (fgV (wm wl_25 (i := 9) rfl) (wm wl_25 (i := 10) rfl) (wm wl_25 (i := 11) rfl) (wm wl_1 (i := 2) rfl) (wm wl_25 (i := 12) rfl)) rfl rfl rfl (by decide +kernel) hR
theorem lk_RL_54 {R : Room} {s : State} {args : Array Value} (hts : ∀ w ∈ wsL_law, w.before args s = true) (hR : 4 + 1 ≤ R.frames ∧ 8 + (2 + 11) + 88 ≤ R.locals) : CallW R s args RL RX8 54 yX8_endAct cX8_endAct 2 (some .int) (wsU yX8_endAct cX8_endAct 2 (some .int)) rX8_endAct 0 0 0 := cwV 0 hts (fgV (wm wl_26 (i := 1) rfl) (wm wl_26 (i := 2) rfl) (wm wl_26 (i := 3) rfl) (wm wl_1 (i := 5) rfl) (wm wl_26 (i := 4) rfl)) rfl rfl rfl (by decide +kernel) hR
theorem lk_RL_55 {R : Room} {s : State} {args : Array Value} (hts : ∀ w ∈ wsL_law, w.before args s = true) (hR : 4 + 1 ≤ R.frames ∧ 8 + (3 + 11) + 90 ≤ R.locals) : CallW R s args RL RX7 55 yX7_person cX7_person 3 (some .int) (wsU yX7_person cX7_person 3 (some .int)) rX7_person 0 0 2 := cwV 2 hts (fgV (wm wl_26 (i := 5) rfl) (wm wl_26 (i := 6) rfl) (wm wl_26 (i := 7) rfl) (wm wl_1 (i := 2) rfl) (wm wl_26 (i := 8) rfl)) rfl rfl rfl (by decide +kernel) hR
theorem lk_RL_58 {R : Room} {s : State} {args : Array Value} (hts : ∀ w ∈ wsL_law, w.before args s = true) (hR : 5 + 1 ≤ R.frames ∧ 8 + (3 + 11) + 112 ≤ R.locals) : CallW R s args RL RX8 58 yX8_person cX8_person 3 (some .int) (wsU yX8_person cX8_person 3 (some .int)) rX8_person 0 0 2 := cwV 2 hts (fgV (wm wl_26 (i := 18) rfl) (wm wl_26 (i := 19) rfl) (wm wl_26 (i := 20) rfl) (wm wl_1 (i := 5) rfl) (wm wl_26 (i := 21) rfl)) rfl rfl rfl (by decide +kernel) hR
theorem lk_RL_59 {R : Room} {s : State} {args : Array Value} (hts : ∀ w ∈ wsL_law, w.before args s = true) (hR : 6 + 1 ≤ R.frames ∧ 8 + (4 + 11) + 133 ≤ R.locals) : CallW R s args RL RX7 59 yX7_rumour cX7_rumour 4 (some .int) (wsU yX7_rumour cX7_rumour 4 (some .int)) rX7_rumour 0 0 2 := cwV 2 hts (fgV (wm wl_27 (i := 2) rfl) (wm wl_27 (i := 3) rfl) (wm wl_27 (i := 4) rfl) (wm wl_1 (i := 2) rfl) (wm wl_27 (i := 5) rfl)) rfl rfl rfl (by decide +kernel) hR
theorem lk_RL_62 {R : Room} {s : State} {args : Array Value} (hts : ∀ w ∈ wsL_law, w.before args s = true) (hR : 5 + 1 ≤ R.frames ∧ 8 + (3 + 11) + 113 ≤ R.locals) : CallW R s args RL RX8 62 yX8_rumour cX8_rumour 3 (some .int) (wsU yX8_rumour cX8_rumour 3 (some .int)) rX8_rumour 0 0 2 := cwV 2 hts (fgV (wm wl_27 (i := 7) rfl) (wm wl_27 (i := 8) rfl) (wm wl_27 (i := 9) rfl) (wm wl_1 (i := 5) rfl) (wm wl_27 (i := 10) rfl)) rfl rfl rfl (by decide +kernel) hR
theorem lk_RL_63 {R : Room} {s : State} {args : Array Value} (hts : ∀ w ∈ wsL_law, w.before args s = true) (hR : 6 + 1 ≤ R.frames ∧ 8 + (2 + 11) + 133 ≤ R.locals) : CallW R s args RL RX7 63 yX7_count cX7_count 2 (some .int) (wsU yX7_count cX7_count 2 (some .int)) rX7_count 0 0 1 := cwV 1 hts (fgV (wm wl_27 (i := 11) rfl) (wm wl_27 (i := 12) rfl) (wm wl_27 (i := 13) rfl) (wm wl_1 (i := 2) rfl) (wm wl_27 (i := 14) rfl)) rfl rfl rfl (by decide +kernel) hR
theorem lk_RL_66 {R : Room} {s : State} {args : Array Value} (hts : ∀ w ∈ wsL_law, w.before args s = true) (hR : 6 + 1 ≤ R.frames ∧ 8 + (2 + 11) + 136 ≤ R.locals) : CallW R s args RL RX8 66 yX8_count cX8_count 2 (some .int) (wsU yX8_count cX8_count 2 (some .int)) rX8_count 0 0 1 := cwV 1 hts (fgV (wm wl_28 (i := 20) rfl) (wm wl_28 (i := 21) rfl) (wm wl_28 (i := 22) rfl) (wm wl_1 (i := 5) rfl) (wm wl_28 (i := 23) rfl)) rfl rfl rfl (by decide +kernel) hR
theorem lk_RL_67 {R : Room} {s : State} {args : Array Value} (hts : ∀ w ∈ wsL_law, w.before args s = true) (hR : 6 + 1 ≤ R.frames ∧ 8 + (3 + 11) + 133 ≤ R.locals) : CallW R s args RL RX7 67 yX7_possible cX7_possible 3 (some .int) (wsU yX7_possible cX7_possible 3 (some .int)) rX7_possible 0 0 2 := cwV 2 hts (fgV (wm wl_29 (i := 16) rfl) (wm wl_29 (i := 17) rfl) (wm wl_29 (i := 18) rfl) (wm wl_1 (i := 2) rfl) (wm wl_29 (i := 19) rfl)) rfl rfl rfl (by decide +kernel) hR
theorem lk_RL_70 {R : Room} {s : State} {args : Array Value} (hts : ∀ w ∈ wsL_law, w.before args s = true) (hR : 5 + 1 ≤ R.frames ∧ 8 + (3 + 11) + 113 ≤ R.locals) : CallW R s args RL RX8 70 yX8_possible cX8_possible 3 (some .int) (wsU yX8_possible cX8_possible 3 (some .int)) rX8_possible 0 0 2 := cwV 2 hts (fgV (wm wl_29 (i := 20) rfl) (wm wl_29 (i := 21) rfl) (wm wl_29 (i := 22) rfl) (wm wl_1 (i := 5) rfl) (wm wl_29 (i := 23) rfl)) rfl rfl rfl (by decide +kernel) hR
theorem lk_RL_71 {R : Room} {s : State} {args : Array Value} (hts : ∀ w ∈ wsL_law, w.before args s = true) (hR : 6 + 1 ≤ R.frames ∧ 8 + (2 + 11) + 133 ≤ R.locals) : CallW R s args RL RX7 71 yX7_certain cX7_certain 2 (some .int) (wsU yX7_certain cX7_certain 2 (some .int)) rX7_certain 0 0 1 := cwV 1 hts (fgV (wm wl_30 (i := 0) rfl) (wm wl_30 (i := 1) rfl) (wm wl_30 (i := 2) rfl) (wm wl_1 (i := 2) rfl) (wm wl_30 (i := 3) rfl)) rfl rfl rfl (by decide +kernel) hR
theorem lk_RL_74 {R : Room} {s : State} {args : Array Value} (hts : ∀ w ∈ wsL_law, w.before args s = true) (hR : 5 + 1 ≤ R.frames ∧ 8 + (2 + 11) + 113 ≤ R.locals) : CallW R s args RL RX8 74 yX8_certain cX8_certain 2 (some .int) (wsU yX8_certain cX8_certain 2 (some .int)) rX8_certain 0 0 1 := cwV 1 hts (fgV (wm wl_30 (i := 5) rfl) (wm wl_30 (i := 6) rfl) (wm wl_30 (i := 7) rfl) (wm wl_1 (i := 5) rfl) (wm wl_30 (i := 8) rfl)) rfl rfl rfl (by decide +kernel) hR
theorem lk_RL_75 {R : Room} {s : State} {args : Array Value} (hts : ∀ w ∈ wsL_law, w.before args s = true) (hR : 5 + 1 ≤ R.frames ∧ 8 + (3 + 11) + 115 ≤ R.locals) : CallW R s args RL RX7 75 yX7_world cX7_world 3 (some .int) (wsU yX7_world cX7_world 3 (some .int)) rX7_world 0 0 2 := cwV 2 hts (fgV (wm wl_30 (i := 9) rfl) (wm wl_30 (i := 10) rfl) (wm wl_30 (i := 11) rfl) (wm wl_1 (i := 2) rfl) (wm wl_30 (i := 12) rfl)) rfl rfl rfl (by decide +kernel) hR
theorem lk_RL_78 {R : Room} {s : State} {args : Array Value} (hts : ∀ w ∈ wsL_law, w.before args s = true) (hR : 4 + 1 ≤ R.frames ∧ 8 + (7 + 11) + 90 ≤ R.locals) : CallW R s args RL RX8 78 yX8_world cX8_world 7 (some .int) (wsU yX8_world cX8_world 7 (some .int)) rX8_world 0 0 2 := cwV 2 hts (fgV (wm wl_30 (i := 17) rfl) (wm wl_30 (i := 18) rfl) (wm wl_30 (i := 19) rfl) (wm wl_1 (i := 5) rfl) (wm wl_30 (i := 20) rfl)) rfl rfl rfl (by decide +kernel) hR
theorem lk_RL_79 {R : Room} {s : State} {args : Array Value} (hts : ∀ w ∈ wsL_law, w.before args s = true) (hR : 5 + 1 ≤ R.frames ∧ 8 + (4 + 11) + 116 ≤ R.locals) : CallW R s args RL RX7 79 yX7_ifProved cX7_ifProved 4 (some .int) (wsU yX7_ifProved cX7_ifProved 4 (some .int)) rX7_ifProved 0 0 3 := cwV 3 hts (fgV (wm wl_30 (i := 21) rfl) (wm wl_30 (i := 22) rfl) (wm wl_30 (i := 23) rfl) (wm wl_1 (i := 2) rfl) (wm wl_31 (i := 0) rfl)) rfl rfl rfl (by decide +kernel) hR
theorem lk_RL_82 {R : Room} {s : State} {args : Array Value} (hts : ∀ w ∈ wsL_law, w.before args s = true) (hR : 4 + 1 ≤ R.frames ∧ 8 + (7 + 11) + 90 ≤ R.locals) : CallW R s args RL RX8 82 yX8_ifProved cX8_ifProved 7 (some .int) (wsU yX8_ifProved cX8_ifProved 7 (some .int)) rX8_ifProved 0 0 3 := cwV 3 hts (fgV (wm wl_31 (i := 6) rfl) (wm wl_31 (i := 7) rfl) (wm wl_31 (i := 8) rfl) (wm wl_1 (i := 5) rfl) (wm wl_31 (i := 9) rfl)) rfl rfl rfl (by decide +kernel) hR
theorem lk_RL_83 {R : Room} {s : State} {args : Array Value} (hts : ∀ w ∈ wsL_law, w.before args s = true) (hR : 6 + 1 ≤ R.frames ∧ 8 + (3 + 11) + 133 ≤ R.locals) : CallW R s args RL RX7 83 yX7_sharpest cX7_sharpest 3 (some .int) (wsU yX7_sharpest cX7_sharpest 3 (some .int)) rX7_sharpest 0 0 1 := cwV 1 hts (fgV (wm wl_31 (i := 10) rfl) (wm wl_31 (i := 11) rfl) (wm wl_31 (i := 12) rfl) (wm wl_1 (i := 2) rfl) (wm wl_31 (i := 13) rfl)) rfl rfl rfl (by decide +kernel) hR
theorem lk_RL_86 {R : Room} {s : State} {args : Array Value} (hts : ∀ w ∈ wsL_law, w.before args s = true) (hR : 5 + 1 ≤ R.frames ∧ 8 + (7 + 11) + 113 ≤ R.locals) : CallW R s args RL RX8 86 yX8_sharpest cX8_sharpest 7 (some .int) (wsU yX8_sharpest cX8_sharpest 7 (some .int)) rX8_sharpest 0 0 1 := cwV 1 hts (fgV (wm wl_32 (i := 0) rfl) (wm wl_32 (i := 1) rfl) (wm wl_32 (i := 2) rfl) (wm wl_1 (i := 5) rfl) (wm wl_32 (i := 3) rfl)) rfl rfl rfl (by decide +kernel) hR
theorem lk_RL_87 {R : Room} {s : State} {args : Array Value} (hts : ∀ w ∈ wsL_law, w.before args s = true) (hR : 6 + 1 ≤ R.frames ∧ 8 + (3 + 11) + 133 ≤ R.locals) : CallW R s args RL RX7 87 yX7_blame cX7_blame 3 (some .int) (wsU yX7_blame cX7_blame 3 (some .int)) rX7_blame 0 0 1 := cwV 1 hts (fgV (wm wl_32 (i := 4) rfl) (wm wl_32 (i := 5) rfl) (wm wl_32 (i := 6) rfl) (wm wl_1 (i := 2) rfl) (wm wl_32 (i := 7) rfl)) rfl rfl rfl (by decide +kernel) hR
theorem lk_RL_90 {R : Room} {s : State} {args : Array Value} (hts : ∀ w ∈ wsL_law, w.before args s = true) (hR : 5 + 1 ≤ R.frames ∧ 8 + (6 + 11) + 113 ≤ R.locals) : CallW R s args RL RX8 90 yX8_blame cX8_blame 6 (some .int) (wsU yX8_blame cX8_blame 6 (some .int)) rX8_blame 0 0 1 := cwV 1 hts (fgV (wm wl_32 (i := 12) rfl) (wm wl_32 (i := 13) rfl) (wm wl_32 (i := 14) rfl) (wm wl_1 (i := 5) rfl) (wm wl_32 (i := 15) rfl)) rfl rfl rfl (by decide +kernel) hR
theorem lk_RL_91 {R : Room} {s : State} {args : Array Value} (hts : ∀ w ∈ wsL_law, w.before args s = true) (hR : 5 + 1 ≤ R.frames ∧ 8 + (2 + 11) + 113 ≤ R.locals) : CallW R s args RL RX7 91 yX7_mostWatched cX7_mostWatched 2 (some .int) (wsU yX7_mostWatched cX7_mostWatched 2 (some .int)) rX7_mostWatched 0 0 1 := cwV 1 hts (fgV (wm wl_32 (i := 16) rfl) (wm wl_32 (i := 17) rfl) (wm wl_32 (i := 18) rfl) (wm wl_1 (i := 2) rfl) (wm wl_32 (i := 19) rfl)) rfl rfl rfl (by decide +kernel) hR
theorem lk_RL_94 {R : Room} {s : State} {args : Array Value} (hts : ∀ w ∈ wsL_law, w.before args s = true) (hR : 5 + 1 ≤ R.frames ∧ 8 + (2 + 11) + 113 ≤ R.locals) : CallW R s args RL RX8 94 yX8_mostWatched cX8_mostWatched 2 (some .int) (wsU yX8_mostWatched cX8_mostWatched 2 (some .int)) rX8_mostWatched 0 0 1 := cwV 1 hts (fgV (wm wl_33 (i := 6) rfl) (wm wl_33 (i := 7) rfl) (wm wl_33 (i := 8) rfl) (wm wl_1 (i := 5) rfl) (wm wl_33 (i := 9) rfl)) rfl rfl rfl (by decide +kernel) hR
theorem lk_RL_97 {R : Room} {s : State} {args : Array Value} (hts : ∀ w ∈ wsL_law, w.before args s = true) (hR : 1 + 1 ≤ R.frames ∧ 8 + (5 + 11) + 26 ≤ R.locals) : CallW R s args RL RX7 97 yX7_put cX7_put 5 (some .int) (wsU yX7_put cX7_put 5 (some .int)) rX7_put 0 0 1 := cwV 1 hts (fgV (wm wl_33 (i := 10) rfl) (wm wl_33 (i := 11) rfl) (wm wl_33 (i := 12) rfl) (wm wl_1 (i := 2) rfl) (wm wl_33 (i := 13) rfl)) rfl rfl rfl (by decide +kernel) hR
theorem lk_RL_101 {R : Room} {s : State} {args : Array Value} (hts : ∀ w ∈ wsL_law, w.before args s = true) (hR : 1 + 1 ≤ R.frames ∧ 8 + (8 + 11) + 22 ≤ R.locals) : CallW R s args RL RX8 101 yX8_put cX8_put 8 (some .int) (wsU yX8_put cX8_put 8 (some .int)) rX8_put 0 0 1 := cwV 1 hts (fgV (wm wl_34 (i := 0) rfl) (wm wl_34 (i := 1) rfl) (wm wl_34 (i := 2) rfl) (wm wl_1 (i := 5) rfl) (wm wl_34 (i := 3) rfl)) rfl rfl rfl (by decide +kernel) hR
theorem lk_RL_102 {R : Room} {s : State} {args : Array Value} (hts : ∀ w ∈ wsL_law, w.before args s = true) (hR : 1 + 1 ≤ R.frames ∧ 8 + (2 + 11) + 20 ≤ R.locals) : CallW R s args RL RX7 102 yX7_wipe cX7_wipe 2 (some .int) (wsU yX7_wipe cX7_wipe 2 (some .int)) rX7_wipe 0 0 0 := cwV 0 hts (fgV (wm wl_34 (i := 5) rfl) (wm wl_34 (i := 6) rfl) (wm wl_34 (i := 7) rfl) (wm wl_1 (i := 2) rfl) (wm wl_34 (i := 8) rfl)) rfl rfl rfl (by decide +kernel) hR
theorem lk_RL_105 {R : Room} {s : State} {args : Array Value} (hts : ∀ w ∈ wsL_law, w.before args s = true) (hR : 0 + 1 ≤ R.frames ∧ 8 + (2 + 11) + 0 ≤ R.locals) : CallW R s args RL RX8 105 yX8_wipe cX8_wipe 2 (some .int) (wsU yX8_wipe cX8_wipe 2 (some .int)) rX8_wipe 0 0 0 := cwV 0 hts (fgV (wm wl_34 (i := 9) rfl) (wm wl_34 (i := 10) rfl) (wm wl_34 (i := 11) rfl) (wm wl_1 (i := 5) rfl) (wm wl_34 (i := 12) rfl)) rfl rfl rfl (by decide +kernel) hR
theorem lk_RL_106 {R : Room} {s : State} {args : Array Value} (hts : ∀ w ∈ wsL_law, w.before args s = true) (hR : 9 + 1 ≤ R.frames ∧ 8 + (1 + 11) + 202 ≤ R.locals) : CallW R s args RL RX7 106 yX7_fault cX7_fault 1 (some .int) (wsU yX7_fault cX7_fault 1 (some .int)) rX7_fault 0 0 0 := cwV 0 hts (fgV (wm wl_34 (i := 13) rfl) (wm wl_34 (i := 14) rfl) (wm wl_34 (i := 15) rfl) (wm wl_1 (i := 2) rfl) (wm wl_34 (i := 16) rfl)) rfl rfl rfl (by decide +kernel) hR
theorem lk_RL_109 {R : Room} {s : State} {args : Array Value} (hts : ∀ w ∈ wsL_law, w.before args s = true) (hR : 4 + 1 ≤ R.frames ∧ 8 + (1 + 11) + 84 ≤ R.locals) : CallW R s args RL RX8 109 yX8_fault cX8_fault 1 (some .int) (wsU yX8_fault cX8_fault 1 (some .int)) rX8_fault 0 0 0 := cwV 0 hts (fgV (wm wl_34 (i := 17) rfl) (wm wl_34 (i := 18) rfl) (wm wl_34 (i := 19) rfl) (wm wl_1 (i := 5) rfl) (wm wl_34 (i := 20) rfl)) rfl rfl rfl (by decide +kernel) hR
theorem lk_RL_110 {R : Room} {s : State} {args : Array Value} (hts : ∀ w ∈ wsL_law, w.before args s = true) (hR : 4 + 1 ≤ R.frames ∧ 8 + (1 + 11) + 92 ≤ R.locals) : CallW R s args RL RX7 110 yX7_undo cX7_undo 1 (some .int) (wsU yX7_undo cX7_undo 1 (some .int)) rX7_undo 0 0 0 := cwV 0 hts (fgV (wm wl_34 (i := 21) rfl) (wm wl_34 (i := 22) rfl) (wm wl_34 (i := 23) rfl) (wm wl_1 (i := 2) rfl) (wm wl_35 (i := 0) rfl)) rfl rfl rfl (by decide +kernel) hR
theorem lk_RL_113 {R : Room} {s : State} {args : Array Value} (hts : ∀ w ∈ wsL_law, w.before args s = true) (hR : 1 + 1 ≤ R.frames ∧ 8 + (1 + 11) + 24 ≤ R.locals) : CallW R s args RL RX8 113 yX8_undo cX8_undo 1 (some .int) (wsU yX8_undo cX8_undo 1 (some .int)) rX8_undo 0 0 0 := cwV 0 hts (fgV (wm wl_35 (i := 5) rfl) (wm wl_35 (i := 6) rfl) (wm wl_35 (i := 7) rfl) (wm wl_1 (i := 5) rfl) (wm wl_35 (i := 8) rfl)) rfl rfl rfl (by decide +kernel) hR
theorem lk_RL_114 {R : Room} {s : State} {args : Array Value} (hts : ∀ w ∈ wsL_law, w.before args s = true) (hR : 3 + 1 ≤ R.frames ∧ 8 + (3 + 11) + 69 ≤ R.locals) : CallW R s args RL RX7 114 yX7_save cX7_save 3 (some .int) (wsU yX7_save cX7_save 3 (some .int)) rX7_save 0 0 1 := cwV 1 hts (fgV (wm wl_35 (i := 9) rfl) (wm wl_35 (i := 10) rfl) (wm wl_35 (i := 11) rfl) (wm wl_1 (i := 2) rfl) (wm wl_35 (i := 12) rfl)) rfl rfl rfl (by decide +kernel) hR
theorem lk_RL_117 {R : Room} {s : State} {args : Array Value} (hts : ∀ w ∈ wsL_law, w.before args s = true) (hR : 1 + 1 ≤ R.frames ∧ 8 + (2 + 11) + 24 ≤ R.locals) : CallW R s args RL RX8 117 yX8_save cX8_save 2 (some .int) (wsU yX8_save cX8_save 2 (some .int)) rX8_save 0 0 1 := cwV 1 hts (fgV (wm wl_35 (i := 18) rfl) (wm wl_35 (i := 19) rfl) (wm wl_35 (i := 20) rfl) (wm wl_1 (i := 5) rfl) (wm wl_35 (i := 21) rfl)) rfl rfl rfl (by decide +kernel) hR
theorem lk_RL_118 {R : Room} {s : State} {args : Array Value} (hts : ∀ w ∈ wsL_law, w.before args s = true) (hR : 5 + 1 ≤ R.frames ∧ 8 + (3 + 11) + 111 ≤ R.locals) : CallW R s args RL RX7 118 yX7_restore cX7_restore 3 (some .int) (wsU yX7_restore cX7_restore 3 (some .int)) rX7_restore 0 0 1 := cwV 1 hts (fgV (wm wl_35 (i := 22) rfl) (wm wl_35 (i := 23) rfl) (wm wl_36 (i := 0) rfl) (wm wl_1 (i := 2) rfl) (wm wl_36 (i := 1) rfl)) rfl rfl rfl (by decide +kernel) hR
theorem lk_RL_121 {R : Room} {s : State} {args : Array Value} (hts : ∀ w ∈ wsL_law, w.before args s = true) (hR : 2 + 1 ≤ R.frames ∧ 8 + (2 + 11) + 45 ≤ R.locals) : CallW R s args RL RX8 121 yX8_restore cX8_restore 2 (some .int) (wsU yX8_restore cX8_restore 2 (some .int)) rX8_restore 0 0 1 := cwV 1 hts (fgV (wm wl_36 (i := 2) rfl) (wm wl_36 (i := 3) rfl) (wm wl_36 (i := 4) rfl) (wm wl_1 (i := 5) rfl) (wm wl_36 (i := 5) rfl)) rfl rfl rfl (by decide +kernel) hR
end
section
/-! conditions over numbers -/
def bI (P : Prop) [Decidable P] : Int32 := if P then nI 1 else nI 0
theorem bI_t {P : Prop} [Decidable P] (h : P) : nI 1 = bI P := (if_pos h).symm
theorem bI_f {P : Prop} [Decidable P] (h : ¬ P) : nI 0 = bI P := (if_neg h).symm
theorem bI_or (P : Prop) [Decidable P] : bI P = nI 0 ∨ bI P = nI 1 := by
  unfold bI; by_cases h : P
  · right; rw [if_pos h]
  · left; rw [if_neg h]
theorem fb_0 {r : Int32} {P : Prop} [Decidable P] (h : r = bI P) : r = 0 ↔ ¬ P := by
  subst h; unfold bI; by_cases hp : P
  · rw [if_pos hp]; exact ⟨fun q => absurd q (by decide), fun q => absurd hp q⟩
  · rw [if_neg hp]; exact ⟨fun _ => hp, fun _ => rfl⟩
theorem fb_1 {r : Int32} {P : Prop} [Decidable P] (h : r = bI P) : ¬ r = 0 ↔ P := by
  rw [fb_0 h]; exact Decidable.not_not
theorem fb_n {r : Int32} {P : Prop} [Decidable P] (h : r = bI P) : narrow .boolean (.int r) = .int r := by
  rcases bI_or P with q | q <;> rw [h, q] <;> rfl
theorem fi0 : (0 : Int32).toInt = 0 := rfl
theorem fz_lt {x : Int32} : x < 0 ↔ x.toInt < 0 := by rw [Int32.lt_iff_toInt_lt, fi0]
theorem fz_ge {x : Int32} : 0 ≤ x ↔ 0 ≤ x.toInt := by rw [Int32.le_iff_toInt_le, fi0]
theorem fz_gt {x : Int32} : 0 < x ↔ 0 < x.toInt := by rw [Int32.lt_iff_toInt_lt, fi0]
theorem fz_le {x : Int32} : x ≤ 0 ↔ x.toInt ≤ 0 := by rw [Int32.le_iff_toInt_le, fi0]
theorem fz_eq {x : Int32} : x = 0 ↔ x.toInt = 0 := by rw [← Int32.toInt_inj, fi0]
theorem fz_ltN {a : Nat} (h : a < 2147483648) : nI a < 0 ↔ a < 0 := by rw [fz_lt, nI_toInt h]; omega
theorem fz_geN {a : Nat} (h : a < 2147483648) : 0 ≤ nI a ↔ 0 ≤ a := by rw [fz_ge, nI_toInt h]; omega
theorem fz_gtN {a : Nat} (h : a < 2147483648) : 0 < nI a ↔ 0 < a := by rw [fz_gt, nI_toInt h]; omega
theorem fz_leN {a : Nat} (h : a < 2147483648) : nI a ≤ 0 ↔ a ≤ 0 := by rw [fz_le, nI_toInt h]; omega
theorem fz_eqN {a : Nat} (h : a < 2147483648) : nI a = 0 ↔ a = 0 := by rw [fz_eq, nI_toInt h]; omega
theorem fn_lt {x : Int32} {b : Nat} (h : b < 2147483648) : x < nI b ↔ x.toInt < (b : Int) := by rw [Int32.lt_iff_toInt_lt, nI_toInt h]
theorem fn_ge {x : Int32} {b : Nat} (h : b < 2147483648) : nI b ≤ x ↔ (b : Int) ≤ x.toInt := by rw [Int32.le_iff_toInt_le, nI_toInt h]
theorem fn_gt {x : Int32} {b : Nat} (h : b < 2147483648) : nI b < x ↔ (b : Int) < x.toInt := by rw [Int32.lt_iff_toInt_lt, nI_toInt h]
theorem fn_le {x : Int32} {b : Nat} (h : b < 2147483648) : x ≤ nI b ↔ x.toInt ≤ (b : Int) := by rw [Int32.le_iff_toInt_le, nI_toInt h]
theorem fn_eq {x : Int32} {b : Nat} (h : b < 2147483648) : x = nI b ↔ x.toInt = (b : Int) := by rw [← Int32.toInt_inj, nI_toInt h]
theorem fm_lt {y : Int32} {a : Nat} (h : a < 2147483648) : nI a < y ↔ (a : Int) < y.toInt := fn_gt h
theorem fm_ge {y : Int32} {a : Nat} (h : a < 2147483648) : y ≤ nI a ↔ y.toInt ≤ (a : Int) := fn_le h
theorem fm_gt {y : Int32} {a : Nat} (h : a < 2147483648) : y < nI a ↔ y.toInt < (a : Int) := fn_lt h
theorem fm_le {y : Int32} {a : Nat} (h : a < 2147483648) : nI a ≤ y ↔ (a : Int) ≤ y.toInt := fn_ge h
theorem fm_eq {y : Int32} {a : Nat} (h : a < 2147483648) : nI a = y ↔ (a : Int) = y.toInt := by rw [← Int32.toInt_inj, nI_toInt h]
theorem fin_of {i : Int32} {n : Nat} (h0 : 0 ≤ i.toInt) (h1 : i.toInt < (n : Int)) : vp_in i n := vp_in_iff.mpr ⟨h0, h1⟩
theorem fex {x : Int32} {n : Nat} (h0 : 0 ≤ x.toInt) (h1 : x.toInt < (n : Int)) : ∃ j : Nat, j < n ∧ x = nI j := by
  have h3 := Int32.toInt_lt x
  refine ⟨x.toInt.toNat, by omega, ?_⟩
  apply Int32.toInt_inj.mp
  rw [nI_toInt (by omega)]
  omega
theorem fcl {x : Int32} (h0 : 0 ≤ x.toInt) : x.toNatClampNeg = x.toInt.toNat := rfl
/-! loops -/
section FL
variable {p : Program} {l : Launch} {e : Env} {R : Room} {s : State} {m : MethodId} {args : Array Value} {below : List Frame} {meth : Method} {c : Code} {H : Heap} {locs : List Loc} {cells slots : Nat} {Q : State → Prop}
variable {head : Nat} {g : fG} {N : Nat}
theorem fs_indP {St : Type} (I : St → Array Slot → Prop) (mu : St → Nat)
    (step : ∀ (st : St) (ls : Array Slot) (locs : List Loc), I st ls → va_S (fB g) s.heap H locs → (∀ (st2 : St) (ls2 : Array Slot) (locs2 : List Loc), mu st2 < mu st → I st2 ls2 → va_S (fB g) s.heap H locs2 → W p l e R s m args below meth c H locs2 cells slots Q (F0 m head ls2 [])) → W p l e R s m args below meth c H locs cells slots Q (F0 m head ls [])) :
    ∀ (st : St) (ls : Array Slot) (locs : List Loc), I st ls → va_S (fB g) s.heap H locs → W p l e R s m args below meth c H locs cells slots Q (F0 m head ls []) := by
  have key : ∀ (n : Nat) (st : St) (ls : Array Slot) (locs : List Loc), mu st < n → I st ls → va_S (fB g) s.heap H locs → W p l e R s m args below meth c H locs cells slots Q (F0 m head ls []) := by
    intro n
    induction n with
    | zero => intro st ls locs h; exact absurd h (Nat.not_lt_zero _)
    | succ n ih => intro st ls locs h hI hS; exact step st ls locs hI hS (fun st2 ls2 locs2 h2 hI2 hS2 => ih st2 ls2 locs2 (by omega) hI2 hS2)
  exact fun st ls locs hI hS => key (mu st + 1) st ls locs (by omega) hI hS
theorem fs_ind {St : Type} (I : St → (Nat → va_E) → Array Slot → Prop) (mu : St → Nat)
    (step : ∀ (st : St) (ct : Nat → va_E) (H : Heap) (ls : Array Slot) (locs : List Loc), I st ct ls → fP g N ct H → va_S (fB g) s.heap H locs → (∀ (st2 : St) (ct2 : Nat → va_E) (H2 : Heap) (ls2 : Array Slot) (locs2 : List Loc), mu st2 < mu st → I st2 ct2 ls2 → fP g N ct2 H2 → va_S (fB g) s.heap H2 locs2 → W p l e R s m args below meth c H2 locs2 cells slots Q (F0 m head ls2 [])) → W p l e R s m args below meth c H locs cells slots Q (F0 m head ls [])) :
    ∀ (st : St) (ct : Nat → va_E) (H : Heap) (ls : Array Slot) (locs : List Loc), I st ct ls → fP g N ct H → va_S (fB g) s.heap H locs → W p l e R s m args below meth c H locs cells slots Q (F0 m head ls []) := by
  have key : ∀ (n : Nat) (st : St) (ct : Nat → va_E) (H : Heap) (ls : Array Slot) (locs : List Loc), mu st < n → I st ct ls → fP g N ct H → va_S (fB g) s.heap H locs → W p l e R s m args below meth c H locs cells slots Q (F0 m head ls []) := by
    intro n
    induction n with
    | zero => intro st ct H ls locs h; exact absurd h (Nat.not_lt_zero _)
    | succ n ih => intro st ct H ls locs h hI hP hS; exact step st ct H ls locs hI hP hS (fun st2 ct2 H2 ls2 locs2 h2 hI2 hP2 hS2 => ih st2 ct2 H2 ls2 locs2 (by omega) hI2 hP2 hS2)
  exact fun st ct H ls locs hI hP hS => key (mu st + 1) st ct H ls locs (by omega) hI hP hS
end FL
/-! counts -/
def cN (p : Nat → Bool) : Nat → Nat
  | 0 => 0
  | m + 1 => cN p m + if p m then 1 else 0
theorem cN_succ (p : Nat → Bool) (m : Nat) : cN p (m + 1) = cN p m + if p m then 1 else 0 := rfl
theorem cN_t {p : Nat → Bool} {m : Nat} (h : p m = true) : cN p (m + 1) = cN p m + 1 := by rw [cN_succ, if_pos h]
theorem cN_f {p : Nat → Bool} {m : Nat} (h : p m = false) : cN p (m + 1) = cN p m := by rw [cN_succ, h]; rfl
theorem cN_le (p : Nat → Bool) (m : Nat) : cN p m ≤ m := by
  induction m with
  | zero => exact Nat.le_refl 0
  | succ m ih => rw [cN_succ]; split <;> omega
theorem cN_cong {p q : Nat → Bool} {m : Nat} (h : ∀ i, i < m → p i = q i) : cN p m = cN q m := by
  induction m with
  | zero => rfl
  | succ m ih => rw [cN_succ, cN_succ, ih (fun i hi => h i (by omega)), h m (by omega)]
theorem cN_zero {p : Nat → Bool} {m : Nat} (h : ∀ i, i < m → p i = false) : cN p m = 0 := by
  induction m with
  | zero => rfl
  | succ m ih => rw [cN_f (h m (by omega)), ih (fun i hi => h i (by omega))]
theorem cN_pos {p : Nat → Bool} {m i : Nat} (hi : i < m) (h : p i = true) : 0 < cN p m := by
  induction m with
  | zero => omega
  | succ m ih =>
    by_cases e : i = m
    · subst e; rw [cN_t h]; omega
    · have := ih (by omega); rw [cN_succ]; omega
theorem upd_eq (f : Nat → Int32) (k : Nat) (x : Int32) : upd f k x k = x := by simp [upd]
theorem upd_ne {f : Nat → Int32} {k j : Nat} {x : Int32} (h : j ≠ k) : upd f k x j = f j := by simp [upd, h]
end
section

theorem fu_fu (ct : Nat → va_E) (k : Nat) (a b : va_E) : fu (fu ct k a) k b = fu ct k b := by funext j; unfold fu; split <;> rfl
theorem fu_same {ct : Nat → va_E} {k : Nat} {a : va_E} (h : ct k = a) : fu ct k a = ct := by
  funext j; unfold fu; split
  · rename_i e; rw [e, h]
  · rfl
/-- a row's value at an index, or -1 -/
def atF (n : Nat) (f : Nat → Int32) (i : Int32) : Int32 := if 0 ≤ i.toInt ∧ i.toInt < (n : Int) then f i.toNatClampNeg else -1
theorem atF_in {n j : Nat} {f : Nat → Int32} (h : j < n) (hn : n < 2147483648) : atF n f (nI j) = f j := by
  unfold atF; rw [nI_toInt (by omega), if_pos (by omega), nI_clamp (by omega)]
theorem atF_out {n : Nat} {f : Nat → Int32} {i : Int32} (h : i.toInt < 0 ∨ (n : Int) ≤ i.toInt) : atF n f i = -1 := by
  unfold atF; rw [if_neg (by omega)]
/-- a row with another value at an index, if it is there -/
def stF (n : Nat) (f : Nat → Int32) (i x : Int32) : Nat → Int32 := if 0 ≤ i.toInt ∧ i.toInt < (n : Int) then upd f i.toNatClampNeg x else f
theorem stF_in {n j : Nat} {f : Nat → Int32} {x : Int32} (h : j < n) (hn : n < 2147483648) : stF n f (nI j) x = upd f j x := by
  unfold stF; rw [nI_toInt (by omega), if_pos (by omega), nI_clamp (by omega)]
theorem stF_out {n : Nat} {f : Nat → Int32} {i x : Int32} (h : i.toInt < 0 ∨ (n : Int) ≤ i.toInt) : stF n f i x = f := by
  unfold stF; rw [if_neg (by omega)]
def cpF (m : Nat) (f1 f2 : Nat → Int32) : Nat → Int32 := fun j => if j < m then f1 j else f2 j
theorem cpF_0 (f1 f2 : Nat → Int32) : cpF 0 f1 f2 = f2 := by funext j; simp [cpF]
theorem cpF_s (m : Nat) (f1 f2 : Nat → Int32) : upd (cpF m f1 f2) m (f1 m) = cpF (m + 1) f1 f2 := by
  funext j; unfold upd cpF
  by_cases h : j = m
  · subst h; simp
  · rw [if_neg h]
    by_cases h2 : j < m
    · rw [if_pos h2, if_pos (by omega)]
    · rw [if_neg h2, if_neg (by omega)]
theorem cpF_in {m j : Nat} {f1 f2 : Nat → Int32} (h : j < m) : cpF m f1 f2 j = f1 j := by simp [cpF, h]

set_option maxRecDepth 100000 in
set_option maxHeartbeats 4000000 in
theorem c_X7_at (l : Launch) (g : fG) (N : Nat) (ct : Nat → va_E) (k n : Nat) (f : Nat → Int32) (i : Int32) (hn : n < 2147483648) (hk : k < N) (hc : ct k = .inl (fcI g, n, .inl f)) : Met l yX7_at (wsU yX7_at cX7_at 2 (some .int)) rX7_at (fPre g N ct [.ref (fa g k), .int i]) (fQpi (fun r => r = atF n f i)) 0 0 (fB g) := by
  refine fs_start (own := RX7) (lv0 := [(0, .ref (fa g k)), (1, .int i)]) (by decide) rfl (Nat.le_of_ble_eq_true rfl) rfl ?_
  intro p e s m args below meth c ls E hr hlk hnm hP hl hS
  have hx := E.1.1
  have hb := E.1.2.1
  refine lv_iload_n hx hb dX7_at_0 rfl (lv_at hl 1 rfl) ?_
  refine lv_if_lt (tgt := 16) hx hb dX7_at_1 (by decide) (fun c_1 => ?_) (fun c_1 => ?_)
  · rw [fz_lt] at c_1
    refine lv_iconst (v := (-1)) hx hb dX7_at_16 (by decide) ?_
    refine fs_piret E hr hlk hS dX7_at_17 ?_
    exact (atF_out (by omega)).symm
  · rw [fz_lt] at c_1
    refine lv_iload_n hx hb dX7_at_4 rfl (lv_at hl 1 rfl) ?_
    refine lv_aload_n hx hb dX7_at_5 rfl (lv_at hl 0 rfl) ?_
    refine fs_alenI E hP (k := k) hc hk dX7_at_6 ?_
    refine lv_icmp_ge (tgt := 16) hx hb dX7_at_7 (by decide) (fun c_7 => ?_) (fun c_7 => ?_)
    · rw [fn_ge (by omega)] at c_7
      refine lv_iconst (v := (-1)) hx hb dX7_at_16 (by decide) ?_
      refine fs_piret E hr hlk hS dX7_at_17 ?_
      exact (atF_out (by omega)).symm
    · rw [fn_ge (by omega)] at c_7
      refine lv_aload_n hx hb dX7_at_10 rfl (lv_at hl 0 rfl) ?_
      refine lv_iload_n hx hb dX7_at_11 rfl (lv_at hl 1 rfl) ?_
      refine fs_iald E hP (k := k) hc hk (fin_of (by omega) (by omega)) dX7_at_12 ?_
      refine lv_goto (tgt := 17) hx hb dX7_at_13 (by decide) ?_
      refine fs_piret E hr hlk hS dX7_at_17 ?_
      exact (if_pos (by omega)).symm

set_option maxRecDepth 100000 in
set_option maxHeartbeats 4000000 in
theorem c_X7_setAt (l : Launch) (g : fG) (N : Nat) (ct : Nat → va_E) (k n : Nat) (f : Nat → Int32) (i x : Int32) (hn : n < 2147483648) (hk : k < N) (hc : ct k = .inl (fcI g, n, .inl f)) : Met l yX7_setAt (wsU yX7_setAt cX7_setAt 3 none) rX7_setAt (fPre g N ct [.ref (fa g k), .int i, .int x]) (fQv g N (fun ct1 => ct1 = fu ct k (.inl (fcI g, n, .inl (stF n f i x))))) 0 0 (fB g) := by
  refine fs_start (own := RX7) (lv0 := [(0, .ref (fa g k)), (1, .int i), (2, .int x)]) (by decide) rfl (Nat.le_of_ble_eq_true rfl) rfl ?_
  intro p e s m args below meth c ls E hr hlk hnm hP hl hS
  have hx := E.1.1
  have hb := E.1.2.1
  refine lv_iload_n hx hb dX7_setAt_0 rfl (lv_at hl 1 rfl) ?_
  refine lv_if_lt (tgt := 14) hx hb dX7_setAt_1 (by decide) (fun c_1 => ?_) (fun c_1 => ?_)
  · rw [fz_lt] at c_1
    refine fs_vret E hr hlk hP hS dX7_setAt_14 ?_
    rw [stF_out (by omega), fu_same hc]
  · rw [fz_lt] at c_1
    refine lv_iload_n hx hb dX7_setAt_4 rfl (lv_at hl 1 rfl) ?_
    refine lv_aload_n hx hb dX7_setAt_5 rfl (lv_at hl 0 rfl) ?_
    refine fs_alenI E hP (k := k) hc hk dX7_setAt_6 ?_
    refine lv_icmp_ge (tgt := 14) hx hb dX7_setAt_7 (by decide) (fun c_7 => ?_) (fun c_7 => ?_)
    · rw [fn_ge (by omega)] at c_7
      refine fs_vret E hr hlk hP hS dX7_setAt_14 ?_
      rw [stF_out (by omega), fu_same hc]
    · rw [fn_ge (by omega)] at c_7
      refine lv_aload_n hx hb dX7_setAt_10 rfl (lv_at hl 0 rfl) ?_
      refine lv_iload_n hx hb dX7_setAt_11 rfl (lv_at hl 1 rfl) ?_
      refine lv_iload_n hx hb dX7_setAt_12 rfl (lv_at hl 2 rfl) ?_
      refine fs_iast E hP hS (k := k) hc hk (fin_of (by omega) (by omega)) dX7_setAt_13 (fun ct_1 H locs q_2 hP hS => ?_)
      have h_3 : ct_1 k = .inl (fcI g, n, .inl (upd f i.toNatClampNeg x)) := by rw [q_2]; exact fu_eq _ _ _
      refine fs_vret E hr hlk hP hS dX7_setAt_14 ?_
      rw [q_2, stF, if_pos (by omega)]

set_option maxRecDepth 100000 in
set_option maxHeartbeats 4000000 in
theorem c_X7_addAt (l : Launch) (g : fG) (N : Nat) (ct : Nat → va_E) (k n : Nat) (f : Nat → Int32) (i x : Int32) (hn : n < 2147483648) (hk : k < N) (hc : ct k = .inl (fcI g, n, .inl f)) : Met l yX7_addAt (wsU yX7_addAt cX7_addAt 3 none) rX7_addAt (fPre g N ct [.ref (fa g k), .int i, .int x]) (fQv g N (fun ct1 => ct1 = fu ct k (.inl (fcI g, n, .inl (stF n f i (f i.toNatClampNeg + x)))))) 0 0 (fB g) := by
  refine fs_start (own := RX7) (lv0 := [(0, .ref (fa g k)), (1, .int i), (2, .int x)]) (by decide) rfl (Nat.le_of_ble_eq_true rfl) rfl ?_
  intro p e s m args below meth c ls E hr hlk hnm hP hl hS
  have hx := E.1.1
  have hb := E.1.2.1
  refine lv_iload_n hx hb dX7_addAt_0 rfl (lv_at hl 1 rfl) ?_
  refine lv_if_lt (tgt := 17) hx hb dX7_addAt_1 (by decide) (fun c_1 => ?_) (fun c_1 => ?_)
  · rw [fz_lt] at c_1
    refine fs_vret E hr hlk hP hS dX7_addAt_17 ?_
    rw [stF_out (by omega), fu_same hc]
  · rw [fz_lt] at c_1
    refine lv_iload_n hx hb dX7_addAt_4 rfl (lv_at hl 1 rfl) ?_
    refine lv_aload_n hx hb dX7_addAt_5 rfl (lv_at hl 0 rfl) ?_
    refine fs_alenI E hP (k := k) hc hk dX7_addAt_6 ?_
    refine lv_icmp_ge (tgt := 17) hx hb dX7_addAt_7 (by decide) (fun c_7 => ?_) (fun c_7 => ?_)
    · rw [fn_ge (by omega)] at c_7
      refine fs_vret E hr hlk hP hS dX7_addAt_17 ?_
      rw [stF_out (by omega), fu_same hc]
    · rw [fn_ge (by omega)] at c_7
      refine lv_aload_n hx hb dX7_addAt_10 rfl (lv_at hl 0 rfl) ?_
      refine lv_iload_n hx hb dX7_addAt_11 rfl (lv_at hl 1 rfl) ?_
      refine lv_dup2_11 hx hb dX7_addAt_12 rfl rfl ?_
      refine fs_iald E hP (k := k) hc hk (fin_of (by omega) (by omega)) dX7_addAt_13 ?_
      refine lv_iload_n hx hb dX7_addAt_14 rfl (lv_at hl 2 rfl) ?_
      refine lv_iadd hx hb dX7_addAt_15 ?_
      refine fs_iast E hP hS (k := k) hc hk (fin_of (by omega) (by omega)) dX7_addAt_16 (fun ct_1 H locs q_2 hP hS => ?_)
      have h_3 : ct_1 k = .inl (fcI g, n, .inl (upd f i.toNatClampNeg ((f i.toNatClampNeg) + x))) := by rw [q_2]; exact fu_eq _ _ _
      refine fs_vret E hr hlk hP hS dX7_addAt_17 ?_
      rw [q_2, stF, if_pos (by omega)]

set_option maxRecDepth 100000 in
set_option maxHeartbeats 4000000 in
theorem c_X7_watchers (l : Launch) (g : fG) (N : Nat) (ct : Nat → va_E) (k n : Nat) (f : Nat → Int32) (b : Int32) (hn : n < 2147483648) (hk : k < N) (hc : ct k = .inl (fcI g, n, .inl f)) : Met l yX7_watchers (wsU yX7_watchers cX7_watchers 4 (some .int)) rX7_watchers (fPre g N ct [.ref (fa g k), .int b]) (fQpi (fun r => r = nI (cN (fun i => decide (f i = b)) n))) 0 0 (fB g) := by
  refine fs_start (own := RX7) (lv0 := [(0, .ref (fa g k)), (1, .int b)]) (by decide) rfl (Nat.le_of_ble_eq_true rfl) rfl ?_
  intro p e s m args below meth c ls E hr hlk hnm hP hl hS
  have hx := E.1.1
  have hb := E.1.2.1
  refine lv_iconst (v := (nI 0)) hx hb dX7_watchers_0 (by decide) ?_
  refine lv_istore_n (lv' := [(2, .int (nI 0)), (0, .ref (fa g k)), (1, .int b)]) hx hb dX7_watchers_1 rfl hl (by decide) rfl (fun ls hl => ?_)
  refine lv_iconst (v := (nI 0)) hx hb dX7_watchers_2 (by decide) ?_
  refine lv_istore_n (lv' := [(3, .int (nI 0)), (2, .int (nI 0)), (0, .ref (fa g k)), (1, .int b)]) hx hb dX7_watchers_3 rfl hl (by decide) rfl (fun ls hl => ?_)
  refine fs_indP (g := g) (St := Nat) (fun (i : Nat) (ls : Array Slot) => lv_has ls 4 [(0, .ref (fa g k)), (1, .int b), (2, .int (nI (cN (fun i => decide (f i = b)) i))), (3, .int (nI i))] ∧ i ≤ n) (fun (i : Nat) => n - i) ?_ 0 ls _ ⟨lv_sub hl [2, 3, 1, 0] rfl, Nat.zero_le _⟩ hS
  clear hl hS
  intro st ls locs hI hS ih
  obtain ⟨i, rfl⟩ : ∃ z, z = st := ⟨_, rfl⟩
  obtain ⟨hl, hI⟩ := hI
  refine lv_iload_n hx hb dX7_watchers_4 rfl (lv_at hl 3 rfl) ?_
  refine lv_aload_n hx hb dX7_watchers_5 rfl (lv_at hl 0 rfl) ?_
  refine fs_alenI E hP (k := k) hc hk dX7_watchers_6 ?_
  refine lv_icmp_ge (tgt := 26) hx hb dX7_watchers_7 (by decide) (fun c_7 => ?_) (fun c_7 => ?_)
  · rw [nI_leI (by omega) (by omega)] at c_7
    refine lv_iload_n hx hb dX7_watchers_26 rfl (lv_at hl 2 rfl) ?_
    refine fs_piret E hr hlk hS dX7_watchers_27 ?_
    rw [show n = i by omega]
  · rw [nI_leI (by omega) (by omega)] at c_7
    refine lv_aload_n hx hb dX7_watchers_10 rfl (lv_at hl 0 rfl) ?_
    refine lv_iload_n hx hb dX7_watchers_11 rfl (lv_at hl 3 rfl) ?_
    refine fs_iald E hP (k := k) hc hk (vp_in_nI (by omega) (by omega)) dX7_watchers_12 ?_
    refine fs_vi (y := f i) (congrArg f (nI_clamp (by omega))) ?_
    refine lv_iload_n hx hb dX7_watchers_13 rfl (lv_at hl 1 rfl) ?_
    refine lv_icmp_ne (tgt := 20) hx hb dX7_watchers_14 (by decide) (fun c_14 => ?_) (fun c_14 => ?_)
    · have e : nI (cN (fun i => decide (f i = b)) i) = nI (cN (fun i => decide (f i = b)) (i + 1)) := by rw [cN_f (decide_eq_false c_14)]
      rw [e] at hl
      refine lv_iinc (v := (nI (i + 1))) (lv' := [(3, .int (nI (i + 1))), (0, .ref (fa g k)), (1, .int b), (2, .int (nI (cN (fun i => decide (f i = b)) (i + 1))))]) hx hb dX7_watchers_20 hl (k := 3) rfl (nI_1 _) (by decide) rfl (fun ls hl => ?_)
      refine lv_goto (tgt := 4) hx hb dX7_watchers_23 (by decide) ?_
      exact ih (i + 1) ls _ (by (try dsimp only); omega) ⟨lv_sub hl [1, 2, 3, 0] rfl, by omega⟩ hS
    · refine lv_iinc (v := (nI (cN (fun i => decide (f i = b)) (i + 1)))) (lv' := [(2, .int (nI (cN (fun i => decide (f i = b)) (i + 1)))), (0, .ref (fa g k)), (1, .int b), (3, .int (nI i))]) hx hb dX7_watchers_17 hl (k := 2) rfl (by rw [cN_t (decide_eq_true c_14)]; exact nI_1 _) (by decide) rfl (fun ls hl => ?_)
      refine lv_iinc (v := (nI (i + 1))) (lv' := [(3, .int (nI (i + 1))), (2, .int (nI (cN (fun i => decide (f i = b)) (i + 1)))), (0, .ref (fa g k)), (1, .int b)]) hx hb dX7_watchers_20 hl (k := 3) rfl (nI_1 _) (by decide) rfl (fun ls hl => ?_)
      refine lv_goto (tgt := 4) hx hb dX7_watchers_23 (by decide) ?_
      exact ih (i + 1) ls _ (by (try dsimp only); omega) ⟨lv_sub hl [2, 3, 1, 0] rfl, by omega⟩ hS

set_option maxRecDepth 100000 in
set_option maxHeartbeats 4000000 in
theorem c_X7_fillRow (l : Launch) (g : fG) (N : Nat) (ct : Nat → va_E) (k n : Nat) (f : Nat → Int32) (x : Int32) (hn : n < 2147483648) (hk : k < N) (hc : ct k = .inl (fcI g, n, .inl f)) : Met l yX7_fillRow (wsU yX7_fillRow cX7_fillRow 3 none) rX7_fillRow (fPre g N ct [.ref (fa g k), .int x]) (fQv g N (fun ct1 => ct1 = fu ct k (.inl (fcI g, n, .inl (cpF n (fun _ => x) f))))) 0 0 (fB g) := by
  refine fs_start (own := RX7) (lv0 := [(0, .ref (fa g k)), (1, .int x)]) (by decide) rfl (Nat.le_of_ble_eq_true rfl) rfl ?_
  intro p e s m args below meth c ls E hr hlk hnm hP hl hS
  have hx := E.1.1
  have hb := E.1.2.1
  refine lv_iconst (v := (nI 0)) hx hb dX7_fillRow_0 (by decide) ?_
  refine lv_istore_n (lv' := [(2, .int (nI 0)), (0, .ref (fa g k)), (1, .int x)]) hx hb dX7_fillRow_1 rfl hl (by decide) rfl (fun ls hl => ?_)
  refine fs_ind (g := g) (N := N) (St := Nat) (fun (i : Nat) (ct_1 : Nat → va_E) (ls : Array Slot) => lv_has ls 3 [(0, .ref (fa g k)), (1, .int x), (2, .int (nI i))] ∧ ct_1 = fu ct k (.inl (fcI g, n, .inl (cpF i (fun _ => x) f))) ∧ i ≤ n) (fun (i : Nat) => n - i) ?_ 0 _ _ ls _ ⟨lv_sub hl [1, 2, 0] rfl, by rw [cpF_0, fu_same hc], Nat.zero_le _⟩ hP hS
  clear hl hP hS
  intro st ct_1 H ls locs hI hP hS ih
  obtain ⟨i, rfl⟩ : ∃ z, z = st := ⟨_, rfl⟩
  obtain ⟨hl, hI⟩ := hI
  have hq : ct_1 k = .inl (fcI g, n, .inl (cpF i (fun _ => x) f)) := by rw [hI.1]; exact fu_eq _ _ _
  have hI2 := hI.2
  refine lv_iload_n hx hb dX7_fillRow_2 rfl (lv_at hl 2 rfl) ?_
  refine lv_aload_n hx hb dX7_fillRow_3 rfl (lv_at hl 0 rfl) ?_
  refine fs_alenI E hP (k := k) hq hk dX7_fillRow_4 ?_
  refine lv_icmp_ge (tgt := 18) hx hb dX7_fillRow_5 (by decide) (fun c_5 => ?_) (fun c_5 => ?_)
  · rw [nI_leI (by omega) (by omega)] at c_5
    refine fs_vret E hr hlk hP hS dX7_fillRow_18 ?_
    rw [hI.1, show i = n by omega]
  · rw [nI_leI (by omega) (by omega)] at c_5
    refine lv_aload_n hx hb dX7_fillRow_8 rfl (lv_at hl 0 rfl) ?_
    refine lv_iload_n hx hb dX7_fillRow_9 rfl (lv_at hl 2 rfl) ?_
    refine lv_iload_n hx hb dX7_fillRow_10 rfl (lv_at hl 1 rfl) ?_
    refine fs_iast E hP hS (k := k) hq hk (vp_in_nI (by omega) (by omega)) dX7_fillRow_11 (fun ct_2 H locs q_3 hP hS => ?_)
    rw [nI_clamp (by omega)] at q_3
    have h_4 : ct_2 k = .inl (fcI g, n, .inl (upd (cpF i (fun _ => x) f) i x)) := by rw [q_3]; exact fu_eq _ _ _
    refine lv_iinc (v := (nI (i + 1))) (lv' := [(2, .int (nI (i + 1))), (0, .ref (fa g k)), (1, .int x)]) hx hb dX7_fillRow_12 hl (k := 2) rfl (nI_1 _) (by decide) rfl (fun ls hl => ?_)
    refine lv_goto (tgt := 2) hx hb dX7_fillRow_15 (by decide) ?_
    exact ih (i + 1) _ _ ls _ (by (try dsimp only); omega) ⟨lv_sub hl [1, 2, 0] rfl, by rw [q_3, hI.1, fu_fu]; exact congrArg (fun z => fu ct k (.inl (fcI g, n, .inl z))) (cpF_s i (fun _ => x) f), by omega⟩ hP hS

set_option maxRecDepth 100000 in
set_option maxHeartbeats 4000000 in
theorem c_X7_copyRow (l : Launch) (g : fG) (N : Nat) (ct : Nat → va_E) (k k2 n : Nat) (f f2 : Nat → Int32) (hn : n < 2147483648) (hk : k < N) (hk2 : k2 < N) (hne : k ≠ k2) (hc : ct k = .inl (fcI g, n, .inl f)) (hc2 : ct k2 = .inl (fcI g, n, .inl f2)) : Met l yX7_copyRow (wsU yX7_copyRow cX7_copyRow 3 none) rX7_copyRow (fPre g N ct [.ref (fa g k), .ref (fa g k2)]) (fQv g N (fun ct1 => ct1 = fu ct k2 (.inl (fcI g, n, .inl (cpF n f f2))))) 0 0 (fB g) := by
  refine fs_start (own := RX7) (lv0 := [(0, .ref (fa g k)), (1, .ref (fa g k2))]) (by decide) rfl (Nat.le_of_ble_eq_true rfl) rfl ?_
  intro p e s m args below meth c ls E hr hlk hnm hP hl hS
  have hx := E.1.1
  have hb := E.1.2.1
  refine lv_iconst (v := (nI 0)) hx hb dX7_copyRow_0 (by decide) ?_
  refine lv_istore_n (lv' := [(2, .int (nI 0)), (0, .ref (fa g k)), (1, .ref (fa g k2))]) hx hb dX7_copyRow_1 rfl hl (by decide) rfl (fun ls hl => ?_)
  refine fs_ind (g := g) (N := N) (St := Nat) (fun (i : Nat) (ct_1 : Nat → va_E) (ls : Array Slot) => lv_has ls 3 [(0, .ref (fa g k)), (1, .ref (fa g k2)), (2, .int (nI i))] ∧ ct_1 = fu ct k2 (.inl (fcI g, n, .inl (cpF i f f2))) ∧ i ≤ n) (fun (i : Nat) => n - i) ?_ 0 _ _ ls _ ⟨lv_sub hl [1, 2, 0] rfl, by rw [cpF_0, fu_same hc2], Nat.zero_le _⟩ hP hS
  clear hl hP hS
  intro st ct_1 H ls locs hI hP hS ih
  obtain ⟨i, rfl⟩ : ∃ z, z = st := ⟨_, rfl⟩
  obtain ⟨hl, hI⟩ := hI
  have hq : ct_1 k2 = .inl (fcI g, n, .inl (cpF i f f2)) := by rw [hI.1]; exact fu_eq _ _ _
  have hq2 : ct_1 k = .inl (fcI g, n, .inl f) := by rw [hI.1]; exact (fu_ne (by omega)).trans hc
  have hI2 := hI.2
  refine lv_iload_n hx hb dX7_copyRow_2 rfl (lv_at hl 2 rfl) ?_
  refine lv_aload_n hx hb dX7_copyRow_3 rfl (lv_at hl 0 rfl) ?_
  refine fs_alenI E hP (k := k) hq2 hk dX7_copyRow_4 ?_
  refine lv_icmp_ge (tgt := 26) hx hb dX7_copyRow_5 (by decide) (fun c_5 => ?_) (fun c_5 => ?_)
  · rw [nI_leI (by omega) (by omega)] at c_5
    refine fs_vret E hr hlk hP hS dX7_copyRow_26 ?_
    rw [hI.1, show i = n by omega]
  · rw [nI_leI (by omega) (by omega)] at c_5
    refine lv_iload_n hx hb dX7_copyRow_8 rfl (lv_at hl 2 rfl) ?_
    refine lv_aload_n hx hb dX7_copyRow_9 rfl (lv_at hl 1 rfl) ?_
    refine fs_alenI E hP (k := k2) hq hk2 dX7_copyRow_10 ?_
    refine lv_icmp_ge (tgt := 26) hx hb dX7_copyRow_11 (by decide) (fun c_11 => ?_) (fun c_11 => ?_)
    · rw [nI_leI (by omega) (by omega)] at c_11
      refine fs_vret E hr hlk hP hS dX7_copyRow_26 ?_
      rw [hI.1, show i = n by omega]
    · rw [nI_leI (by omega) (by omega)] at c_11
      refine lv_aload_n hx hb dX7_copyRow_14 rfl (lv_at hl 1 rfl) ?_
      refine lv_iload_n hx hb dX7_copyRow_15 rfl (lv_at hl 2 rfl) ?_
      refine lv_aload_n hx hb dX7_copyRow_16 rfl (lv_at hl 0 rfl) ?_
      refine lv_iload_n hx hb dX7_copyRow_17 rfl (lv_at hl 2 rfl) ?_
      refine fs_iald E hP (k := k) hq2 hk (vp_in_nI (by omega) (by omega)) dX7_copyRow_18 ?_
      refine fs_vi (y := f i) (congrArg f (nI_clamp (by omega))) ?_
      refine fs_iast E hP hS (k := k2) hq hk2 (vp_in_nI (by omega) (by omega)) dX7_copyRow_19 (fun ct_2 H locs q_3 hP hS => ?_)
      rw [nI_clamp (by omega)] at q_3
      have h_4 : ct_2 k2 = .inl (fcI g, n, .inl (upd (cpF i f f2) i (f i))) := by rw [q_3]; exact fu_eq _ _ _
      have h_5 : ct_2 k = .inl (fcI g, n, .inl f) := by rw [q_3]; exact (fu_ne (by omega)).trans hq2
      refine lv_iinc (v := (nI (i + 1))) (lv' := [(2, .int (nI (i + 1))), (0, .ref (fa g k)), (1, .ref (fa g k2))]) hx hb dX7_copyRow_20 hl (k := 2) rfl (nI_1 _) (by decide) rfl (fun ls hl => ?_)
      refine lv_goto (tgt := 2) hx hb dX7_copyRow_23 (by decide) ?_
      exact ih (i + 1) _ _ ls _ (by (try dsimp only); omega) ⟨lv_sub hl [1, 2, 0] rfl, by rw [q_3, hI.1, fu_fu]; exact congrArg (fun z => fu ct k2 (.inl (fcI g, n, .inl z))) (cpF_s i f f2), by omega⟩ hP hS
end
section
/-! the house as a row of numbers: 0 boxes, 1 rumours, 2 the act, 3.. looks, 9.. scores, 15.. guessed, 21.. five for a rumour (teller, kind, a, b, how) -/
def nB (σ : Nat → Int32) : Nat := (σ 0).toNatClampNeg
def nT (σ : Nat → Int32) : Nat := (σ 1).toNatClampNeg
def lkf (σ : Nat → Int32) (p : Nat) : Nat := (σ (3 + p)).toNatClampNeg
def rk (σ : Nat → Int32) (r i : Nat) : Nat := (σ (21 + 5 * r + i)).toNatClampNeg
/-- a and b suit the kind -/
def okk (n kd a b : Nat) : Prop := kd ≤ 5 ∧ a < n ∧ (kd = 4 → b ≤ 6) ∧ (kd ≠ 4 → b < n ∧ (kd = 5 ∨ a ≠ b))
/-- whether a rumour holds in a world -/
def hd (n : Nat) (w : Nat → Nat) (kd a b : Nat) : Bool := match kd with
  | 0 => decide (w a = b)
  | 1 => decide (w a ≠ b)
  | 2 => decide (w a = b ∧ w b = a)
  | 3 => decide (w a = w b)
  | 4 => decide (cN (fun p => decide (w p = a)) n = b)
  | _ => decide (w (w a) = b)
/-- whether it is proved and does not hold, or refuted and holds -/
def bk (n : Nat) (w : Nat → Nat) (kd a b st : Nat) : Bool := if hd n w kd a b = true then decide (st = 2) else decide (st = 1)
def hdr (σ : Nat → Int32) (w : Nat → Nat) (r : Nat) : Bool := hd (nB σ) w (rk σ r 1) (rk σ r 2) (rk σ r 3)
def bad (σ : Nat → Int32) (w : Nat → Nat) (r : Nat) : Bool := bk (nB σ) w (rk σ r 1) (rk σ r 2) (rk σ r 3) (rk σ r 4)
def rOK (σ : Nat → Int32) (r : Nat) : Prop := (∀ i, i < 5 → σ (21 + 5 * r + i) = nI (rk σ r i)) ∧ rk σ r 0 < nB σ ∧ okk (nB σ) (rk σ r 1) (rk σ r 2) (rk σ r 3) ∧ rk σ r 4 ≤ 2
/-- what holds of a house at all times -/
def Good (σ : Nat → Int32) : Prop := (σ 0 = nI (nB σ) ∧ 3 ≤ nB σ ∧ nB σ ≤ 6) ∧ (σ 1 = nI (nT σ) ∧ nT σ ≤ 20) ∧ (∀ p, p < nB σ → σ (3 + p) = nI (lkf σ p) ∧ lkf σ p < nB σ ∧ lkf σ p ≠ p) ∧ (∀ p, p < 6 → σ (15 + p) = nI 0 ∨ σ (15 + p) = nI 1) ∧ ∀ r, r < nT σ → rOK σ r
/-- a row of six shows a world of n persons -/
def RW (n : Nat) (w : Nat → Nat) (f : Nat → Int32) : Prop := ∀ p, p < 6 → f p = if p < n then nI (w p) else -1
def Wok (n : Nat) (w : Nat → Nat) : Prop := ∀ p, p < n → w p < n
theorem RW.in {n : Nat} {w : Nat → Nat} {f : Nat → Int32} (h : RW n w f) {p : Nat} (hp : p < n) (hn : n ≤ 6) : f p = nI (w p) := by rw [h p (by omega), if_pos hp]
theorem RW.out {n : Nat} {w : Nat → Nat} {f : Nat → Int32} (h : RW n w f) {p : Nat} (hp : n ≤ p) (h6 : p < 6) : f p = -1 := by rw [h p h6, if_neg (by omega)]
theorem nI_ne_m1 {a : Nat} (h : a < 2147483648) : nI a ≠ -1 := fun q => by
  have h2 := congrArg Int32.toInt q
  rw [nI_toInt h] at h2
  exact absurd h2 (by have : (-1 : Int32).toInt = -1 := rfl
                      omega)
/-- of six, how many show a box: of n persons, how many look at it -/
theorem RW.watch {n : Nat} {w : Nat → Nat} {f : Nat → Int32} (h : RW n w f) (hw : Wok n w) (hn : n ≤ 6) {a : Nat} (ha : a < 2147483648) : cN (fun i => decide (f i = nI a)) 6 = cN (fun p => decide (w p = a)) n := by
  have key : ∀ m, m ≤ 6 → cN (fun i => decide (f i = nI a)) m = cN (fun p => decide (w p = a)) (min m n) := by
    intro m
    induction m with
    | zero => intro _; rw [Nat.zero_min]; rfl
    | succ m ih =>
      intro hm
      rw [cN_succ, ih (by omega)]
      by_cases hmn : m < n
      · rw [Nat.min_eq_left (by omega : m ≤ n), Nat.min_eq_left (by omega : m + 1 ≤ n), cN_succ]
        have e : decide (f m = nI a) = decide (w m = a) := by
          rw [h.in hmn hn]
          have hw2 := hw m hmn
          exact decide_eq_decide.mpr (nI_eq (by omega) ha)
        rw [e]
      · rw [Nat.min_eq_right (by omega : n ≤ m), Nat.min_eq_right (by omega : n ≤ m + 1)]
        have e : decide (f m = nI a) = false := by
          rw [h.out (by omega) (by omega)]
          exact decide_eq_false (fun q => nI_ne_m1 ha q.symm)
        rw [e]; rfl
  have h6 := key 6 (Nat.le_refl 6)
  rw [Nat.min_eq_right hn] at h6
  exact h6
theorem cN_lt7 {p : Nat → Bool} {n : Nat} (h : n ≤ 6) : cN p n < 7 := by have := cN_le p n; omega
/-- a house's cells: the object at h, then looks, scores, guessed, rumours, and twenty rumours -/
def rumC (te kd a b st : Int32) : va_E := .inr (3, [.int te, .int kd, .int a, .int b, .int st])
def HouseAt (g : fG) (ct : Nat → va_E) (h : Nat) (σ : Nat → Int32) : Prop :=
  ct h = .inr (1, [.int (nI (nB σ)), .int (σ 2), .int (nI (nT σ)), .ref (fa g (h + 1)), .ref (fa g (h + 2)), .ref (fa g (h + 3)), .ref (fa g (h + 4))]) ∧
  (∃ f : Nat → Int32, ct (h + 1) = .inl (fcI g, 6, .inl f) ∧ RW (nB σ) (lkf σ) f) ∧
  (∃ f : Nat → Int32, ct (h + 2) = .inl (fcI g, 6, .inl f) ∧ ∀ p, p < 6 → f p = σ (9 + p)) ∧
  (∃ f : Nat → Int32, ct (h + 3) = .inl (fcI g, 6, .inl f) ∧ ∀ p, p < 6 → f p = σ (15 + p)) ∧
  (∃ f : Nat → Option Nat, ct (h + 4) = .inl (fcR g, 20, .inr (.inr (.inr (.inr f)))) ∧ ∀ r, r < 20 → f r = some (fa g (h + 5 + r))) ∧
  ∀ r, r < 20 → ∃ te kd a b st : Int32, ct (h + 5 + r) = .inr (3, [.int te, .int kd, .int a, .int b, .int st]) ∧ (r < nT σ → te = nI (rk σ r 0) ∧ kd = nI (rk σ r 1) ∧ a = nI (rk σ r 2) ∧ b = nI (rk σ r 3) ∧ st = nI (rk σ r 4))
/-- its shape alone -/
def HouseSh (g : fG) (ct : Nat → va_E) (h : Nat) : Prop :=
  (∃ b a t : Int32, ct h = .inr (1, [.int b, .int a, .int t, .ref (fa g (h + 1)), .ref (fa g (h + 2)), .ref (fa g (h + 3)), .ref (fa g (h + 4))])) ∧
  (∃ f : Nat → Int32, ct (h + 1) = .inl (fcI g, 6, .inl f)) ∧ (∃ f : Nat → Int32, ct (h + 2) = .inl (fcI g, 6, .inl f)) ∧ (∃ f : Nat → Int32, ct (h + 3) = .inl (fcI g, 6, .inl f)) ∧
  (∃ f : Nat → Option Nat, ct (h + 4) = .inl (fcR g, 20, .inr (.inr (.inr (.inr f)))) ∧ ∀ r, r < 20 → f r = some (fa g (h + 5 + r))) ∧
  ∀ r, r < 20 → ∃ te kd a b st : Int32, ct (h + 5 + r) = .inr (3, [.int te, .int kd, .int a, .int b, .int st])
theorem HouseAt.sh {g : fG} {ct : Nat → va_E} {h : Nat} {σ : Nat → Int32} (H : HouseAt g ct h σ) : HouseSh g ct h := by
  obtain ⟨h1, ⟨f1, h2, -⟩, ⟨f2, h3, -⟩, ⟨f3, h4, -⟩, h5, h6⟩ := H
  refine ⟨⟨_, _, _, h1⟩, ⟨f1, h2⟩, ⟨f2, h3⟩, ⟨f3, h4⟩, h5, fun r hr => ?_⟩
  obtain ⟨te, kd, a, b, st, h7, -⟩ := h6 r hr
  exact ⟨te, kd, a, b, st, h7⟩
/-- nothing changes but from lo on, below hi -/
def fSame (lo hi : Nat) (ct ct1 : Nat → va_E) : Prop := ∀ j, (j < lo ∨ hi ≤ j) → ct1 j = ct j
theorem fSame.rf {lo hi : Nat} {ct : Nat → va_E} : fSame lo hi ct ct := fun _ _ => rfl
theorem fSame.tr {lo hi : Nat} {ct ct1 ct2 : Nat → va_E} (h1 : fSame lo hi ct ct1) (h2 : fSame lo hi ct1 ct2) : fSame lo hi ct ct2 := fun j hj => (h2 j hj).trans (h1 j hj)
theorem fSame.up {lo hi k : Nat} {ct : Nat → va_E} {e : va_E} (h1 : lo ≤ k) (h2 : k < hi) : fSame lo hi ct (fu ct k e) := fun j hj => fu_ne (by omega)
theorem fSame.wide {lo hi lo2 hi2 : Nat} {ct ct1 : Nat → va_E} (h : fSame lo hi ct ct1) (h1 : lo2 ≤ lo) (h2 : hi ≤ hi2) : fSame lo2 hi2 ct ct1 := fun j hj => h j (by omega)
theorem HouseAt.keep {g : fG} {ct ct1 : Nat → va_E} {h : Nat} {σ : Nat → Int32} (H : HouseAt g ct h σ) (hs : ∀ j, h ≤ j → j < h + 25 → ct1 j = ct j) : HouseAt g ct1 h σ := by
  obtain ⟨h1, ⟨f1, h2, h2b⟩, ⟨f2, h3, h3b⟩, ⟨f3, h4, h4b⟩, ⟨f4, h5, h5b⟩, h6⟩ := H
  refine ⟨(hs _ (by omega) (by omega)).trans h1, ⟨f1, (hs _ (by omega) (by omega)).trans h2, h2b⟩, ⟨f2, (hs _ (by omega) (by omega)).trans h3, h3b⟩, ⟨f3, (hs _ (by omega) (by omega)).trans h4, h4b⟩, ⟨f4, (hs _ (by omega) (by omega)).trans h5, h5b⟩, fun r hr => ?_⟩
  obtain ⟨te, kd, a, b, st, h7, h8⟩ := h6 r hr
  exact ⟨te, kd, a, b, st, (hs _ (by omega) (by omega)).trans h7, h8⟩
theorem HouseSh.keep {g : fG} {ct ct1 : Nat → va_E} {h : Nat} (H : HouseSh g ct h) (hs : ∀ j, h ≤ j → j < h + 25 → ct1 j = ct j) : HouseSh g ct1 h := by
  obtain ⟨⟨b0, a0, t0, h1⟩, ⟨f1, h2⟩, ⟨f2, h3⟩, ⟨f3, h4⟩, ⟨f4, h5, h5b⟩, h6⟩ := H
  refine ⟨⟨b0, a0, t0, (hs _ (by omega) (by omega)).trans h1⟩, ⟨f1, (hs _ (by omega) (by omega)).trans h2⟩, ⟨f2, (hs _ (by omega) (by omega)).trans h3⟩, ⟨f3, (hs _ (by omega) (by omega)).trans h4⟩, ⟨f4, (hs _ (by omega) (by omega)).trans h5, h5b⟩, fun r hr => ?_⟩
  obtain ⟨te, kd, a, b, st, h7⟩ := h6 r hr
  exact ⟨te, kd, a, b, st, (hs _ (by omega) (by omega)).trans h7⟩
end
section
set_option maxRecDepth 100000 in
set_option maxHeartbeats 4000000 in
theorem c_X3_become (l : Launch) (g : fG) (N : Nat) (ct : Nat → va_E) (k : Nat) (o1 o2 o3 o4 o5 te kd a b : Int32) (hk : k < N) (hc : ct k = .inr (3, [.int o1, .int o2, .int o3, .int o4, .int o5])) : Met l yX3_become (wsU yX3_become cX3_become 5 none) rX3_become (fPre g N ct [.ref (fa g k), .int te, .int kd, .int a, .int b]) (fQv g N (fun ct1 => ct1 = fu ct k (.inr (3, [.int te, .int kd, .int a, .int b, .int (nI 0)])))) 0 0 (fB g) := by
  refine fs_start (own := RX3) (lv0 := [(0, .ref (fa g k)), (1, .int te), (2, .int kd), (3, .int a), (4, .int b)]) (by decide) rfl (Nat.le_of_ble_eq_true rfl) rfl ?_
  intro p e s m args below meth c ls E hr hlk hnm hP hl hS
  have hx := E.1.1
  have hb := E.1.2.1
  refine lv_aload_n hx hb dX3_become_0 rfl (lv_at hl 0 rfl) ?_
  refine lv_iload_n hx hb dX3_become_1 rfl (lv_at hl 1 rfl) ?_
  refine fs_put E hP hS (k := k) 0 fc3 hc hk (by decide) (wm wl_7 (i := 2) rfl) rfl rfl rfl rfl (Nat.le_of_ble_eq_true rfl) dX3_become_2 (fun ct_1 H locs q_2 hP hS => ?_)
  have h_3 : ct_1 k = .inr (3, [.int te, .int o2, .int o3, .int o4, .int o5]) := by rw [q_2]; exact fu_eq _ _ _
  refine lv_aload_n hx hb dX3_become_5 rfl (lv_at hl 0 rfl) ?_
  refine lv_iload_n hx hb dX3_become_6 rfl (lv_at hl 2 rfl) ?_
  refine fs_put E hP hS (k := k) 1 fc3 h_3 hk (by decide) (wm wl_7 (i := 3) rfl) rfl rfl rfl rfl (Nat.le_of_ble_eq_true rfl) dX3_become_7 (fun ct_4 H locs q_5 hP hS => ?_)
  have h_6 : ct_4 k = .inr (3, [.int te, .int kd, .int o3, .int o4, .int o5]) := by rw [q_5]; exact fu_eq _ _ _
  refine lv_aload_n hx hb dX3_become_10 rfl (lv_at hl 0 rfl) ?_
  refine lv_iload_n hx hb dX3_become_11 rfl (lv_at hl 3 rfl) ?_
  refine fs_put E hP hS (k := k) 2 fc3 h_6 hk (by decide) (wm wl_7 (i := 4) rfl) rfl rfl rfl rfl (Nat.le_of_ble_eq_true rfl) dX3_become_12 (fun ct_7 H locs q_8 hP hS => ?_)
  have h_9 : ct_7 k = .inr (3, [.int te, .int kd, .int a, .int o4, .int o5]) := by rw [q_8]; exact fu_eq _ _ _
  refine lv_aload_n hx hb dX3_become_15 rfl (lv_at hl 0 rfl) ?_
  refine lv_iload hx hb dX3_become_16 (lv_at hl 4 rfl) ?_
  refine fs_put E hP hS (k := k) 3 fc3 h_9 hk (by decide) (wm wl_7 (i := 5) rfl) rfl rfl rfl rfl (Nat.le_of_ble_eq_true rfl) dX3_become_18 (fun ct_10 H locs q_11 hP hS => ?_)
  have h_12 : ct_10 k = .inr (3, [.int te, .int kd, .int a, .int b, .int o5]) := by rw [q_11]; exact fu_eq _ _ _
  refine lv_aload_n hx hb dX3_become_21 rfl (lv_at hl 0 rfl) ?_
  refine lv_iconst (v := (nI 0)) hx hb dX3_become_22 (by decide) ?_
  refine fs_put E hP hS (k := k) 4 fc3 h_12 hk (by decide) (wm wl_7 (i := 6) rfl) rfl rfl rfl rfl (Nat.le_of_ble_eq_true rfl) dX3_become_23 (fun ct_13 H locs q_14 hP hS => ?_)
  have h_15 : ct_13 k = .inr (3, [.int te, .int kd, .int a, .int b, .int (nI 0)]) := by rw [q_14]; exact fu_eq _ _ _
  refine fs_vret E hr hlk hP hS dX3_become_26 ?_
  rw [q_14, q_11, q_8, q_5, q_2]; simp only [fu_fu]; rfl

set_option maxRecDepth 100000 in
set_option maxHeartbeats 4000000 in
theorem c_X3_copyFrom (l : Launch) (g : fG) (N : Nat) (ct : Nat → va_E) (k k2 : Nat) (o1 o2 o3 o4 o5 te kd a b st : Int32) (hne : k ≠ k2) (hk : k < N) (hk2 : k2 < N) (hc : ct k = .inr (3, [.int o1, .int o2, .int o3, .int o4, .int o5])) (hc2 : ct k2 = .inr (3, [.int te, .int kd, .int a, .int b, .int st])) : Met l yX3_copyFrom (wsU yX3_copyFrom cX3_copyFrom 2 none) rX3_copyFrom (fPre g N ct [.ref (fa g k), .ref (fa g k2)]) (fQv g N (fun ct1 => ct1 = fu ct k (.inr (3, [.int te, .int kd, .int a, .int b, .int st])))) 0 0 (fB g) := by
  refine fs_start (own := RX3) (lv0 := [(0, .ref (fa g k)), (1, .ref (fa g k2))]) (by decide) rfl (Nat.le_of_ble_eq_true rfl) rfl ?_
  intro p e s m args below meth c ls E hr hlk hnm hP hl hS
  have hx := E.1.1
  have hb := E.1.2.1
  refine lv_aload_n hx hb dX3_copyFrom_0 rfl (lv_at hl 0 rfl) ?_
  refine lv_aload_n hx hb dX3_copyFrom_1 rfl (lv_at hl 1 rfl) ?_
  refine fs_get E hP (k := k2) (v := .int te) 0 fc3 hc2 hk2 (by decide) (wm wl_7 (i := 2) rfl) rfl dX3_copyFrom_2 ?_
  refine lv_aload_n hx hb dX3_copyFrom_5 rfl (lv_at hl 1 rfl) ?_
  refine fs_get E hP (k := k2) (v := .int kd) 1 fc3 hc2 hk2 (by decide) (wm wl_7 (i := 3) rfl) rfl dX3_copyFrom_6 ?_
  refine lv_aload_n hx hb dX3_copyFrom_9 rfl (lv_at hl 1 rfl) ?_
  refine fs_get E hP (k := k2) (v := .int a) 2 fc3 hc2 hk2 (by decide) (wm wl_7 (i := 4) rfl) rfl dX3_copyFrom_10 ?_
  refine lv_aload_n hx hb dX3_copyFrom_13 rfl (lv_at hl 1 rfl) ?_
  refine fs_get E hP (k := k2) (v := .int b) 3 fc3 hc2 hk2 (by decide) (wm wl_7 (i := 5) rfl) rfl dX3_copyFrom_14 ?_
  refine fs_v (va_runV (As := [.int te, .int kd, .int a, .int b]) (rest := []) E.1 (c_X3_become l g N ct k o1 o2 o3 o4 o5 te kd a b hk hc) (lk_RX3_27 E.1.2.2.2.2 ⟨Nat.le_of_ble_eq_true rfl, Nat.le_of_ble_eq_true rfl⟩) (fpreV E hP hS fc3 hc hk) rfl rfl hl.1 rfl (lv_room (Nat.le_of_ble_eq_true rfl)) dX3_copyFrom_17 ⟨Nat.zero_le _, Nat.zero_le _⟩) hS (fun ct_1 H locs p_17 hP hS => ?_)
  have hx1 : ct_1 k = .inr (3, [.int te, .int kd, .int a, .int b, .int (nI 0)]) := by rw [p_17]; exact fu_eq _ _ _
  have hx2 : ct_1 k2 = .inr (3, [.int te, .int kd, .int a, .int b, .int st]) := by rw [p_17]; exact (fu_ne (by omega)).trans hc2
  refine lv_aload_n hx hb dX3_copyFrom_20 rfl (lv_at hl 0 rfl) ?_
  refine lv_aload_n hx hb dX3_copyFrom_21 rfl (lv_at hl 1 rfl) ?_
  refine fs_get E hP (k := k2) (v := .int st) 4 fc3 hx2 hk2 (by decide) (wm wl_7 (i := 6) rfl) rfl dX3_copyFrom_22 ?_
  refine fs_put E hP hS (k := k) 4 fc3 hx1 hk (by decide) (wm wl_7 (i := 6) rfl) rfl rfl rfl rfl (Nat.le_of_ble_eq_true rfl) dX3_copyFrom_25 (fun ct_2 H locs q_3 hP hS => ?_)
  have h_4 : ct_2 k = .inr (3, [.int te, .int kd, .int a, .int b, .int st]) := by rw [q_3]; exact fu_eq _ _ _
  have h_5 : ct_2 k2 = .inr (3, [.int te, .int kd, .int a, .int b, .int st]) := by rw [q_3]; exact (fu_ne (by omega)).trans hx2
  refine fs_vret E hr hlk hP hS dX3_copyFrom_28 ?_
  rw [q_3, p_17, fu_fu]; rfl

set_option maxRecDepth 100000 in
set_option maxHeartbeats 4000000 in
theorem c_X3_decide (l : Launch) (g : fG) (N : Nat) (ct : Nat → va_E) (k : Nat) (te kd a b st x : Int32) (Pq : Prop) (hdec : Decidable Pq) (hx0 : x = bI Pq) (hk : k < N) (hc : ct k = .inr (3, [.int te, .int kd, .int a, .int b, .int st])) : Met l yX3_decide (wsU yX3_decide cX3_decide 2 none) rX3_decide (fPre g N ct [.ref (fa g k), .int x]) (fQv g N (fun ct1 => ct1 = fu ct k (.inr (3, [.int te, .int kd, .int a, .int b, .int (if Pq then nI 1 else nI 2)])))) 0 0 (fB g) := by
  refine fs_start (own := RX3) (lv0 := [(0, .ref (fa g k)), (1, .int x)]) (by decide) rfl (Nat.le_of_ble_eq_true rfl) rfl ?_
  intro p e s m args below meth c ls E hr hlk hnm hP hl hS
  have hx := E.1.1
  have hb := E.1.2.1
  refine lv_aload_n hx hb dX3_decide_0 rfl (lv_at hl 0 rfl) ?_
  refine lv_iload_n hx hb dX3_decide_1 rfl (lv_at hl 1 rfl) ?_
  refine lv_if_eq (tgt := 9) hx hb dX3_decide_2 (by decide) (fun c_2 => ?_) (fun c_2 => ?_)
  · have c_2 := (fb_0 hx0).mp c_2
    refine lv_iconst (v := (nI 2)) hx hb dX3_decide_9 (by decide) ?_
    refine fs_put E hP hS (k := k) 4 fc3 hc hk (by decide) (wm wl_7 (i := 6) rfl) rfl rfl rfl rfl (Nat.le_of_ble_eq_true rfl) dX3_decide_10 (fun ct_1 H locs q_2 hP hS => ?_)
    have h_3 : ct_1 k = .inr (3, [.int te, .int kd, .int a, .int b, .int (nI 2)]) := by rw [q_2]; exact fu_eq _ _ _
    refine fs_vret E hr hlk hP hS dX3_decide_13 ?_
    rw [q_2, if_neg c_2]; rfl
  · have c_2 := (fb_1 hx0).mp c_2
    refine lv_iconst (v := (nI 1)) hx hb dX3_decide_5 (by decide) ?_
    refine lv_goto (tgt := 10) hx hb dX3_decide_6 (by decide) ?_
    refine fs_put E hP hS (k := k) 4 fc3 hc hk (by decide) (wm wl_7 (i := 6) rfl) rfl rfl rfl rfl (Nat.le_of_ble_eq_true rfl) dX3_decide_10 (fun ct_4 H locs q_5 hP hS => ?_)
    have h_6 : ct_4 k = .inr (3, [.int te, .int kd, .int a, .int b, .int (nI 1)]) := by rw [q_5]; exact fu_eq _ _ _
    refine fs_vret E hr hlk hP hS dX3_decide_13 ?_
    rw [q_5, if_pos c_2]; rfl

set_option maxRecDepth 100000 in
set_option maxHeartbeats 4000000 in
theorem c_X3_holdsIn (l : Launch) (g : fG) (N : Nat) (ct : Nat → va_E) (k j : Nat) (te st : Int32) (n kd a b : Nat) (f : Nat → Int32) (w : Nat → Nat) (hk : k < N) (hj : j < N) (hn6 : n ≤ 6) (hok : okk n kd a b) (hRW : RW n w f) (hw : Wok n w) (hc : ct k = .inr (3, [.int te, .int (nI kd), .int (nI a), .int (nI b), .int st])) (hc2 : ct j = .inl (fcI g, 6, .inl f)) : Met l yX3_holdsIn (wsU yX3_holdsIn cX3_holdsIn 3 (some .boolean)) rX3_holdsIn (fPre g N ct [.ref (fa g k), .ref (fa g j)]) (fQpi (fun r => r = bI (hd n w kd a b = true))) 0 0 (fB g) := by
  refine fs_start (own := RX3) (lv0 := [(0, .ref (fa g k)), (1, .ref (fa g j))]) (by decide) rfl (Nat.le_of_ble_eq_true rfl) rfl ?_
  intro p e s m args below meth c ls E hr hlk hnm hP hl hS
  have hx := E.1.1
  have hb := E.1.2.1
  obtain ⟨ok1, ok2, ok3, ok4⟩ := hok
  have ok5 := hw a ok2
  have okb : kd ≠ 4 → w b < n := fun q => hw b (ok4 q).1
  have okb2 : kd ≠ 4 → b < n := fun q => (ok4 q).1
  have okb3 : b < 7 := by rcases Decidable.em (kd = 4) with q | q
                          · have := ok3 q; omega
                          · have := okb2 q; omega
  have okc := hw (w a) ok5
  have ok7 : cN (fun p => decide (w p = a)) n < 7 := cN_lt7 hn6
  refine lv_aload_n hx hb dX3_holdsIn_0 rfl (lv_at hl 1 rfl) ?_
  refine lv_aload_n hx hb dX3_holdsIn_1 rfl (lv_at hl 0 rfl) ?_
  refine fs_get E hP (k := k) (v := .int (nI a)) 2 fc3 hc hk (by decide) (wm wl_7 (i := 4) rfl) rfl dX3_holdsIn_2 ?_
  refine fs_pi (va_runSN (As := [.ref (fa g j), .int (nI a)]) (rest := []) E.1 (c_X7_at l g N ct j 6 f (nI a) (by omega) hj hc2) (lk_RX3_31 E.1.2.2.2.2 (E.2.1.2.1 _ (List.mem_of_getElem? (i := 34) rfl)) ⟨Nat.le_of_ble_eq_true rfl, Nat.le_of_ble_eq_true rfl⟩) (fpreS E hP hS) rfl rfl hl.1 rfl (lv_room (Nat.le_of_ble_eq_true rfl)) dX3_holdsIn_5 ⟨Nat.zero_le _, Nat.zero_le _⟩) hS (fun r_5 locs p_5 hS => ?_)
  refine fs_vi (p_5.trans ((atF_in (by omega) (by omega)).trans (hRW.in (by omega) hn6))) ?_
  refine lv_istore_n (lv' := [(2, .int (nI (w a))), (0, .ref (fa g k)), (1, .ref (fa g j))]) hx hb dX3_holdsIn_8 rfl hl (by decide) rfl (fun ls hl => ?_)
  refine lv_aload_n hx hb dX3_holdsIn_9 rfl (lv_at hl 1 rfl) ?_
  refine fs_get E hP (k := k) (v := .int (nI kd)) 1 fc3 hc hk (by decide) (wm wl_7 (i := 3) rfl) rfl dX3_holdsIn_10 ?_
  rcases Decidable.em (kd = 0) with k_13_0 | k_13_0
  · refine fs_vi (congrArg nI k_13_0) ?_
    refine lv_tableIn (off := 35) (tgt := 48) hx hb dX3_holdsIn_13 (by decide) (by decide) rfl (by decide) ?_
    refine lv_iload_n hx hb dX3_holdsIn_48 rfl (lv_at hl 0 rfl) ?_
    refine lv_aload_n hx hb dX3_holdsIn_49 rfl (lv_at hl 1 rfl) ?_
    refine fs_get E hP (k := k) (v := .int (nI b)) 3 fc3 hc hk (by decide) (wm wl_7 (i := 5) rfl) rfl dX3_holdsIn_50 ?_
    refine lv_icmp_ne (tgt := 60) hx hb dX3_holdsIn_53 (by decide) (fun c_53 => ?_) (fun c_53 => ?_)
    · rw [nI_eq (by omega) (by omega)] at c_53
      refine lv_iconst (v := (nI 0)) hx hb dX3_holdsIn_60 (by decide) ?_
      refine fs_pzret E hr rfl hlk hS dX3_holdsIn_61 ?_
      exact bI_f (by rw [show kd = 0 by omega]; simp only [hd, decide_eq_true_eq]; omega)
    · rw [nI_eq (by omega) (by omega)] at c_53
      refine lv_iconst (v := (nI 1)) hx hb dX3_holdsIn_56 (by decide) ?_
      refine lv_goto (tgt := 61) hx hb dX3_holdsIn_57 (by decide) ?_
      refine fs_pzret E hr rfl hlk hS dX3_holdsIn_61 ?_
      exact bI_t (by rw [show kd = 0 by omega]; simp only [hd, decide_eq_true_eq]; omega)
  rcases Decidable.em (kd = 1) with k_13_1 | k_13_1
  · refine fs_vi (congrArg nI k_13_1) ?_
    refine lv_tableIn (off := 49) (tgt := 62) hx hb dX3_holdsIn_13 (by decide) (by decide) rfl (by decide) ?_
    refine lv_iload_n hx hb dX3_holdsIn_62 rfl (lv_at hl 0 rfl) ?_
    refine lv_aload_n hx hb dX3_holdsIn_63 rfl (lv_at hl 1 rfl) ?_
    refine fs_get E hP (k := k) (v := .int (nI b)) 3 fc3 hc hk (by decide) (wm wl_7 (i := 5) rfl) rfl dX3_holdsIn_64 ?_
    refine lv_icmp_eq (tgt := 74) hx hb dX3_holdsIn_67 (by decide) (fun c_67 => ?_) (fun c_67 => ?_)
    · rw [nI_eq (by omega) (by omega)] at c_67
      refine lv_iconst (v := (nI 0)) hx hb dX3_holdsIn_74 (by decide) ?_
      refine fs_pzret E hr rfl hlk hS dX3_holdsIn_75 ?_
      exact bI_f (by rw [show kd = 1 by omega]; simp only [hd, decide_eq_true_eq]; omega)
    · rw [nI_eq (by omega) (by omega)] at c_67
      refine lv_iconst (v := (nI 1)) hx hb dX3_holdsIn_70 (by decide) ?_
      refine lv_goto (tgt := 75) hx hb dX3_holdsIn_71 (by decide) ?_
      refine fs_pzret E hr rfl hlk hS dX3_holdsIn_75 ?_
      exact bI_t (by rw [show kd = 1 by omega]; simp only [hd, decide_eq_true_eq]; omega)
  rcases Decidable.em (kd = 2) with k_13_2 | k_13_2
  · refine fs_vi (congrArg nI k_13_2) ?_
    refine lv_tableIn (off := 63) (tgt := 76) hx hb dX3_holdsIn_13 (by decide) (by decide) rfl (by decide) ?_
    refine lv_iload_n hx hb dX3_holdsIn_76 rfl (lv_at hl 0 rfl) ?_
    refine lv_aload_n hx hb dX3_holdsIn_77 rfl (lv_at hl 1 rfl) ?_
    refine fs_get E hP (k := k) (v := .int (nI b)) 3 fc3 hc hk (by decide) (wm wl_7 (i := 5) rfl) rfl dX3_holdsIn_78 ?_
    refine lv_icmp_ne (tgt := 103) hx hb dX3_holdsIn_81 (by decide) (fun c_81 => ?_) (fun c_81 => ?_)
    · rw [nI_eq (by omega) (by omega)] at c_81
      refine lv_iconst (v := (nI 0)) hx hb dX3_holdsIn_103 (by decide) ?_
      refine fs_pzret E hr rfl hlk hS dX3_holdsIn_104 ?_
      exact bI_f (by rw [show kd = 2 by omega]; simp only [hd, decide_eq_true_eq]; omega)
    · rw [nI_eq (by omega) (by omega)] at c_81
      refine lv_aload_n hx hb dX3_holdsIn_84 rfl (lv_at hl 2 rfl) ?_
      refine lv_aload_n hx hb dX3_holdsIn_85 rfl (lv_at hl 1 rfl) ?_
      refine fs_get E hP (k := k) (v := .int (nI b)) 3 fc3 hc hk (by decide) (wm wl_7 (i := 5) rfl) rfl dX3_holdsIn_86 ?_
      refine fs_pi (va_runSN (As := [.ref (fa g j), .int (nI b)]) (rest := []) E.1 (c_X7_at l g N ct j 6 f (nI b) (by omega) hj hc2) (lk_RX3_31 E.1.2.2.2.2 (E.2.1.2.1 _ (List.mem_of_getElem? (i := 34) rfl)) ⟨Nat.le_of_ble_eq_true rfl, Nat.le_of_ble_eq_true rfl⟩) (fpreS E hP hS) rfl rfl hl.1 rfl (lv_room (Nat.le_of_ble_eq_true rfl)) dX3_holdsIn_89 ⟨Nat.zero_le _, Nat.zero_le _⟩) hS (fun r_89 locs p_89 hS => ?_)
      refine fs_vi (p_89.trans ((atF_in (by omega) (by omega)).trans (hRW.in (by omega) hn6))) ?_
      refine lv_aload_n hx hb dX3_holdsIn_92 rfl (lv_at hl 1 rfl) ?_
      refine fs_get E hP (k := k) (v := .int (nI a)) 2 fc3 hc hk (by decide) (wm wl_7 (i := 4) rfl) rfl dX3_holdsIn_93 ?_
      refine lv_icmp_ne (tgt := 103) hx hb dX3_holdsIn_96 (by decide) (fun c_96 => ?_) (fun c_96 => ?_)
      · rw [nI_eq (by omega) (by omega)] at c_96
        refine lv_iconst (v := (nI 0)) hx hb dX3_holdsIn_103 (by decide) ?_
        refine fs_pzret E hr rfl hlk hS dX3_holdsIn_104 ?_
        exact bI_f (by rw [show kd = 2 by omega]; simp only [hd, decide_eq_true_eq]; omega)
      · rw [nI_eq (by omega) (by omega)] at c_96
        refine lv_iconst (v := (nI 1)) hx hb dX3_holdsIn_99 (by decide) ?_
        refine lv_goto (tgt := 104) hx hb dX3_holdsIn_100 (by decide) ?_
        refine fs_pzret E hr rfl hlk hS dX3_holdsIn_104 ?_
        exact bI_t (by rw [show kd = 2 by omega]; simp only [hd, decide_eq_true_eq]; omega)
  rcases Decidable.em (kd = 3) with k_13_3 | k_13_3
  · refine fs_vi (congrArg nI k_13_3) ?_
    refine lv_tableIn (off := 92) (tgt := 105) hx hb dX3_holdsIn_13 (by decide) (by decide) rfl (by decide) ?_
    refine lv_iload_n hx hb dX3_holdsIn_105 rfl (lv_at hl 0 rfl) ?_
    refine lv_aload_n hx hb dX3_holdsIn_106 rfl (lv_at hl 2 rfl) ?_
    refine lv_aload_n hx hb dX3_holdsIn_107 rfl (lv_at hl 1 rfl) ?_
    refine fs_get E hP (k := k) (v := .int (nI b)) 3 fc3 hc hk (by decide) (wm wl_7 (i := 5) rfl) rfl dX3_holdsIn_108 ?_
    refine fs_pi (va_runSN (As := [.ref (fa g j), .int (nI b)]) (rest := [.int (nI (w a))]) E.1 (c_X7_at l g N ct j 6 f (nI b) (by omega) hj hc2) (lk_RX3_31 E.1.2.2.2.2 (E.2.1.2.1 _ (List.mem_of_getElem? (i := 34) rfl)) ⟨Nat.le_of_ble_eq_true rfl, Nat.le_of_ble_eq_true rfl⟩) (fpreS E hP hS) rfl rfl hl.1 rfl (lv_room (Nat.le_of_ble_eq_true rfl)) dX3_holdsIn_111 ⟨Nat.zero_le _, Nat.zero_le _⟩) hS (fun r_111 locs p_111 hS => ?_)
    refine fs_vi (p_111.trans ((atF_in (by omega) (by omega)).trans (hRW.in (by omega) hn6))) ?_
    refine lv_icmp_ne (tgt := 121) hx hb dX3_holdsIn_114 (by decide) (fun c_114 => ?_) (fun c_114 => ?_)
    · rw [nI_eq (by omega) (by omega)] at c_114
      refine lv_iconst (v := (nI 0)) hx hb dX3_holdsIn_121 (by decide) ?_
      refine fs_pzret E hr rfl hlk hS dX3_holdsIn_122 ?_
      exact bI_f (by rw [show kd = 3 by omega]; simp only [hd, decide_eq_true_eq]; omega)
    · rw [nI_eq (by omega) (by omega)] at c_114
      refine lv_iconst (v := (nI 1)) hx hb dX3_holdsIn_117 (by decide) ?_
      refine lv_goto (tgt := 122) hx hb dX3_holdsIn_118 (by decide) ?_
      refine fs_pzret E hr rfl hlk hS dX3_holdsIn_122 ?_
      exact bI_t (by rw [show kd = 3 by omega]; simp only [hd, decide_eq_true_eq]; omega)
  rcases Decidable.em (kd = 4) with k_13_4 | k_13_4
  · refine fs_vi (congrArg nI k_13_4) ?_
    refine lv_tableIn (off := 110) (tgt := 123) hx hb dX3_holdsIn_13 (by decide) (by decide) rfl (by decide) ?_
    refine lv_aload_n hx hb dX3_holdsIn_123 rfl (lv_at hl 2 rfl) ?_
    refine lv_aload_n hx hb dX3_holdsIn_124 rfl (lv_at hl 1 rfl) ?_
    refine fs_get E hP (k := k) (v := .int (nI a)) 2 fc3 hc hk (by decide) (wm wl_7 (i := 4) rfl) rfl dX3_holdsIn_125 ?_
    refine fs_pi (va_runSN (As := [.ref (fa g j), .int (nI a)]) (rest := []) E.1 (c_X7_watchers l g N ct j 6 f (nI a) (by omega) hj hc2) (lk_RX3_35 E.1.2.2.2.2 (E.2.1.2.1 _ (List.mem_of_getElem? (i := 35) rfl)) ⟨Nat.le_of_ble_eq_true rfl, Nat.le_of_ble_eq_true rfl⟩) (fpreS E hP hS) rfl rfl hl.1 rfl (lv_room (Nat.le_of_ble_eq_true rfl)) dX3_holdsIn_128 ⟨Nat.zero_le _, Nat.zero_le _⟩) hS (fun r_128 locs p_128 hS => ?_)
    refine fs_vi (p_128.trans (congrArg nI (hRW.watch hw hn6 (by omega)))) ?_
    refine lv_aload_n hx hb dX3_holdsIn_131 rfl (lv_at hl 1 rfl) ?_
    refine fs_get E hP (k := k) (v := .int (nI b)) 3 fc3 hc hk (by decide) (wm wl_7 (i := 5) rfl) rfl dX3_holdsIn_132 ?_
    refine lv_icmp_ne (tgt := 142) hx hb dX3_holdsIn_135 (by decide) (fun c_135 => ?_) (fun c_135 => ?_)
    · rw [nI_eq (by omega) (by omega)] at c_135
      refine lv_iconst (v := (nI 0)) hx hb dX3_holdsIn_142 (by decide) ?_
      refine fs_pzret E hr rfl hlk hS dX3_holdsIn_143 ?_
      exact bI_f (by rw [show kd = 4 by omega]; simp only [hd, decide_eq_true_eq]; omega)
    · rw [nI_eq (by omega) (by omega)] at c_135
      refine lv_iconst (v := (nI 1)) hx hb dX3_holdsIn_138 (by decide) ?_
      refine lv_goto (tgt := 143) hx hb dX3_holdsIn_139 (by decide) ?_
      refine fs_pzret E hr rfl hlk hS dX3_holdsIn_143 ?_
      exact bI_t (by rw [show kd = 4 by omega]; simp only [hd, decide_eq_true_eq]; omega)
  refine lv_tableOut (tgt := 144) hx hb dX3_holdsIn_13 (Or.inr (by rw [nI_toInt (by omega)]; omega)) (by decide) ?_
  refine lv_aload_n hx hb dX3_holdsIn_144 rfl (lv_at hl 2 rfl) ?_
  refine lv_iload_n hx hb dX3_holdsIn_145 rfl (lv_at hl 0 rfl) ?_
  refine fs_pi (va_runSN (As := [.ref (fa g j), .int (nI (w a))]) (rest := []) E.1 (c_X7_at l g N ct j 6 f (nI (w a)) (by omega) hj hc2) (lk_RX3_31 E.1.2.2.2.2 (E.2.1.2.1 _ (List.mem_of_getElem? (i := 34) rfl)) ⟨Nat.le_of_ble_eq_true rfl, Nat.le_of_ble_eq_true rfl⟩) (fpreS E hP hS) rfl rfl hl.1 rfl (lv_room (Nat.le_of_ble_eq_true rfl)) dX3_holdsIn_146 ⟨Nat.zero_le _, Nat.zero_le _⟩) hS (fun r_146 locs p_146 hS => ?_)
  refine fs_vi (p_146.trans ((atF_in (by omega) (by omega)).trans (hRW.in (by omega) hn6))) ?_
  refine lv_aload_n hx hb dX3_holdsIn_149 rfl (lv_at hl 1 rfl) ?_
  refine fs_get E hP (k := k) (v := .int (nI b)) 3 fc3 hc hk (by decide) (wm wl_7 (i := 5) rfl) rfl dX3_holdsIn_150 ?_
  refine lv_icmp_ne (tgt := 160) hx hb dX3_holdsIn_153 (by decide) (fun c_153 => ?_) (fun c_153 => ?_)
  · rw [nI_eq (by omega) (by omega)] at c_153
    refine lv_iconst (v := (nI 0)) hx hb dX3_holdsIn_160 (by decide) ?_
    refine fs_pzret E hr rfl hlk hS dX3_holdsIn_161 ?_
    exact bI_f (by rw [show kd = 5 by omega]; simp only [hd, decide_eq_true_eq]; omega)
  · rw [nI_eq (by omega) (by omega)] at c_153
    refine lv_iconst (v := (nI 1)) hx hb dX3_holdsIn_156 (by decide) ?_
    refine lv_goto (tgt := 161) hx hb dX3_holdsIn_157 (by decide) ?_
    refine fs_pzret E hr rfl hlk hS dX3_holdsIn_161 ?_
    exact bI_t (by rw [show kd = 5 by omega]; simp only [hd, decide_eq_true_eq]; omega)

set_option maxRecDepth 100000 in
set_option maxHeartbeats 4000000 in
theorem c_X3_isBrokenIn (l : Launch) (g : fG) (N : Nat) (ct : Nat → va_E) (k j : Nat) (te : Int32) (n kd a b st : Nat) (f : Nat → Int32) (w : Nat → Nat) (hk : k < N) (hj : j < N) (hn6 : n ≤ 6) (hst : st < 3) (hok : okk n kd a b) (hRW : RW n w f) (hw : Wok n w) (hc : ct k = .inr (3, [.int te, .int (nI kd), .int (nI a), .int (nI b), .int (nI st)])) (hc2 : ct j = .inl (fcI g, 6, .inl f)) : Met l yX3_isBrokenIn (wsU yX3_isBrokenIn cX3_isBrokenIn 2 (some .boolean)) rX3_isBrokenIn (fPre g N ct [.ref (fa g k), .ref (fa g j)]) (fQpi (fun r => r = bI (bk n w kd a b st = true))) 0 0 (fB g) := by
  refine fs_start (own := RX3) (lv0 := [(0, .ref (fa g k)), (1, .ref (fa g j))]) (by decide) rfl (Nat.le_of_ble_eq_true rfl) rfl ?_
  intro p e s m args below meth c ls E hr hlk hnm hP hl hS
  have hx := E.1.1
  have hb := E.1.2.1
  refine lv_aload_n hx hb dX3_isBrokenIn_0 rfl (lv_at hl 0 rfl) ?_
  refine lv_aload_n hx hb dX3_isBrokenIn_1 rfl (lv_at hl 1 rfl) ?_
  refine fs_pi (va_runV (As := [.ref (fa g j)]) (rest := []) E.1 (c_X3_holdsIn l g N ct k j te (nI st) n kd a b f w hk hj hn6 hok hRW hw hc hc2) (lk_RX3_38 E.1.2.2.2.2 ⟨Nat.le_of_ble_eq_true rfl, Nat.le_of_ble_eq_true rfl⟩) (fpreV E hP hS fc3 hc hk) rfl rfl hl.1 rfl (lv_room (Nat.le_of_ble_eq_true rfl)) dX3_isBrokenIn_2 ⟨Nat.zero_le _, Nat.zero_le _⟩) hS (fun r_2 locs p_2 hS => ?_)
  refine lv_if_eq (tgt := 24) hx hb dX3_isBrokenIn_5 (by decide) (fun c_5 => ?_) (fun c_5 => ?_)
  · have c_5 := (fb_0 p_2).mp c_5
    refine lv_aload_n hx hb dX3_isBrokenIn_24 rfl (lv_at hl 0 rfl) ?_
    refine fs_get E hP (k := k) (v := .int (nI st)) 4 fc3 hc hk (by decide) (wm wl_7 (i := 6) rfl) rfl dX3_isBrokenIn_25 ?_
    refine lv_iconst (v := (nI 1)) hx hb dX3_isBrokenIn_28 (by decide) ?_
    refine lv_icmp_ne (tgt := 36) hx hb dX3_isBrokenIn_29 (by decide) (fun c_29 => ?_) (fun c_29 => ?_)
    · rw [nI_eq (by omega) (by omega)] at c_29
      refine lv_iconst (v := (nI 0)) hx hb dX3_isBrokenIn_36 (by decide) ?_
      refine fs_pzret E hr rfl hlk hS dX3_isBrokenIn_37 ?_
      exact bI_f (by unfold bk; rw [if_neg c_5]; simp only [decide_eq_true_eq]; omega)
    · rw [nI_eq (by omega) (by omega)] at c_29
      refine lv_iconst (v := (nI 1)) hx hb dX3_isBrokenIn_32 (by decide) ?_
      refine lv_goto (tgt := 37) hx hb dX3_isBrokenIn_33 (by decide) ?_
      refine fs_pzret E hr rfl hlk hS dX3_isBrokenIn_37 ?_
      exact bI_t (by unfold bk; rw [if_neg c_5]; simp only [decide_eq_true_eq]; omega)
  · have c_5 := (fb_1 p_2).mp c_5
    refine lv_aload_n hx hb dX3_isBrokenIn_8 rfl (lv_at hl 0 rfl) ?_
    refine fs_get E hP (k := k) (v := .int (nI st)) 4 fc3 hc hk (by decide) (wm wl_7 (i := 6) rfl) rfl dX3_isBrokenIn_9 ?_
    refine lv_iconst (v := (nI 2)) hx hb dX3_isBrokenIn_12 (by decide) ?_
    refine lv_icmp_ne (tgt := 20) hx hb dX3_isBrokenIn_13 (by decide) (fun c_13 => ?_) (fun c_13 => ?_)
    · rw [nI_eq (by omega) (by omega)] at c_13
      refine lv_iconst (v := (nI 0)) hx hb dX3_isBrokenIn_20 (by decide) ?_
      refine lv_goto (tgt := 37) hx hb dX3_isBrokenIn_21 (by decide) ?_
      refine fs_pzret E hr rfl hlk hS dX3_isBrokenIn_37 ?_
      exact bI_f (by unfold bk; rw [if_pos c_5]; simp only [decide_eq_true_eq]; omega)
    · rw [nI_eq (by omega) (by omega)] at c_13
      refine lv_iconst (v := (nI 1)) hx hb dX3_isBrokenIn_16 (by decide) ?_
      refine lv_goto (tgt := 37) hx hb dX3_isBrokenIn_17 (by decide) ?_
      refine fs_pzret E hr rfl hlk hS dX3_isBrokenIn_37 ?_
      exact bI_t (by unfold bk; rw [if_pos c_5]; simp only [decide_eq_true_eq]; omega)

set_option maxRecDepth 100000 in
set_option maxHeartbeats 4000000 in
theorem c_X1_hasBox (l : Launch) (g : fG) (N : Nat) (ct : Nat → va_E) (h : Nat) (n kt : Nat) (act : Int32) (r1 r2 r3 r4 : Nat) (hh : h < N) (hc : ct h = .inr (1, [.int (nI n), .int act, .int (nI kt), .ref (fa g r1), .ref (fa g r2), .ref (fa g r3), .ref (fa g r4)])) (x : Int32) (hn : n < 2147483648) : Met l yX1_hasBox (wsU yX1_hasBox cX1_hasBox 2 (some .boolean)) rX1_hasBox (fPre g N ct [.ref (fa g h), .int x]) (fQpi (fun r => r = bI (0 ≤ x.toInt ∧ x.toInt < (n : Int)))) 0 0 (fB g) := by
  refine fs_start (own := RX1) (lv0 := [(0, .ref (fa g h)), (1, .int x)]) (by decide) rfl (Nat.le_of_ble_eq_true rfl) rfl ?_
  intro p e s m args below meth c ls E hr hlk hnm hP hl hS
  have hx := E.1.1
  have hb := E.1.2.1
  refine lv_iload_n hx hb dX1_hasBox_0 rfl (lv_at hl 1 rfl) ?_
  refine lv_if_lt (tgt := 16) hx hb dX1_hasBox_1 (by decide) (fun c_1 => ?_) (fun c_1 => ?_)
  · rw [fz_lt] at c_1
    refine lv_iconst (v := (nI 0)) hx hb dX1_hasBox_16 (by decide) ?_
    refine fs_pzret E hr rfl hlk hS dX1_hasBox_17 ?_
    exact bI_f (by omega)
  · rw [fz_lt] at c_1
    refine lv_iload_n hx hb dX1_hasBox_4 rfl (lv_at hl 1 rfl) ?_
    refine lv_aload_n hx hb dX1_hasBox_5 rfl (lv_at hl 0 rfl) ?_
    refine fs_get E hP (k := h) (v := .int (nI n)) 0 fc1 hc hh (by decide) (wm wl_4 (i := 15) rfl) rfl dX1_hasBox_6 ?_
    refine lv_icmp_ge (tgt := 16) hx hb dX1_hasBox_9 (by decide) (fun c_9 => ?_) (fun c_9 => ?_)
    · rw [fn_ge (by omega)] at c_9
      refine lv_iconst (v := (nI 0)) hx hb dX1_hasBox_16 (by decide) ?_
      refine fs_pzret E hr rfl hlk hS dX1_hasBox_17 ?_
      exact bI_f (by omega)
    · rw [fn_ge (by omega)] at c_9
      refine lv_iconst (v := (nI 1)) hx hb dX1_hasBox_12 (by decide) ?_
      refine lv_goto (tgt := 17) hx hb dX1_hasBox_13 (by decide) ?_
      refine fs_pzret E hr rfl hlk hS dX1_hasBox_17 ?_
      exact bI_t (by omega)

set_option maxRecDepth 100000 in
set_option maxHeartbeats 4000000 in
theorem c_X1_suits (l : Launch) (g : fG) (N : Nat) (ct : Nat → va_E) (h : Nat) (n kt : Nat) (act : Int32) (r1 r2 r3 r4 : Nat) (hh : h < N) (hc : ct h = .inr (1, [.int (nI n), .int act, .int (nI kt), .ref (fa g r1), .ref (fa g r2), .ref (fa g r3), .ref (fa g r4)])) (x a b : Int32) (hn : n < 2147483648) : Met l yX1_suits (wsU yX1_suits cX1_suits 4 (some .boolean)) rX1_suits (fPre g N ct [.ref (fa g h), .int x, .int a, .int b]) (fQpi (fun r => r = bI ((0 ≤ x.toInt ∧ x.toInt ≤ 5) ∧ (0 ≤ a.toInt ∧ a.toInt < (n : Int)) ∧ ((x.toInt = 4 ∧ 0 ≤ b.toInt ∧ b.toInt ≤ 6) ∨ (x.toInt ≠ 4 ∧ (0 ≤ b.toInt ∧ b.toInt < (n : Int)) ∧ (x.toInt = 5 ∨ a.toInt ≠ b.toInt)))))) 0 0 (fB g) := by
  refine fs_start (own := RX1) (lv0 := [(0, .ref (fa g h)), (1, .int x), (2, .int a), (3, .int b)]) (by decide) rfl (Nat.le_of_ble_eq_true rfl) rfl ?_
  intro p e s m args below meth c ls E hr hlk hnm hP hl hS
  have hx := E.1.1
  have hb := E.1.2.1
  refine lv_iload_n hx hb dX1_suits_0 rfl (lv_at hl 1 rfl) ?_
  refine lv_if_lt (tgt := 17) hx hb dX1_suits_1 (by decide) (fun c_1 => ?_) (fun c_1 => ?_)
  · rw [fz_lt] at c_1
    refine lv_iconst (v := (nI 0)) hx hb dX1_suits_17 (by decide) ?_
    refine fs_pzret E hr rfl hlk hS dX1_suits_18 ?_
    exact bI_f (by omega)
  · rw [fz_lt] at c_1
    refine lv_iload_n hx hb dX1_suits_4 rfl (lv_at hl 1 rfl) ?_
    refine lv_iconst (v := (nI 5)) hx hb dX1_suits_5 (by decide) ?_
    refine lv_icmp_gt (tgt := 17) hx hb dX1_suits_6 (by decide) (fun c_6 => ?_) (fun c_6 => ?_)
    · rw [fn_gt (by omega)] at c_6
      refine lv_iconst (v := (nI 0)) hx hb dX1_suits_17 (by decide) ?_
      refine fs_pzret E hr rfl hlk hS dX1_suits_18 ?_
      exact bI_f (by omega)
    · rw [fn_gt (by omega)] at c_6
      refine lv_aload_n hx hb dX1_suits_9 rfl (lv_at hl 0 rfl) ?_
      refine lv_iload_n hx hb dX1_suits_10 rfl (lv_at hl 2 rfl) ?_
      refine fs_pi (va_runV (As := [.int a]) (rest := []) E.1 (c_X1_hasBox l g N ct h n kt act r1 r2 r3 r4 hh hc a (by omega)) (lk_RX1_54 E.1.2.2.2.2 ⟨Nat.le_of_ble_eq_true rfl, Nat.le_of_ble_eq_true rfl⟩) (fpreV E hP hS fc1 hc hh) rfl rfl hl.1 rfl (lv_room (Nat.le_of_ble_eq_true rfl)) dX1_suits_11 ⟨Nat.zero_le _, Nat.zero_le _⟩) hS (fun r_11 locs p_11 hS => ?_)
      refine lv_if_ne (tgt := 19) hx hb dX1_suits_14 (by decide) (fun c_14 => ?_) (fun c_14 => ?_)
      · have c_14 := (fb_1 p_11).mp c_14
        refine lv_iload_n hx hb dX1_suits_19 rfl (lv_at hl 1 rfl) ?_
        refine lv_iconst (v := (nI 4)) hx hb dX1_suits_20 (by decide) ?_
        refine lv_icmp_ne (tgt := 40) hx hb dX1_suits_21 (by decide) (fun c_21 => ?_) (fun c_21 => ?_)
        · rw [fn_eq (by omega)] at c_21
          refine lv_aload_n hx hb dX1_suits_40 rfl (lv_at hl 0 rfl) ?_
          refine lv_iload_n hx hb dX1_suits_41 rfl (lv_at hl 3 rfl) ?_
          refine fs_pi (va_runV (As := [.int b]) (rest := []) E.1 (c_X1_hasBox l g N ct h n kt act r1 r2 r3 r4 hh hc b (by omega)) (lk_RX1_54 E.1.2.2.2.2 ⟨Nat.le_of_ble_eq_true rfl, Nat.le_of_ble_eq_true rfl⟩) (fpreV E hP hS fc1 hc hh) rfl rfl hl.1 rfl (lv_room (Nat.le_of_ble_eq_true rfl)) dX1_suits_42 ⟨Nat.zero_le _, Nat.zero_le _⟩) hS (fun r_42 locs p_42 hS => ?_)
          refine lv_if_eq (tgt := 62) hx hb dX1_suits_45 (by decide) (fun c_45 => ?_) (fun c_45 => ?_)
          · have c_45 := (fb_0 p_42).mp c_45
            refine lv_iconst (v := (nI 0)) hx hb dX1_suits_62 (by decide) ?_
            refine fs_pzret E hr rfl hlk hS dX1_suits_63 ?_
            exact bI_f (by omega)
          · have c_45 := (fb_1 p_42).mp c_45
            refine lv_iload_n hx hb dX1_suits_48 rfl (lv_at hl 1 rfl) ?_
            refine lv_iconst (v := (nI 5)) hx hb dX1_suits_49 (by decide) ?_
            refine lv_icmp_eq (tgt := 58) hx hb dX1_suits_50 (by decide) (fun c_50 => ?_) (fun c_50 => ?_)
            · rw [fn_eq (by omega)] at c_50
              refine lv_iconst (v := (nI 1)) hx hb dX1_suits_58 (by decide) ?_
              refine lv_goto (tgt := 63) hx hb dX1_suits_59 (by decide) ?_
              refine fs_pzret E hr rfl hlk hS dX1_suits_63 ?_
              exact bI_t (by omega)
            · rw [fn_eq (by omega)] at c_50
              refine lv_iload_n hx hb dX1_suits_53 rfl (lv_at hl 2 rfl) ?_
              refine lv_iload_n hx hb dX1_suits_54 rfl (lv_at hl 3 rfl) ?_
              refine lv_icmp_eq (tgt := 62) hx hb dX1_suits_55 (by decide) (fun c_55 => ?_) (fun c_55 => ?_)
              · rw [← Int32.toInt_inj] at c_55
                refine lv_iconst (v := (nI 0)) hx hb dX1_suits_62 (by decide) ?_
                refine fs_pzret E hr rfl hlk hS dX1_suits_63 ?_
                exact bI_f (by omega)
              · rw [← Int32.toInt_inj] at c_55
                refine lv_iconst (v := (nI 1)) hx hb dX1_suits_58 (by decide) ?_
                refine lv_goto (tgt := 63) hx hb dX1_suits_59 (by decide) ?_
                refine fs_pzret E hr rfl hlk hS dX1_suits_63 ?_
                exact bI_t (by omega)
        · rw [fn_eq (by omega)] at c_21
          refine lv_iload_n hx hb dX1_suits_24 rfl (lv_at hl 3 rfl) ?_
          refine lv_if_lt (tgt := 38) hx hb dX1_suits_25 (by decide) (fun c_25 => ?_) (fun c_25 => ?_)
          · rw [fz_lt] at c_25
            refine lv_iconst (v := (nI 0)) hx hb dX1_suits_38 (by decide) ?_
            refine fs_pzret E hr rfl hlk hS dX1_suits_39 ?_
            exact bI_f (by omega)
          · rw [fz_lt] at c_25
            refine lv_iload_n hx hb dX1_suits_28 rfl (lv_at hl 3 rfl) ?_
            refine lv_bipush (v := (nI 6)) hx hb dX1_suits_29 (by decide) ?_
            refine lv_icmp_gt (tgt := 38) hx hb dX1_suits_31 (by decide) (fun c_31 => ?_) (fun c_31 => ?_)
            · rw [fn_gt (by omega)] at c_31
              refine lv_iconst (v := (nI 0)) hx hb dX1_suits_38 (by decide) ?_
              refine fs_pzret E hr rfl hlk hS dX1_suits_39 ?_
              exact bI_f (by omega)
            · rw [fn_gt (by omega)] at c_31
              refine lv_iconst (v := (nI 1)) hx hb dX1_suits_34 (by decide) ?_
              refine lv_goto (tgt := 39) hx hb dX1_suits_35 (by decide) ?_
              refine fs_pzret E hr rfl hlk hS dX1_suits_39 ?_
              exact bI_t (by omega)
      · have c_14 := (fb_0 p_11).mp c_14
        refine lv_iconst (v := (nI 0)) hx hb dX1_suits_17 (by decide) ?_
        refine fs_pzret E hr rfl hlk hS dX1_suits_18 ?_
        exact bI_f (by omega)

set_option maxRecDepth 100000 in
set_option maxHeartbeats 4000000 in
theorem c_X1_hasRoomFor (l : Launch) (g : fG) (N : Nat) (ct : Nat → va_E) (h : Nat) (n kt : Nat) (act : Int32) (r1 r2 r3 r4 : Nat) (hh : h < N) (hc : ct h = .inr (1, [.int (nI n), .int act, .int (nI kt), .ref (fa g r1), .ref (fa g r2), .ref (fa g r3), .ref (fa g r4)])) (mm : Nat) (hm : mm < 1000) (hkt : kt ≤ 20) : Met l yX1_hasRoomFor (wsU yX1_hasRoomFor cX1_hasRoomFor 2 (some .boolean)) rX1_hasRoomFor (fPre g N ct [.ref (fa g h), .int (nI mm)]) (fQpi (fun r => r = bI (kt + mm ≤ 20))) 0 0 (fB g) := by
  refine fs_start (own := RX1) (lv0 := [(0, .ref (fa g h)), (1, .int (nI mm))]) (by decide) rfl (Nat.le_of_ble_eq_true rfl) rfl ?_
  intro p e s m args below meth c ls E hr hlk hnm hP hl hS
  have hx := E.1.1
  have hb := E.1.2.1
  refine lv_aload_n hx hb dX1_hasRoomFor_0 rfl (lv_at hl 0 rfl) ?_
  refine fs_get E hP (k := h) (v := .int (nI kt)) 2 fc1 hc hh (by decide) (wm wl_4 (i := 17) rfl) rfl dX1_hasRoomFor_1 ?_
  refine lv_iload_n hx hb dX1_hasRoomFor_4 rfl (lv_at hl 1 rfl) ?_
  refine lv_iadd hx hb dX1_hasRoomFor_5 ?_
  refine fs_vi (y := (nI (kt + mm))) (nI_add kt mm) ?_
  refine lv_bipush (v := (nI 20)) hx hb dX1_hasRoomFor_6 (by decide) ?_
  refine lv_icmp_gt (tgt := 15) hx hb dX1_hasRoomFor_8 (by decide) (fun c_8 => ?_) (fun c_8 => ?_)
  · rw [nI_ltI (by omega) (by omega)] at c_8
    refine lv_iconst (v := (nI 0)) hx hb dX1_hasRoomFor_15 (by decide) ?_
    refine fs_pzret E hr rfl hlk hS dX1_hasRoomFor_16 ?_
    exact bI_f (by omega)
  · rw [nI_ltI (by omega) (by omega)] at c_8
    refine lv_iconst (v := (nI 1)) hx hb dX1_hasRoomFor_11 (by decide) ?_
    refine lv_goto (tgt := 16) hx hb dX1_hasRoomFor_12 (by decide) ?_
    refine fs_pzret E hr rfl hlk hS dX1_hasRoomFor_16 ?_
    exact bI_t (by omega)

set_option maxRecDepth 100000 in
set_option maxHeartbeats 4000000 in
theorem c_X1_rumourAt (l : Launch) (g : fG) (N : Nat) (ct : Nat → va_E) (h kt : Nat) (b0 a0 : Int32) (f4 : Nat → Option Nat) (x : Int32) (hN : h + 25 ≤ N) (hk20 : kt ≤ 20) (hc0 : ct h = .inr (1, [.int b0, .int a0, .int (nI kt), .ref (fa g (h + 1)), .ref (fa g (h + 2)), .ref (fa g (h + 3)), .ref (fa g (h + 4))])) (hc4 : ct (h + 4) = .inl (fcR g, 20, .inr (.inr (.inr (.inr f4))))) (hf4 : ∀ r, r < 20 → f4 r = some (fa g (h + 5 + r))) : Met l yX1_rumourAt (wsU yX1_rumourAt cX1_rumourAt 2 (some (.object "OperaGlasses$Rumour"))) rX1_rumourAt (fPre g N ct [.ref (fa g h), .int x]) (fQpr (fun r => (∃ j, j < kt ∧ x = nI j ∧ r = .ref (fa g (h + 5 + j))) ∨ ((x.toInt < 0 ∨ (kt : Int) ≤ x.toInt) ∧ r = .null))) 0 0 (fB g) := by
  refine fs_start (own := RX1) (lv0 := [(0, .ref (fa g h)), (1, .int x)]) (by decide) rfl (Nat.le_of_ble_eq_true rfl) rfl ?_
  intro p e s m args below meth c ls E hr hlk hnm hP hl hS
  have hx := E.1.1
  have hb := E.1.2.1
  refine lv_iload_n hx hb dX1_rumourAt_0 rfl (lv_at hl 1 rfl) ?_
  refine lv_if_lt (tgt := 30) hx hb dX1_rumourAt_1 (by decide) (fun c_1 => ?_) (fun c_1 => ?_)
  · rw [fz_lt] at c_1
    refine lv_null hx hb dX1_rumourAt_30 ?_
    refine fs_paret E hr (Or.inl rfl) hlk hS dX1_rumourAt_31 ?_
    exact Or.inr ⟨by omega, rfl⟩
  · rw [fz_lt] at c_1
    have c_1n : 0 ≤ x.toInt := by omega
    refine lv_iload_n hx hb dX1_rumourAt_4 rfl (lv_at hl 1 rfl) ?_
    refine lv_aload_n hx hb dX1_rumourAt_5 rfl (lv_at hl 0 rfl) ?_
    refine fs_get E hP (k := h) (v := .int (nI kt)) 2 fc1 hc0 (by omega) (by decide) (wm wl_4 (i := 17) rfl) rfl dX1_rumourAt_6 ?_
    refine lv_icmp_ge (tgt := 30) hx hb dX1_rumourAt_9 (by decide) (fun c_9 => ?_) (fun c_9 => ?_)
    · rw [fn_ge (by omega)] at c_9
      refine lv_null hx hb dX1_rumourAt_30 ?_
      refine fs_paret E hr (Or.inl rfl) hlk hS dX1_rumourAt_31 ?_
      exact Or.inr ⟨by omega, rfl⟩
    · rw [fn_ge (by omega)] at c_9
      refine lv_iload_n hx hb dX1_rumourAt_12 rfl (lv_at hl 1 rfl) ?_
      refine lv_aload_n hx hb dX1_rumourAt_13 rfl (lv_at hl 0 rfl) ?_
      refine fs_get E hP (k := h) (v := .ref (fa g (h + 4))) 6 fc1 hc0 (by omega) (by decide) (wm wl_2 (i := 19) rfl) rfl dX1_rumourAt_14 ?_
      refine fs_alenR E hP (k := (h + 4)) hc4 (by omega) dX1_rumourAt_17 ?_
      refine lv_icmp_ge (tgt := 30) hx hb dX1_rumourAt_18 (by decide) (fun c_18 => ?_) (fun c_18 => ?_)
      · rw [fn_ge (by omega)] at c_18
        refine lv_null hx hb dX1_rumourAt_30 ?_
        refine fs_paret E hr (Or.inl rfl) hlk hS dX1_rumourAt_31 ?_
        exact Or.inr ⟨by omega, rfl⟩
      · rw [fn_ge (by omega)] at c_18
        refine lv_aload_n hx hb dX1_rumourAt_21 rfl (lv_at hl 0 rfl) ?_
        refine fs_get E hP (k := h) (v := .ref (fa g (h + 4))) 6 fc1 hc0 (by omega) (by decide) (wm wl_2 (i := 19) rfl) rfl dX1_rumourAt_22 ?_
        refine lv_iload_n hx hb dX1_rumourAt_25 rfl (lv_at hl 1 rfl) ?_
        refine fs_aaldR E hP (k := (h + 4)) hc4 (by omega) (fin_of (by omega) (by omega)) dX1_rumourAt_26 ?_
        refine fs_vv (y := .ref (fa g (h + 5 + x.toNatClampNeg))) (by rw [hf4 _ (by rw [fcl c_1n]; omega)]; rfl) ?_
        refine lv_goto (tgt := 31) hx hb dX1_rumourAt_27 (by decide) ?_
        refine fs_paret E hr (Or.inr ⟨_, rfl⟩) hlk hS dX1_rumourAt_31 ?_
        obtain ⟨j, hj, e⟩ := fex (x := x) (n := kt) (by omega) (by omega)
        exact Or.inl ⟨j, hj, e, by rw [e, nI_clamp (by omega)]⟩
end
section
theorem rum_in {g : fG} {h i kt : Nat} {r : Value} (q : (∃ j, j < kt ∧ nI i = nI j ∧ r = .ref (fa g (h + 5 + j))) ∨ (((nI i).toInt < 0 ∨ (kt : Int) ≤ (nI i).toInt) ∧ r = .null)) (hi : i < kt) (hk : kt ≤ 20) : r = .ref (fa g (h + 5 + i)) := by
  rcases q with ⟨j, hj, e, rfl⟩ | ⟨h2, -⟩
  · rw [nI_eq (by omega) (by omega)] at e; rw [e]
  · rw [nI_toInt (by omega)] at h2; omega
theorem Good.wok {σ : Nat → Int32} (h : Good σ) : Wok (nB σ) (lkf σ) := fun p hp => (h.2.2.1 p hp).2.1
theorem Good.r {σ : Nat → Int32} (h : Good σ) {i : Nat} (hi : i < nT σ) : rOK σ i := h.2.2.2.2 i hi
theorem Good.k {σ : Nat → Int32} (h : Good σ) : nT σ ≤ 20 := h.2.1.2
theorem Good.n3 {σ : Nat → Int32} (h : Good σ) : 3 ≤ nB σ := h.1.2.1
theorem Good.n6 {σ : Nat → Int32} (h : Good σ) : nB σ ≤ 6 := h.1.2.2
theorem okk.lt {n kd a b : Nat} (h : okk n kd a b) (hn : n ≤ 6) : kd < 6 ∧ a < 6 ∧ b < 7 := by
  obtain ⟨h1, h2, h3, h4⟩ := h
  refine ⟨by omega, by omega, ?_⟩
  rcases Decidable.em (kd = 4) with q | q
  · have := h3 q; omega
  · have := (h4 q).1; omega

set_option maxRecDepth 100000 in
set_option maxHeartbeats 4000000 in
theorem c_X1_isOpen (l : Launch) (g : fG) (N : Nat) (ct : Nat → va_E) (h : Nat) (σ : Nat → Int32) (i : Nat) (hN : h + 25 ≤ N) (hG : Good σ) (hH : HouseAt g ct h σ) (hi : i < nT σ) : Met l yX1_isOpen (wsU yX1_isOpen cX1_isOpen 3 (some .boolean)) rX1_isOpen (fPre g N ct [.ref (fa g h), .int (nI i)]) (fQpi (fun r => r = bI (rk σ i 4 = 0))) 0 0 (fB g) := by
  refine fs_start (own := RX1) (lv0 := [(0, .ref (fa g h)), (1, .int (nI i))]) (by decide) rfl (Nat.le_of_ble_eq_true rfl) rfl ?_
  intro p e s m args below meth c ls E hr hlk hnm hP hl hS
  have hx := E.1.1
  have hb := E.1.2.1
  have hG20 := hG.k
  have hG3 := hG.n3
  have hG6 := hG.n6
  obtain ⟨hc0, ⟨f1, hc1, hf1⟩, ⟨f2, hc2, hf2⟩, ⟨f3, hc3, hf3⟩, ⟨f4, hc4, hf4⟩, hc5⟩ := id hH
  refine lv_aload_n hx hb dX1_isOpen_0 rfl (lv_at hl 0 rfl) ?_
  refine lv_iload_n hx hb dX1_isOpen_1 rfl (lv_at hl 1 rfl) ?_
  refine fs_pr (va_runV (As := [.int (nI i)]) (rest := []) E.1 (c_X1_rumourAt l g N ct h (nT σ) (nI (nB σ)) (σ 2) f4 (nI i) (by omega) (by omega) hc0 hc4 hf4) (lk_RX1_46 E.1.2.2.2.2 ⟨Nat.le_of_ble_eq_true rfl, Nat.le_of_ble_eq_true rfl⟩) (fpreV E hP hS fc1 hc0 (by omega)) rfl rfl hl.1 rfl (lv_room (Nat.le_of_ble_eq_true rfl)) dX1_isOpen_2 ⟨Nat.zero_le _, Nat.zero_le _⟩) hS (fun r_2 locs p_2 hS => ?_)
  refine fs_vv (y := .ref (fa g (h + 5 + i))) (rum_in p_2 hi hG20) ?_
  obtain ⟨te9, kd9, a9, b9, st9, hr0, hr1⟩ := hc5 i (by omega)
  obtain ⟨rfl, rfl, rfl, rfl, rfl⟩ := hr1 hi
  obtain ⟨hrA, hrB, hrC, hrD⟩ := hG.r hi
  obtain ⟨hrE, hrF, hrH⟩ := hrC.lt hG6
  refine lv_astore_n (lv' := [(2, .ref (fa g (h + 5 + i))), (0, .ref (fa g h)), (1, .int (nI i))]) hx hb dX1_isOpen_5 rfl hl (by decide) rfl (fun ls hl => ?_)
  refine lv_aload_n hx hb dX1_isOpen_6 rfl (lv_at hl 0 rfl) ?_
  refine lv_ifnull hx hb dX1_isOpen_7 ?_
  refine lv_aload_n hx hb dX1_isOpen_10 rfl (lv_at hl 0 rfl) ?_
  refine fs_getN E hP (k := (h + 5 + i)) (v := .int (nI (rk σ i 4))) 4 fc3 hr0 (by omega) (by decide) (j := 6) rfl rfl dX1_isOpen_11 ?_
  refine lv_if_ne (tgt := 21) hx hb dX1_isOpen_14 (by decide) (fun c_14 => ?_) (fun c_14 => ?_)
  · rw [fz_eqN (by omega)] at c_14
    refine lv_iconst (v := (nI 0)) hx hb dX1_isOpen_21 (by decide) ?_
    refine fs_pzret E hr rfl hlk hS dX1_isOpen_22 ?_
    exact bI_f (by omega)
  · rw [fz_eqN (by omega)] at c_14
    refine lv_iconst (v := (nI 1)) hx hb dX1_isOpen_17 (by decide) ?_
    refine lv_goto (tgt := 22) hx hb dX1_isOpen_18 (by decide) ?_
    refine fs_pzret E hr rfl hlk hS dX1_isOpen_22 ?_
    exact bI_t (by omega)

set_option maxRecDepth 100000 in
set_option maxHeartbeats 4000000 in
theorem c_X1_isTrue (l : Launch) (g : fG) (N : Nat) (ct : Nat → va_E) (h : Nat) (σ : Nat → Int32) (i : Nat) (hN : h + 25 ≤ N) (hG : Good σ) (hH : HouseAt g ct h σ) (hi : i < nT σ) : Met l yX1_isTrue (wsU yX1_isTrue cX1_isTrue 3 (some .boolean)) rX1_isTrue (fPre g N ct [.ref (fa g h), .int (nI i)]) (fQpi (fun r => r = bI (hdr σ (lkf σ) i = true))) 0 0 (fB g) := by
  refine fs_start (own := RX1) (lv0 := [(0, .ref (fa g h)), (1, .int (nI i))]) (by decide) rfl (Nat.le_of_ble_eq_true rfl) rfl ?_
  intro p e s m args below meth c ls E hr hlk hnm hP hl hS
  have hx := E.1.1
  have hb := E.1.2.1
  have hG20 := hG.k
  have hG3 := hG.n3
  have hG6 := hG.n6
  obtain ⟨hc0, ⟨f1, hc1, hf1⟩, ⟨f2, hc2, hf2⟩, ⟨f3, hc3, hf3⟩, ⟨f4, hc4, hf4⟩, hc5⟩ := id hH
  refine lv_aload_n hx hb dX1_isTrue_0 rfl (lv_at hl 0 rfl) ?_
  refine lv_iload_n hx hb dX1_isTrue_1 rfl (lv_at hl 1 rfl) ?_
  refine fs_pr (va_runV (As := [.int (nI i)]) (rest := []) E.1 (c_X1_rumourAt l g N ct h (nT σ) (nI (nB σ)) (σ 2) f4 (nI i) (by omega) (by omega) hc0 hc4 hf4) (lk_RX1_46 E.1.2.2.2.2 ⟨Nat.le_of_ble_eq_true rfl, Nat.le_of_ble_eq_true rfl⟩) (fpreV E hP hS fc1 hc0 (by omega)) rfl rfl hl.1 rfl (lv_room (Nat.le_of_ble_eq_true rfl)) dX1_isTrue_2 ⟨Nat.zero_le _, Nat.zero_le _⟩) hS (fun r_2 locs p_2 hS => ?_)
  refine fs_vv (y := .ref (fa g (h + 5 + i))) (rum_in p_2 hi hG20) ?_
  obtain ⟨te9, kd9, a9, b9, st9, hr0, hr1⟩ := hc5 i (by omega)
  obtain ⟨rfl, rfl, rfl, rfl, rfl⟩ := hr1 hi
  obtain ⟨hrA, hrB, hrC, hrD⟩ := hG.r hi
  obtain ⟨hrE, hrF, hrH⟩ := hrC.lt hG6
  refine lv_astore_n (lv' := [(2, .ref (fa g (h + 5 + i))), (0, .ref (fa g h)), (1, .int (nI i))]) hx hb dX1_isTrue_5 rfl hl (by decide) rfl (fun ls hl => ?_)
  refine lv_aload_n hx hb dX1_isTrue_6 rfl (lv_at hl 0 rfl) ?_
  refine lv_ifnull hx hb dX1_isTrue_7 ?_
  refine lv_aload_n hx hb dX1_isTrue_10 rfl (lv_at hl 0 rfl) ?_
  refine lv_aload_n hx hb dX1_isTrue_11 rfl (lv_at hl 1 rfl) ?_
  refine fs_get E hP (k := h) (v := .ref (fa g (h + 1))) 3 fc1 hc0 (by omega) (by decide) (wm wl_2 (i := 15) rfl) rfl dX1_isTrue_12 ?_
  refine fs_pi (va_runV (As := [.ref (fa g (h + 1))]) (rest := []) E.1 (c_X3_holdsIn l g N ct (h + 5 + i) (h + 1) (nI (rk σ i 0)) (nI (rk σ i 4)) (nB σ) (rk σ i 1) (rk σ i 2) (rk σ i 3) f1 (lkf σ) (by omega) (by omega) hG6 hrC hf1 hG.wok hr0 hc1) (lk_RX1_71 E.1.2.2.2.2 ⟨Nat.le_of_ble_eq_true rfl, Nat.le_of_ble_eq_true rfl⟩) (fpreV E hP hS fc3 hr0 (by omega)) rfl rfl hl.1 rfl (lv_room (Nat.le_of_ble_eq_true rfl)) dX1_isTrue_15 ⟨Nat.zero_le _, Nat.zero_le _⟩) hS (fun r_15 locs p_15 hS => ?_)
  refine lv_if_eq (tgt := 25) hx hb dX1_isTrue_18 (by decide) (fun c_18 => ?_) (fun c_18 => ?_)
  · have c_18 := (fb_0 p_15).mp c_18
    refine lv_iconst (v := (nI 0)) hx hb dX1_isTrue_25 (by decide) ?_
    refine fs_pzret E hr rfl hlk hS dX1_isTrue_26 ?_
    exact bI_f c_18
  · have c_18 := (fb_1 p_15).mp c_18
    refine lv_iconst (v := (nI 1)) hx hb dX1_isTrue_21 (by decide) ?_
    refine lv_goto (tgt := 26) hx hb dX1_isTrue_22 (by decide) ?_
    refine fs_pzret E hr rfl hlk hS dX1_isTrue_26 ?_
    exact bI_t c_18

set_option maxRecDepth 100000 in
set_option maxHeartbeats 4000000 in
theorem c_X1_tellerOf (l : Launch) (g : fG) (N : Nat) (ct : Nat → va_E) (h : Nat) (σ : Nat → Int32) (i : Nat) (hN : h + 25 ≤ N) (hG : Good σ) (hH : HouseAt g ct h σ) (hi : i < nT σ) : Met l yX1_tellerOf (wsU yX1_tellerOf cX1_tellerOf 3 (some .int)) rX1_tellerOf (fPre g N ct [.ref (fa g h), .int (nI i)]) (fQpi (fun r => r = nI (rk σ i 0))) 0 0 (fB g) := by
  refine fs_start (own := RX1) (lv0 := [(0, .ref (fa g h)), (1, .int (nI i))]) (by decide) rfl (Nat.le_of_ble_eq_true rfl) rfl ?_
  intro p e s m args below meth c ls E hr hlk hnm hP hl hS
  have hx := E.1.1
  have hb := E.1.2.1
  have hG20 := hG.k
  have hG3 := hG.n3
  have hG6 := hG.n6
  obtain ⟨hc0, ⟨f1, hc1, hf1⟩, ⟨f2, hc2, hf2⟩, ⟨f3, hc3, hf3⟩, ⟨f4, hc4, hf4⟩, hc5⟩ := id hH
  refine lv_aload_n hx hb dX1_tellerOf_0 rfl (lv_at hl 0 rfl) ?_
  refine lv_iload_n hx hb dX1_tellerOf_1 rfl (lv_at hl 1 rfl) ?_
  refine fs_pr (va_runV (As := [.int (nI i)]) (rest := []) E.1 (c_X1_rumourAt l g N ct h (nT σ) (nI (nB σ)) (σ 2) f4 (nI i) (by omega) (by omega) hc0 hc4 hf4) (lk_RX1_46 E.1.2.2.2.2 ⟨Nat.le_of_ble_eq_true rfl, Nat.le_of_ble_eq_true rfl⟩) (fpreV E hP hS fc1 hc0 (by omega)) rfl rfl hl.1 rfl (lv_room (Nat.le_of_ble_eq_true rfl)) dX1_tellerOf_2 ⟨Nat.zero_le _, Nat.zero_le _⟩) hS (fun r_2 locs p_2 hS => ?_)
  refine fs_vv (y := .ref (fa g (h + 5 + i))) (rum_in p_2 hi hG20) ?_
  obtain ⟨te9, kd9, a9, b9, st9, hr0, hr1⟩ := hc5 i (by omega)
  obtain ⟨rfl, rfl, rfl, rfl, rfl⟩ := hr1 hi
  obtain ⟨hrA, hrB, hrC, hrD⟩ := hG.r hi
  obtain ⟨hrE, hrF, hrH⟩ := hrC.lt hG6
  refine lv_astore_n (lv' := [(2, .ref (fa g (h + 5 + i))), (0, .ref (fa g h)), (1, .int (nI i))]) hx hb dX1_tellerOf_5 rfl hl (by decide) rfl (fun ls hl => ?_)
  refine lv_aload_n hx hb dX1_tellerOf_6 rfl (lv_at hl 0 rfl) ?_
  refine lv_ifnull hx hb dX1_tellerOf_7 ?_
  refine lv_aload_n hx hb dX1_tellerOf_10 rfl (lv_at hl 0 rfl) ?_
  refine fs_getN E hP (k := (h + 5 + i)) (v := .int (nI (rk σ i 0))) 0 fc3 hr0 (by omega) (by decide) (j := 1) rfl rfl dX1_tellerOf_11 ?_
  refine lv_goto (tgt := 18) hx hb dX1_tellerOf_14 (by decide) ?_
  refine fs_piret E hr hlk hS dX1_tellerOf_18 ?_
  rfl

set_option maxRecDepth 100000 in
set_option maxHeartbeats 4000000 in
theorem c_X1_openRumours (l : Launch) (g : fG) (N : Nat) (ct : Nat → va_E) (h : Nat) (σ : Nat → Int32) (hN : h + 25 ≤ N) (hG : Good σ) (hH : HouseAt g ct h σ) : Met l yX1_openRumours (wsU yX1_openRumours cX1_openRumours 3 (some .int)) rX1_openRumours (fPre g N ct [.ref (fa g h)]) (fQpi (fun r => r = nI (cN (fun i => decide (rk σ i 4 = 0)) (nT σ)))) 0 0 (fB g) := by
  refine fs_start (own := RX1) (lv0 := [(0, .ref (fa g h))]) (by decide) rfl (Nat.le_of_ble_eq_true rfl) rfl ?_
  intro p e s m args below meth c ls E hr hlk hnm hP hl hS
  have hx := E.1.1
  have hb := E.1.2.1
  have hG20 := hG.k
  have hG3 := hG.n3
  have hG6 := hG.n6
  obtain ⟨hc0, ⟨f1, hc1, hf1⟩, ⟨f2, hc2, hf2⟩, ⟨f3, hc3, hf3⟩, ⟨f4, hc4, hf4⟩, hc5⟩ := id hH
  refine lv_iconst (v := (nI 0)) hx hb dX1_openRumours_0 (by decide) ?_
  refine lv_istore_n (lv' := [(1, .int (nI 0)), (0, .ref (fa g h))]) hx hb dX1_openRumours_1 rfl hl (by decide) rfl (fun ls hl => ?_)
  refine lv_iconst (v := (nI 0)) hx hb dX1_openRumours_2 (by decide) ?_
  refine lv_istore_n (lv' := [(2, .int (nI 0)), (1, .int (nI 0)), (0, .ref (fa g h))]) hx hb dX1_openRumours_3 rfl hl (by decide) rfl (fun ls hl => ?_)
  refine fs_indP (g := g) (St := Nat) (fun (i : Nat) (ls : Array Slot) => lv_has ls 3 [(0, .ref (fa g h)), (1, .int (nI (cN (fun i => decide (rk σ i 4 = 0)) i))), (2, .int (nI i))] ∧ i ≤ nT σ) (fun (i : Nat) => nT σ - i) ?_ 0 ls _ ⟨lv_sub hl [2, 1, 0] rfl, Nat.zero_le _⟩ hS
  clear hl hS
  intro st ls locs hI hS ih
  obtain ⟨i, rfl⟩ : ∃ z, z = st := ⟨_, rfl⟩
  obtain ⟨hl, hI⟩ := hI
  refine lv_iload_n hx hb dX1_openRumours_4 rfl (lv_at hl 2 rfl) ?_
  refine lv_aload_n hx hb dX1_openRumours_5 rfl (lv_at hl 0 rfl) ?_
  refine fs_get E hP (k := h) (v := .int (nI (nT σ))) 2 fc1 hc0 (by omega) (by decide) (wm wl_4 (i := 17) rfl) rfl dX1_openRumours_6 ?_
  refine lv_icmp_ge (tgt := 29) hx hb dX1_openRumours_9 (by decide) (fun c_9 => ?_) (fun c_9 => ?_)
  · rw [nI_leI (by omega) (by omega)] at c_9
    refine lv_iload_n hx hb dX1_openRumours_29 rfl (lv_at hl 1 rfl) ?_
    refine fs_piret E hr hlk hS dX1_openRumours_30 ?_
    rw [show nT σ = i by omega]
  · rw [nI_leI (by omega) (by omega)] at c_9
    refine lv_aload_n hx hb dX1_openRumours_12 rfl (lv_at hl 0 rfl) ?_
    refine lv_iload_n hx hb dX1_openRumours_13 rfl (lv_at hl 2 rfl) ?_
    refine fs_pi (va_runV (As := [.int (nI i)]) (rest := []) E.1 (c_X1_isOpen l g N ct h σ i hN hG hH (by omega)) (lk_RX1_65 E.1.2.2.2.2 ⟨Nat.le_of_ble_eq_true rfl, Nat.le_of_ble_eq_true rfl⟩) (fpreV E hP hS fc1 hc0 (by omega)) rfl rfl hl.1 rfl (lv_room (Nat.le_of_ble_eq_true rfl)) dX1_openRumours_14 ⟨Nat.zero_le _, Nat.zero_le _⟩) hS (fun r_14 locs p_14 hS => ?_)
    refine lv_if_eq (tgt := 23) hx hb dX1_openRumours_17 (by decide) (fun c_17 => ?_) (fun c_17 => ?_)
    · have c_17 := (fb_0 p_14).mp c_17
      refine lv_iinc (v := (nI (i + 1))) (lv' := [(2, .int (nI (i + 1))), (0, .ref (fa g h)), (1, .int (nI (cN (fun i => decide (rk σ i 4 = 0)) i)))]) hx hb dX1_openRumours_23 hl (k := 2) rfl (nI_1 _) (by decide) rfl (fun ls hl => ?_)
      refine lv_goto (tgt := 4) hx hb dX1_openRumours_26 (by decide) ?_
      have e9 : nI (cN (fun i => decide (rk σ i 4 = 0)) i) = nI (cN (fun i => decide (rk σ i 4 = 0)) (i + 1)) := by rw [cN_f (decide_eq_false c_17)]
      rw [e9] at hl
      exact ih (i + 1) ls _ (by (try dsimp only); omega) ⟨lv_sub hl [1, 2, 0] rfl, by omega⟩ hS
    · have c_17 := (fb_1 p_14).mp c_17
      refine lv_iinc (v := (nI (cN (fun i => decide (rk σ i 4 = 0)) (i + 1)))) (lv' := [(1, .int (nI (cN (fun i => decide (rk σ i 4 = 0)) (i + 1)))), (0, .ref (fa g h)), (2, .int (nI i))]) hx hb dX1_openRumours_20 hl (k := 1) rfl (by rw [cN_t (decide_eq_true c_17)]; exact nI_1 _) (by decide) rfl (fun ls hl => ?_)
      refine lv_iinc (v := (nI (i + 1))) (lv' := [(2, .int (nI (i + 1))), (1, .int (nI (cN (fun i => decide (rk σ i 4 = 0)) (i + 1)))), (0, .ref (fa g h))]) hx hb dX1_openRumours_23 hl (k := 2) rfl (nI_1 _) (by decide) rfl (fun ls hl => ?_)
      refine lv_goto (tgt := 4) hx hb dX1_openRumours_26 (by decide) ?_
      exact ih (i + 1) ls _ (by (try dsimp only); omega) ⟨lv_sub hl [2, 1, 0] rfl, by omega⟩ hS

set_option maxRecDepth 100000 in
set_option maxHeartbeats 4000000 in
theorem c_X1_toldBy (l : Launch) (g : fG) (N : Nat) (ct : Nat → va_E) (h : Nat) (σ : Nat → Int32) (q : Nat) (hN : h + 25 ≤ N) (hG : Good σ) (hH : HouseAt g ct h σ) (hq : q < 6) : Met l yX1_toldBy (wsU yX1_toldBy cX1_toldBy 4 (some .int)) rX1_toldBy (fPre g N ct [.ref (fa g h), .int (nI q)]) (fQpi (fun r => r = nI (cN (fun i => decide (rk σ i 0 = q)) (nT σ)))) 0 0 (fB g) := by
  refine fs_start (own := RX1) (lv0 := [(0, .ref (fa g h)), (1, .int (nI q))]) (by decide) rfl (Nat.le_of_ble_eq_true rfl) rfl ?_
  intro p e s m args below meth c ls E hr hlk hnm hP hl hS
  have hx := E.1.1
  have hb := E.1.2.1
  have hG20 := hG.k
  have hG3 := hG.n3
  have hG6 := hG.n6
  obtain ⟨hc0, ⟨f1, hc1, hf1⟩, ⟨f2, hc2, hf2⟩, ⟨f3, hc3, hf3⟩, ⟨f4, hc4, hf4⟩, hc5⟩ := id hH
  refine lv_iconst (v := (nI 0)) hx hb dX1_toldBy_0 (by decide) ?_
  refine lv_istore_n (lv' := [(2, .int (nI 0)), (0, .ref (fa g h)), (1, .int (nI q))]) hx hb dX1_toldBy_1 rfl hl (by decide) rfl (fun ls hl => ?_)
  refine lv_iconst (v := (nI 0)) hx hb dX1_toldBy_2 (by decide) ?_
  refine lv_istore_n (lv' := [(3, .int (nI 0)), (2, .int (nI 0)), (0, .ref (fa g h)), (1, .int (nI q))]) hx hb dX1_toldBy_3 rfl hl (by decide) rfl (fun ls hl => ?_)
  refine fs_indP (g := g) (St := Nat) (fun (i : Nat) (ls : Array Slot) => lv_has ls 4 [(0, .ref (fa g h)), (1, .int (nI q)), (2, .int (nI (cN (fun i => decide (rk σ i 0 = q)) i))), (3, .int (nI i))] ∧ i ≤ nT σ) (fun (i : Nat) => nT σ - i) ?_ 0 ls _ ⟨lv_sub hl [2, 3, 1, 0] rfl, Nat.zero_le _⟩ hS
  clear hl hS
  intro st ls locs hI hS ih
  obtain ⟨i, rfl⟩ : ∃ z, z = st := ⟨_, rfl⟩
  obtain ⟨hl, hI⟩ := hI
  refine lv_iload_n hx hb dX1_toldBy_4 rfl (lv_at hl 3 rfl) ?_
  refine lv_aload_n hx hb dX1_toldBy_5 rfl (lv_at hl 0 rfl) ?_
  refine fs_get E hP (k := h) (v := .int (nI (nT σ))) 2 fc1 hc0 (by omega) (by decide) (wm wl_4 (i := 17) rfl) rfl dX1_toldBy_6 ?_
  refine lv_icmp_ge (tgt := 30) hx hb dX1_toldBy_9 (by decide) (fun c_9 => ?_) (fun c_9 => ?_)
  · rw [nI_leI (by omega) (by omega)] at c_9
    refine lv_iload_n hx hb dX1_toldBy_30 rfl (lv_at hl 2 rfl) ?_
    refine fs_piret E hr hlk hS dX1_toldBy_31 ?_
    rw [show nT σ = i by omega]
  · rw [nI_leI (by omega) (by omega)] at c_9
    refine lv_aload_n hx hb dX1_toldBy_12 rfl (lv_at hl 0 rfl) ?_
    refine lv_iload_n hx hb dX1_toldBy_13 rfl (lv_at hl 3 rfl) ?_
    refine fs_pi (va_runV (As := [.int (nI i)]) (rest := []) E.1 (c_X1_tellerOf l g N ct h σ i hN hG hH (by omega)) (lk_RX1_79 E.1.2.2.2.2 ⟨Nat.le_of_ble_eq_true rfl, Nat.le_of_ble_eq_true rfl⟩) (fpreV E hP hS fc1 hc0 (by omega)) rfl rfl hl.1 rfl (lv_room (Nat.le_of_ble_eq_true rfl)) dX1_toldBy_14 ⟨Nat.zero_le _, Nat.zero_le _⟩) hS (fun r_14 locs p_14 hS => ?_)
    refine fs_vi (y := (nI (rk σ i 0))) p_14 ?_
    have hte := (hG.r (i := i) (by omega)).2.1
    refine lv_iload_n hx hb dX1_toldBy_17 rfl (lv_at hl 1 rfl) ?_
    refine lv_icmp_ne (tgt := 24) hx hb dX1_toldBy_18 (by decide) (fun c_18 => ?_) (fun c_18 => ?_)
    · rw [nI_eq (by omega) (by omega)] at c_18
      refine lv_iinc (v := (nI (i + 1))) (lv' := [(3, .int (nI (i + 1))), (0, .ref (fa g h)), (1, .int (nI q)), (2, .int (nI (cN (fun i => decide (rk σ i 0 = q)) i)))]) hx hb dX1_toldBy_24 hl (k := 3) rfl (nI_1 _) (by decide) rfl (fun ls hl => ?_)
      refine lv_goto (tgt := 4) hx hb dX1_toldBy_27 (by decide) ?_
      have e9 : nI (cN (fun i => decide (rk σ i 0 = q)) i) = nI (cN (fun i => decide (rk σ i 0 = q)) (i + 1)) := by rw [cN_f (decide_eq_false c_18)]
      rw [e9] at hl
      exact ih (i + 1) ls _ (by (try dsimp only); omega) ⟨lv_sub hl [1, 2, 3, 0] rfl, by omega⟩ hS
    · rw [nI_eq (by omega) (by omega)] at c_18
      refine lv_iinc (v := (nI (cN (fun i => decide (rk σ i 0 = q)) (i + 1)))) (lv' := [(2, .int (nI (cN (fun i => decide (rk σ i 0 = q)) (i + 1)))), (0, .ref (fa g h)), (1, .int (nI q)), (3, .int (nI i))]) hx hb dX1_toldBy_21 hl (k := 2) rfl (by rw [cN_t (decide_eq_true c_18)]; exact nI_1 _) (by decide) rfl (fun ls hl => ?_)
      refine lv_iinc (v := (nI (i + 1))) (lv' := [(3, .int (nI (i + 1))), (2, .int (nI (cN (fun i => decide (rk σ i 0 = q)) (i + 1)))), (0, .ref (fa g h)), (1, .int (nI q))]) hx hb dX1_toldBy_24 hl (k := 3) rfl (nI_1 _) (by decide) rfl (fun ls hl => ?_)
      refine lv_goto (tgt := 4) hx hb dX1_toldBy_27 (by decide) ?_
      exact ih (i + 1) ls _ (by (try dsimp only); omega) ⟨lv_sub hl [2, 3, 1, 0] rfl, by omega⟩ hS

set_option maxRecDepth 100000 in
set_option maxHeartbeats 4000000 in
theorem c_X1_toldTrulyBy (l : Launch) (g : fG) (N : Nat) (ct : Nat → va_E) (h : Nat) (σ : Nat → Int32) (q : Nat) (hN : h + 25 ≤ N) (hG : Good σ) (hH : HouseAt g ct h σ) (hq : q < 6) : Met l yX1_toldTrulyBy (wsU yX1_toldTrulyBy cX1_toldTrulyBy 4 (some .int)) rX1_toldTrulyBy (fPre g N ct [.ref (fa g h), .int (nI q)]) (fQpi (fun r => r = nI (cN (fun i => decide (rk σ i 0 = q) && hdr σ (lkf σ) i) (nT σ)))) 0 0 (fB g) := by
  refine fs_start (own := RX1) (lv0 := [(0, .ref (fa g h)), (1, .int (nI q))]) (by decide) rfl (Nat.le_of_ble_eq_true rfl) rfl ?_
  intro p e s m args below meth c ls E hr hlk hnm hP hl hS
  have hx := E.1.1
  have hb := E.1.2.1
  have hG20 := hG.k
  have hG3 := hG.n3
  have hG6 := hG.n6
  obtain ⟨hc0, ⟨f1, hc1, hf1⟩, ⟨f2, hc2, hf2⟩, ⟨f3, hc3, hf3⟩, ⟨f4, hc4, hf4⟩, hc5⟩ := id hH
  refine lv_iconst (v := (nI 0)) hx hb dX1_toldTrulyBy_0 (by decide) ?_
  refine lv_istore_n (lv' := [(2, .int (nI 0)), (0, .ref (fa g h)), (1, .int (nI q))]) hx hb dX1_toldTrulyBy_1 rfl hl (by decide) rfl (fun ls hl => ?_)
  refine lv_iconst (v := (nI 0)) hx hb dX1_toldTrulyBy_2 (by decide) ?_
  refine lv_istore_n (lv' := [(3, .int (nI 0)), (2, .int (nI 0)), (0, .ref (fa g h)), (1, .int (nI q))]) hx hb dX1_toldTrulyBy_3 rfl hl (by decide) rfl (fun ls hl => ?_)
  refine fs_indP (g := g) (St := Nat) (fun (i : Nat) (ls : Array Slot) => lv_has ls 4 [(0, .ref (fa g h)), (1, .int (nI q)), (2, .int (nI (cN (fun i => decide (rk σ i 0 = q) && hdr σ (lkf σ) i) i))), (3, .int (nI i))] ∧ i ≤ nT σ) (fun (i : Nat) => nT σ - i) ?_ 0 ls _ ⟨lv_sub hl [2, 3, 1, 0] rfl, Nat.zero_le _⟩ hS
  clear hl hS
  intro st ls locs hI hS ih
  obtain ⟨i, rfl⟩ : ∃ z, z = st := ⟨_, rfl⟩
  obtain ⟨hl, hI⟩ := hI
  refine lv_iload_n hx hb dX1_toldTrulyBy_4 rfl (lv_at hl 3 rfl) ?_
  refine lv_aload_n hx hb dX1_toldTrulyBy_5 rfl (lv_at hl 0 rfl) ?_
  refine fs_get E hP (k := h) (v := .int (nI (nT σ))) 2 fc1 hc0 (by omega) (by decide) (wm wl_4 (i := 17) rfl) rfl dX1_toldTrulyBy_6 ?_
  refine lv_icmp_ge (tgt := 38) hx hb dX1_toldTrulyBy_9 (by decide) (fun c_9 => ?_) (fun c_9 => ?_)
  · rw [nI_leI (by omega) (by omega)] at c_9
    refine lv_iload_n hx hb dX1_toldTrulyBy_38 rfl (lv_at hl 2 rfl) ?_
    refine fs_piret E hr hlk hS dX1_toldTrulyBy_39 ?_
    rw [show nT σ = i by omega]
  · rw [nI_leI (by omega) (by omega)] at c_9
    refine lv_aload_n hx hb dX1_toldTrulyBy_12 rfl (lv_at hl 0 rfl) ?_
    refine lv_iload_n hx hb dX1_toldTrulyBy_13 rfl (lv_at hl 3 rfl) ?_
    refine fs_pi (va_runV (As := [.int (nI i)]) (rest := []) E.1 (c_X1_tellerOf l g N ct h σ i hN hG hH (by omega)) (lk_RX1_79 E.1.2.2.2.2 ⟨Nat.le_of_ble_eq_true rfl, Nat.le_of_ble_eq_true rfl⟩) (fpreV E hP hS fc1 hc0 (by omega)) rfl rfl hl.1 rfl (lv_room (Nat.le_of_ble_eq_true rfl)) dX1_toldTrulyBy_14 ⟨Nat.zero_le _, Nat.zero_le _⟩) hS (fun r_14 locs p_14 hS => ?_)
    refine fs_vi (y := (nI (rk σ i 0))) p_14 ?_
    have hte := (hG.r (i := i) (by omega)).2.1
    refine lv_iload_n hx hb dX1_toldTrulyBy_17 rfl (lv_at hl 1 rfl) ?_
    refine lv_icmp_ne (tgt := 32) hx hb dX1_toldTrulyBy_18 (by decide) (fun c_18 => ?_) (fun c_18 => ?_)
    · rw [nI_eq (by omega) (by omega)] at c_18
      refine lv_iinc (v := (nI (i + 1))) (lv' := [(3, .int (nI (i + 1))), (0, .ref (fa g h)), (1, .int (nI q)), (2, .int (nI (cN (fun i => decide (rk σ i 0 = q) && hdr σ (lkf σ) i) i)))]) hx hb dX1_toldTrulyBy_32 hl (k := 3) rfl (nI_1 _) (by decide) rfl (fun ls hl => ?_)
      refine lv_goto (tgt := 4) hx hb dX1_toldTrulyBy_35 (by decide) ?_
      have e9 : nI (cN (fun i => decide (rk σ i 0 = q) && hdr σ (lkf σ) i) i) = nI (cN (fun i => decide (rk σ i 0 = q) && hdr σ (lkf σ) i) (i + 1)) := by rw [cN_f (by rw [decide_eq_false c_18]; rfl)]
      rw [e9] at hl
      exact ih (i + 1) ls _ (by (try dsimp only); omega) ⟨lv_sub hl [1, 2, 3, 0] rfl, by omega⟩ hS
    · rw [nI_eq (by omega) (by omega)] at c_18
      refine lv_aload_n hx hb dX1_toldTrulyBy_21 rfl (lv_at hl 0 rfl) ?_
      refine lv_iload_n hx hb dX1_toldTrulyBy_22 rfl (lv_at hl 3 rfl) ?_
      refine fs_pi (va_runV (As := [.int (nI i)]) (rest := []) E.1 (c_X1_isTrue l g N ct h σ i hN hG hH (by omega)) (lk_RX1_83 E.1.2.2.2.2 ⟨Nat.le_of_ble_eq_true rfl, Nat.le_of_ble_eq_true rfl⟩) (fpreV E hP hS fc1 hc0 (by omega)) rfl rfl hl.1 rfl (lv_room (Nat.le_of_ble_eq_true rfl)) dX1_toldTrulyBy_23 ⟨Nat.zero_le _, Nat.zero_le _⟩) hS (fun r_23 locs p_23 hS => ?_)
      refine lv_if_eq (tgt := 32) hx hb dX1_toldTrulyBy_26 (by decide) (fun c_26 => ?_) (fun c_26 => ?_)
      · have c_26 := (fb_0 p_23).mp c_26
        refine lv_iinc (v := (nI (i + 1))) (lv' := [(3, .int (nI (i + 1))), (0, .ref (fa g h)), (1, .int (nI q)), (2, .int (nI (cN (fun i => decide (rk σ i 0 = q) && hdr σ (lkf σ) i) i)))]) hx hb dX1_toldTrulyBy_32 hl (k := 3) rfl (nI_1 _) (by decide) rfl (fun ls hl => ?_)
        refine lv_goto (tgt := 4) hx hb dX1_toldTrulyBy_35 (by decide) ?_
        have e9 : nI (cN (fun i => decide (rk σ i 0 = q) && hdr σ (lkf σ) i) i) = nI (cN (fun i => decide (rk σ i 0 = q) && hdr σ (lkf σ) i) (i + 1)) := by rw [cN_f (by rw [Bool.eq_false_iff.mpr c_26, Bool.and_false])]
        rw [e9] at hl
        exact ih (i + 1) ls _ (by (try dsimp only); omega) ⟨lv_sub hl [1, 2, 3, 0] rfl, by omega⟩ hS
      · have c_26 := (fb_1 p_23).mp c_26
        refine lv_iinc (v := (nI (cN (fun i => decide (rk σ i 0 = q) && hdr σ (lkf σ) i) (i + 1)))) (lv' := [(2, .int (nI (cN (fun i => decide (rk σ i 0 = q) && hdr σ (lkf σ) i) (i + 1)))), (0, .ref (fa g h)), (1, .int (nI q)), (3, .int (nI i))]) hx hb dX1_toldTrulyBy_29 hl (k := 2) rfl (by rw [cN_t (by rw [decide_eq_true c_18, c_26]; rfl)]; exact nI_1 _) (by decide) rfl (fun ls hl => ?_)
        refine lv_iinc (v := (nI (i + 1))) (lv' := [(3, .int (nI (i + 1))), (2, .int (nI (cN (fun i => decide (rk σ i 0 = q) && hdr σ (lkf σ) i) (i + 1)))), (0, .ref (fa g h)), (1, .int (nI q))]) hx hb dX1_toldTrulyBy_32 hl (k := 3) rfl (nI_1 _) (by decide) rfl (fun ls hl => ?_)
        refine lv_goto (tgt := 4) hx hb dX1_toldTrulyBy_35 (by decide) ?_
        exact ih (i + 1) ls _ (by (try dsimp only); omega) ⟨lv_sub hl [2, 3, 1, 0] rfl, by omega⟩ hS

set_option maxRecDepth 100000 in
set_option maxHeartbeats 4000000 in
theorem c_X1_firstBroken (l : Launch) (g : fG) (N : Nat) (ct : Nat → va_E) (h : Nat) (σ : Nat → Int32) (i0 j : Nat) (f : Nat → Int32) (w : Nat → Nat) (hN : h + 25 ≤ N) (hj : j < N) (hG : Good σ) (hH : HouseAt g ct h σ) (hi0 : i0 ≤ nT σ) (hcj : ct j = .inl (fcI g, 6, .inl f)) (hRW : RW (nB σ) w f) (hw : Wok (nB σ) w) : Met l yX1_firstBroken (wsU yX1_firstBroken cX1_firstBroken 5 (some .int)) rX1_firstBroken (fPre g N ct [.ref (fa g h), .int (nI i0), .ref (fa g j)]) (fQpi (fun r => (r = -6 ∧ ∀ i, i0 ≤ i → i < nT σ → bad σ w i = false) ∨ ∃ i, i0 ≤ i ∧ i < nT σ ∧ r = nI i ∧ bad σ w i = true ∧ ∀ i2, i0 ≤ i2 → i2 < i → bad σ w i2 = false)) 0 0 (fB g) := by
  refine fs_start (own := RX1) (lv0 := [(0, .ref (fa g h)), (1, .int (nI i0)), (2, .ref (fa g j))]) (by decide) rfl (Nat.le_of_ble_eq_true rfl) rfl ?_
  intro p e s m args below meth c ls E hr hlk hnm hP hl hS
  have hx := E.1.1
  have hb := E.1.2.1
  have hG20 := hG.k
  have hG3 := hG.n3
  have hG6 := hG.n6
  obtain ⟨hc0, ⟨f1, hc1, hf1⟩, ⟨f2, hc2, hf2⟩, ⟨f3, hc3, hf3⟩, ⟨f4, hc4, hf4⟩, hc5⟩ := id hH
  refine lv_iload_n hx hb dX1_firstBroken_0 rfl (lv_at hl 1 rfl) ?_
  refine lv_iconst (v := (nI 0)) hx hb dX1_firstBroken_1 (by decide) ?_
  refine va_mmax hx hb (by rw [E.1.2.2.1]; exact hl.1.symm) E.1.2.2.2.1 (E.1.2.2.2.2 _ (wm wl_19 (i := 8) rfl)) (E.1.2.2.2.2 _ (wm wl_12 (i := 8) rfl)) (E.1.2.2.2.2 _ (wm wl_6 (i := 6) rfl)) (E.1.2.2.2.2 _ (wm wl_12 (i := 9) rfl)) (Nat.le_of_ble_eq_true rfl) (Nat.le_of_ble_eq_true rfl) (Nat.zero_le _) (Nat.zero_le _) dX1_firstBroken_2 ?_
  refine fs_vi (y := (nI i0)) (if_neg (by rw [show (nI 0 : Int32) = 0 from rfl, fz_ltN (by omega)]; omega)) ?_
  refine lv_istore_n (lv' := [(3, .int (nI i0)), (0, .ref (fa g h)), (1, .int (nI i0)), (2, .ref (fa g j))]) hx hb dX1_firstBroken_5 rfl hl (by decide) rfl (fun ls hl => ?_)
  refine fs_indP (g := g) (St := Nat) (fun (i : Nat) (ls : Array Slot) => lv_has ls 5 [(0, .ref (fa g h)), (2, .ref (fa g j)), (3, .int (nI i))] ∧ i0 ≤ i ∧ i ≤ nT σ ∧ ∀ i2, i0 ≤ i2 → i2 < i → bad σ w i2 = false) (fun (i : Nat) => nT σ - i) ?_ i0 ls _ ⟨lv_sub hl [1, 3, 0] rfl, Nat.le_refl _, hi0, fun i2 h8 h9 => absurd h8 (by omega)⟩ hS
  clear hl hS
  intro st ls locs hI hS ih
  obtain ⟨i, rfl⟩ : ∃ z, z = st := ⟨_, rfl⟩
  obtain ⟨hl, hI⟩ := hI
  have hI1 := hI.1
  have hI2 := hI.2.1
  refine lv_iload_n hx hb dX1_firstBroken_6 rfl (lv_at hl 2 rfl) ?_
  refine lv_aload_n hx hb dX1_firstBroken_7 rfl (lv_at hl 0 rfl) ?_
  refine fs_get E hP (k := h) (v := .int (nI (nT σ))) 2 fc1 hc0 (by omega) (by decide) (wm wl_4 (i := 17) rfl) rfl dX1_firstBroken_8 ?_
  refine lv_icmp_ge (tgt := 61) hx hb dX1_firstBroken_11 (by decide) (fun c_11 => ?_) (fun c_11 => ?_)
  · rw [nI_leI (by omega) (by omega)] at c_11
    refine lv_bipush (v := (-6)) hx hb dX1_firstBroken_61 (by decide) ?_
    refine fs_piret E hr hlk hS dX1_firstBroken_63 ?_
    exact Or.inl ⟨rfl, fun i2 h8 h9 => hI.2.2 i2 h8 (by omega)⟩
  · rw [nI_leI (by omega) (by omega)] at c_11
    refine lv_iload_n hx hb dX1_firstBroken_14 rfl (lv_at hl 2 rfl) ?_
    refine lv_aload_n hx hb dX1_firstBroken_15 rfl (lv_at hl 0 rfl) ?_
    refine fs_get E hP (k := h) (v := .ref (fa g (h + 4))) 6 fc1 hc0 (by omega) (by decide) (wm wl_2 (i := 19) rfl) rfl dX1_firstBroken_16 ?_
    refine fs_alenR E hP (k := (h + 4)) hc4 (by omega) dX1_firstBroken_19 ?_
    refine lv_icmp_ge (tgt := 61) hx hb dX1_firstBroken_20 (by decide) (fun c_20 => ?_) (fun c_20 => ?_)
    · rw [nI_leI (by omega) (by omega)] at c_20
      refine lv_bipush (v := (-6)) hx hb dX1_firstBroken_61 (by decide) ?_
      refine fs_piret E hr hlk hS dX1_firstBroken_63 ?_
      exact Or.inl ⟨rfl, fun i2 h8 h9 => hI.2.2 i2 h8 (by omega)⟩
    · rw [nI_leI (by omega) (by omega)] at c_20
      refine lv_aload_n hx hb dX1_firstBroken_23 rfl (lv_at hl 0 rfl) ?_
      refine fs_get E hP (k := h) (v := .ref (fa g (h + 4))) 6 fc1 hc0 (by omega) (by decide) (wm wl_2 (i := 19) rfl) rfl dX1_firstBroken_24 ?_
      refine lv_iload_n hx hb dX1_firstBroken_27 rfl (lv_at hl 2 rfl) ?_
      refine fs_aaldR E hP (k := (h + 4)) hc4 (by omega) (vp_in_nI (by omega) (by omega)) dX1_firstBroken_28 ?_
      refine fs_vv (y := .ref (fa g (h + 5 + i))) (by rw [nI_clamp (by omega), hf4 i (by omega)]; rfl) ?_
      obtain ⟨te9, kd9, a9, b9, st9, hr0, hr1⟩ := hc5 i (by omega)
      obtain ⟨rfl, rfl, rfl, rfl, rfl⟩ := hr1 (by omega)
      obtain ⟨hrA, hrB, hrC, hrD⟩ := hG.r (i := i) (by omega)
      obtain ⟨hrE, hrF, hrH⟩ := hrC.lt hG6
      refine lv_astore (lv' := [(4, .ref (fa g (h + 5 + i))), (0, .ref (fa g h)), (2, .ref (fa g j)), (3, .int (nI i))]) hx hb dX1_firstBroken_29 hl (by decide) rfl (fun ls hl => ?_)
      refine lv_aload hx hb dX1_firstBroken_31 (lv_at hl 0 rfl) ?_
      refine lv_ifnull hx hb dX1_firstBroken_33 ?_
      refine lv_aload hx hb dX1_firstBroken_36 (lv_at hl 0 rfl) ?_
      refine fs_getN E hP (k := (h + 5 + i)) (v := .int (nI (rk σ i 4))) 4 fc3 hr0 (by omega) (by decide) (j := 6) rfl rfl dX1_firstBroken_38 ?_
      refine lv_if_eq (tgt := 55) hx hb dX1_firstBroken_41 (by decide) (fun c_41 => ?_) (fun c_41 => ?_)
      · rw [fz_eqN (by omega)] at c_41
        refine lv_iinc (v := (nI (i + 1))) (lv' := [(3, .int (nI (i + 1))), (4, .ref (fa g (h + 5 + i))), (0, .ref (fa g h)), (2, .ref (fa g j))]) hx hb dX1_firstBroken_55 hl (k := 3) rfl (nI_1 _) (by decide) rfl (fun ls hl => ?_)
        refine lv_goto (tgt := 6) hx hb dX1_firstBroken_58 (by decide) ?_
        exact ih (i + 1) ls _ (by (try dsimp only); omega) ⟨lv_sub hl [2, 3, 0] rfl, by omega, by omega, fun i2 h8 h9 => (Nat.lt_or_ge i2 i).elim (fun q9 => hI.2.2 i2 h8 q9) (fun q9 => (show i2 = i by omega) ▸ (by unfold bad bk; rw [c_41]; split <;> rfl))⟩ hS
      · rw [fz_eqN (by omega)] at c_41
        refine lv_aload hx hb dX1_firstBroken_44 (lv_at hl 0 rfl) ?_
        refine lv_aload_n hx hb dX1_firstBroken_46 rfl (lv_at hl 2 rfl) ?_
        refine fs_pi (va_runV (As := [.ref (fa g j)]) (rest := []) E.1 (c_X3_isBrokenIn l g N ct (h + 5 + i) j (nI (rk σ i 0)) (nB σ) (rk σ i 1) (rk σ i 2) (rk σ i 3) (rk σ i 4) f w (by omega) hj hG6 (by omega) hrC hRW hw hr0 hcj) (lk_RX1_99 E.1.2.2.2.2 ⟨Nat.le_of_ble_eq_true rfl, Nat.le_of_ble_eq_true rfl⟩) (fpreV E hP hS fc3 hr0 (by omega)) rfl rfl hl.1 rfl (lv_room (Nat.le_of_ble_eq_true rfl)) dX1_firstBroken_47 ⟨Nat.zero_le _, Nat.zero_le _⟩) hS (fun r_47 locs p_47 hS => ?_)
        refine lv_if_eq (tgt := 55) hx hb dX1_firstBroken_50 (by decide) (fun c_50 => ?_) (fun c_50 => ?_)
        · have c_50 := (fb_0 p_47).mp c_50
          refine lv_iinc (v := (nI (i + 1))) (lv' := [(3, .int (nI (i + 1))), (4, .ref (fa g (h + 5 + i))), (0, .ref (fa g h)), (2, .ref (fa g j))]) hx hb dX1_firstBroken_55 hl (k := 3) rfl (nI_1 _) (by decide) rfl (fun ls hl => ?_)
          refine lv_goto (tgt := 6) hx hb dX1_firstBroken_58 (by decide) ?_
          exact ih (i + 1) ls _ (by (try dsimp only); omega) ⟨lv_sub hl [2, 3, 0] rfl, by omega, by omega, fun i2 h8 h9 => (Nat.lt_or_ge i2 i).elim (fun q9 => hI.2.2 i2 h8 q9) (fun q9 => (show i2 = i by omega) ▸ (Bool.eq_false_iff.mpr c_50))⟩ hS
        · have c_50 := (fb_1 p_47).mp c_50
          refine lv_iload_n hx hb dX1_firstBroken_53 rfl (lv_at hl 3 rfl) ?_
          refine fs_piret E hr hlk hS dX1_firstBroken_54 ?_
          exact Or.inr ⟨i, hI.1, by omega, rfl, c_50, hI.2.2⟩
end
section
/-! how a house's row changes -/
theorem nB_upd {σ : Nat → Int32} {i : Nat} {x : Int32} (h : i ≠ 0) : nB (upd σ i x) = nB σ := by unfold nB; rw [upd_ne (Ne.symm h)]
theorem nT_upd {σ : Nat → Int32} {i : Nat} {x : Int32} (h : i ≠ 1) : nT (upd σ i x) = nT σ := by unfold nT; rw [upd_ne (Ne.symm h)]
theorem lkf_upd {σ : Nat → Int32} {i p : Nat} {x : Int32} (h : i ≠ 3 + p) : lkf (upd σ i x) p = lkf σ p := by unfold lkf; rw [upd_ne (Ne.symm h)]
theorem rk_upd {σ : Nat → Int32} {i r j : Nat} {x : Int32} (h : i ≠ 21 + 5 * r + j) : rk (upd σ i x) r j = rk σ r j := by unfold rk; rw [upd_ne (Ne.symm h)]
/-- a house at h shows any row that is the same in what it shows -/
theorem HouseAt.row {g : fG} {ct : Nat → va_E} {h : Nat} {σ τ : Nat → Int32} (H : HouseAt g ct h σ) (hb : nB τ = nB σ) (ha : τ 2 = σ 2) (ht : nT τ = nT σ) (hl : ∀ p, p < nB σ → lkf τ p = lkf σ p) (hs : ∀ p, p < 6 → τ (9 + p) = σ (9 + p)) (hg : ∀ p, p < 6 → τ (15 + p) = σ (15 + p)) (hr : ∀ r i, r < nT σ → i < 5 → rk τ r i = rk σ r i) : HouseAt g ct h τ := by
  obtain ⟨h1, ⟨f1, h2, h2b⟩, ⟨f2, h3, h3b⟩, ⟨f3, h4, h4b⟩, h5, h6⟩ := H
  refine ⟨by rw [hb, ha, ht]; exact h1, ⟨f1, h2, fun p hp => ?_⟩, ⟨f2, h3, fun p hp => (h3b p hp).trans (hs p hp).symm⟩, ⟨f3, h4, fun p hp => (h4b p hp).trans (hg p hp).symm⟩, h5, fun r hrr => ?_⟩
  · rw [h2b p hp, hb]
    by_cases q : p < nB σ
    · rw [if_pos q, if_pos q, hl p q]
    · rw [if_neg q, if_neg q]
  · obtain ⟨te, kd, a, b, st, h7, h8⟩ := h6 r hrr
    refine ⟨te, kd, a, b, st, h7, fun q => ?_⟩
    rw [ht] at q
    rw [hr r 0 q (by omega), hr r 1 q (by omega), hr r 2 q (by omega), hr r 3 q (by omega), hr r 4 q (by omega)]
    exact h8 q
theorem HouseAt.how {g : fG} {ct ct1 : Nat → va_E} {h r z : Nat} {σ : Nat → Int32} {te kd a b : Int32} (H : HouseAt g ct h σ) (hr : r < nT σ) (hk : nT σ ≤ 20) (hz : z < 2147483648) (e : te = nI (rk σ r 0) ∧ kd = nI (rk σ r 1) ∧ a = nI (rk σ r 2) ∧ b = nI (rk σ r 3)) (q : ct1 = fu ct (h + 5 + r) (.inr (3, [.int te, .int kd, .int a, .int b, .int (nI z)]))) : HouseAt g ct1 h (upd σ (25 + 5 * r) (nI z)) := by
  subst q
  obtain ⟨h1, ⟨f1, h2, h2b⟩, ⟨f2, h3, h3b⟩, ⟨f3, h4, h4b⟩, ⟨f4, h5, h5b⟩, h6⟩ := H
  have eB : nB (upd σ (25 + 5 * r) (nI z)) = nB σ := nB_upd (by omega)
  have eT : nT (upd σ (25 + 5 * r) (nI z)) = nT σ := nT_upd (by omega)
  refine ⟨?_, ⟨f1, (fu_ne (by omega)).trans h2, fun p hp => ?_⟩, ⟨f2, (fu_ne (by omega)).trans h3, fun p hp => ?_⟩, ⟨f3, (fu_ne (by omega)).trans h4, fun p hp => ?_⟩, ⟨f4, (fu_ne (by omega)).trans h5, h5b⟩, fun r2 hr2 => ?_⟩
  · rw [eB, eT, upd_ne (by omega)]; exact (fu_ne (by omega)).trans h1
  · rw [h2b p hp, eB]
    by_cases q : p < nB σ
    · rw [if_pos q, if_pos q, lkf_upd (by omega)]
    · rw [if_neg q, if_neg q]
  · rw [h3b p hp, upd_ne (by omega)]
  · rw [h4b p hp, upd_ne (by omega)]
  · by_cases q : r2 = r
    · subst q
      refine ⟨te, kd, a, b, nI z, fu_eq _ _ _, fun _ => ?_⟩
      have e4 : rk (upd σ (25 + 5 * r2) (nI z)) r2 4 = z := by
        unfold rk; rw [show 21 + 5 * r2 + 4 = 25 + 5 * r2 by omega, upd_eq, nI_clamp hz]
      rw [rk_upd (by omega), rk_upd (by omega), rk_upd (by omega), rk_upd (by omega), e4]
      exact ⟨e.1, e.2.1, e.2.2.1, e.2.2.2, rfl⟩
    · obtain ⟨te2, kd2, a2, b2, st2, h7, h8⟩ := h6 r2 hr2
      refine ⟨te2, kd2, a2, b2, st2, (fu_ne (by omega)).trans h7, fun q2 => ?_⟩
      rw [eT] at q2
      rw [rk_upd (by omega), rk_upd (by omega), rk_upd (by omega), rk_upd (by omega), rk_upd (by omega)]
      exact h8 q2
theorem HouseAt.score {g : fG} {ct ct1 : Nat → va_E} {h q : Nat} {σ : Nat → Int32} {x : Int32} {f : Nat → Int32} (H : HouseAt g ct h σ) (hq : q < 6) (hf : ct (h + 2) = .inl (fcI g, 6, .inl f)) (e : ct1 = fu ct (h + 2) (.inl (fcI g, 6, .inl (upd f q x)))) : HouseAt g ct1 h (upd σ (9 + q) x) := by
  subst e
  obtain ⟨h1, ⟨f1, h2, h2b⟩, ⟨f2, h3, h3b⟩, ⟨f3, h4, h4b⟩, ⟨f4, h5, h5b⟩, h6⟩ := H
  have ef : f2 = f := by rw [h3] at hf; injection hf with a; injection a with _ a; injection a with _ a; injection a with a
  subst ef
  have eB : nB (upd σ (9 + q) x) = nB σ := nB_upd (by omega)
  have eT : nT (upd σ (9 + q) x) = nT σ := nT_upd (by omega)
  refine ⟨?_, ⟨f1, (fu_ne (by omega)).trans h2, fun p hp => ?_⟩, ⟨_, fu_eq _ _ _, fun p hp => ?_⟩, ⟨f3, (fu_ne (by omega)).trans h4, fun p hp => ?_⟩, ⟨f4, (fu_ne (by omega)).trans h5, h5b⟩, fun r2 hr2 => ?_⟩
  · rw [eB, eT, upd_ne (by omega)]; exact (fu_ne (by omega)).trans h1
  · rw [h2b p hp, eB]
    by_cases q : p < nB σ
    · rw [if_pos q, if_pos q, lkf_upd (by omega)]
    · rw [if_neg q, if_neg q]
  · by_cases z : p = q
    · subst z; rw [upd_eq, upd_eq]
    · rw [upd_ne z, upd_ne (by omega)]; exact h3b p hp
  · rw [h4b p hp, upd_ne (by omega)]
  · obtain ⟨te2, kd2, a2, b2, st2, h7, h8⟩ := h6 r2 hr2
    refine ⟨te2, kd2, a2, b2, st2, (fu_ne (by omega)).trans h7, fun q2 => ?_⟩
    rw [eT] at q2
    rw [rk_upd (by omega), rk_upd (by omega), rk_upd (by omega), rk_upd (by omega), rk_upd (by omega)]
    exact h8 q2
theorem HouseAt.guess {g : fG} {ct ct1 : Nat → va_E} {h q : Nat} {σ : Nat → Int32} {x : Int32} {f : Nat → Int32} (H : HouseAt g ct h σ) (hq : q < 6) (hf : ct (h + 3) = .inl (fcI g, 6, .inl f)) (e : ct1 = fu ct (h + 3) (.inl (fcI g, 6, .inl (upd f q x)))) : HouseAt g ct1 h (upd σ (15 + q) x) := by
  subst e
  obtain ⟨h1, ⟨f1, h2, h2b⟩, ⟨f2, h3, h3b⟩, ⟨f3, h4, h4b⟩, ⟨f4, h5, h5b⟩, h6⟩ := H
  have ef : f3 = f := by rw [h4] at hf; injection hf with a; injection a with _ a; injection a with _ a; injection a with a
  subst ef
  have eB : nB (upd σ (15 + q) x) = nB σ := nB_upd (by omega)
  have eT : nT (upd σ (15 + q) x) = nT σ := nT_upd (by omega)
  refine ⟨?_, ⟨f1, (fu_ne (by omega)).trans h2, fun p hp => ?_⟩, ⟨f2, (fu_ne (by omega)).trans h3, fun p hp => ?_⟩, ⟨_, fu_eq _ _ _, fun p hp => ?_⟩, ⟨f4, (fu_ne (by omega)).trans h5, h5b⟩, fun r2 hr2 => ?_⟩
  · rw [eB, eT, upd_ne (by omega)]; exact (fu_ne (by omega)).trans h1
  · rw [h2b p hp, eB]
    by_cases q : p < nB σ
    · rw [if_pos q, if_pos q, lkf_upd (by omega)]
    · rw [if_neg q, if_neg q]
  · rw [h3b p hp, upd_ne (by omega)]
  · by_cases z : p = q
    · subst z; rw [upd_eq, upd_eq]
    · rw [upd_ne z, upd_ne (by omega)]; exact h4b p hp
  · obtain ⟨te2, kd2, a2, b2, st2, h7, h8⟩ := h6 r2 hr2
    refine ⟨te2, kd2, a2, b2, st2, (fu_ne (by omega)).trans h7, fun q2 => ?_⟩
    rw [eT] at q2
    rw [rk_upd (by omega), rk_upd (by omega), rk_upd (by omega), rk_upd (by omega), rk_upd (by omega)]
    exact h8 q2
theorem HouseAt.look {g : fG} {ct ct1 : Nat → va_E} {h q b : Nat} {σ : Nat → Int32} {f : Nat → Int32} (H : HouseAt g ct h σ) (hq : q < nB σ) (hn : nB σ ≤ 6) (hb : b < 2147483648) (hf : ct (h + 1) = .inl (fcI g, 6, .inl f)) (e : ct1 = fu ct (h + 1) (.inl (fcI g, 6, .inl (upd f q (nI b))))) : HouseAt g ct1 h (upd σ (3 + q) (nI b)) := by
  subst e
  obtain ⟨h1, ⟨f1, h2, h2b⟩, ⟨f2, h3, h3b⟩, ⟨f3, h4, h4b⟩, ⟨f4, h5, h5b⟩, h6⟩ := H
  have ef : f1 = f := by rw [h2] at hf; injection hf with a; injection a with _ a; injection a with _ a; injection a with a
  subst ef
  have eB : nB (upd σ (3 + q) (nI b)) = nB σ := nB_upd (by omega)
  have eT : nT (upd σ (3 + q) (nI b)) = nT σ := nT_upd (by omega)
  refine ⟨?_, ⟨_, fu_eq _ _ _, fun p hp => ?_⟩, ⟨f2, (fu_ne (by omega)).trans h3, fun p hp => ?_⟩, ⟨f3, (fu_ne (by omega)).trans h4, fun p hp => ?_⟩, ⟨f4, (fu_ne (by omega)).trans h5, h5b⟩, fun r2 hr2 => ?_⟩
  · rw [eB, eT, upd_ne (by omega)]; exact (fu_ne (by omega)).trans h1
  · rw [eB]
    by_cases z : p = q
    · subst z
      rw [upd_eq, if_pos hq]
      unfold lkf; rw [upd_eq, nI_clamp hb]
    · rw [upd_ne z, h2b p hp]
      by_cases q2 : p < nB σ
      · rw [if_pos q2, if_pos q2, lkf_upd (by omega)]
      · rw [if_neg q2, if_neg q2]
  · rw [h3b p hp, upd_ne (by omega)]
  · rw [h4b p hp, upd_ne (by omega)]
  · obtain ⟨te2, kd2, a2, b2, st2, h7, h8⟩ := h6 r2 hr2
    refine ⟨te2, kd2, a2, b2, st2, (fu_ne (by omega)).trans h7, fun q2 => ?_⟩
    rw [eT] at q2
    rw [rk_upd (by omega), rk_upd (by omega), rk_upd (by omega), rk_upd (by omega), rk_upd (by omega)]
    exact h8 q2
/-- a new house -/
def sOpen (n : Nat) : Nat → Int32 := fun i => if i = 0 then nI n else if 3 ≤ i ∧ i < 3 + n then nI ((i - 3 + 1) % n) else nI 0
theorem nB_open {n : Nat} (h : n < 2147483648) : nB (sOpen n) = n := by unfold nB sOpen; rw [if_pos rfl, nI_clamp h]
theorem nT_open (n : Nat) : nT (sOpen n) = 0 := by unfold nT sOpen; rw [if_neg (by omega), if_neg (by omega)]; exact nI_clamp (by omega)
theorem lkf_open {n p : Nat} (h : n ≤ 6) (hp : p < n) : lkf (sOpen n) p = (p + 1) % n := by
  unfold lkf sOpen; rw [if_neg (by omega), if_pos (by omega), show 3 + p - 3 + 1 = p + 1 by omega, nI_clamp]
  have := Nat.mod_lt (p + 1) (show 0 < n by omega); omega
theorem sOpen_z {n i : Nat} (h0 : i ≠ 0) (h : i < 3 ∨ 3 + n ≤ i) : sOpen n i = nI 0 := by unfold sOpen; rw [if_neg h0, if_neg (by omega)]
theorem modS {n p : Nat} (hp : p < n) : (p + 1) % n = if p + 1 < n then p + 1 else 0 := by
  by_cases h : p + 1 < n
  · rw [if_pos h, Nat.mod_eq_of_lt h]
  · rw [if_neg h, show p + 1 = n by omega, Nat.mod_self]
theorem Good_open {n : Nat} (h3 : 3 ≤ n) (h6 : n ≤ 6) : Good (sOpen n) := by
  have eB := nB_open (n := n) (by omega)
  refine ⟨⟨?_, by omega, by omega⟩, ⟨?_, by rw [nT_open]; omega⟩, fun p hp => ?_, fun p hp => Or.inl (sOpen_z (by omega) (by omega)), fun r hr => absurd hr (by rw [nT_open]; omega)⟩
  · rw [eB]; unfold sOpen; rw [if_pos rfl]
  · rw [nT_open]; exact sOpen_z (by omega) (by omega)
  · rw [eB] at hp
    have e := lkf_open h6 hp
    rw [e, eB]
    refine ⟨?_, Nat.mod_lt _ (by omega), ?_⟩
    · unfold sOpen; rw [if_neg (by omega), if_pos (by omega), show 3 + p - 3 + 1 = p + 1 by omega]
    · rw [modS hp]; split <;> omega
/-- a rumour more -/
def sTell (σ : Nat → Int32) (te kd a b : Nat) : Nat → Int32 := upd (upd (upd (upd (upd (upd σ (21 + 5 * nT σ) (nI te)) (22 + 5 * nT σ) (nI kd)) (23 + 5 * nT σ) (nI a)) (24 + 5 * nT σ) (nI b)) (25 + 5 * nT σ) (nI 0)) 1 (nI (nT σ + 1))
theorem sTell_o {σ : Nat → Int32} {te kd a b i : Nat} (h1 : i ≠ 1) (h : i < 21 + 5 * nT σ ∨ 26 + 5 * nT σ ≤ i) : sTell σ te kd a b i = σ i := by
  unfold sTell; rw [upd_ne h1, upd_ne (by omega), upd_ne (by omega), upd_ne (by omega), upd_ne (by omega), upd_ne (by omega)]
theorem nB_tell {σ : Nat → Int32} {te kd a b : Nat} : nB (sTell σ te kd a b) = nB σ := by unfold nB; rw [sTell_o (by omega) (by omega)]
theorem nT_tell {σ : Nat → Int32} {te kd a b : Nat} (h : nT σ ≤ 20) : nT (sTell σ te kd a b) = nT σ + 1 := by
  show (sTell σ te kd a b 1).toNatClampNeg = _
  unfold sTell; rw [upd_eq, nI_clamp (by omega)]
theorem rk_tell {σ : Nat → Int32} {te kd a b r i : Nat} (hr : r < nT σ) (hi : i < 5) : rk (sTell σ te kd a b) r i = rk σ r i := by unfold rk; rw [sTell_o (by omega) (by omega)]
theorem lkf_tell {σ : Nat → Int32} {te kd a b p : Nat} (hp : p < 6) : lkf (sTell σ te kd a b) p = lkf σ p := by unfold lkf; rw [sTell_o (by omega) (by omega)]
theorem rk_told {σ : Nat → Int32} {te kd a b : Nat} (h1 : te < 2147483648) (h2 : kd < 2147483648) (h3 : a < 2147483648) (h4 : b < 2147483648) : rk (sTell σ te kd a b) (nT σ) 0 = te ∧ rk (sTell σ te kd a b) (nT σ) 1 = kd ∧ rk (sTell σ te kd a b) (nT σ) 2 = a ∧ rk (sTell σ te kd a b) (nT σ) 3 = b ∧ rk (sTell σ te kd a b) (nT σ) 4 = 0 := by
  have z : (0 : Nat) < 2147483648 := by omega
  refine ⟨?_, ?_, ?_, ?_, ?_⟩ <;> unfold rk sTell
  · rw [upd_ne (by omega), upd_ne (by omega), upd_ne (by omega), upd_ne (by omega), upd_ne (by omega), show 21 + 5 * nT σ + 0 = 21 + 5 * nT σ by omega, upd_eq, nI_clamp h1]
  · rw [upd_ne (by omega), upd_ne (by omega), upd_ne (by omega), upd_ne (by omega), show 21 + 5 * nT σ + 1 = 22 + 5 * nT σ by omega, upd_eq, nI_clamp h2]
  · rw [upd_ne (by omega), upd_ne (by omega), upd_ne (by omega), show 21 + 5 * nT σ + 2 = 23 + 5 * nT σ by omega, upd_eq, nI_clamp h3]
  · rw [upd_ne (by omega), upd_ne (by omega), show 21 + 5 * nT σ + 3 = 24 + 5 * nT σ by omega, upd_eq, nI_clamp h4]
  · rw [upd_ne (by omega), show 21 + 5 * nT σ + 4 = 25 + 5 * nT σ by omega, upd_eq, nI_clamp z]
theorem sTell_new {σ : Nat → Int32} {te kd a b i : Nat} (h1 : te < 2147483648) (h2 : kd < 2147483648) (h3 : a < 2147483648) (h4 : b < 2147483648) (hi : i < 5) : sTell σ te kd a b (21 + 5 * nT σ + i) = nI (rk (sTell σ te kd a b) (nT σ) i) := by
  obtain ⟨e0, e1, e2, e3, e4⟩ := rk_told (σ := σ) h1 h2 h3 h4
  rcases (show i = 0 ∨ i = 1 ∨ i = 2 ∨ i = 3 ∨ i = 4 by omega) with rfl | rfl | rfl | rfl | rfl
  · rw [e0]; unfold sTell; rw [upd_ne (by omega), upd_ne (by omega), upd_ne (by omega), upd_ne (by omega), upd_ne (by omega), show 21 + 5 * nT σ + 0 = 21 + 5 * nT σ by omega, upd_eq]
  · rw [e1]; unfold sTell; rw [upd_ne (by omega), upd_ne (by omega), upd_ne (by omega), upd_ne (by omega), show 21 + 5 * nT σ + 1 = 22 + 5 * nT σ by omega, upd_eq]
  · rw [e2]; unfold sTell; rw [upd_ne (by omega), upd_ne (by omega), upd_ne (by omega), show 21 + 5 * nT σ + 2 = 23 + 5 * nT σ by omega, upd_eq]
  · rw [e3]; unfold sTell; rw [upd_ne (by omega), upd_ne (by omega), show 21 + 5 * nT σ + 3 = 24 + 5 * nT σ by omega, upd_eq]
  · rw [e4]; unfold sTell; rw [upd_ne (by omega), show 21 + 5 * nT σ + 4 = 25 + 5 * nT σ by omega, upd_eq]
theorem Good_tell {σ : Nat → Int32} {te kd a b : Nat} (H : Good σ) (hk : nT σ < 20) (ht : te < nB σ) (ho : okk (nB σ) kd a b) : Good (sTell σ te kd a b) := by
  obtain ⟨⟨g1, g2, g3⟩, ⟨g4, g5⟩, g6, g7, g8⟩ := H
  obtain ⟨o1, o2, o3⟩ := ho.lt g3
  have eT := nT_tell (σ := σ) (te := te) (kd := kd) (a := a) (b := b) g5
  have eB := nB_tell (σ := σ) (te := te) (kd := kd) (a := a) (b := b)
  refine ⟨⟨?_, by omega, by omega⟩, ⟨?_, by omega⟩, fun p hp => ?_, fun p hp => ?_, fun r hr => ?_⟩
  · rw [eB, sTell_o (by omega) (by omega)]; exact g1
  · rw [eT]; unfold sTell; rw [upd_eq]
  · rw [eB] at hp
    rw [lkf_tell (by omega), eB, sTell_o (by omega) (by omega)]; exact g6 p hp
  · rw [sTell_o (by omega) (by omega)]; exact g7 p hp
  · rw [eT] at hr
    by_cases q : r = nT σ
    · subst q
      obtain ⟨e0, e1, e2, e3, e4⟩ := rk_told (σ := σ) (te := te) (kd := kd) (a := a) (b := b) (by omega) (by omega) (by omega) (by omega)
      refine ⟨fun i hi => sTell_new (by omega) (by omega) (by omega) (by omega) hi, by rw [e0, eB]; exact ht, by rw [e1, e2, e3, eB]; exact ho, by rw [e4]; omega⟩
    · obtain ⟨a1, a2, a3, a4⟩ := g8 r (by omega)
      refine ⟨fun i hi => ?_, ?_, ?_, ?_⟩
      · rw [sTell_o (by omega) (by omega), rk_tell (by omega) hi]; exact a1 i hi
      · rw [rk_tell (by omega) (by omega), eB]; exact a2
      · rw [rk_tell (by omega) (by omega), rk_tell (by omega) (by omega), rk_tell (by omega) (by omega), eB]; exact a3
      · rw [rk_tell (by omega) (by omega)]; exact a4
end
section
theorem fSame.ap {lo hi k : Nat} {ct ct1 ct2 : Nat → va_E} {e : va_E} (h : fSame lo hi ct ct1) (q : ct2 = fu ct1 k e) (h1 : lo ≤ k) (h2 : k < hi) : fSame lo hi ct ct2 := by subst q; exact h.tr (fSame.up h1 h2)
theorem cpF_sv {i : Nat} {F f : Nat → Int32} {v : Int32} (h : v = F i) : upd (cpF i F f) i v = cpF (i + 1) F f := by subst h; exact cpF_s i F f
theorem cpF_out {i j : Nat} {F f : Nat → Int32} (h : i ≤ j) : cpF i F f j = f j := by unfold cpF; rw [if_neg (by omega)]
/-- the looks of a new house, as a row of six -/
def LF (n : Nat) : Nat → Int32 := fun j => if j + 1 < n then nI (j + 1) else if j < n then nI 0 else -1
theorem RW_LF {n : Nat} (h6 : n ≤ 6) (f : Nat → Int32) : RW n (lkf (sOpen n)) (cpF 6 (LF n) f) := by
  intro p hp
  rw [cpF_in hp]
  unfold LF
  by_cases q : p < n
  · by_cases q2 : p + 1 < n
    · simp [q, q2, lkf_open h6 q, modS q]
    · simp [q, q2, lkf_open h6 q, modS q]
  · have q3 : ¬ p + 1 < n := by omega
    simp [q, q3]

set_option maxRecDepth 100000 in
set_option maxHeartbeats 4000000 in
theorem c_X1_arrange (l : Launch) (g : fG) (N : Nat) (ct : Nat → va_E) (h n : Nat) (hN : h + 25 ≤ N) (hn3 : 3 ≤ n) (hn6 : n ≤ 6) (hH : HouseSh g ct h) : Met l yX1_arrange (wsU yX1_arrange cX1_arrange 3 none) rX1_arrange (fPre g N ct [.ref (fa g h), .int (nI n)]) (fQv g N (fun ct1 => HouseAt g ct1 h (sOpen n) ∧ fSame h (h + 25) ct ct1)) 0 0 (fB g) := by
  refine fs_start (own := RX1) (lv0 := [(0, .ref (fa g h)), (1, .int (nI n))]) (by decide) rfl (Nat.le_of_ble_eq_true rfl) rfl ?_
  intro p e s m args below meth c ls E hr hlk hnm hP hl hS
  have hx := E.1.1
  have hb := E.1.2.1
  obtain ⟨⟨b0, a0, t0, hc0⟩, ⟨f1, hc1⟩, ⟨f2, hc2⟩, ⟨f3, hc3⟩, ⟨f4, hc4, hf4⟩, hc5⟩ := id hH
  refine lv_aload_n hx hb dX1_arrange_0 rfl (lv_at hl 0 rfl) ?_
  refine lv_iload_n hx hb dX1_arrange_1 rfl (lv_at hl 1 rfl) ?_
  refine fs_put E hP hS (k := h) 0 fc1 hc0 (by omega) (by decide) (wm wl_4 (i := 15) rfl) rfl rfl rfl rfl (Nat.le_of_ble_eq_true rfl) dX1_arrange_2 (fun ct_1 H locs q_2 hP hS => ?_)
  have h_3 : ct_1 h = .inr (1, [.int (nI n), .int a0, .int t0, .ref (fa g (h + 1)), .ref (fa g (h + 2)), .ref (fa g (h + 3)), .ref (fa g (h + 4))]) := by rw [q_2]; exact fu_eq _ _ _
  have h_4 : ct_1 (h + 1) = .inl (fcI g, 6, .inl f1) := by rw [q_2]; exact (fu_ne (by omega)).trans hc1
  have h_5 : ct_1 (h + 2) = .inl (fcI g, 6, .inl f2) := by rw [q_2]; exact (fu_ne (by omega)).trans hc2
  have h_6 : ct_1 (h + 3) = .inl (fcI g, 6, .inl f3) := by rw [q_2]; exact (fu_ne (by omega)).trans hc3
  have h_7 : ct_1 (h + 4) = .inl (fcR g, 20, .inr (.inr (.inr (.inr f4)))) := by rw [q_2]; exact (fu_ne (by omega)).trans hc4
  refine lv_aload_n hx hb dX1_arrange_5 rfl (lv_at hl 0 rfl) ?_
  refine lv_iconst (v := (nI 0)) hx hb dX1_arrange_6 (by decide) ?_
  refine fs_put E hP hS (k := h) 1 fc1 h_3 (by omega) (by decide) (wm wl_4 (i := 16) rfl) rfl rfl rfl rfl (Nat.le_of_ble_eq_true rfl) dX1_arrange_7 (fun ct_8 H locs q_9 hP hS => ?_)
  have h_10 : ct_8 h = .inr (1, [.int (nI n), .int (nI 0), .int t0, .ref (fa g (h + 1)), .ref (fa g (h + 2)), .ref (fa g (h + 3)), .ref (fa g (h + 4))]) := by rw [q_9]; exact fu_eq _ _ _
  have h_11 : ct_8 (h + 1) = .inl (fcI g, 6, .inl f1) := by rw [q_9]; exact (fu_ne (by omega)).trans h_4
  have h_12 : ct_8 (h + 2) = .inl (fcI g, 6, .inl f2) := by rw [q_9]; exact (fu_ne (by omega)).trans h_5
  have h_13 : ct_8 (h + 3) = .inl (fcI g, 6, .inl f3) := by rw [q_9]; exact (fu_ne (by omega)).trans h_6
  have h_14 : ct_8 (h + 4) = .inl (fcR g, 20, .inr (.inr (.inr (.inr f4)))) := by rw [q_9]; exact (fu_ne (by omega)).trans h_7
  refine lv_aload_n hx hb dX1_arrange_10 rfl (lv_at hl 0 rfl) ?_
  refine lv_iconst (v := (nI 0)) hx hb dX1_arrange_11 (by decide) ?_
  refine fs_put E hP hS (k := h) 2 fc1 h_10 (by omega) (by decide) (wm wl_4 (i := 17) rfl) rfl rfl rfl rfl (Nat.le_of_ble_eq_true rfl) dX1_arrange_12 (fun ct_15 H locs q_16 hP hS => ?_)
  have h_17 : ct_15 h = .inr (1, [.int (nI n), .int (nI 0), .int (nI 0), .ref (fa g (h + 1)), .ref (fa g (h + 2)), .ref (fa g (h + 3)), .ref (fa g (h + 4))]) := by rw [q_16]; exact fu_eq _ _ _
  have h_18 : ct_15 (h + 1) = .inl (fcI g, 6, .inl f1) := by rw [q_16]; exact (fu_ne (by omega)).trans h_11
  have h_19 : ct_15 (h + 2) = .inl (fcI g, 6, .inl f2) := by rw [q_16]; exact (fu_ne (by omega)).trans h_12
  have h_20 : ct_15 (h + 3) = .inl (fcI g, 6, .inl f3) := by rw [q_16]; exact (fu_ne (by omega)).trans h_13
  have h_21 : ct_15 (h + 4) = .inl (fcR g, 20, .inr (.inr (.inr (.inr f4)))) := by rw [q_16]; exact (fu_ne (by omega)).trans h_14
  refine lv_aload_n hx hb dX1_arrange_15 rfl (lv_at hl 0 rfl) ?_
  refine fs_get E hP (k := h) (v := .ref (fa g (h + 2))) 4 fc1 h_17 (by omega) (by decide) (wm wl_2 (i := 16) rfl) rfl dX1_arrange_16 ?_
  refine lv_iconst (v := (nI 0)) hx hb dX1_arrange_19 (by decide) ?_
  refine fs_v (va_runSN (As := [.ref (fa g (h + 2)), .int (nI 0)]) (rest := []) E.1 (c_X7_fillRow l g N ct_15 (h + 2) 6 f2 (nI 0) (by omega) (by omega) h_19) (lk_RX1_38 E.1.2.2.2.2 (E.2.1.2.1 _ (List.mem_of_getElem? (i := 31) rfl)) ⟨Nat.le_of_ble_eq_true rfl, Nat.le_of_ble_eq_true rfl⟩) (fpreS E hP hS) rfl rfl hl.1 rfl (lv_room (Nat.le_of_ble_eq_true rfl)) dX1_arrange_20 ⟨Nat.zero_le _, Nat.zero_le _⟩) hS (fun ct_22 H locs p_20 hP hS => ?_)
  have h_23 : ct_22 h = .inr (1, [.int (nI n), .int (nI 0), .int (nI 0), .ref (fa g (h + 1)), .ref (fa g (h + 2)), .ref (fa g (h + 3)), .ref (fa g (h + 4))]) := by rw [p_20]; exact (fu_ne (by omega)).trans h_17
  have h_24 : ct_22 (h + 1) = .inl (fcI g, 6, .inl f1) := by rw [p_20]; exact (fu_ne (by omega)).trans h_18
  have h_25 : ct_22 (h + 2) = .inl (fcI g, 6, .inl (cpF 6 (fun _ => (nI 0)) f2)) := by rw [p_20]; exact fu_eq _ _ _
  have h_26 : ct_22 (h + 3) = .inl (fcI g, 6, .inl f3) := by rw [p_20]; exact (fu_ne (by omega)).trans h_20
  have h_27 : ct_22 (h + 4) = .inl (fcR g, 20, .inr (.inr (.inr (.inr f4)))) := by rw [p_20]; exact (fu_ne (by omega)).trans h_21
  refine lv_aload_n hx hb dX1_arrange_23 rfl (lv_at hl 0 rfl) ?_
  refine fs_get E hP (k := h) (v := .ref (fa g (h + 3))) 5 fc1 h_23 (by omega) (by decide) (wm wl_2 (i := 17) rfl) rfl dX1_arrange_24 ?_
  refine lv_iconst (v := (nI 0)) hx hb dX1_arrange_27 (by decide) ?_
  refine fs_v (va_runSN (As := [.ref (fa g (h + 3)), .int (nI 0)]) (rest := []) E.1 (c_X7_fillRow l g N ct_22 (h + 3) 6 f3 (nI 0) (by omega) (by omega) h_26) (lk_RX1_38 E.1.2.2.2.2 (E.2.1.2.1 _ (List.mem_of_getElem? (i := 31) rfl)) ⟨Nat.le_of_ble_eq_true rfl, Nat.le_of_ble_eq_true rfl⟩) (fpreS E hP hS) rfl rfl hl.1 rfl (lv_room (Nat.le_of_ble_eq_true rfl)) dX1_arrange_28 ⟨Nat.zero_le _, Nat.zero_le _⟩) hS (fun ct_28 H locs p_28 hP hS => ?_)
  have h_29 : ct_28 h = .inr (1, [.int (nI n), .int (nI 0), .int (nI 0), .ref (fa g (h + 1)), .ref (fa g (h + 2)), .ref (fa g (h + 3)), .ref (fa g (h + 4))]) := by rw [p_28]; exact (fu_ne (by omega)).trans h_23
  have h_30 : ct_28 (h + 1) = .inl (fcI g, 6, .inl f1) := by rw [p_28]; exact (fu_ne (by omega)).trans h_24
  have h_31 : ct_28 (h + 2) = .inl (fcI g, 6, .inl (cpF 6 (fun _ => (nI 0)) f2)) := by rw [p_28]; exact (fu_ne (by omega)).trans h_25
  have h_32 : ct_28 (h + 3) = .inl (fcI g, 6, .inl (cpF 6 (fun _ => (nI 0)) f3)) := by rw [p_28]; exact fu_eq _ _ _
  have h_33 : ct_28 (h + 4) = .inl (fcR g, 20, .inr (.inr (.inr (.inr f4)))) := by rw [p_28]; exact (fu_ne (by omega)).trans h_27
  refine lv_iconst (v := (nI 0)) hx hb dX1_arrange_31 (by decide) ?_
  refine lv_istore_n (lv' := [(2, .int (nI 0)), (0, .ref (fa g h)), (1, .int (nI n))]) hx hb dX1_arrange_32 rfl hl (by decide) rfl (fun ls hl => ?_)
  refine fs_ind (g := g) (N := N) (St := Nat) (fun (i : Nat) (ct_34 : Nat → va_E) (ls : Array Slot) => lv_has ls 3 [(0, .ref (fa g h)), (1, .int (nI n)), (2, .int (nI i))] ∧ ct_34 = fu ct_28 (h + 1) (.inl (fcI g, 6, .inl (cpF i (LF n) f1))) ∧ i ≤ 6) (fun i => 6 - i) ?_ 0 _ _ ls _ ⟨lv_sub hl [1, 2, 0] rfl, by rw [cpF_0, fu_same h_30], Nat.zero_le _⟩ hP hS
  clear hl hP hS
  intro st ct_34 H ls locs hI hP hS ih
  obtain ⟨i, rfl⟩ : ∃ z, z = st := ⟨_, rfl⟩
  obtain ⟨hl, hI⟩ := hI
  have hI2 := hI.2
  have h_35 : ct_34 h = .inr (1, [.int (nI n), .int (nI 0), .int (nI 0), .ref (fa g (h + 1)), .ref (fa g (h + 2)), .ref (fa g (h + 3)), .ref (fa g (h + 4))]) := by rw [hI.1]; exact (fu_ne (by omega)).trans h_29
  have h_36 : ct_34 (h + 1) = .inl (fcI g, 6, .inl (cpF i (LF n) f1)) := by rw [hI.1]; exact fu_eq _ _ _
  have h_37 : ct_34 (h + 2) = .inl (fcI g, 6, .inl (cpF 6 (fun _ => (nI 0)) f2)) := by rw [hI.1]; exact (fu_ne (by omega)).trans h_31
  have h_38 : ct_34 (h + 3) = .inl (fcI g, 6, .inl (cpF 6 (fun _ => (nI 0)) f3)) := by rw [hI.1]; exact (fu_ne (by omega)).trans h_32
  have h_39 : ct_34 (h + 4) = .inl (fcR g, 20, .inr (.inr (.inr (.inr f4)))) := by rw [hI.1]; exact (fu_ne (by omega)).trans h_33
  refine lv_iload_n hx hb dX1_arrange_33 rfl (lv_at hl 2 rfl) ?_
  refine lv_aload_n hx hb dX1_arrange_34 rfl (lv_at hl 0 rfl) ?_
  refine fs_get E hP (k := h) (v := .ref (fa g (h + 1))) 3 fc1 h_35 (by omega) (by decide) (wm wl_2 (i := 15) rfl) rfl dX1_arrange_35 ?_
  refine fs_alenI E hP (k := (h + 1)) h_36 (by omega) dX1_arrange_38 ?_
  refine lv_icmp_ge (tgt := 83) hx hb dX1_arrange_39 (by decide) (fun c_39 => ?_) (fun c_39 => ?_)
  · rw [nI_leI (by omega) (by omega)] at c_39
    have hs9 : fSame h (h + 4) ct ct_34 := (fSame.ap (fSame.ap (fSame.ap (fSame.ap (fSame.ap (fSame.ap fSame.rf q_2 (by omega) (by omega)) q_9 (by omega) (by omega)) q_16 (by omega) (by omega)) p_20 (by omega) (by omega)) p_28 (by omega) (by omega)) hI.1 (by omega) (by omega))
    have e6 : i = 6 := by omega
    subst e6
    refine fs_vret E hr hlk hP hS dX1_arrange_83 ?_
    refine ⟨⟨?_, ⟨_, h_36, ?_⟩, ⟨_, h_37, fun p9 hp9 => ?_⟩, ⟨_, h_38, fun p9 hp9 => ?_⟩, ⟨f4, (hs9 _ (by omega)).trans hc4, hf4⟩, fun r9 hr9 => ?_⟩, hs9.wide (by omega) (by omega)⟩
    · rw [nB_open (by omega), nT_open, sOpen_z (by omega) (by omega)]; exact h_35
    · rw [nB_open (by omega)]; exact RW_LF hn6 _
    · rw [cpF_in hp9, sOpen_z (by omega) (by omega)]
    · rw [cpF_in hp9, sOpen_z (by omega) (by omega)]
    · obtain ⟨te, kd, a, b, st, h7⟩ := hc5 r9 hr9
      exact ⟨te, kd, a, b, st, (hs9 _ (by omega)).trans h7, fun q => absurd q (by rw [nT_open]; omega)⟩
  · rw [nI_leI (by omega) (by omega)] at c_39
    refine lv_aload_n hx hb dX1_arrange_42 rfl (lv_at hl 0 rfl) ?_
    refine fs_get E hP (k := h) (v := .ref (fa g (h + 1))) 3 fc1 h_35 (by omega) (by decide) (wm wl_2 (i := 15) rfl) rfl dX1_arrange_43 ?_
    refine lv_iload_n hx hb dX1_arrange_46 rfl (lv_at hl 2 rfl) ?_
    refine lv_iload_n hx hb dX1_arrange_47 rfl (lv_at hl 2 rfl) ?_
    refine lv_iconst (v := (nI 1)) hx hb dX1_arrange_48 (by decide) ?_
    refine lv_iadd hx hb dX1_arrange_49 ?_
    refine fs_vi (y := (nI (i + 1))) (nI_1 i) ?_
    refine lv_aload_n hx hb dX1_arrange_50 rfl (lv_at hl 0 rfl) ?_
    refine fs_get E hP (k := h) (v := .int (nI n)) 0 fc1 h_35 (by omega) (by decide) (wm wl_4 (i := 15) rfl) rfl dX1_arrange_51 ?_
    refine lv_icmp_ge (tgt := 63) hx hb dX1_arrange_54 (by decide) (fun c_54 => ?_) (fun c_54 => ?_)
    · rw [nI_leI (by omega) (by omega)] at c_54
      refine lv_iload_n hx hb dX1_arrange_63 rfl (lv_at hl 2 rfl) ?_
      refine lv_aload_n hx hb dX1_arrange_64 rfl (lv_at hl 0 rfl) ?_
      refine fs_get E hP (k := h) (v := .int (nI n)) 0 fc1 h_35 (by omega) (by decide) (wm wl_4 (i := 15) rfl) rfl dX1_arrange_65 ?_
      refine lv_icmp_ge (tgt := 75) hx hb dX1_arrange_68 (by decide) (fun c_68 => ?_) (fun c_68 => ?_)
      · rw [nI_leI (by omega) (by omega)] at c_68
        refine lv_iconst (v := (-1)) hx hb dX1_arrange_75 (by decide) ?_
        refine fs_iast E hP hS (k := (h + 1)) h_36 (by omega) (vp_in_nI (by omega) (by omega)) dX1_arrange_76 (fun ct_40 H locs q_41 hP hS => ?_)
        rw [nI_clamp (by omega)] at q_41
        have h_42 : ct_40 h = .inr (1, [.int (nI n), .int (nI 0), .int (nI 0), .ref (fa g (h + 1)), .ref (fa g (h + 2)), .ref (fa g (h + 3)), .ref (fa g (h + 4))]) := by rw [q_41]; exact (fu_ne (by omega)).trans h_35
        have h_43 : ct_40 (h + 1) = .inl (fcI g, 6, .inl (upd (cpF i (LF n) f1) i (-1))) := by rw [q_41]; exact fu_eq _ _ _
        have h_44 : ct_40 (h + 2) = .inl (fcI g, 6, .inl (cpF 6 (fun _ => (nI 0)) f2)) := by rw [q_41]; exact (fu_ne (by omega)).trans h_37
        have h_45 : ct_40 (h + 3) = .inl (fcI g, 6, .inl (cpF 6 (fun _ => (nI 0)) f3)) := by rw [q_41]; exact (fu_ne (by omega)).trans h_38
        have h_46 : ct_40 (h + 4) = .inl (fcR g, 20, .inr (.inr (.inr (.inr f4)))) := by rw [q_41]; exact (fu_ne (by omega)).trans h_39
        refine lv_iinc (v := (nI (i + 1))) (lv' := [(2, .int (nI (i + 1))), (0, .ref (fa g h)), (1, .int (nI n))]) hx hb dX1_arrange_77 hl (k := 2) rfl (nI_1 _) (by decide) rfl (fun ls hl => ?_)
        refine lv_goto (tgt := 33) hx hb dX1_arrange_80 (by decide) ?_
        exact ih (i + 1) _ _ ls _ (by omega) ⟨lv_sub hl [1, 2, 0] rfl, by rw [q_41, hI.1, fu_fu]; exact congrArg (fun z => fu ct_28 (h + 1) (.inl (fcI g, 6, .inl z))) (cpF_sv (by unfold LF; rw [if_neg (by omega), if_neg (by omega)])), by omega⟩ hP hS
      · rw [nI_leI (by omega) (by omega)] at c_68
        refine lv_iconst (v := (nI 0)) hx hb dX1_arrange_71 (by decide) ?_
        refine lv_goto (tgt := 76) hx hb dX1_arrange_72 (by decide) ?_
        refine fs_iast E hP hS (k := (h + 1)) h_36 (by omega) (vp_in_nI (by omega) (by omega)) dX1_arrange_76 (fun ct_47 H locs q_48 hP hS => ?_)
        rw [nI_clamp (by omega)] at q_48
        have h_49 : ct_47 h = .inr (1, [.int (nI n), .int (nI 0), .int (nI 0), .ref (fa g (h + 1)), .ref (fa g (h + 2)), .ref (fa g (h + 3)), .ref (fa g (h + 4))]) := by rw [q_48]; exact (fu_ne (by omega)).trans h_35
        have h_50 : ct_47 (h + 1) = .inl (fcI g, 6, .inl (upd (cpF i (LF n) f1) i (nI 0))) := by rw [q_48]; exact fu_eq _ _ _
        have h_51 : ct_47 (h + 2) = .inl (fcI g, 6, .inl (cpF 6 (fun _ => (nI 0)) f2)) := by rw [q_48]; exact (fu_ne (by omega)).trans h_37
        have h_52 : ct_47 (h + 3) = .inl (fcI g, 6, .inl (cpF 6 (fun _ => (nI 0)) f3)) := by rw [q_48]; exact (fu_ne (by omega)).trans h_38
        have h_53 : ct_47 (h + 4) = .inl (fcR g, 20, .inr (.inr (.inr (.inr f4)))) := by rw [q_48]; exact (fu_ne (by omega)).trans h_39
        refine lv_iinc (v := (nI (i + 1))) (lv' := [(2, .int (nI (i + 1))), (0, .ref (fa g h)), (1, .int (nI n))]) hx hb dX1_arrange_77 hl (k := 2) rfl (nI_1 _) (by decide) rfl (fun ls hl => ?_)
        refine lv_goto (tgt := 33) hx hb dX1_arrange_80 (by decide) ?_
        exact ih (i + 1) _ _ ls _ (by omega) ⟨lv_sub hl [1, 2, 0] rfl, by rw [q_48, hI.1, fu_fu]; exact congrArg (fun z => fu ct_28 (h + 1) (.inl (fcI g, 6, .inl z))) (cpF_sv (by unfold LF; rw [if_neg (by omega), if_pos (by omega)])), by omega⟩ hP hS
    · rw [nI_leI (by omega) (by omega)] at c_54
      refine lv_iload_n hx hb dX1_arrange_57 rfl (lv_at hl 2 rfl) ?_
      refine lv_iconst (v := (nI 1)) hx hb dX1_arrange_58 (by decide) ?_
      refine lv_iadd hx hb dX1_arrange_59 ?_
      refine fs_vi (y := (nI (i + 1))) (nI_1 i) ?_
      refine lv_goto (tgt := 76) hx hb dX1_arrange_60 (by decide) ?_
      refine fs_iast E hP hS (k := (h + 1)) h_36 (by omega) (vp_in_nI (by omega) (by omega)) dX1_arrange_76 (fun ct_54 H locs q_55 hP hS => ?_)
      rw [nI_clamp (by omega)] at q_55
      have h_56 : ct_54 h = .inr (1, [.int (nI n), .int (nI 0), .int (nI 0), .ref (fa g (h + 1)), .ref (fa g (h + 2)), .ref (fa g (h + 3)), .ref (fa g (h + 4))]) := by rw [q_55]; exact (fu_ne (by omega)).trans h_35
      have h_57 : ct_54 (h + 1) = .inl (fcI g, 6, .inl (upd (cpF i (LF n) f1) i (nI (i + 1)))) := by rw [q_55]; exact fu_eq _ _ _
      have h_58 : ct_54 (h + 2) = .inl (fcI g, 6, .inl (cpF 6 (fun _ => (nI 0)) f2)) := by rw [q_55]; exact (fu_ne (by omega)).trans h_37
      have h_59 : ct_54 (h + 3) = .inl (fcI g, 6, .inl (cpF 6 (fun _ => (nI 0)) f3)) := by rw [q_55]; exact (fu_ne (by omega)).trans h_38
      have h_60 : ct_54 (h + 4) = .inl (fcR g, 20, .inr (.inr (.inr (.inr f4)))) := by rw [q_55]; exact (fu_ne (by omega)).trans h_39
      refine lv_iinc (v := (nI (i + 1))) (lv' := [(2, .int (nI (i + 1))), (0, .ref (fa g h)), (1, .int (nI n))]) hx hb dX1_arrange_77 hl (k := 2) rfl (nI_1 _) (by decide) rfl (fun ls hl => ?_)
      refine lv_goto (tgt := 33) hx hb dX1_arrange_80 (by decide) ?_
      exact ih (i + 1) _ _ ls _ (by omega) ⟨lv_sub hl [1, 2, 0] rfl, by rw [q_55, hI.1, fu_fu]; exact congrArg (fun z => fu ct_28 (h + 1) (.inl (fcI g, 6, .inl z))) (cpF_sv (by unfold LF; rw [if_pos (by omega)])), by omega⟩ hP hS

set_option maxRecDepth 100000 in
set_option maxHeartbeats 4000000 in
theorem c_X1_copyFrom (l : Launch) (g : fG) (N : Nat) (ct : Nat → va_E) (h h2 : Nat) (σ : Nat → Int32) (hN : h + 25 ≤ N) (hN2 : h2 + 25 ≤ N) (hdis : h + 25 ≤ h2 ∨ h2 + 25 ≤ h) (hG : Good σ) (hH : HouseSh g ct h) (hH2 : HouseAt g ct h2 σ) : Met l yX1_copyFrom (wsU yX1_copyFrom cX1_copyFrom 5 none) rX1_copyFrom (fPre g N ct [.ref (fa g h), .ref (fa g h2)]) (fQv g N (fun ct1 => HouseAt g ct1 h σ ∧ fSame h (h + 25) ct ct1)) 0 0 (fB g) := by
  refine fs_start (own := RX1) (lv0 := [(0, .ref (fa g h)), (1, .ref (fa g h2))]) (by decide) rfl (Nat.le_of_ble_eq_true rfl) rfl ?_
  intro p e s m args below meth c ls E hr hlk hnm hP hl hS
  have hx := E.1.1
  have hb := E.1.2.1
  obtain ⟨⟨b0, a0, t0, hc0⟩, ⟨f1, hc1⟩, ⟨f2, hc2⟩, ⟨f3, hc3⟩, ⟨f4, hc4, hf4⟩, hc5⟩ := id hH
  obtain ⟨hd0, ⟨e1, hd1, he1⟩, ⟨e2, hd2, he2⟩, ⟨e3, hd3, he3⟩, ⟨e4, hd4, he4⟩, hd5⟩ := id hH2
  have hG20 := hG.k
  have hG3 := hG.n3
  have hG6 := hG.n6
  
  refine lv_aload_n hx hb dX1_copyFrom_0 rfl (lv_at hl 0 rfl) ?_
  refine lv_aload_n hx hb dX1_copyFrom_1 rfl (lv_at hl 1 rfl) ?_
  refine fs_get E hP (k := h2) (v := .int (nI (nB σ))) 0 fc1 hd0 (by omega) (by decide) (wm wl_4 (i := 15) rfl) rfl dX1_copyFrom_2 ?_
  refine fs_put E hP hS (k := h) 0 fc1 hc0 (by omega) (by decide) (wm wl_4 (i := 15) rfl) rfl rfl rfl rfl (Nat.le_of_ble_eq_true rfl) dX1_copyFrom_5 (fun ct_1 H locs q_2 hP hS => ?_)
  have h_3 : ct_1 h = .inr (1, [.int (nI (nB σ)), .int a0, .int t0, .ref (fa g (h + 1)), .ref (fa g (h + 2)), .ref (fa g (h + 3)), .ref (fa g (h + 4))]) := by rw [q_2]; exact fu_eq _ _ _
  have h_4 : ct_1 (h + 1) = .inl (fcI g, 6, .inl f1) := by rw [q_2]; exact (fu_ne (by omega)).trans hc1
  have h_5 : ct_1 (h + 2) = .inl (fcI g, 6, .inl f2) := by rw [q_2]; exact (fu_ne (by omega)).trans hc2
  have h_6 : ct_1 (h + 3) = .inl (fcI g, 6, .inl f3) := by rw [q_2]; exact (fu_ne (by omega)).trans hc3
  have h_7 : ct_1 (h + 4) = .inl (fcR g, 20, .inr (.inr (.inr (.inr f4)))) := by rw [q_2]; exact (fu_ne (by omega)).trans hc4
  have h_8 : ct_1 h2 = .inr (1, [.int (nI (nB σ)), .int (σ 2), .int (nI (nT σ)), .ref (fa g (h2 + 1)), .ref (fa g (h2 + 2)), .ref (fa g (h2 + 3)), .ref (fa g (h2 + 4))]) := by rw [q_2]; exact (fu_ne (by omega)).trans hd0
  have h_9 : ct_1 (h2 + 1) = .inl (fcI g, 6, .inl e1) := by rw [q_2]; exact (fu_ne (by omega)).trans hd1
  have h_10 : ct_1 (h2 + 2) = .inl (fcI g, 6, .inl e2) := by rw [q_2]; exact (fu_ne (by omega)).trans hd2
  have h_11 : ct_1 (h2 + 3) = .inl (fcI g, 6, .inl e3) := by rw [q_2]; exact (fu_ne (by omega)).trans hd3
  have h_12 : ct_1 (h2 + 4) = .inl (fcR g, 20, .inr (.inr (.inr (.inr e4)))) := by rw [q_2]; exact (fu_ne (by omega)).trans hd4
  refine lv_aload_n hx hb dX1_copyFrom_8 rfl (lv_at hl 0 rfl) ?_
  refine lv_aload_n hx hb dX1_copyFrom_9 rfl (lv_at hl 1 rfl) ?_
  refine fs_get E hP (k := h2) (v := .int (σ 2)) 1 fc1 h_8 (by omega) (by decide) (wm wl_4 (i := 16) rfl) rfl dX1_copyFrom_10 ?_
  refine fs_put E hP hS (k := h) 1 fc1 h_3 (by omega) (by decide) (wm wl_4 (i := 16) rfl) rfl rfl rfl rfl (Nat.le_of_ble_eq_true rfl) dX1_copyFrom_13 (fun ct_13 H locs q_14 hP hS => ?_)
  have h_15 : ct_13 h = .inr (1, [.int (nI (nB σ)), .int (σ 2), .int t0, .ref (fa g (h + 1)), .ref (fa g (h + 2)), .ref (fa g (h + 3)), .ref (fa g (h + 4))]) := by rw [q_14]; exact fu_eq _ _ _
  have h_16 : ct_13 (h + 1) = .inl (fcI g, 6, .inl f1) := by rw [q_14]; exact (fu_ne (by omega)).trans h_4
  have h_17 : ct_13 (h + 2) = .inl (fcI g, 6, .inl f2) := by rw [q_14]; exact (fu_ne (by omega)).trans h_5
  have h_18 : ct_13 (h + 3) = .inl (fcI g, 6, .inl f3) := by rw [q_14]; exact (fu_ne (by omega)).trans h_6
  have h_19 : ct_13 (h + 4) = .inl (fcR g, 20, .inr (.inr (.inr (.inr f4)))) := by rw [q_14]; exact (fu_ne (by omega)).trans h_7
  have h_20 : ct_13 h2 = .inr (1, [.int (nI (nB σ)), .int (σ 2), .int (nI (nT σ)), .ref (fa g (h2 + 1)), .ref (fa g (h2 + 2)), .ref (fa g (h2 + 3)), .ref (fa g (h2 + 4))]) := by rw [q_14]; exact (fu_ne (by omega)).trans h_8
  have h_21 : ct_13 (h2 + 1) = .inl (fcI g, 6, .inl e1) := by rw [q_14]; exact (fu_ne (by omega)).trans h_9
  have h_22 : ct_13 (h2 + 2) = .inl (fcI g, 6, .inl e2) := by rw [q_14]; exact (fu_ne (by omega)).trans h_10
  have h_23 : ct_13 (h2 + 3) = .inl (fcI g, 6, .inl e3) := by rw [q_14]; exact (fu_ne (by omega)).trans h_11
  have h_24 : ct_13 (h2 + 4) = .inl (fcR g, 20, .inr (.inr (.inr (.inr e4)))) := by rw [q_14]; exact (fu_ne (by omega)).trans h_12
  refine lv_aload_n hx hb dX1_copyFrom_16 rfl (lv_at hl 0 rfl) ?_
  refine lv_aload_n hx hb dX1_copyFrom_17 rfl (lv_at hl 1 rfl) ?_
  refine fs_get E hP (k := h2) (v := .int (nI (nT σ))) 2 fc1 h_20 (by omega) (by decide) (wm wl_4 (i := 17) rfl) rfl dX1_copyFrom_18 ?_
  refine fs_put E hP hS (k := h) 2 fc1 h_15 (by omega) (by decide) (wm wl_4 (i := 17) rfl) rfl rfl rfl rfl (Nat.le_of_ble_eq_true rfl) dX1_copyFrom_21 (fun ct_25 H locs q_26 hP hS => ?_)
  have h_27 : ct_25 h = .inr (1, [.int (nI (nB σ)), .int (σ 2), .int (nI (nT σ)), .ref (fa g (h + 1)), .ref (fa g (h + 2)), .ref (fa g (h + 3)), .ref (fa g (h + 4))]) := by rw [q_26]; exact fu_eq _ _ _
  have h_28 : ct_25 (h + 1) = .inl (fcI g, 6, .inl f1) := by rw [q_26]; exact (fu_ne (by omega)).trans h_16
  have h_29 : ct_25 (h + 2) = .inl (fcI g, 6, .inl f2) := by rw [q_26]; exact (fu_ne (by omega)).trans h_17
  have h_30 : ct_25 (h + 3) = .inl (fcI g, 6, .inl f3) := by rw [q_26]; exact (fu_ne (by omega)).trans h_18
  have h_31 : ct_25 (h + 4) = .inl (fcR g, 20, .inr (.inr (.inr (.inr f4)))) := by rw [q_26]; exact (fu_ne (by omega)).trans h_19
  have h_32 : ct_25 h2 = .inr (1, [.int (nI (nB σ)), .int (σ 2), .int (nI (nT σ)), .ref (fa g (h2 + 1)), .ref (fa g (h2 + 2)), .ref (fa g (h2 + 3)), .ref (fa g (h2 + 4))]) := by rw [q_26]; exact (fu_ne (by omega)).trans h_20
  have h_33 : ct_25 (h2 + 1) = .inl (fcI g, 6, .inl e1) := by rw [q_26]; exact (fu_ne (by omega)).trans h_21
  have h_34 : ct_25 (h2 + 2) = .inl (fcI g, 6, .inl e2) := by rw [q_26]; exact (fu_ne (by omega)).trans h_22
  have h_35 : ct_25 (h2 + 3) = .inl (fcI g, 6, .inl e3) := by rw [q_26]; exact (fu_ne (by omega)).trans h_23
  have h_36 : ct_25 (h2 + 4) = .inl (fcR g, 20, .inr (.inr (.inr (.inr e4)))) := by rw [q_26]; exact (fu_ne (by omega)).trans h_24
  refine lv_aload_n hx hb dX1_copyFrom_24 rfl (lv_at hl 1 rfl) ?_
  refine fs_get E hP (k := h2) (v := .ref (fa g (h2 + 1))) 3 fc1 h_32 (by omega) (by decide) (wm wl_2 (i := 15) rfl) rfl dX1_copyFrom_25 ?_
  refine lv_aload_n hx hb dX1_copyFrom_28 rfl (lv_at hl 0 rfl) ?_
  refine fs_get E hP (k := h) (v := .ref (fa g (h + 1))) 3 fc1 h_27 (by omega) (by decide) (wm wl_2 (i := 15) rfl) rfl dX1_copyFrom_29 ?_
  refine fs_v (va_runSN (As := [.ref (fa g (h2 + 1)), .ref (fa g (h + 1))]) (rest := []) E.1 (c_X7_copyRow l g N ct_25 (h2 + 1) (h + 1) 6 e1 f1 (by omega) (by omega) (by omega) (by omega) h_33 h_28) (lk_RX1_42 E.1.2.2.2.2 (E.2.1.2.1 _ (List.mem_of_getElem? (i := 32) rfl)) ⟨Nat.le_of_ble_eq_true rfl, Nat.le_of_ble_eq_true rfl⟩) (fpreS E hP hS) rfl rfl hl.1 rfl (lv_room (Nat.le_of_ble_eq_true rfl)) dX1_copyFrom_32 ⟨Nat.zero_le _, Nat.zero_le _⟩) hS (fun ct_37 H locs p_32 hP hS => ?_)
  have h_38 : ct_37 h = .inr (1, [.int (nI (nB σ)), .int (σ 2), .int (nI (nT σ)), .ref (fa g (h + 1)), .ref (fa g (h + 2)), .ref (fa g (h + 3)), .ref (fa g (h + 4))]) := by rw [p_32]; exact (fu_ne (by omega)).trans h_27
  have h_39 : ct_37 (h + 1) = .inl (fcI g, 6, .inl (cpF 6 e1 f1)) := by rw [p_32]; exact fu_eq _ _ _
  have h_40 : ct_37 (h + 2) = .inl (fcI g, 6, .inl f2) := by rw [p_32]; exact (fu_ne (by omega)).trans h_29
  have h_41 : ct_37 (h + 3) = .inl (fcI g, 6, .inl f3) := by rw [p_32]; exact (fu_ne (by omega)).trans h_30
  have h_42 : ct_37 (h + 4) = .inl (fcR g, 20, .inr (.inr (.inr (.inr f4)))) := by rw [p_32]; exact (fu_ne (by omega)).trans h_31
  have h_43 : ct_37 h2 = .inr (1, [.int (nI (nB σ)), .int (σ 2), .int (nI (nT σ)), .ref (fa g (h2 + 1)), .ref (fa g (h2 + 2)), .ref (fa g (h2 + 3)), .ref (fa g (h2 + 4))]) := by rw [p_32]; exact (fu_ne (by omega)).trans h_32
  have h_44 : ct_37 (h2 + 1) = .inl (fcI g, 6, .inl e1) := by rw [p_32]; exact (fu_ne (by omega)).trans h_33
  have h_45 : ct_37 (h2 + 2) = .inl (fcI g, 6, .inl e2) := by rw [p_32]; exact (fu_ne (by omega)).trans h_34
  have h_46 : ct_37 (h2 + 3) = .inl (fcI g, 6, .inl e3) := by rw [p_32]; exact (fu_ne (by omega)).trans h_35
  have h_47 : ct_37 (h2 + 4) = .inl (fcR g, 20, .inr (.inr (.inr (.inr e4)))) := by rw [p_32]; exact (fu_ne (by omega)).trans h_36
  refine lv_aload_n hx hb dX1_copyFrom_35 rfl (lv_at hl 1 rfl) ?_
  refine fs_get E hP (k := h2) (v := .ref (fa g (h2 + 2))) 4 fc1 h_43 (by omega) (by decide) (wm wl_2 (i := 16) rfl) rfl dX1_copyFrom_36 ?_
  refine lv_aload_n hx hb dX1_copyFrom_39 rfl (lv_at hl 0 rfl) ?_
  refine fs_get E hP (k := h) (v := .ref (fa g (h + 2))) 4 fc1 h_38 (by omega) (by decide) (wm wl_2 (i := 16) rfl) rfl dX1_copyFrom_40 ?_
  refine fs_v (va_runSN (As := [.ref (fa g (h2 + 2)), .ref (fa g (h + 2))]) (rest := []) E.1 (c_X7_copyRow l g N ct_37 (h2 + 2) (h + 2) 6 e2 f2 (by omega) (by omega) (by omega) (by omega) h_45 h_40) (lk_RX1_42 E.1.2.2.2.2 (E.2.1.2.1 _ (List.mem_of_getElem? (i := 32) rfl)) ⟨Nat.le_of_ble_eq_true rfl, Nat.le_of_ble_eq_true rfl⟩) (fpreS E hP hS) rfl rfl hl.1 rfl (lv_room (Nat.le_of_ble_eq_true rfl)) dX1_copyFrom_43 ⟨Nat.zero_le _, Nat.zero_le _⟩) hS (fun ct_48 H locs p_43 hP hS => ?_)
  have h_49 : ct_48 h = .inr (1, [.int (nI (nB σ)), .int (σ 2), .int (nI (nT σ)), .ref (fa g (h + 1)), .ref (fa g (h + 2)), .ref (fa g (h + 3)), .ref (fa g (h + 4))]) := by rw [p_43]; exact (fu_ne (by omega)).trans h_38
  have h_50 : ct_48 (h + 1) = .inl (fcI g, 6, .inl (cpF 6 e1 f1)) := by rw [p_43]; exact (fu_ne (by omega)).trans h_39
  have h_51 : ct_48 (h + 2) = .inl (fcI g, 6, .inl (cpF 6 e2 f2)) := by rw [p_43]; exact fu_eq _ _ _
  have h_52 : ct_48 (h + 3) = .inl (fcI g, 6, .inl f3) := by rw [p_43]; exact (fu_ne (by omega)).trans h_41
  have h_53 : ct_48 (h + 4) = .inl (fcR g, 20, .inr (.inr (.inr (.inr f4)))) := by rw [p_43]; exact (fu_ne (by omega)).trans h_42
  have h_54 : ct_48 h2 = .inr (1, [.int (nI (nB σ)), .int (σ 2), .int (nI (nT σ)), .ref (fa g (h2 + 1)), .ref (fa g (h2 + 2)), .ref (fa g (h2 + 3)), .ref (fa g (h2 + 4))]) := by rw [p_43]; exact (fu_ne (by omega)).trans h_43
  have h_55 : ct_48 (h2 + 1) = .inl (fcI g, 6, .inl e1) := by rw [p_43]; exact (fu_ne (by omega)).trans h_44
  have h_56 : ct_48 (h2 + 2) = .inl (fcI g, 6, .inl e2) := by rw [p_43]; exact (fu_ne (by omega)).trans h_45
  have h_57 : ct_48 (h2 + 3) = .inl (fcI g, 6, .inl e3) := by rw [p_43]; exact (fu_ne (by omega)).trans h_46
  have h_58 : ct_48 (h2 + 4) = .inl (fcR g, 20, .inr (.inr (.inr (.inr e4)))) := by rw [p_43]; exact (fu_ne (by omega)).trans h_47
  refine lv_aload_n hx hb dX1_copyFrom_46 rfl (lv_at hl 1 rfl) ?_
  refine fs_get E hP (k := h2) (v := .ref (fa g (h2 + 3))) 5 fc1 h_54 (by omega) (by decide) (wm wl_2 (i := 17) rfl) rfl dX1_copyFrom_47 ?_
  refine lv_aload_n hx hb dX1_copyFrom_50 rfl (lv_at hl 0 rfl) ?_
  refine fs_get E hP (k := h) (v := .ref (fa g (h + 3))) 5 fc1 h_49 (by omega) (by decide) (wm wl_2 (i := 17) rfl) rfl dX1_copyFrom_51 ?_
  refine fs_v (va_runSN (As := [.ref (fa g (h2 + 3)), .ref (fa g (h + 3))]) (rest := []) E.1 (c_X7_copyRow l g N ct_48 (h2 + 3) (h + 3) 6 e3 f3 (by omega) (by omega) (by omega) (by omega) h_57 h_52) (lk_RX1_42 E.1.2.2.2.2 (E.2.1.2.1 _ (List.mem_of_getElem? (i := 32) rfl)) ⟨Nat.le_of_ble_eq_true rfl, Nat.le_of_ble_eq_true rfl⟩) (fpreS E hP hS) rfl rfl hl.1 rfl (lv_room (Nat.le_of_ble_eq_true rfl)) dX1_copyFrom_54 ⟨Nat.zero_le _, Nat.zero_le _⟩) hS (fun ct_59 H locs p_54 hP hS => ?_)
  have h_60 : ct_59 h = .inr (1, [.int (nI (nB σ)), .int (σ 2), .int (nI (nT σ)), .ref (fa g (h + 1)), .ref (fa g (h + 2)), .ref (fa g (h + 3)), .ref (fa g (h + 4))]) := by rw [p_54]; exact (fu_ne (by omega)).trans h_49
  have h_61 : ct_59 (h + 1) = .inl (fcI g, 6, .inl (cpF 6 e1 f1)) := by rw [p_54]; exact (fu_ne (by omega)).trans h_50
  have h_62 : ct_59 (h + 2) = .inl (fcI g, 6, .inl (cpF 6 e2 f2)) := by rw [p_54]; exact (fu_ne (by omega)).trans h_51
  have h_63 : ct_59 (h + 3) = .inl (fcI g, 6, .inl (cpF 6 e3 f3)) := by rw [p_54]; exact fu_eq _ _ _
  have h_64 : ct_59 (h + 4) = .inl (fcR g, 20, .inr (.inr (.inr (.inr f4)))) := by rw [p_54]; exact (fu_ne (by omega)).trans h_53
  have h_65 : ct_59 h2 = .inr (1, [.int (nI (nB σ)), .int (σ 2), .int (nI (nT σ)), .ref (fa g (h2 + 1)), .ref (fa g (h2 + 2)), .ref (fa g (h2 + 3)), .ref (fa g (h2 + 4))]) := by rw [p_54]; exact (fu_ne (by omega)).trans h_54
  have h_66 : ct_59 (h2 + 1) = .inl (fcI g, 6, .inl e1) := by rw [p_54]; exact (fu_ne (by omega)).trans h_55
  have h_67 : ct_59 (h2 + 2) = .inl (fcI g, 6, .inl e2) := by rw [p_54]; exact (fu_ne (by omega)).trans h_56
  have h_68 : ct_59 (h2 + 3) = .inl (fcI g, 6, .inl e3) := by rw [p_54]; exact (fu_ne (by omega)).trans h_57
  have h_69 : ct_59 (h2 + 4) = .inl (fcR g, 20, .inr (.inr (.inr (.inr e4)))) := by rw [p_54]; exact (fu_ne (by omega)).trans h_58
  refine lv_iconst (v := (nI 0)) hx hb dX1_copyFrom_57 (by decide) ?_
  refine lv_istore_n (lv' := [(2, .int (nI 0)), (0, .ref (fa g h)), (1, .ref (fa g h2))]) hx hb dX1_copyFrom_58 rfl hl (by decide) rfl (fun ls hl => ?_)
  refine fs_ind (g := g) (N := N) (St := Nat) (fun (i : Nat) (ct_70 : Nat → va_E) (ls : Array Slot) => lv_has ls 5 [(0, .ref (fa g h)), (1, .ref (fa g h2)), (2, .int (nI i))] ∧ fSame (h + 5) (h + 25) ct_59 ct_70 ∧ i ≤ nT σ ∧ (∀ r, r < i → ct_70 (h + 5 + r) = .inr (3, [.int (nI (rk σ r 0)), .int (nI (rk σ r 1)), .int (nI (rk σ r 2)), .int (nI (rk σ r 3)), .int (nI (rk σ r 4))])) ∧ ∀ r, i ≤ r → r < 20 → ct_70 (h + 5 + r) = ct_59 (h + 5 + r)) (fun (i : Nat) => nT σ - i) ?_ 0 _ _ ls _ ⟨lv_sub hl [1, 2, 0] rfl, fSame.rf, Nat.zero_le _, fun r8 h8 => absurd h8 (by omega), fun _ _ _ => rfl⟩ hP hS
  clear hl hP hS
  intro st ct_70 H ls locs hI hP hS ih
  obtain ⟨i, rfl⟩ : ∃ z, z = st := ⟨_, rfl⟩
  obtain ⟨hl, hI⟩ := hI
  have hs0 : fSame h (h + 4) ct ct_59 := (fSame.ap (fSame.ap (fSame.ap (fSame.ap (fSame.ap (fSame.ap fSame.rf q_2 (by omega) (by omega)) q_14 (by omega) (by omega)) q_26 (by omega) (by omega)) p_32 (by omega) (by omega)) p_43 (by omega) (by omega)) p_54 (by omega) (by omega))
  have hsA : fSame h (h + 25) ct ct_70 := (hs0.wide (by omega) (by omega)).tr (hI.1.wide (by omega) (by omega))
  have hI2 := hI.2.1
  have h_71 : ct_70 h = .inr (1, [.int (nI (nB σ)), .int (σ 2), .int (nI (nT σ)), .ref (fa g (h + 1)), .ref (fa g (h + 2)), .ref (fa g (h + 3)), .ref (fa g (h + 4))]) := (hI.1 _ (by omega)).trans h_60
  have h_72 : ct_70 (h + 1) = .inl (fcI g, 6, .inl (cpF 6 e1 f1)) := (hI.1 _ (by omega)).trans h_61
  have h_73 : ct_70 (h + 2) = .inl (fcI g, 6, .inl (cpF 6 e2 f2)) := (hI.1 _ (by omega)).trans h_62
  have h_74 : ct_70 (h + 3) = .inl (fcI g, 6, .inl (cpF 6 e3 f3)) := (hI.1 _ (by omega)).trans h_63
  have h_75 : ct_70 (h + 4) = .inl (fcR g, 20, .inr (.inr (.inr (.inr f4)))) := (hI.1 _ (by omega)).trans h_64
  have h_76 : ct_70 h2 = .inr (1, [.int (nI (nB σ)), .int (σ 2), .int (nI (nT σ)), .ref (fa g (h2 + 1)), .ref (fa g (h2 + 2)), .ref (fa g (h2 + 3)), .ref (fa g (h2 + 4))]) := (hI.1 _ (by omega)).trans h_65
  have h_77 : ct_70 (h2 + 1) = .inl (fcI g, 6, .inl e1) := (hI.1 _ (by omega)).trans h_66
  have h_78 : ct_70 (h2 + 2) = .inl (fcI g, 6, .inl e2) := (hI.1 _ (by omega)).trans h_67
  have h_79 : ct_70 (h2 + 3) = .inl (fcI g, 6, .inl e3) := (hI.1 _ (by omega)).trans h_68
  have h_80 : ct_70 (h2 + 4) = .inl (fcR g, 20, .inr (.inr (.inr (.inr e4)))) := (hI.1 _ (by omega)).trans h_69
  skip
  refine lv_iload_n hx hb dX1_copyFrom_59 rfl (lv_at hl 2 rfl) ?_
  refine lv_aload_n hx hb dX1_copyFrom_60 rfl (lv_at hl 0 rfl) ?_
  refine fs_get E hP (k := h) (v := .int (nI (nT σ))) 2 fc1 h_71 (by omega) (by decide) (wm wl_4 (i := 17) rfl) rfl dX1_copyFrom_61 ?_
  refine lv_icmp_ge (tgt := 101) hx hb dX1_copyFrom_64 (by decide) (fun c_64 => ?_) (fun c_64 => ?_)
  · rw [nI_leI (by omega) (by omega)] at c_64
    refine fs_vret E hr hlk hP hS dX1_copyFrom_101 ?_
    have e9 : i = nT σ := by omega
    subst e9
    refine ⟨⟨h_71, ⟨_, h_72, fun p9 hp9 => ?_⟩, ⟨_, h_73, fun p9 hp9 => ?_⟩, ⟨_, h_74, fun p9 hp9 => ?_⟩, ⟨f4, h_75, hf4⟩, fun r9 hr9 => ?_⟩, hsA⟩
    · rw [cpF_in hp9]; exact he1 p9 hp9
    · rw [cpF_in hp9]; exact he2 p9 hp9
    · rw [cpF_in hp9]; exact he3 p9 hp9
    · rcases Nat.lt_or_ge r9 (nT σ) with q9 | q9
      · exact ⟨_, _, _, _, _, hI.2.2.1 r9 q9, fun _ => ⟨rfl, rfl, rfl, rfl, rfl⟩⟩
      · obtain ⟨te, kd, a, b, st, h7⟩ := hc5 r9 hr9
        exact ⟨te, kd, a, b, st, (hI.2.2.2 r9 q9 hr9).trans ((hs0 _ (by omega)).trans h7), fun q => absurd q (by omega)⟩
  · rw [nI_leI (by omega) (by omega)] at c_64
    refine lv_aload_n hx hb dX1_copyFrom_67 rfl (lv_at hl 0 rfl) ?_
    refine lv_iload_n hx hb dX1_copyFrom_68 rfl (lv_at hl 2 rfl) ?_
    refine fs_pr (va_runV (As := [.int (nI i)]) (rest := []) E.1 (c_X1_rumourAt l g N ct_70 h (nT σ) (nI (nB σ)) (σ 2) f4 (nI i) (by omega) (by omega) h_71 h_75 hf4) (lk_RX1_46 E.1.2.2.2.2 ⟨Nat.le_of_ble_eq_true rfl, Nat.le_of_ble_eq_true rfl⟩) (fpreV E hP hS fc1 h_71 (by omega)) rfl rfl hl.1 rfl (lv_room (Nat.le_of_ble_eq_true rfl)) dX1_copyFrom_69 ⟨Nat.zero_le _, Nat.zero_le _⟩) hS (fun r_69 locs p_69 hS => ?_)
    refine fs_vv (y := .ref (fa g (h + 5 + i))) (rum_in p_69 (by omega) hG20) ?_
    clear p_69
    obtain ⟨te8, kd8, a8, b8, st8, hr8⟩ := hc5 i (by omega)
    have hr8b : ct_70 (h + 5 + i) = .inr (3, [.int te8, .int kd8, .int a8, .int b8, .int st8]) := (hI.2.2.2 i (Nat.le_refl _) (by omega)).trans ((hs0 _ (by omega)).trans hr8)
    refine lv_astore_n (lv' := [(3, .ref (fa g (h + 5 + i))), (0, .ref (fa g h)), (1, .ref (fa g h2)), (2, .int (nI i))]) hx hb dX1_copyFrom_72 rfl hl (by decide) rfl (fun ls hl => ?_)
    refine lv_aload_n hx hb dX1_copyFrom_73 rfl (lv_at hl 2 rfl) ?_
    refine lv_iload_n hx hb dX1_copyFrom_74 rfl (lv_at hl 3 rfl) ?_
    refine fs_pr (va_runV (As := [.int (nI i)]) (rest := []) E.1 (c_X1_rumourAt l g N ct_70 h2 (nT σ) (nI (nB σ)) (σ 2) e4 (nI i) (by omega) (by omega) h_76 h_80 he4) (lk_RX1_46 E.1.2.2.2.2 ⟨Nat.le_of_ble_eq_true rfl, Nat.le_of_ble_eq_true rfl⟩) (fpreV E hP hS fc1 h_76 (by omega)) rfl rfl hl.1 rfl (lv_room (Nat.le_of_ble_eq_true rfl)) dX1_copyFrom_75 ⟨Nat.zero_le _, Nat.zero_le _⟩) hS (fun r_75 locs p_75 hS => ?_)
    refine fs_vv (y := .ref (fa g (h2 + 5 + i))) (rum_in p_75 (by omega) hG20) ?_
    clear p_75
    obtain ⟨te9, kd9, a9, b9, st9, hr9, hr9b⟩ := hd5 i (by omega)
    obtain ⟨rfl, rfl, rfl, rfl, rfl⟩ := hr9b (by omega)
    have hr9c : ct_70 (h2 + 5 + i) = .inr (3, [.int (nI (rk σ i 0)), .int (nI (rk σ i 1)), .int (nI (rk σ i 2)), .int (nI (rk σ i 3)), .int (nI (rk σ i 4))]) := (hsA _ (by omega)).trans hr9
    refine lv_astore (lv' := [(4, .ref (fa g (h2 + 5 + i))), (3, .ref (fa g (h + 5 + i))), (0, .ref (fa g h)), (1, .ref (fa g h2)), (2, .int (nI i))]) hx hb dX1_copyFrom_78 hl (by decide) rfl (fun ls hl => ?_)
    refine lv_aload_n hx hb dX1_copyFrom_80 rfl (lv_at hl 1 rfl) ?_
    refine lv_ifnull hx hb dX1_copyFrom_81 ?_
    refine lv_aload hx hb dX1_copyFrom_84 (lv_at hl 0 rfl) ?_
    refine lv_ifnull hx hb dX1_copyFrom_86 ?_
    refine lv_aload_n hx hb dX1_copyFrom_89 rfl (lv_at hl 1 rfl) ?_
    refine lv_aload hx hb dX1_copyFrom_90 (lv_at hl 0 rfl) ?_
    refine fs_v (va_runV (As := [.ref (fa g (h2 + 5 + i))]) (rest := []) E.1 (c_X3_copyFrom l g N ct_70 (h + 5 + i) (h2 + 5 + i) te8 kd8 a8 b8 st8 (nI (rk σ i 0)) (nI (rk σ i 1)) (nI (rk σ i 2)) (nI (rk σ i 3)) (nI (rk σ i 4)) (by omega) (by omega) (by omega) hr8b hr9c) (lk_RX1_50 E.1.2.2.2.2 ⟨Nat.le_of_ble_eq_true rfl, Nat.le_of_ble_eq_true rfl⟩) (fpreV E hP hS fc3 hr8b (by omega)) rfl rfl hl.1 rfl (lv_room (Nat.le_of_ble_eq_true rfl)) dX1_copyFrom_92 ⟨Nat.zero_le _, Nat.zero_le _⟩) hS (fun ct_81 H locs p_92 hP hS => ?_)
    have h_82 : ct_81 h = .inr (1, [.int (nI (nB σ)), .int (σ 2), .int (nI (nT σ)), .ref (fa g (h + 1)), .ref (fa g (h + 2)), .ref (fa g (h + 3)), .ref (fa g (h + 4))]) := by rw [p_92]; exact (fu_ne (by omega)).trans h_71
    have h_83 : ct_81 (h + 1) = .inl (fcI g, 6, .inl (cpF 6 e1 f1)) := by rw [p_92]; exact (fu_ne (by omega)).trans h_72
    have h_84 : ct_81 (h + 2) = .inl (fcI g, 6, .inl (cpF 6 e2 f2)) := by rw [p_92]; exact (fu_ne (by omega)).trans h_73
    have h_85 : ct_81 (h + 3) = .inl (fcI g, 6, .inl (cpF 6 e3 f3)) := by rw [p_92]; exact (fu_ne (by omega)).trans h_74
    have h_86 : ct_81 (h + 4) = .inl (fcR g, 20, .inr (.inr (.inr (.inr f4)))) := by rw [p_92]; exact (fu_ne (by omega)).trans h_75
    have h_87 : ct_81 h2 = .inr (1, [.int (nI (nB σ)), .int (σ 2), .int (nI (nT σ)), .ref (fa g (h2 + 1)), .ref (fa g (h2 + 2)), .ref (fa g (h2 + 3)), .ref (fa g (h2 + 4))]) := by rw [p_92]; exact (fu_ne (by omega)).trans h_76
    have h_88 : ct_81 (h2 + 1) = .inl (fcI g, 6, .inl e1) := by rw [p_92]; exact (fu_ne (by omega)).trans h_77
    have h_89 : ct_81 (h2 + 2) = .inl (fcI g, 6, .inl e2) := by rw [p_92]; exact (fu_ne (by omega)).trans h_78
    have h_90 : ct_81 (h2 + 3) = .inl (fcI g, 6, .inl e3) := by rw [p_92]; exact (fu_ne (by omega)).trans h_79
    have h_91 : ct_81 (h2 + 4) = .inl (fcR g, 20, .inr (.inr (.inr (.inr e4)))) := by rw [p_92]; exact (fu_ne (by omega)).trans h_80
    have h_92 : ct_81 (h + 5 + i) = .inr (3, [.int (nI (rk σ i 0)), .int (nI (rk σ i 1)), .int (nI (rk σ i 2)), .int (nI (rk σ i 3)), .int (nI (rk σ i 4))]) := by rw [p_92]; exact fu_eq _ _ _
    have h_93 : ct_81 (h2 + 5 + i) = .inr (3, [.int (nI (rk σ i 0)), .int (nI (rk σ i 1)), .int (nI (rk σ i 2)), .int (nI (rk σ i 3)), .int (nI (rk σ i 4))]) := by rw [p_92]; exact (fu_ne (by omega)).trans hr9c
    refine lv_iinc (v := (nI (i + 1))) (lv' := [(2, .int (nI (i + 1))), (4, .ref (fa g (h2 + 5 + i))), (3, .ref (fa g (h + 5 + i))), (0, .ref (fa g h)), (1, .ref (fa g h2))]) hx hb dX1_copyFrom_95 hl (k := 4) rfl (nI_1 _) (by decide) rfl (fun ls hl => ?_)
    refine lv_goto (tgt := 59) hx hb dX1_copyFrom_98 (by decide) ?_
    exact ih (i + 1) _ _ ls _ (by (try dsimp only); omega) ⟨lv_sub hl [3, 4, 0] rfl, hI.1.ap p_92 (by omega) (by omega), by omega, fun r8 h8 => (Nat.lt_or_ge r8 i).elim (fun q9 => by rw [p_92]; exact (fu_ne (by omega)).trans (hI.2.2.1 r8 q9)) (fun q9 => by rw [p_92, show r8 = i by omega]; exact fu_eq _ _ _), fun r8 h8 h8b => by rw [p_92]; exact (fu_ne (by omega)).trans (hI.2.2.2 r8 (by omega) h8b)⟩ hP hS

set_option maxRecDepth 100000 in
set_option maxHeartbeats 4000000 in
theorem c_X1_addRumour (l : Launch) (g : fG) (N : Nat) (ct : Nat → va_E) (h : Nat) (σ : Nat → Int32) (te kd a b : Nat) (hN : h + 25 ≤ N) (hG : Good σ) (hk20 : nT σ < 20) (hte : te < nB σ) (hok : okk (nB σ) kd a b) (hH : HouseAt g ct h σ) : Met l yX1_addRumour (wsU yX1_addRumour cX1_addRumour 6 none) rX1_addRumour (fPre g N ct [.ref (fa g h), .int (nI te), .int (nI kd), .int (nI a), .int (nI b)]) (fQv g N (fun ct1 => HouseAt g ct1 h (sTell σ te kd a b) ∧ fSame h (h + 25) ct ct1)) 0 0 (fB g) := by
  refine fs_start (own := RX1) (lv0 := [(0, .ref (fa g h)), (1, .int (nI te)), (2, .int (nI kd)), (3, .int (nI a)), (4, .int (nI b))]) (by decide) rfl (Nat.le_of_ble_eq_true rfl) rfl ?_
  intro p e s m args below meth c ls E hr hlk hnm hP hl hS
  have hx := E.1.1
  have hb := E.1.2.1
  have hG20 := hG.k
  have hG3 := hG.n3
  have hG6 := hG.n6
  obtain ⟨hok1, hok2, hok3⟩ := hok.lt hG6
  obtain ⟨hc0, ⟨f1, hc1, hf1⟩, ⟨f2, hc2, hf2⟩, ⟨f3, hc3, hf3⟩, ⟨f4, hc4, hf4⟩, hc5⟩ := id hH
  refine lv_aload_n hx hb dX1_addRumour_0 rfl (lv_at hl 0 rfl) ?_
  refine lv_iconst (v := (nI 1)) hx hb dX1_addRumour_1 (by decide) ?_
  refine fs_pi (va_runV (As := [.int (nI 1)]) (rest := []) E.1 (c_X1_hasRoomFor l g N ct h (nB σ) (nT σ) (σ 2) (h + 1) (h + 2) (h + 3) (h + 4) (by omega) hc0 1 (by omega) (by omega)) (lk_RX1_58 E.1.2.2.2.2 ⟨Nat.le_of_ble_eq_true rfl, Nat.le_of_ble_eq_true rfl⟩) (fpreV E hP hS fc1 hc0 (by omega)) rfl rfl hl.1 rfl (lv_room (Nat.le_of_ble_eq_true rfl)) dX1_addRumour_2 ⟨Nat.zero_le _, Nat.zero_le _⟩) hS (fun r_2 locs p_2 hS => ?_)
  refine lv_if_ne (tgt := 9) hx hb dX1_addRumour_5 (by decide) (fun c_5 => ?_) (fun c_5 => ?_)
  · have c_5 := (fb_1 p_2).mp c_5
    refine lv_aload_n hx hb dX1_addRumour_9 rfl (lv_at hl 0 rfl) ?_
    refine lv_dup hx hb dX1_addRumour_10 rfl ?_
    refine fs_get E hP (k := h) (v := .int (nI (nT σ))) 2 fc1 hc0 (by omega) (by decide) (wm wl_4 (i := 17) rfl) rfl dX1_addRumour_11 ?_
    refine lv_iconst (v := (nI 1)) hx hb dX1_addRumour_14 (by decide) ?_
    refine lv_iadd hx hb dX1_addRumour_15 ?_
    refine fs_vi (y := (nI (nT σ + 1))) (nI_1 _) ?_
    refine fs_put E hP hS (k := h) 2 fc1 hc0 (by omega) (by decide) (wm wl_4 (i := 17) rfl) rfl rfl rfl rfl (Nat.le_of_ble_eq_true rfl) dX1_addRumour_16 (fun ct_1 H locs q_2 hP hS => ?_)
    have h_3 : ct_1 h = .inr (1, [.int (nI (nB σ)), .int (σ 2), .int (nI (nT σ + 1)), .ref (fa g (h + 1)), .ref (fa g (h + 2)), .ref (fa g (h + 3)), .ref (fa g (h + 4))]) := by rw [q_2]; exact fu_eq _ _ _
    have h_4 : ct_1 (h + 1) = .inl (fcI g, 6, .inl f1) := by rw [q_2]; exact (fu_ne (by omega)).trans hc1
    have h_5 : ct_1 (h + 2) = .inl (fcI g, 6, .inl f2) := by rw [q_2]; exact (fu_ne (by omega)).trans hc2
    have h_6 : ct_1 (h + 3) = .inl (fcI g, 6, .inl f3) := by rw [q_2]; exact (fu_ne (by omega)).trans hc3
    have h_7 : ct_1 (h + 4) = .inl (fcR g, 20, .inr (.inr (.inr (.inr f4)))) := by rw [q_2]; exact (fu_ne (by omega)).trans hc4
    refine lv_aload_n hx hb dX1_addRumour_19 rfl (lv_at hl 0 rfl) ?_
    refine lv_aload_n hx hb dX1_addRumour_20 rfl (lv_at hl 0 rfl) ?_
    refine fs_get E hP (k := h) (v := .int (nI (nT σ + 1))) 2 fc1 h_3 (by omega) (by decide) (wm wl_4 (i := 17) rfl) rfl dX1_addRumour_21 ?_
    refine lv_iconst (v := (nI 1)) hx hb dX1_addRumour_24 (by decide) ?_
    refine lv_isub hx hb dX1_addRumour_25 ?_
    refine fs_vi (y := (nI (nT σ))) (by rw [pk_sub (by omega)]; rfl) ?_
    refine fs_pr (va_runV (As := [.int (nI (nT σ))]) (rest := []) E.1 (c_X1_rumourAt l g N ct_1 h (nT σ + 1) (nI (nB σ)) (σ 2) f4 (nI (nT σ)) (by omega) (by omega) h_3 h_7 hf4) (lk_RX1_46 E.1.2.2.2.2 ⟨Nat.le_of_ble_eq_true rfl, Nat.le_of_ble_eq_true rfl⟩) (fpreV E hP hS fc1 h_3 (by omega)) rfl rfl hl.1 rfl (lv_room (Nat.le_of_ble_eq_true rfl)) dX1_addRumour_26 ⟨Nat.zero_le _, Nat.zero_le _⟩) hS (fun r_26 locs p_26 hS => ?_)
    refine fs_vv (y := .ref (fa g (h + 5 + nT σ))) (rum_in p_26 (by omega) (by omega)) ?_
    clear p_26
    obtain ⟨te8, kd8, a8, b8, st8, hr8, -⟩ := hc5 (nT σ) (by omega)
    have hr8b : ct_1 (h + 5 + nT σ) = .inr (3, [.int te8, .int kd8, .int a8, .int b8, .int st8]) := ((show fSame h (h + 1) ct ct_1 from (fSame.ap fSame.rf q_2 (by omega) (by omega))) _ (by omega)).trans hr8
    refine lv_astore (lv' := [(5, .ref (fa g (h + 5 + nT σ))), (0, .ref (fa g h)), (1, .int (nI te)), (2, .int (nI kd)), (3, .int (nI a)), (4, .int (nI b))]) hx hb dX1_addRumour_29 hl (by decide) rfl (fun ls hl => ?_)
    refine lv_aload hx hb dX1_addRumour_31 (lv_at hl 0 rfl) ?_
    refine lv_ifnull hx hb dX1_addRumour_33 ?_
    refine lv_aload hx hb dX1_addRumour_36 (lv_at hl 0 rfl) ?_
    refine lv_iload_n hx hb dX1_addRumour_38 rfl (lv_at hl 2 rfl) ?_
    refine lv_iload_n hx hb dX1_addRumour_39 rfl (lv_at hl 3 rfl) ?_
    refine lv_iload_n hx hb dX1_addRumour_40 rfl (lv_at hl 4 rfl) ?_
    refine lv_iload hx hb dX1_addRumour_41 (lv_at hl 5 rfl) ?_
    refine fs_v (va_runV (As := [.int (nI te), .int (nI kd), .int (nI a), .int (nI b)]) (rest := []) E.1 (c_X3_become l g N ct_1 (h + 5 + nT σ) te8 kd8 a8 b8 st8 (nI te) (nI kd) (nI a) (nI b) (by omega) hr8b) (lk_RX1_61 E.1.2.2.2.2 ⟨Nat.le_of_ble_eq_true rfl, Nat.le_of_ble_eq_true rfl⟩) (fpreV E hP hS fc3 hr8b (by omega)) rfl rfl hl.1 rfl (lv_room (Nat.le_of_ble_eq_true rfl)) dX1_addRumour_43 ⟨Nat.zero_le _, Nat.zero_le _⟩) hS (fun ct_8 H locs p_43 hP hS => ?_)
    have h_9 : ct_8 h = .inr (1, [.int (nI (nB σ)), .int (σ 2), .int (nI (nT σ + 1)), .ref (fa g (h + 1)), .ref (fa g (h + 2)), .ref (fa g (h + 3)), .ref (fa g (h + 4))]) := by rw [p_43]; exact (fu_ne (by omega)).trans h_3
    have h_10 : ct_8 (h + 1) = .inl (fcI g, 6, .inl f1) := by rw [p_43]; exact (fu_ne (by omega)).trans h_4
    have h_11 : ct_8 (h + 2) = .inl (fcI g, 6, .inl f2) := by rw [p_43]; exact (fu_ne (by omega)).trans h_5
    have h_12 : ct_8 (h + 3) = .inl (fcI g, 6, .inl f3) := by rw [p_43]; exact (fu_ne (by omega)).trans h_6
    have h_13 : ct_8 (h + 4) = .inl (fcR g, 20, .inr (.inr (.inr (.inr f4)))) := by rw [p_43]; exact (fu_ne (by omega)).trans h_7
    have h_14 : ct_8 (h + 5 + nT σ) = .inr (3, [.int (nI te), .int (nI kd), .int (nI a), .int (nI b), .int (nI 0)]) := by rw [p_43]; exact fu_eq _ _ _
    refine fs_vret E hr hlk hP hS dX1_addRumour_46 ?_
    have hs9 : fSame h (h + 1) ct ct_1 := (fSame.ap fSame.rf q_2 (by omega) (by omega))
    have hs8 : fSame (h + 5 + nT σ) (h + 6 + nT σ) ct_1 ct_8 := fSame.ap fSame.rf p_43 (by omega) (by omega)
    have eT := nT_tell (σ := σ) (te := te) (kd := kd) (a := a) (b := b) hG20
    have hR := rk_told (σ := σ) (te := te) (kd := kd) (a := a) (b := b) (by omega) (by omega) (by omega) (by omega)
    refine ⟨⟨?_, ⟨f1, h_10, fun p9 hp9 => ?_⟩, ⟨f2, h_11, fun p9 hp9 => ?_⟩, ⟨f3, h_12, fun p9 hp9 => ?_⟩, ⟨f4, h_13, hf4⟩, fun r9 hr9 => ?_⟩, (hs9.wide (by omega) (by omega)).tr (hs8.wide (by omega) (by omega))⟩
    · rw [nB_tell, eT, sTell_o (by omega) (by omega)]; exact h_9
    · rw [hf1 p9 hp9, nB_tell, lkf_tell hp9]
    · rw [hf2 p9 hp9, sTell_o (by omega) (by omega)]
    · rw [hf3 p9 hp9, sTell_o (by omega) (by omega)]
    · rcases Decidable.em (r9 = nT σ) with q9 | q9
      · subst q9
        exact ⟨_, _, _, _, _, h_14, fun _ => by rw [hR.1, hR.2.1, hR.2.2.1, hR.2.2.2.1, hR.2.2.2.2]; exact ⟨rfl, rfl, rfl, rfl, rfl⟩⟩
      · obtain ⟨te7, kd7, a7, b7, st7, h7, h7b⟩ := hc5 r9 hr9
        refine ⟨te7, kd7, a7, b7, st7, (hs8 _ (by omega)).trans ((hs9 _ (by omega)).trans h7), fun q => ?_⟩
        rw [eT] at q
        rw [rk_tell (by omega) (by omega), rk_tell (by omega) (by omega), rk_tell (by omega) (by omega), rk_tell (by omega) (by omega), rk_tell (by omega) (by omega)]
        exact h7b (by omega)
  · have c_5 := (fb_0 p_2).mp c_5
    refine fs_vret E hr hlk hP hS dX1_addRumour_8 ?_
    exact absurd (by omega) c_5
end
section
/-! THE CLAIM OUT OF ONE WALK OF THE LAW'S BODY. Your part is whole_start (and what it stands on); all else here is the same for every law, but numbers. -/
def R_law : String := "OperaGlassesLaw"
def lw_P (b : Addr) (xs : List Int32) (args : Array Value) (s : State) : Prop := args = #[.ref b] ∧ s.IntsAt b xs ∧ xs.length ≤ 2560 ∧ (Jvm.Cond.and given_1 narrow_1).before args s = true
def lw_Q (_ : Array Value) (s : State) (o : Outcome) (t : State) : Prop := o = .returned (some (.int 1)) ∧ Framed s o t [] 600000 7302250
def lw_Z (below : List Frame) (a : Array Value) (s : State) : State → Prop := fun t => ∃ o, t.status = .running ∧ Ended t below o ∧ lw_Q a s o t
/-- the law's own end, with 1 on the stack, nothing written that was there before, its room as the claim has it -/
theorem lw_ret {p : Program} {l : Launch} {e : Env} {s : State} {m : MethodId} {below : List Frame} {meth : Method} {c : Code} {b : Nat} (hx : p.tables.exec = Jvm.exec) (hb : c.code = code) (hr : meth.sig.returnType = ret) (hlocks : meth.locks = false) {pc : Nat} {H : Heap} {ls : Array Slot} (hdg : decode code pc = .ok (.ireturn, 1)) : W p l e room_1 s m #[Value.ref b] below meth c H [] 600000 7302250 (lw_Z below #[Value.ref b] s) (F0 m pc ls [.int 1]) := by
  intro T hT X
  obtain ⟨fs, hret, hrun, hended, hW, hframe⟩ := X.leave (v := some (.int 1)) (hlocks := hlocks) (fun h => by rw [hr] at h; cases h)
  have hmeth' : T.vm.method? m = some meth := X.method'
  refine ⟨T.setFrames fs, ?_, .returned (some (.int 1)), hrun, hended, rfl, ⟨_, rfl⟩, hW, hframe⟩
  jvm_step X.here [X.here.top, hx, hb, hdg, hmeth', hr, ret, narrow_b1]
  (try refine ⟨rfl, ?_⟩); (try refine ⟨rfl, ?_⟩)
  first | (intro acts; rw [hret _ acts rfl rfl rfl]) | rw [hret _ _ rfl rfl rfl]
  exact Steps.refl _
/-- what holds at the law's entry: the machine, the code, the tables' words (any of lw_tbl by 'hts w (by decide +kernel)'), the script of L ints xs at the cell b, what the Statement gives of the start (any of its parts by flat_of_before) -/
def lw_At (p : Program) (s : State) (m : MethodId) (meth : Method) (c : Code) (b L : Nat) (xs : Nat → Int32) : Prop :=
  p.tables.exec = Jvm.exec ∧ c.code = code ∧ meth.sig.returnType = ret ∧ c.maxLocals = 4 ∧ s.vm.findClass R_law = some m.cls ∧ (∀ w ∈ lw_tbl, w.before #[Value.ref b] s = true) ∧ va_X b L xs s s.heap ∧ b < s.heap.size ∧ meth.locks = false ∧ (Jvm.Cond.and given_1 narrow_1).before #[Value.ref b] s = true
-- ===== YOUR PART BEGINS =====
/-- YOUR PART: from the entry, for every script of at most 2560 ints, the law comes to its end with true ('hflags': the launch's flags, for a law that throws: no stack traces) -/
theorem whole_start {p : Program} {e : Env} {s : State} {m : MethodId} {below : List Frame} {meth : Method} {c : Code} (l : Launch) (hflags : l.flags = flags0) {b L : Nat} {xs : Nat → Int32} (hL : L ≤ 2560) (C0 : lw_At p s m meth c b L xs) : W p l e room_1 s m #[Value.ref b] below meth c s.heap [] 0 0 (lw_Z below #[Value.ref b] s) (entryFrame m ([Value.ref b] : List Value).toArray 4) := by
  sorry
-- ===== YOUR PART ENDS =====
set_option maxHeartbeats 4000000 in
theorem lw_walk (l : Launch) (hflags : l.flags = flags0) (b : Addr) (xs : List Int32) : MetFree l x (headSpec (Jvm.Cond.code x code maxLocals ret :: tables_1) room_1) (lw_P b xs) (fun _ _ _ _ _ => True) lw_Q := by
  refine MetFree.of_bodyS (code := code) (maxLocals := maxLocals) (ret := ret) (by decide) ?_ ?_
  · intro args s m h hn
    obtain ⟨meth, c, h1, h2, h3, h4, h5, h6, -, -⟩ := Cond.code_spec hn (atoms_spec (ws := Jvm.Cond.code x code maxLocals ret :: tables_1) h _ List.mem_cons_self)
    exact ⟨meth, c, h1, h2, h3, h4, h5, h6⟩
  · intro p e s m args below meth c s₁ B hml0 hP _
    obtain ⟨rfl, hx, hbd, hgv⟩ := hP
    obtain ⟨scr, harrAt, hlist, hof, hsmall⟩ := hx
    obtain ⟨hcb, hkn, -, -⟩ := State.arrayAt?_spec harrAt
    have hown : s.vm.findClass R_law = some m.cls := findClass_of_methodNamed B.named
    have hts0 : ∀ c ∈ (Jvm.Cond.code x code maxLocals ret :: tables_1), c.before #[Value.ref b] s = true := atoms_spec (ws := Jvm.Cond.code x code maxLocals ret :: tables_1) B.pre
    have hts : ∀ w ∈ lw_tbl, w.before #[Value.ref b] s = true := k2_hts_sels lw_privs (fun w hw => hts0 w (List.mem_cons_of_mem _ hw)) lw_privs_ok
    have hml : c.maxLocals = 4 := B.maxLocals_eq (hts0 _ List.mem_cons_self)
    have X₀ : Stand p l e room_1 s m #[Value.ref b] below meth c s₁ [] 0 0 := Stand.of_body B
    have hh0 : s₁.heap = s.heap := by rw [B.state]; rfl
    have hsz : scr.slots.size = xs.length := by rw [← Array.length_toList, hlist, List.length_map]
    have hval : ∀ j : Nat, j < xs.length → scr.slots[j]? = some (.int (xs.getD j 0)) := fun j hj => by
      rw [← Array.getElem?_toList, hlist]
      simp [hj]
    have hbl : b < s.heap.size := (Array.getElem?_eq_some_iff.mp hcb).1
    have hX : va_X b xs.length (fun j => xs.getD j 0) s s.heap := ⟨scr, hcb, hof, hkn, hsz, hval⟩
    have K : W p l e room_1 s m #[Value.ref b] below meth c s₁.heap [] 0 0 (lw_Z below #[Value.ref b] s) (entryFrame m ([Value.ref b] : List Value).toArray 4) := by
      rw [hh0]
      exact whole_start l hflags hbd ⟨B.exec, B.bytes, B.returns, hml, hown, hts, hX, hbl, B.notSynchronized, hgv⟩
    obtain ⟨t, a1, o, b1, b2, b3⟩ := K s₁ rfl X₀
    exact ⟨t, o, a1, b1, b2, b3⟩
theorem lw_pre_spec {args : Array Value} {s : State} (h : (Jvm.Cond.and given_1 narrow_1).before args s = true) (hr : rest_1_c.before args s = true) : ∃ (b : Addr) (xs : List Int32), lw_P b xs args s := by
  have hs := flat_of_before _ h
  have hq := flat_of_before _ hr
  have hc : (Cond.count 1).before args s = true := hs _ (by decide +kernel)
  have harr : (Cond.arrayOf (.arg 0) .int).before args s = true := hs _ (by decide +kernel)
  have hle : (Cond.le (.length (.arg 0)) (.int 2560)).before args s = true := hs _ (by decide +kernel)
  have hlen : (Cond.isInt (.length (.arg 0))).before args s = true := hq _ (by decide +kernel)
  have hall : (Cond.all (.arg 0) (.isInt (.elem (.arg 0) (.index 0)))).before args s = true := hq _ (by decide +kernel)
  obtain ⟨b, xs, hb, hx⟩ := State.ints_of_pre rfl harr hlen hall
  have hsm : xs.length < 2 ^ 31 := hx.choose_spec.2.2.2
  have hev : (Term.length (.arg 0)).eval args s none [] s = some (.int xs.length.toInt32) := hx.length_eval hb
  have hv := Cond.le_ints hev (show (Term.int 2560).eval args s none [] s = some (.int 2560) from rfl)
  have hd : xs.length.toInt32 ≤ 2560 := by
    simpa [Cond.before, Cond.holds, hv] using hle
  have hN : xs.length ≤ 2560 := (Int32.ofNat_le_ofNat hsm (by decide)).mp (show Int32.ofNat xs.length ≤ Int32.ofNat 2560 from hd)
  exact ⟨b, xs, Cond.one_arg hc (show args[0]? = some (.ref b) from hb), hx, hN, h⟩
theorem lw_comes (l : Launch) (hflags : l.flags = flags0) : Comes l x (Jvm.Cond.code x code maxLocals ret :: tables_1) room_1 (fun tb e args s => Calls_1 tb e args s ∧ rest_1 tb e args s ∧ Pre_1 tb e args s)
    (fun _ _ args s o t => lw_Q args s o t) := by
  intro p e ha hc hk s m args below hf hfit hheap happ hpre
  obtain ⟨b, xs, hP⟩ := lw_pre_spec hpre.2.2 hpre.2.1
  obtain ⟨k, o, h1, h2, h3, hQ⟩ := lw_walk l hflags b xs p e ha hc hk s m args below hf ((Spec.applies_iff_loose hf).mp happ).1 hP trivial
  exact ⟨k, o, h1, h2, h3, hQ⟩
theorem lw_frame {s t : State} {o : Outcome} {args : Array Value} (h : Framed s o t [] 600000 7302250) :
    Framed s o t (fieldLocs frame_1_writes args s ++ arrayLocs frame_1_arrays args s ++ staticLocs frame_1_statics s) 600000 7302250 := h
theorem lw_limb (L : Cond) (hL : ∀ (args : Array Value) (s t : State), L.after args s (.returned (some (.int 1))) t = true) :
    ArmFor flags0 classFile x code maxLocals ret World_1 tables_1 room_1 Calls_1 rest_1 Pre_1
      (fun tb e a s o t => postC L tb e a s o t ∧ Framed s o t (fieldLocs frame_1_writes a s ++ arrayLocs frame_1_arrays a s ++ staticLocs frame_1_statics s) 600000 7302250) := by
  intro l hflags _ _ p e ha hc hk s m args below hf hfit hheap happ hpre
  obtain ⟨k, o, h1, h2, h3, rfl, hF⟩ := lw_comes l hflags p e ha hc hk s m args below hf hfit hheap happ hpre
  exact ⟨k, _, h1, h2, h3, hL args s _, lw_frame hF⟩
theorem i_vc : Claimed_1_1 ∧ Claimed_1_2 := ⟨lw_limb limb_1_1 (fun args s t => by simp [limb_1_1, Cond.after, Cond.holds, Cond.value]), lw_limb limb_1_2 (fun args s t => Cond.after_iff.mpr (by
  first | (rw [show limb_1_2 = Cond.eq .result (.int 1) from rfl, Cond.eq_ints (x := 1) (y := 1) rfl rfl]; simp; done) | (simp [limb_1_2, Cond.value, Term.eval]; done)))⟩
end
