section
-- ===== PART A: goes FIRST, ahead of the names: the tables' words, and 'selects' of the private methods out of them =====
/-- a private method of a class that the tables say can be made, by its rows of tables_1 -/
def lw_okq (q : MethodName × Nat) : Prop := (q.1.cls ≠ "java/lang/invoke/MethodHandle" ∧ q.1.cls ≠ "java/lang/invoke/VarHandle") ∧ Cond.instantiable q.1.cls q.2 ∈ tables_1 ∧ Cond.privateMethod q.1 ∈ tables_1 ∧ Cond.instanceMethod q.1 ∈ tables_1
theorem lw_p0 : lw_okq (⟨"OperaGlasses", "beginChange", "()V"⟩, 7) := ⟨⟨by decide +kernel, by decide +kernel⟩, List.mem_of_getElem? (i := 17) (by decide +kernel), List.mem_of_getElem? (i := 228) (by decide +kernel), List.mem_of_getElem? (i := 229) (by decide +kernel)⟩
theorem lw_p1 : lw_okq (⟨"OperaGlasses$History", "stateAt", "(I)LOperaGlasses$House;"⟩, 3) := ⟨⟨by decide +kernel, by decide +kernel⟩, List.mem_of_getElem? (i := 92) (by decide +kernel), List.mem_of_getElem? (i := 236) (by decide +kernel), List.mem_of_getElem? (i := 237) (by decide +kernel)⟩
theorem lw_p2 : lw_okq (⟨"OperaGlasses$Pad", "canStandAt", "(I)Z"⟩, 2) := ⟨⟨by decide +kernel, by decide +kernel⟩, List.mem_of_getElem? (i := 128) (by decide +kernel), List.mem_of_getElem? (i := 303) (by decide +kernel), List.mem_of_getElem? (i := 304) (by decide +kernel)⟩
theorem lw_p3 : lw_okq (⟨"OperaGlasses$Pad", "characterAt", "(I)C"⟩, 2) := ⟨⟨by decide +kernel, by decide +kernel⟩, List.mem_of_getElem? (i := 128) (by decide +kernel), List.mem_of_getElem? (i := 307) (by decide +kernel), List.mem_of_getElem? (i := 308) (by decide +kernel)⟩
theorem lw_p4 : lw_okq (⟨"OperaGlasses", "allTellersAreThere", "()Z"⟩, 7) := ⟨⟨by decide +kernel, by decide +kernel⟩, List.mem_of_getElem? (i := 17) (by decide +kernel), List.mem_of_getElem? (i := 402) (by decide +kernel), List.mem_of_getElem? (i := 403) (by decide +kernel)⟩
theorem lw_p5 : lw_okq (⟨"OperaGlasses$Pad", "digitAt", "(I)I"⟩, 2) := ⟨⟨by decide +kernel, by decide +kernel⟩, List.mem_of_getElem? (i := 128) (by decide +kernel), List.mem_of_getElem? (i := 414) (by decide +kernel), List.mem_of_getElem? (i := 415) (by decide +kernel)⟩
theorem lw_p6 : lw_okq (⟨"OperaGlasses", "allOnPadSuit", "()Z"⟩, 7) := ⟨⟨by decide +kernel, by decide +kernel⟩, List.mem_of_getElem? (i := 17) (by decide +kernel), List.mem_of_getElem? (i := 418) (by decide +kernel), List.mem_of_getElem? (i := 419) (by decide +kernel)⟩
theorem lw_p7 : lw_okq (⟨"OperaGlasses", "surveyNow", "()LOperaGlasses$Survey;"⟩, 7) := ⟨⟨by decide +kernel, by decide +kernel⟩, List.mem_of_getElem? (i := 17) (by decide +kernel), List.mem_of_getElem? (i := 448) (by decide +kernel), List.mem_of_getElem? (i := 449) (by decide +kernel)⟩
theorem lw_p8 : lw_okq (⟨"OperaGlasses$Survey", "forget", "()V"⟩, 8) := ⟨⟨by decide +kernel, by decide +kernel⟩, List.mem_of_getElem? (i := 143) (by decide +kernel), List.mem_of_getElem? (i := 456) (by decide +kernel), List.mem_of_getElem? (i := 457) (by decide +kernel)⟩
theorem lw_p9 : lw_okq (⟨"OperaGlasses$Survey", "tally", "(LOperaGlasses$House;)V"⟩, 8) := ⟨⟨by decide +kernel, by decide +kernel⟩, List.mem_of_getElem? (i := 143) (by decide +kernel), List.mem_of_getElem? (i := 485) (by decide +kernel), List.mem_of_getElem? (i := 486) (by decide +kernel)⟩
theorem lw_p10 : lw_okq (⟨"OperaGlasses", "pointsOfGuess", "(LOperaGlasses$Survey;II)I"⟩, 7) := ⟨⟨by decide +kernel, by decide +kernel⟩, List.mem_of_getElem? (i := 17) (by decide +kernel), List.mem_of_getElem? (i := 519) (by decide +kernel), List.mem_of_getElem? (i := 520) (by decide +kernel)⟩
theorem lw_p11 : lw_okq (⟨"OperaGlasses$Survey", "compareWatchers", "(II)V"⟩, 8) := ⟨⟨by decide +kernel, by decide +kernel⟩, List.mem_of_getElem? (i := 143) (by decide +kernel), List.mem_of_getElem? (i := 661) (by decide +kernel), List.mem_of_getElem? (i := 662) (by decide +kernel)⟩
theorem lw_p12 : lw_okq (⟨"OperaGlasses", "slotAt", "(I)LOperaGlasses$Slot;"⟩, 7) := ⟨⟨by decide +kernel, by decide +kernel⟩, List.mem_of_getElem? (i := 17) (by decide +kernel), List.mem_of_getElem? (i := 699) (by decide +kernel), List.mem_of_getElem? (i := 700) (by decide +kernel)⟩
theorem lw_p13 : lw_okq (⟨"OperaGlassesModel", "begins", "(I)V"⟩, 19) := ⟨⟨by decide +kernel, by decide +kernel⟩, List.mem_of_getElem? (i := 708) (by decide +kernel), List.mem_of_getElem? (i := 714) (by decide +kernel), List.mem_of_getElem? (i := 715) (by decide +kernel)⟩
theorem lw_p14 : lw_okq (⟨"OperaGlassesModel", "record", "()V"⟩, 19) := ⟨⟨by decide +kernel, by decide +kernel⟩, List.mem_of_getElem? (i := 708) (by decide +kernel), List.mem_of_getElem? (i := 783) (by decide +kernel), List.mem_of_getElem? (i := 784) (by decide +kernel)⟩
theorem lw_p15 : lw_okq (⟨"OperaGlassesModel", "isBox", "(I)Z"⟩, 19) := ⟨⟨by decide +kernel, by decide +kernel⟩, List.mem_of_getElem? (i := 708) (by decide +kernel), List.mem_of_getElem? (i := 794) (by decide +kernel), List.mem_of_getElem? (i := 795) (by decide +kernel)⟩
def lw_privs_1 : List (MethodName × Nat) := [(⟨"OperaGlasses", "beginChange", "()V"⟩, 7), (⟨"OperaGlasses$History", "stateAt", "(I)LOperaGlasses$House;"⟩, 3), (⟨"OperaGlasses$Pad", "canStandAt", "(I)Z"⟩, 2), (⟨"OperaGlasses$Pad", "characterAt", "(I)C"⟩, 2), (⟨"OperaGlasses", "allTellersAreThere", "()Z"⟩, 7), (⟨"OperaGlasses$Pad", "digitAt", "(I)I"⟩, 2), (⟨"OperaGlasses", "allOnPadSuit", "()Z"⟩, 7), (⟨"OperaGlasses", "surveyNow", "()LOperaGlasses$Survey;"⟩, 7), (⟨"OperaGlasses$Survey", "forget", "()V"⟩, 8), (⟨"OperaGlasses$Survey", "tally", "(LOperaGlasses$House;)V"⟩, 8), (⟨"OperaGlasses", "pointsOfGuess", "(LOperaGlasses$Survey;II)I"⟩, 7), (⟨"OperaGlasses$Survey", "compareWatchers", "(II)V"⟩, 8), (⟨"OperaGlasses", "slotAt", "(I)LOperaGlasses$Slot;"⟩, 7), (⟨"OperaGlassesModel", "begins", "(I)V"⟩, 19), (⟨"OperaGlassesModel", "record", "()V"⟩, 19), (⟨"OperaGlassesModel", "isBox", "(I)Z"⟩, 19)]
theorem lw_r1 : ∀ q ∈ lw_privs_1, lw_okq q := List.forall_mem_cons.mpr ⟨lw_p0, List.forall_mem_cons.mpr ⟨lw_p1, List.forall_mem_cons.mpr ⟨lw_p2, List.forall_mem_cons.mpr ⟨lw_p3, List.forall_mem_cons.mpr ⟨lw_p4, List.forall_mem_cons.mpr ⟨lw_p5, List.forall_mem_cons.mpr ⟨lw_p6, List.forall_mem_cons.mpr ⟨lw_p7, List.forall_mem_cons.mpr ⟨lw_p8, List.forall_mem_cons.mpr ⟨lw_p9, List.forall_mem_cons.mpr ⟨lw_p10, List.forall_mem_cons.mpr ⟨lw_p11, List.forall_mem_cons.mpr ⟨lw_p12, List.forall_mem_cons.mpr ⟨lw_p13, List.forall_mem_cons.mpr ⟨lw_p14, List.forall_mem_cons.mpr ⟨lw_p15, fun _ h => absurd h List.not_mem_nil⟩⟩⟩⟩⟩⟩⟩⟩⟩⟩⟩⟩⟩⟩⟩⟩
theorem lw_p16 : lw_okq (⟨"OperaGlassesModel", "suits", "(III)Z"⟩, 19) := ⟨⟨by decide +kernel, by decide +kernel⟩, List.mem_of_getElem? (i := 708) (by decide +kernel), List.mem_of_getElem? (i := 802) (by decide +kernel), List.mem_of_getElem? (i := 803) (by decide +kernel)⟩
theorem lw_p17 : lw_okq (⟨"OperaGlassesModel", "tells", "(IIII)I"⟩, 19) := ⟨⟨by decide +kernel, by decide +kernel⟩, List.mem_of_getElem? (i := 708) (by decide +kernel), List.mem_of_getElem? (i := 806) (by decide +kernel), List.mem_of_getElem? (i := 807) (by decide +kernel)⟩
theorem lw_p18 : lw_okq (⟨"OperaGlassesModel", "findFault", "()I"⟩, 19) := ⟨⟨by decide +kernel, by decide +kernel⟩, List.mem_of_getElem? (i := 708) (by decide +kernel), List.mem_of_getElem? (i := 814) (by decide +kernel), List.mem_of_getElem? (i := 815) (by decide +kernel)⟩
theorem lw_p19 : lw_okq (⟨"OperaGlassesModel", "readsRumour", "()Z"⟩, 19) := ⟨⟨by decide +kernel, by decide +kernel⟩, List.mem_of_getElem? (i := 708) (by decide +kernel), List.mem_of_getElem? (i := 818) (by decide +kernel), List.mem_of_getElem? (i := 819) (by decide +kernel)⟩
theorem lw_p20 : lw_okq (⟨"OperaGlassesModel", "takeDigit", "(I)I"⟩, 19) := ⟨⟨by decide +kernel, by decide +kernel⟩, List.mem_of_getElem? (i := 708) (by decide +kernel), List.mem_of_getElem? (i := 822) (by decide +kernel), List.mem_of_getElem? (i := 823) (by decide +kernel)⟩
theorem lw_p21 : lw_okq (⟨"OperaGlassesModel", "character", "(I)I"⟩, 19) := ⟨⟨by decide +kernel, by decide +kernel⟩, List.mem_of_getElem? (i := 708) (by decide +kernel), List.mem_of_getElem? (i := 826) (by decide +kernel), List.mem_of_getElem? (i := 827) (by decide +kernel)⟩
theorem lw_p22 : lw_okq (⟨"OperaGlassesModel", "isNext", "(I)Z"⟩, 19) := ⟨⟨by decide +kernel, by decide +kernel⟩, List.mem_of_getElem? (i := 708) (by decide +kernel), List.mem_of_getElem? (i := 830) (by decide +kernel), List.mem_of_getElem? (i := 831) (by decide +kernel)⟩
theorem lw_p23 : lw_okq (⟨"OperaGlassesModel", "takeKind", "()I"⟩, 19) := ⟨⟨by decide +kernel, by decide +kernel⟩, List.mem_of_getElem? (i := 708) (by decide +kernel), List.mem_of_getElem? (i := 834) (by decide +kernel), List.mem_of_getElem? (i := 835) (by decide +kernel)⟩
theorem lw_p24 : lw_okq (⟨"OperaGlassesModel", "lookThrough", "()I"⟩, 19) := ⟨⟨by decide +kernel, by decide +kernel⟩, List.mem_of_getElem? (i := 708) (by decide +kernel), List.mem_of_getElem? (i := 838) (by decide +kernel), List.mem_of_getElem? (i := 839) (by decide +kernel)⟩
theorem lw_p25 : lw_okq (⟨"OperaGlassesModel", "isRumour", "(I)Z"⟩, 19) := ⟨⟨by decide +kernel, by decide +kernel⟩, List.mem_of_getElem? (i := 708) (by decide +kernel), List.mem_of_getElem? (i := 846) (by decide +kernel), List.mem_of_getElem? (i := 847) (by decide +kernel)⟩
theorem lw_p26 : lw_okq (⟨"OperaGlassesModel", "isOpen", "(I)Z"⟩, 19) := ⟨⟨by decide +kernel, by decide +kernel⟩, List.mem_of_getElem? (i := 708) (by decide +kernel), List.mem_of_getElem? (i := 850) (by decide +kernel), List.mem_of_getElem? (i := 851) (by decide +kernel)⟩
theorem lw_p27 : lw_okq (⟨"OperaGlassesModel", "part", "(II)I"⟩, 19) := ⟨⟨by decide +kernel, by decide +kernel⟩, List.mem_of_getElem? (i := 708) (by decide +kernel), List.mem_of_getElem? (i := 854) (by decide +kernel), List.mem_of_getElem? (i := 855) (by decide +kernel)⟩
theorem lw_p28 : lw_okq (⟨"OperaGlassesModel", "setHow", "(II)V"⟩, 19) := ⟨⟨by decide +kernel, by decide +kernel⟩, List.mem_of_getElem? (i := 708) (by decide +kernel), List.mem_of_getElem? (i := 858) (by decide +kernel), List.mem_of_getElem? (i := 859) (by decide +kernel)⟩
theorem lw_p29 : lw_okq (⟨"OperaGlassesModel", "worldsNow", "()I"⟩, 19) := ⟨⟨by decide +kernel, by decide +kernel⟩, List.mem_of_getElem? (i := 708) (by decide +kernel), List.mem_of_getElem? (i := 862) (by decide +kernel), List.mem_of_getElem? (i := 863) (by decide +kernel)⟩
theorem lw_p30 : lw_okq (⟨"OperaGlassesModel", "goThrough", "()V"⟩, 19) := ⟨⟨by decide +kernel, by decide +kernel⟩, List.mem_of_getElem? (i := 708) (by decide +kernel), List.mem_of_getElem? (i := 866) (by decide +kernel), List.mem_of_getElem? (i := 867) (by decide +kernel)⟩
theorem lw_p31 : lw_okq (⟨"OperaGlassesModel", "clear", "()V"⟩, 19) := ⟨⟨by decide +kernel, by decide +kernel⟩, List.mem_of_getElem? (i := 708) (by decide +kernel), List.mem_of_getElem? (i := 870) (by decide +kernel), List.mem_of_getElem? (i := 871) (by decide +kernel)⟩
def lw_privs_2 : List (MethodName × Nat) := [(⟨"OperaGlassesModel", "suits", "(III)Z"⟩, 19), (⟨"OperaGlassesModel", "tells", "(IIII)I"⟩, 19), (⟨"OperaGlassesModel", "findFault", "()I"⟩, 19), (⟨"OperaGlassesModel", "readsRumour", "()Z"⟩, 19), (⟨"OperaGlassesModel", "takeDigit", "(I)I"⟩, 19), (⟨"OperaGlassesModel", "character", "(I)I"⟩, 19), (⟨"OperaGlassesModel", "isNext", "(I)Z"⟩, 19), (⟨"OperaGlassesModel", "takeKind", "()I"⟩, 19), (⟨"OperaGlassesModel", "lookThrough", "()I"⟩, 19), (⟨"OperaGlassesModel", "isRumour", "(I)Z"⟩, 19), (⟨"OperaGlassesModel", "isOpen", "(I)Z"⟩, 19), (⟨"OperaGlassesModel", "part", "(II)I"⟩, 19), (⟨"OperaGlassesModel", "setHow", "(II)V"⟩, 19), (⟨"OperaGlassesModel", "worldsNow", "()I"⟩, 19), (⟨"OperaGlassesModel", "goThrough", "()V"⟩, 19), (⟨"OperaGlassesModel", "clear", "()V"⟩, 19)]
theorem lw_r2 : ∀ q ∈ lw_privs_2, lw_okq q := List.forall_mem_cons.mpr ⟨lw_p16, List.forall_mem_cons.mpr ⟨lw_p17, List.forall_mem_cons.mpr ⟨lw_p18, List.forall_mem_cons.mpr ⟨lw_p19, List.forall_mem_cons.mpr ⟨lw_p20, List.forall_mem_cons.mpr ⟨lw_p21, List.forall_mem_cons.mpr ⟨lw_p22, List.forall_mem_cons.mpr ⟨lw_p23, List.forall_mem_cons.mpr ⟨lw_p24, List.forall_mem_cons.mpr ⟨lw_p25, List.forall_mem_cons.mpr ⟨lw_p26, List.forall_mem_cons.mpr ⟨lw_p27, List.forall_mem_cons.mpr ⟨lw_p28, List.forall_mem_cons.mpr ⟨lw_p29, List.forall_mem_cons.mpr ⟨lw_p30, List.forall_mem_cons.mpr ⟨lw_p31, fun _ h => absurd h List.not_mem_nil⟩⟩⟩⟩⟩⟩⟩⟩⟩⟩⟩⟩⟩⟩⟩⟩
theorem lw_p32 : lw_okq (⟨"OperaGlassesModel", "worldsInAll", "()I"⟩, 19) := ⟨⟨by decide +kernel, by decide +kernel⟩, List.mem_of_getElem? (i := 708) (by decide +kernel), List.mem_of_getElem? (i := 874) (by decide +kernel), List.mem_of_getElem? (i := 875) (by decide +kernel)⟩
theorem lw_p33 : lw_okq (⟨"OperaGlassesModel", "takeWorld", "(I)V"⟩, 19) := ⟨⟨by decide +kernel, by decide +kernel⟩, List.mem_of_getElem? (i := 708) (by decide +kernel), List.mem_of_getElem? (i := 878) (by decide +kernel), List.mem_of_getElem? (i := 879) (by decide +kernel)⟩
theorem lw_p34 : lw_okq (⟨"OperaGlassesModel", "wrongOne", "()I"⟩, 19) := ⟨⟨by decide +kernel, by decide +kernel⟩, List.mem_of_getElem? (i := 708) (by decide +kernel), List.mem_of_getElem? (i := 882) (by decide +kernel), List.mem_of_getElem? (i := 883) (by decide +kernel)⟩
theorem lw_p35 : lw_okq (⟨"OperaGlassesModel", "holdsRumour", "(I)Z"⟩, 19) := ⟨⟨by decide +kernel, by decide +kernel⟩, List.mem_of_getElem? (i := 708) (by decide +kernel), List.mem_of_getElem? (i := 886) (by decide +kernel), List.mem_of_getElem? (i := 887) (by decide +kernel)⟩
theorem lw_p36 : lw_okq (⟨"OperaGlassesModel", "holds", "(III)Z"⟩, 19) := ⟨⟨by decide +kernel, by decide +kernel⟩, List.mem_of_getElem? (i := 708) (by decide +kernel), List.mem_of_getElem? (i := 890) (by decide +kernel), List.mem_of_getElem? (i := 891) (by decide +kernel)⟩
theorem lw_p37 : lw_okq (⟨"OperaGlassesModel", "lookers", "(I)I"⟩, 19) := ⟨⟨by decide +kernel, by decide +kernel⟩, List.mem_of_getElem? (i := 708) (by decide +kernel), List.mem_of_getElem? (i := 894) (by decide +kernel), List.mem_of_getElem? (i := 895) (by decide +kernel)⟩
theorem lw_p38 : lw_okq (⟨"OperaGlassesModel", "takesIn", "()V"⟩, 19) := ⟨⟨by decide +kernel, by decide +kernel⟩, List.mem_of_getElem? (i := 708) (by decide +kernel), List.mem_of_getElem? (i := 898) (by decide +kernel), List.mem_of_getElem? (i := 899) (by decide +kernel)⟩
theorem lw_p39 : lw_okq (⟨"OperaGlassesModel", "isTrue", "(I)Z"⟩, 19) := ⟨⟨by decide +kernel, by decide +kernel⟩, List.mem_of_getElem? (i := 708) (by decide +kernel), List.mem_of_getElem? (i := 906) (by decide +kernel), List.mem_of_getElem? (i := 907) (by decide +kernel)⟩
theorem lw_p40 : lw_okq (⟨"OperaGlassesModel", "takeTruth", "()V"⟩, 19) := ⟨⟨by decide +kernel, by decide +kernel⟩, List.mem_of_getElem? (i := 708) (by decide +kernel), List.mem_of_getElem? (i := 910) (by decide +kernel), List.mem_of_getElem? (i := 911) (by decide +kernel)⟩
theorem lw_p41 : lw_okq (⟨"OperaGlassesModel", "certainBox", "(I)I"⟩, 19) := ⟨⟨by decide +kernel, by decide +kernel⟩, List.mem_of_getElem? (i := 708) (by decide +kernel), List.mem_of_getElem? (i := 922) (by decide +kernel), List.mem_of_getElem? (i := 923) (by decide +kernel)⟩
theorem lw_p42 : lw_okq (⟨"OperaGlassesModel", "told", "(IZ)I"⟩, 19) := ⟨⟨by decide +kernel, by decide +kernel⟩, List.mem_of_getElem? (i := 708) (by decide +kernel), List.mem_of_getElem? (i := 934) (by decide +kernel), List.mem_of_getElem? (i := 935) (by decide +kernel)⟩
theorem lw_p43 : lw_okq (⟨"OperaGlassesModel", "openMany", "()I"⟩, 19) := ⟨⟨by decide +kernel, by decide +kernel⟩, List.mem_of_getElem? (i := 708) (by decide +kernel), List.mem_of_getElem? (i := 946) (by decide +kernel), List.mem_of_getElem? (i := 947) (by decide +kernel)⟩
theorem lw_p44 : lw_okq (⟨"OperaGlassesModel", "isTruthPossible", "()Z"⟩, 19) := ⟨⟨by decide +kernel, by decide +kernel⟩, List.mem_of_getElem? (i := 708) (by decide +kernel), List.mem_of_getElem? (i := 950) (by decide +kernel), List.mem_of_getElem? (i := 951) (by decide +kernel)⟩
theorem lw_p45 : lw_okq (⟨"OperaGlassesModel", "certainPersons", "()I"⟩, 19) := ⟨⟨by decide +kernel, by decide +kernel⟩, List.mem_of_getElem? (i := 708) (by decide +kernel), List.mem_of_getElem? (i := 954) (by decide +kernel), List.mem_of_getElem? (i := 955) (by decide +kernel)⟩
theorem lw_p46 : lw_okq (⟨"OperaGlassesModel", "certainRumours", "(Z)I"⟩, 19) := ⟨⟨by decide +kernel, by decide +kernel⟩, List.mem_of_getElem? (i := 708) (by decide +kernel), List.mem_of_getElem? (i := 958) (by decide +kernel), List.mem_of_getElem? (i := 959) (by decide +kernel)⟩
def lw_privs_3 : List (MethodName × Nat) := [(⟨"OperaGlassesModel", "worldsInAll", "()I"⟩, 19), (⟨"OperaGlassesModel", "takeWorld", "(I)V"⟩, 19), (⟨"OperaGlassesModel", "wrongOne", "()I"⟩, 19), (⟨"OperaGlassesModel", "holdsRumour", "(I)Z"⟩, 19), (⟨"OperaGlassesModel", "holds", "(III)Z"⟩, 19), (⟨"OperaGlassesModel", "lookers", "(I)I"⟩, 19), (⟨"OperaGlassesModel", "takesIn", "()V"⟩, 19), (⟨"OperaGlassesModel", "isTrue", "(I)Z"⟩, 19), (⟨"OperaGlassesModel", "takeTruth", "()V"⟩, 19), (⟨"OperaGlassesModel", "certainBox", "(I)I"⟩, 19), (⟨"OperaGlassesModel", "told", "(IZ)I"⟩, 19), (⟨"OperaGlassesModel", "openMany", "()I"⟩, 19), (⟨"OperaGlassesModel", "isTruthPossible", "()Z"⟩, 19), (⟨"OperaGlassesModel", "certainPersons", "()I"⟩, 19), (⟨"OperaGlassesModel", "certainRumours", "(Z)I"⟩, 19)]
theorem lw_r3 : ∀ q ∈ lw_privs_3, lw_okq q := List.forall_mem_cons.mpr ⟨lw_p32, List.forall_mem_cons.mpr ⟨lw_p33, List.forall_mem_cons.mpr ⟨lw_p34, List.forall_mem_cons.mpr ⟨lw_p35, List.forall_mem_cons.mpr ⟨lw_p36, List.forall_mem_cons.mpr ⟨lw_p37, List.forall_mem_cons.mpr ⟨lw_p38, List.forall_mem_cons.mpr ⟨lw_p39, List.forall_mem_cons.mpr ⟨lw_p40, List.forall_mem_cons.mpr ⟨lw_p41, List.forall_mem_cons.mpr ⟨lw_p42, List.forall_mem_cons.mpr ⟨lw_p43, List.forall_mem_cons.mpr ⟨lw_p44, List.forall_mem_cons.mpr ⟨lw_p45, List.forall_mem_cons.mpr ⟨lw_p46, fun _ h => absurd h List.not_mem_nil⟩⟩⟩⟩⟩⟩⟩⟩⟩⟩⟩⟩⟩⟩⟩
def lw_privs : List (MethodName × Nat) := lw_privs_1 ++ (lw_privs_2 ++ (lw_privs_3))
def lw_tbl : List Cond := k2_sels lw_privs ++ tables_1
theorem lw_privs_ok : ∀ q ∈ lw_privs, lw_okq q := by
  show ∀ q ∈ lw_privs_1 ++ (lw_privs_2 ++ (lw_privs_3)), lw_okq q
  exact List.forall_mem_append.mpr ⟨lw_r1, List.forall_mem_append.mpr ⟨lw_r2, lw_r3⟩⟩
-- ===== end of PART A; then your names; then what follows =====
end
section
/-! ===== BEGIN words of one list among another's, by their places ===== -/
theorem goodIn_r {big : List Cond} (ws : List Cond) (ps : List Nat) (hp : ws = ps.filterMap (fun i => big[i]?)) (h : ws.all goodWord = true) : GoodIn big ws := by
  intro w hw
  have h1 := List.all_eq_true.mp h w hw
  rw [hp] at hw
  obtain ⟨i, -, hi⟩ := List.mem_filterMap.mp hw
  have hm : w ∈ big := by first | exact List.mem_of_getElem? hi | exact List.getElem?_mem hi
  exact ⟨hm, good_of_word h1⟩
theorem goodIn_app {big a b : List Cond} (ha : GoodIn big a) (hb : GoodIn big b) : GoodIn big (a ++ b) := fun w h => (List.mem_append.mp h).elim (ha w) (hb w)
theorem goodIn_ca {big a b : List Cond} {c : Cond} (ha : GoodIn big (c :: a)) (hb : GoodIn big b) : GoodIn big (c :: (a ++ b)) := fun w h => (List.mem_cons.mp h).elim (fun e => ha w (List.mem_cons.mpr (Or.inl e))) (fun h => (List.mem_append.mp h).elim (fun h => ha w (List.mem_cons.mpr (Or.inr h))) (hb w))
theorem goodIn_sub {big ws : List Cond} (hm : ∀ w ∈ ws, w ∈ big) (h : ws.all goodWord = true) : GoodIn big ws := fun w hw => ⟨hm w hw, good_of_word (List.all_eq_true.mp h w hw)⟩
/-! ===== END ===== -/

/-! ===== BEGIN printed: names, fields, word lists, decode rows ===== -/
def RX0 : String := "OperaGlasses$History"
def TX0 : u_T := fun k => match k with
  | 0 => ("OperaGlasses$History", "states", "[LOperaGlasses$House;", true)
  | 1 => ("OperaGlasses$History", "kept", "I", false)
  | _ => ("OperaGlasses$History", "next", "I", false)
def tyX0 : Nat → FieldType := fun k => match k with
  | 0 => .array (.object "OperaGlasses$House")
  | 1 => .int
  | _ => .int
abbrev wsX00 : List Cond := u_ws RX0 TX0 3
theorem nmX0 : ∀ a, a < 3 → ∀ b, b < 3 → a ≠ b → (TX0 a).2.1 ≠ (TX0 b).2.1 := by decide +kernel
theorem tyX0_ok : ∀ k, k < 3 → parseFieldDescriptor (TX0 k).2.2.1 = some (tyX0 k) := by decide +kernel
abbrev cX0_init : ByteArray := prog_2_method_1_code
def yX0_init : MethodName := ⟨RX0, "<init>", "()V"⟩
abbrev cX0_stateAt : ByteArray := prog_2_method_2_code
def yX0_stateAt : MethodName := ⟨RX0, "stateAt", "(I)LOperaGlasses$House;"⟩
abbrev cX0_record : ByteArray := prog_2_method_3_code
def yX0_record : MethodName := ⟨RX0, "record", "(LOperaGlasses$House;)V"⟩
abbrev cX0_takeBack : ByteArray := prog_2_method_4_code
def yX0_takeBack : MethodName := ⟨RX0, "takeBack", "(LOperaGlasses$House;)V"⟩
def RX1 : String := "OperaGlasses$House"
def TX1 : u_T := fun k => match k with
  | 0 => ("OperaGlasses$House", "boxes", "I", false)
  | 1 => ("OperaGlasses$House", "act", "I", false)
  | 2 => ("OperaGlasses$House", "told", "I", false)
  | 3 => ("OperaGlasses$House", "looks", "[I", true)
  | 4 => ("OperaGlasses$House", "scores", "[I", true)
  | 5 => ("OperaGlasses$House", "guessed", "[I", true)
  | _ => ("OperaGlasses$House", "rumours", "[LOperaGlasses$Rumour;", true)
def tyX1 : Nat → FieldType := fun k => match k with
  | 0 => .int
  | 1 => .int
  | 2 => .int
  | 3 => .array .int
  | 4 => .array .int
  | 5 => .array .int
  | _ => .array (.object "OperaGlasses$Rumour")
abbrev wsX10 : List Cond := u_ws RX1 TX1 7
theorem nmX1 : ∀ a, a < 7 → ∀ b, b < 7 → a ≠ b → (TX1 a).2.1 ≠ (TX1 b).2.1 := by decide +kernel
theorem tyX1_ok : ∀ k, k < 7 → parseFieldDescriptor (TX1 k).2.2.1 = some (tyX1 k) := by decide +kernel
abbrev cX1_init : ByteArray := prog_3_method_1_code
def yX1_init : MethodName := ⟨RX1, "<init>", "()V"⟩
abbrev cX1_arrange : ByteArray := prog_3_method_2_code
def yX1_arrange : MethodName := ⟨RX1, "arrange", "(I)V"⟩
abbrev cX1_copyFrom : ByteArray := prog_3_method_3_code
def yX1_copyFrom : MethodName := ⟨RX1, "copyFrom", "(LOperaGlasses$House;)V"⟩
abbrev cX1_hasBox : ByteArray := prog_3_method_4_code
def yX1_hasBox : MethodName := ⟨RX1, "hasBox", "(I)Z"⟩
abbrev cX1_suits : ByteArray := prog_3_method_5_code
def yX1_suits : MethodName := ⟨RX1, "suits", "(III)Z"⟩
abbrev cX1_hasRoomFor : ByteArray := prog_3_method_6_code
def yX1_hasRoomFor : MethodName := ⟨RX1, "hasRoomFor", "(I)Z"⟩
abbrev cX1_rumourAt : ByteArray := prog_3_method_7_code
def yX1_rumourAt : MethodName := ⟨RX1, "rumourAt", "(I)LOperaGlasses$Rumour;"⟩
abbrev cX1_addRumour : ByteArray := prog_3_method_8_code
def yX1_addRumour : MethodName := ⟨RX1, "addRumour", "(IIII)V"⟩
abbrev cX1_openRumours : ByteArray := prog_3_method_9_code
def yX1_openRumours : MethodName := ⟨RX1, "openRumours", "()I"⟩
abbrev cX1_isOpen : ByteArray := prog_3_method_10_code
def yX1_isOpen : MethodName := ⟨RX1, "isOpen", "(I)Z"⟩
abbrev cX1_isTrue : ByteArray := prog_3_method_11_code
def yX1_isTrue : MethodName := ⟨RX1, "isTrue", "(I)Z"⟩
abbrev cX1_revealOpen : ByteArray := prog_3_method_12_code
def yX1_revealOpen : MethodName := ⟨RX1, "revealOpen", "()I"⟩
abbrev cX1_finishAct : ByteArray := prog_3_method_13_code
def yX1_finishAct : MethodName := ⟨RX1, "finishAct", "()V"⟩
abbrev cX1_tellerOf : ByteArray := prog_3_method_14_code
def yX1_tellerOf : MethodName := ⟨RX1, "tellerOf", "(I)I"⟩
abbrev cX1_toldBy : ByteArray := prog_3_method_15_code
def yX1_toldBy : MethodName := ⟨RX1, "toldBy", "(I)I"⟩
abbrev cX1_toldTrulyBy : ByteArray := prog_3_method_16_code
def yX1_toldTrulyBy : MethodName := ⟨RX1, "toldTrulyBy", "(I)I"⟩
abbrev cX1_firstBroken : ByteArray := prog_3_method_17_code
def yX1_firstBroken : MethodName := ⟨RX1, "firstBroken", "(I[I)I"⟩
def RX2 : String := "OperaGlasses$Pad"
def TX2 : u_T := fun k => match k with
  | 0 => ("OperaGlasses$Pad", "text", "[C", true)
  | _ => ("OperaGlasses$Pad", "length", "I", false)
def tyX2 : Nat → FieldType := fun k => match k with
  | 0 => .array .char
  | _ => .int
abbrev wsX20 : List Cond := u_ws RX2 TX2 2
theorem nmX2 : ∀ a, a < 2 → ∀ b, b < 2 → a ≠ b → (TX2 a).2.1 ≠ (TX2 b).2.1 := by decide +kernel
theorem tyX2_ok : ∀ k, k < 2 → parseFieldDescriptor (TX2 k).2.2.1 = some (tyX2 k) := by decide +kernel
abbrev cX2_init : ByteArray := prog_4_method_1_code
def yX2_init : MethodName := ⟨RX2, "<init>", "()V"⟩
abbrev cX2_append : ByteArray := prog_4_method_2_code
def yX2_append : MethodName := ⟨RX2, "append", "(C)V"⟩
abbrev cX2_empty : ByteArray := prog_4_method_3_code
def yX2_empty : MethodName := ⟨RX2, "empty", "()V"⟩
abbrev cX2_characterAt : ByteArray := prog_4_method_4_code
def yX2_characterAt : MethodName := ⟨RX2, "characterAt", "(I)C"⟩
abbrev cX2_firstFault : ByteArray := prog_4_method_5_code
def yX2_firstFault : MethodName := ⟨RX2, "firstFault", "()I"⟩
abbrev cX2_canStandAt : ByteArray := prog_4_method_6_code
def yX2_canStandAt : MethodName := ⟨RX2, "canStandAt", "(I)Z"⟩
abbrev cX2_canBeB : ByteArray := prog_4_method_7_code
def yX2_canBeB : MethodName := ⟨RX2, "canBeB", "(CCI)Z"⟩
abbrev cX2_isDigit : ByteArray := prog_4_method_8_code
def yX2_isDigit : MethodName := ⟨RX2, "isDigit", "(CI)Z"⟩
abbrev cX2_rumours : ByteArray := prog_4_method_9_code
def yX2_rumours : MethodName := ⟨RX2, "rumours", "()I"⟩
abbrev cX2_tellerOf : ByteArray := prog_4_method_10_code
def yX2_tellerOf : MethodName := ⟨RX2, "tellerOf", "(I)I"⟩
abbrev cX2_kindOf : ByteArray := prog_4_method_11_code
def yX2_kindOf : MethodName := ⟨RX2, "kindOf", "(I)I"⟩
abbrev cX2_aOf : ByteArray := prog_4_method_12_code
def yX2_aOf : MethodName := ⟨RX2, "aOf", "(I)I"⟩
abbrev cX2_bOf : ByteArray := prog_4_method_13_code
def yX2_bOf : MethodName := ⟨RX2, "bOf", "(I)I"⟩
abbrev cX2_digitAt : ByteArray := prog_4_method_14_code
def yX2_digitAt : MethodName := ⟨RX2, "digitAt", "(I)I"⟩
def RX3 : String := "OperaGlasses$Rumour"
def TX3 : u_T := fun k => match k with
  | 0 => ("OperaGlasses$Rumour", "teller", "I", false)
  | 1 => ("OperaGlasses$Rumour", "kind", "I", false)
  | 2 => ("OperaGlasses$Rumour", "a", "I", false)
  | 3 => ("OperaGlasses$Rumour", "b", "I", false)
  | _ => ("OperaGlasses$Rumour", "status", "I", false)
def tyX3 : Nat → FieldType := fun k => match k with
  | 0 => .int
  | 1 => .int
  | 2 => .int
  | 3 => .int
  | _ => .int
abbrev wsX30 : List Cond := u_ws RX3 TX3 5
theorem nmX3 : ∀ a, a < 5 → ∀ b, b < 5 → a ≠ b → (TX3 a).2.1 ≠ (TX3 b).2.1 := by decide +kernel
theorem tyX3_ok : ∀ k, k < 5 → parseFieldDescriptor (TX3 k).2.2.1 = some (tyX3 k) := by decide +kernel
abbrev cX3_init : ByteArray := prog_5_method_1_code
def yX3_init : MethodName := ⟨RX3, "<init>", "()V"⟩
abbrev cX3_become : ByteArray := prog_5_method_2_code
def yX3_become : MethodName := ⟨RX3, "become", "(IIII)V"⟩
abbrev cX3_copyFrom : ByteArray := prog_5_method_3_code
def yX3_copyFrom : MethodName := ⟨RX3, "copyFrom", "(LOperaGlasses$Rumour;)V"⟩
abbrev cX3_decide : ByteArray := prog_5_method_4_code
def yX3_decide : MethodName := ⟨RX3, "decide", "(Z)V"⟩
abbrev cX3_holdsIn : ByteArray := prog_5_method_5_code
def yX3_holdsIn : MethodName := ⟨RX3, "holdsIn", "([I)Z"⟩
abbrev cX3_isBrokenIn : ByteArray := prog_5_method_6_code
def yX3_isBrokenIn : MethodName := ⟨RX3, "isBrokenIn", "([I)Z"⟩
def RX4 : String := "OperaGlasses$Slot"
def TX4 : u_T := fun k => match k with
  | 0 => ("OperaGlasses$Slot", "state", "LOperaGlasses$House;", true)
  | _ => ("OperaGlasses$Slot", "used", "Z", false)
def tyX4 : Nat → FieldType := fun k => match k with
  | 0 => .object "OperaGlasses$House"
  | _ => .boolean
abbrev wsX40 : List Cond := u_ws RX4 TX4 2
theorem nmX4 : ∀ a, a < 2 → ∀ b, b < 2 → a ≠ b → (TX4 a).2.1 ≠ (TX4 b).2.1 := by decide +kernel
theorem tyX4_ok : ∀ k, k < 2 → parseFieldDescriptor (TX4 k).2.2.1 = some (tyX4 k) := by decide +kernel
abbrev cX4_init : ByteArray := prog_6_method_1_code
def yX4_init : MethodName := ⟨RX4, "<init>", "()V"⟩
def RX5 : String := "OperaGlasses$Survey"
def TX5 : u_T := fun k => match k with
  | 0 => ("OperaGlasses$Survey", "walk", "LOperaGlasses$Walk;", true)
  | 1 => ("OperaGlasses$Survey", "worlds", "I", false)
  | 2 => ("OperaGlasses$Survey", "mostWatchedPerson", "I", false)
  | 3 => ("OperaGlasses$Survey", "mostWatchers", "I", false)
  | 4 => ("OperaGlasses$Survey", "looking", "[I", true)
  | 5 => ("OperaGlasses$Survey", "holding", "[I", true)
  | 6 => ("OperaGlasses$Survey", "onlyBroken", "[I", true)
  | _ => ("OperaGlasses$Survey", "supposed", "LOperaGlasses$Rumour;", true)
def tyX5 : Nat → FieldType := fun k => match k with
  | 0 => .object "OperaGlasses$Walk"
  | 1 => .int
  | 2 => .int
  | 3 => .int
  | 4 => .array .int
  | 5 => .array .int
  | 6 => .array .int
  | _ => .object "OperaGlasses$Rumour"
abbrev wsX50 : List Cond := u_ws RX5 TX5 8
theorem nmX5 : ∀ a, a < 8 → ∀ b, b < 8 → a ≠ b → (TX5 a).2.1 ≠ (TX5 b).2.1 := by decide +kernel
theorem tyX5_ok : ∀ k, k < 8 → parseFieldDescriptor (TX5 k).2.2.1 = some (tyX5 k) := by decide +kernel
abbrev cX5_init : ByteArray := prog_7_method_1_code
def yX5_init : MethodName := ⟨RX5, "<init>", "()V"⟩
abbrev cX5_take : ByteArray := prog_7_method_2_code
def yX5_take : MethodName := ⟨RX5, "take", "(LOperaGlasses$House;)V"⟩
abbrev cX5_forget : ByteArray := prog_7_method_3_code
def yX5_forget : MethodName := ⟨RX5, "forget", "()V"⟩
abbrev cX5_tally : ByteArray := prog_7_method_4_code
def yX5_tally : MethodName := ⟨RX5, "tally", "(LOperaGlasses$House;)V"⟩
abbrev cX5_lookingAt : ByteArray := prog_7_method_5_code
def yX5_lookingAt : MethodName := ⟨RX5, "lookingAt", "(II)I"⟩
abbrev cX5_isCertain : ByteArray := prog_7_method_6_code
def yX5_isCertain : MethodName := ⟨RX5, "isCertain", "(I)Z"⟩
abbrev cX5_isRuledOut : ByteArray := prog_7_method_7_code
def yX5_isRuledOut : MethodName := ⟨RX5, "isRuledOut", "(I)Z"⟩
abbrev cX5_certainBox : ByteArray := prog_7_method_8_code
def yX5_certainBox : MethodName := ⟨RX5, "certainBox", "(I)I"⟩
abbrev cX5_certainPersons : ByteArray := prog_7_method_9_code
def yX5_certainPersons : MethodName := ⟨RX5, "certainPersons", "(I)I"⟩
abbrev cX5_openCertain : ByteArray := prog_7_method_10_code
def yX5_openCertain : MethodName := ⟨RX5, "openCertain", "(LOperaGlasses$House;)I"⟩
abbrev cX5_openRuledOut : ByteArray := prog_7_method_11_code
def yX5_openRuledOut : MethodName := ⟨RX5, "openRuledOut", "(LOperaGlasses$House;)I"⟩
abbrev cX5_worseOutcome : ByteArray := prog_7_method_12_code
def yX5_worseOutcome : MethodName := ⟨RX5, "worseOutcome", "(I)I"⟩
abbrev cX5_sharpestRumour : ByteArray := prog_7_method_13_code
def yX5_sharpestRumour : MethodName := ⟨RX5, "sharpestRumour", "(LOperaGlasses$House;)I"⟩
abbrev cX5_mostToBlame : ByteArray := prog_7_method_14_code
def yX5_mostToBlame : MethodName := ⟨RX5, "mostToBlame", "(LOperaGlasses$House;)I"⟩
abbrev cX5_worldsWith : ByteArray := prog_7_method_15_code
def yX5_worldsWith : MethodName := ⟨RX5, "worldsWith", "(LOperaGlasses$House;III)I"⟩
abbrev cX5_findMostWatched : ByteArray := prog_7_method_16_code
def yX5_findMostWatched : MethodName := ⟨RX5, "findMostWatched", "(LOperaGlasses$House;)V"⟩
abbrev cX5_compareWatchers : ByteArray := prog_7_method_17_code
def yX5_compareWatchers : MethodName := ⟨RX5, "compareWatchers", "(II)V"⟩
abbrev cX5_boxInWorld : ByteArray := prog_7_method_18_code
def yX5_boxInWorld : MethodName := ⟨RX5, "boxInWorld", "(LOperaGlasses$House;II)I"⟩
def RX6 : String := "OperaGlasses$Walk"
def TX6 : u_T := fun k => match k with
  | 0 => ("OperaGlasses$Walk", "boxes", "I", false)
  | _ => ("OperaGlasses$Walk", "boxOf", "[I", true)
def tyX6 : Nat → FieldType := fun k => match k with
  | 0 => .int
  | _ => .array .int
abbrev wsX60 : List Cond := u_ws RX6 TX6 2
theorem nmX6 : ∀ a, a < 2 → ∀ b, b < 2 → a ≠ b → (TX6 a).2.1 ≠ (TX6 b).2.1 := by decide +kernel
theorem tyX6_ok : ∀ k, k < 2 → parseFieldDescriptor (TX6 k).2.2.1 = some (tyX6 k) := by decide +kernel
abbrev cX6_init : ByteArray := prog_8_method_1_code
def yX6_init : MethodName := ⟨RX6, "<init>", "()V"⟩
abbrev cX6_begin : ByteArray := prog_8_method_2_code
def yX6_begin : MethodName := ⟨RX6, "begin", "(I)I"⟩
abbrev cX6_step : ByteArray := prog_8_method_3_code
def yX6_step : MethodName := ⟨RX6, "step", "()V"⟩
abbrev cX6_firstBoxFor : ByteArray := prog_8_method_4_code
def yX6_firstBoxFor : MethodName := ⟨RX6, "firstBoxFor", "(I)I"⟩
def RX7 : String := "OperaGlasses"
def TX7 : u_T := fun k => match k with
  | 0 => ("OperaGlasses", "house", "LOperaGlasses$House;", true)
  | 1 => ("OperaGlasses", "history", "LOperaGlasses$History;", true)
  | 2 => ("OperaGlasses", "firstSlot", "LOperaGlasses$Slot;", true)
  | 3 => ("OperaGlasses", "secondSlot", "LOperaGlasses$Slot;", true)
  | 4 => ("OperaGlasses", "pad", "LOperaGlasses$Pad;", true)
  | 5 => ("OperaGlasses", "survey", "LOperaGlasses$Survey;", true)
  | _ => ("OperaGlasses", "surveyed", "Z", false)
def tyX7 : Nat → FieldType := fun k => match k with
  | 0 => .object "OperaGlasses$House"
  | 1 => .object "OperaGlasses$History"
  | 2 => .object "OperaGlasses$Slot"
  | 3 => .object "OperaGlasses$Slot"
  | 4 => .object "OperaGlasses$Pad"
  | 5 => .object "OperaGlasses$Survey"
  | _ => .boolean
abbrev wsX70 : List Cond := u_ws RX7 TX7 7
theorem nmX7 : ∀ a, a < 7 → ∀ b, b < 7 → a ≠ b → (TX7 a).2.1 ≠ (TX7 b).2.1 := by decide +kernel
theorem tyX7_ok : ∀ k, k < 7 → parseFieldDescriptor (TX7 k).2.2.1 = some (tyX7 k) := by decide +kernel
abbrev cX7_init : ByteArray := prog_1_method_1_code
def yX7_init : MethodName := ⟨RX7, "<init>", "()V"⟩
abbrev cX7_open : ByteArray := prog_1_method_2_code
def yX7_open : MethodName := ⟨RX7, "open", "(I)I"⟩
abbrev cX7_look : ByteArray := prog_1_method_3_code
def yX7_look : MethodName := ⟨RX7, "look", "(II)I"⟩
abbrev cX7_tell : ByteArray := prog_1_method_4_code
def yX7_tell : MethodName := ⟨RX7, "tell", "(IIII)I"⟩
abbrev cX7_tellAll : ByteArray := prog_1_method_5_code
def yX7_tellAll : MethodName := ⟨RX7, "tellAll", "()I"⟩
abbrev cX7_prove : ByteArray := prog_1_method_6_code
def yX7_prove : MethodName := ⟨RX7, "prove", "(IZ)I"⟩
abbrev cX7_reveal : ByteArray := prog_1_method_7_code
def yX7_reveal : MethodName := ⟨RX7, "reveal", "()I"⟩
abbrev cX7_doubt : ByteArray := prog_1_method_8_code
def yX7_doubt : MethodName := ⟨RX7, "doubt", "(I)I"⟩
abbrev cX7_guess : ByteArray := prog_1_method_9_code
def yX7_guess : MethodName := ⟨RX7, "guess", "(III)I"⟩
abbrev cX7_endAct : ByteArray := prog_1_method_10_code
def yX7_endAct : MethodName := ⟨RX7, "endAct", "()I"⟩
abbrev cX7_person : ByteArray := prog_1_method_11_code
def yX7_person : MethodName := ⟨RX7, "person", "(II)I"⟩
abbrev cX7_rumour : ByteArray := prog_1_method_12_code
def yX7_rumour : MethodName := ⟨RX7, "rumour", "(II)I"⟩
abbrev cX7_count : ByteArray := prog_1_method_13_code
def yX7_count : MethodName := ⟨RX7, "count", "(I)I"⟩
abbrev cX7_possible : ByteArray := prog_1_method_14_code
def yX7_possible : MethodName := ⟨RX7, "possible", "(II)I"⟩
abbrev cX7_certain : ByteArray := prog_1_method_15_code
def yX7_certain : MethodName := ⟨RX7, "certain", "(I)I"⟩
abbrev cX7_world : ByteArray := prog_1_method_16_code
def yX7_world : MethodName := ⟨RX7, "world", "(II)I"⟩
abbrev cX7_ifProved : ByteArray := prog_1_method_17_code
def yX7_ifProved : MethodName := ⟨RX7, "ifProved", "(III)I"⟩
abbrev cX7_sharpest : ByteArray := prog_1_method_18_code
def yX7_sharpest : MethodName := ⟨RX7, "sharpest", "(I)I"⟩
abbrev cX7_blame : ByteArray := prog_1_method_19_code
def yX7_blame : MethodName := ⟨RX7, "blame", "(I)I"⟩
abbrev cX7_mostWatched : ByteArray := prog_1_method_20_code
def yX7_mostWatched : MethodName := ⟨RX7, "mostWatched", "(I)I"⟩
abbrev cX7_put : ByteArray := prog_1_method_21_code
def yX7_put : MethodName := ⟨RX7, "put", "(J)I"⟩
abbrev cX7_wipe : ByteArray := prog_1_method_22_code
def yX7_wipe : MethodName := ⟨RX7, "wipe", "()I"⟩
abbrev cX7_fault : ByteArray := prog_1_method_23_code
def yX7_fault : MethodName := ⟨RX7, "fault", "()I"⟩
abbrev cX7_undo : ByteArray := prog_1_method_24_code
def yX7_undo : MethodName := ⟨RX7, "undo", "()I"⟩
abbrev cX7_save : ByteArray := prog_1_method_25_code
def yX7_save : MethodName := ⟨RX7, "save", "(I)I"⟩
abbrev cX7_restore : ByteArray := prog_1_method_26_code
def yX7_restore : MethodName := ⟨RX7, "restore", "(I)I"⟩
abbrev cX7_beginChange : ByteArray := prog_1_method_27_code
def yX7_beginChange : MethodName := ⟨RX7, "beginChange", "()V"⟩
abbrev cX7_surveyNow : ByteArray := prog_1_method_28_code
def yX7_surveyNow : MethodName := ⟨RX7, "surveyNow", "()LOperaGlasses$Survey;"⟩
abbrev cX7_slotAt : ByteArray := prog_1_method_29_code
def yX7_slotAt : MethodName := ⟨RX7, "slotAt", "(I)LOperaGlasses$Slot;"⟩
abbrev cX7_allTellersAreThere : ByteArray := prog_1_method_30_code
def yX7_allTellersAreThere : MethodName := ⟨RX7, "allTellersAreThere", "()Z"⟩
abbrev cX7_allOnPadSuit : ByteArray := prog_1_method_31_code
def yX7_allOnPadSuit : MethodName := ⟨RX7, "allOnPadSuit", "()Z"⟩
abbrev cX7_pointsOfGuess : ByteArray := prog_1_method_32_code
def yX7_pointsOfGuess : MethodName := ⟨RX7, "pointsOfGuess", "(LOperaGlasses$Survey;II)I"⟩
abbrev cX7_lengthOfText : ByteArray := prog_1_method_33_code
def yX7_lengthOfText : MethodName := ⟨RX7, "lengthOfText", "(J)I"⟩
abbrev cX7_watchers : ByteArray := prog_1_method_34_code
def yX7_watchers : MethodName := ⟨RX7, "watchers", "([II)I"⟩
abbrev cX7_at : ByteArray := prog_1_method_35_code
def yX7_at : MethodName := ⟨RX7, "at", "([II)I"⟩
abbrev cX7_setAt : ByteArray := prog_1_method_36_code
def yX7_setAt : MethodName := ⟨RX7, "setAt", "([III)V"⟩
abbrev cX7_addAt : ByteArray := prog_1_method_37_code
def yX7_addAt : MethodName := ⟨RX7, "addAt", "([III)V"⟩
abbrev cX7_fillRow : ByteArray := prog_1_method_38_code
def yX7_fillRow : MethodName := ⟨RX7, "fillRow", "([II)V"⟩
abbrev cX7_copyRow : ByteArray := prog_1_method_39_code
def yX7_copyRow : MethodName := ⟨RX7, "copyRow", "([I[I)V"⟩
def RX8 : String := "OperaGlassesModel"
def TX8 : u_T := fun k => match k with
  | 0 => ("OperaGlassesModel", "state", "[I", true)
  | 1 => ("OperaGlassesModel", "history", "[I", true)
  | 2 => ("OperaGlassesModel", "recorded", "I", false)
  | 3 => ("OperaGlassesModel", "slots", "[I", true)
  | 4 => ("OperaGlassesModel", "isSaved", "[I", true)
  | 5 => ("OperaGlassesModel", "pad", "[I", true)
  | 6 => ("OperaGlassesModel", "padLength", "I", false)
  | 7 => ("OperaGlassesModel", "world", "[I", true)
  | 8 => ("OperaGlassesModel", "worlds", "I", false)
  | 9 => ("OperaGlassesModel", "looking", "[I", true)
  | 10 => ("OperaGlassesModel", "holding", "[I", true)
  | 11 => ("OperaGlassesModel", "butOne", "[I", true)
  | 12 => ("OperaGlassesModel", "mostPerson", "I", false)
  | 13 => ("OperaGlassesModel", "mostMany", "I", false)
  | 14 => ("OperaGlassesModel", "at", "I", false)
  | 15 => ("OperaGlassesModel", "teller", "I", false)
  | 16 => ("OperaGlassesModel", "kind", "I", false)
  | 17 => ("OperaGlassesModel", "first", "I", false)
  | _ => ("OperaGlassesModel", "second", "I", false)
def tyX8 : Nat → FieldType := fun k => match k with
  | 0 => .array .int
  | 1 => .array .int
  | 2 => .int
  | 3 => .array .int
  | 4 => .array .int
  | 5 => .array .int
  | 6 => .int
  | 7 => .array .int
  | 8 => .int
  | 9 => .array .int
  | 10 => .array .int
  | 11 => .array .int
  | 12 => .int
  | 13 => .int
  | 14 => .int
  | 15 => .int
  | 16 => .int
  | 17 => .int
  | _ => .int
abbrev wsX80 : List Cond := u_ws RX8 TX8 19
theorem nmX8 : ∀ a, a < 19 → ∀ b, b < 19 → a ≠ b → (TX8 a).2.1 ≠ (TX8 b).2.1 := by decide +kernel
theorem tyX8_ok : ∀ k, k < 19 → parseFieldDescriptor (TX8 k).2.2.1 = some (tyX8 k) := by decide +kernel
abbrev cX8_init : ByteArray := prog_10_method_1_code
def yX8_init : MethodName := ⟨RX8, "<init>", "()V"⟩
abbrev cX8_moves : ByteArray := prog_10_method_3_code
def yX8_moves : MethodName := ⟨RX8, "moves", "([II[II)V"⟩
abbrev cX8_within : ByteArray := prog_10_method_4_code
def yX8_within : MethodName := ⟨RX8, "within", "(III)Z"⟩
abbrev cX8_record : ByteArray := prog_10_method_5_code
def yX8_record : MethodName := ⟨RX8, "record", "()V"⟩
abbrev cX8_begins : ByteArray := prog_10_method_6_code
def yX8_begins : MethodName := ⟨RX8, "begins", "(I)V"⟩
abbrev cX8_isBox : ByteArray := prog_10_method_7_code
def yX8_isBox : MethodName := ⟨RX8, "isBox", "(I)Z"⟩
abbrev cX8_isRumour : ByteArray := prog_10_method_8_code
def yX8_isRumour : MethodName := ⟨RX8, "isRumour", "(I)Z"⟩
abbrev cX8_part : ByteArray := prog_10_method_9_code
def yX8_part : MethodName := ⟨RX8, "part", "(II)I"⟩
abbrev cX8_setHow : ByteArray := prog_10_method_10_code
def yX8_setHow : MethodName := ⟨RX8, "setHow", "(II)V"⟩
abbrev cX8_isOpen : ByteArray := prog_10_method_11_code
def yX8_isOpen : MethodName := ⟨RX8, "isOpen", "(I)Z"⟩
abbrev cX8_suits : ByteArray := prog_10_method_12_code
def yX8_suits : MethodName := ⟨RX8, "suits", "(III)Z"⟩
abbrev cX8_lookers : ByteArray := prog_10_method_13_code
def yX8_lookers : MethodName := ⟨RX8, "lookers", "(I)I"⟩
abbrev cX8_holds : ByteArray := prog_10_method_14_code
def yX8_holds : MethodName := ⟨RX8, "holds", "(III)Z"⟩
abbrev cX8_holdsRumour : ByteArray := prog_10_method_15_code
def yX8_holdsRumour : MethodName := ⟨RX8, "holdsRumour", "(I)Z"⟩
abbrev cX8_takeTruth : ByteArray := prog_10_method_16_code
def yX8_takeTruth : MethodName := ⟨RX8, "takeTruth", "()V"⟩
abbrev cX8_isTrue : ByteArray := prog_10_method_17_code
def yX8_isTrue : MethodName := ⟨RX8, "isTrue", "(I)Z"⟩
abbrev cX8_worldsInAll : ByteArray := prog_10_method_18_code
def yX8_worldsInAll : MethodName := ⟨RX8, "worldsInAll", "()I"⟩
abbrev cX8_takeWorld : ByteArray := prog_10_method_19_code
def yX8_takeWorld : MethodName := ⟨RX8, "takeWorld", "(I)V"⟩
abbrev cX8_wrongOne : ByteArray := prog_10_method_20_code
def yX8_wrongOne : MethodName := ⟨RX8, "wrongOne", "()I"⟩
abbrev cX8_clear : ByteArray := prog_10_method_21_code
def yX8_clear : MethodName := ⟨RX8, "clear", "()V"⟩
abbrev cX8_takesIn : ByteArray := prog_10_method_22_code
def yX8_takesIn : MethodName := ⟨RX8, "takesIn", "()V"⟩
abbrev cX8_goThrough : ByteArray := prog_10_method_23_code
def yX8_goThrough : MethodName := ⟨RX8, "goThrough", "()V"⟩
abbrev cX8_worldsNow : ByteArray := prog_10_method_24_code
def yX8_worldsNow : MethodName := ⟨RX8, "worldsNow", "()I"⟩
abbrev cX8_isTruthPossible : ByteArray := prog_10_method_25_code
def yX8_isTruthPossible : MethodName := ⟨RX8, "isTruthPossible", "()Z"⟩
abbrev cX8_certainBox : ByteArray := prog_10_method_26_code
def yX8_certainBox : MethodName := ⟨RX8, "certainBox", "(I)I"⟩
abbrev cX8_open : ByteArray := prog_10_method_27_code
def yX8_open : MethodName := ⟨RX8, "open", "(I)I"⟩
abbrev cX8_look : ByteArray := prog_10_method_28_code
def yX8_look : MethodName := ⟨RX8, "look", "(II)I"⟩
abbrev cX8_tells : ByteArray := prog_10_method_29_code
def yX8_tells : MethodName := ⟨RX8, "tells", "(IIII)I"⟩
abbrev cX8_tell : ByteArray := prog_10_method_30_code
def yX8_tell : MethodName := ⟨RX8, "tell", "(IIII)I"⟩
abbrev cX8_lookThrough : ByteArray := prog_10_method_31_code
def yX8_lookThrough : MethodName := ⟨RX8, "lookThrough", "()I"⟩
abbrev cX8_tellAll : ByteArray := prog_10_method_32_code
def yX8_tellAll : MethodName := ⟨RX8, "tellAll", "()I"⟩
abbrev cX8_prove : ByteArray := prog_10_method_33_code
def yX8_prove : MethodName := ⟨RX8, "prove", "(IZ)I"⟩
abbrev cX8_reveal : ByteArray := prog_10_method_34_code
def yX8_reveal : MethodName := ⟨RX8, "reveal", "()I"⟩
abbrev cX8_doubt : ByteArray := prog_10_method_35_code
def yX8_doubt : MethodName := ⟨RX8, "doubt", "(I)I"⟩
abbrev cX8_guess : ByteArray := prog_10_method_36_code
def yX8_guess : MethodName := ⟨RX8, "guess", "(III)I"⟩
abbrev cX8_endAct : ByteArray := prog_10_method_37_code
def yX8_endAct : MethodName := ⟨RX8, "endAct", "()I"⟩
abbrev cX8_told : ByteArray := prog_10_method_38_code
def yX8_told : MethodName := ⟨RX8, "told", "(IZ)I"⟩
abbrev cX8_person : ByteArray := prog_10_method_39_code
def yX8_person : MethodName := ⟨RX8, "person", "(II)I"⟩
abbrev cX8_rumour : ByteArray := prog_10_method_40_code
def yX8_rumour : MethodName := ⟨RX8, "rumour", "(II)I"⟩
abbrev cX8_openMany : ByteArray := prog_10_method_41_code
def yX8_openMany : MethodName := ⟨RX8, "openMany", "()I"⟩
abbrev cX8_certainPersons : ByteArray := prog_10_method_42_code
def yX8_certainPersons : MethodName := ⟨RX8, "certainPersons", "()I"⟩
abbrev cX8_certainRumours : ByteArray := prog_10_method_43_code
def yX8_certainRumours : MethodName := ⟨RX8, "certainRumours", "(Z)I"⟩
abbrev cX8_count : ByteArray := prog_10_method_44_code
def yX8_count : MethodName := ⟨RX8, "count", "(I)I"⟩
abbrev cX8_possible : ByteArray := prog_10_method_45_code
def yX8_possible : MethodName := ⟨RX8, "possible", "(II)I"⟩
abbrev cX8_certain : ByteArray := prog_10_method_46_code
def yX8_certain : MethodName := ⟨RX8, "certain", "(I)I"⟩
abbrev cX8_world : ByteArray := prog_10_method_47_code
def yX8_world : MethodName := ⟨RX8, "world", "(II)I"⟩
abbrev cX8_ifProved : ByteArray := prog_10_method_48_code
def yX8_ifProved : MethodName := ⟨RX8, "ifProved", "(III)I"⟩
abbrev cX8_sharpest : ByteArray := prog_10_method_49_code
def yX8_sharpest : MethodName := ⟨RX8, "sharpest", "(I)I"⟩
abbrev cX8_blame : ByteArray := prog_10_method_50_code
def yX8_blame : MethodName := ⟨RX8, "blame", "(I)I"⟩
abbrev cX8_mostWatched : ByteArray := prog_10_method_51_code
def yX8_mostWatched : MethodName := ⟨RX8, "mostWatched", "(I)I"⟩
abbrev cX8_put : ByteArray := prog_10_method_52_code
def yX8_put : MethodName := ⟨RX8, "put", "(J)I"⟩
abbrev cX8_wipe : ByteArray := prog_10_method_53_code
def yX8_wipe : MethodName := ⟨RX8, "wipe", "()I"⟩
abbrev cX8_character : ByteArray := prog_10_method_54_code
def yX8_character : MethodName := ⟨RX8, "character", "(I)I"⟩
abbrev cX8_isNext : ByteArray := prog_10_method_55_code
def yX8_isNext : MethodName := ⟨RX8, "isNext", "(I)Z"⟩
abbrev cX8_takeDigit : ByteArray := prog_10_method_56_code
def yX8_takeDigit : MethodName := ⟨RX8, "takeDigit", "(I)I"⟩
abbrev cX8_takeKind : ByteArray := prog_10_method_57_code
def yX8_takeKind : MethodName := ⟨RX8, "takeKind", "()I"⟩
abbrev cX8_readsRumour : ByteArray := prog_10_method_58_code
def yX8_readsRumour : MethodName := ⟨RX8, "readsRumour", "()Z"⟩
abbrev cX8_findFault : ByteArray := prog_10_method_59_code
def yX8_findFault : MethodName := ⟨RX8, "findFault", "()I"⟩
abbrev cX8_fault : ByteArray := prog_10_method_60_code
def yX8_fault : MethodName := ⟨RX8, "fault", "()I"⟩
abbrev cX8_undo : ByteArray := prog_10_method_61_code
def yX8_undo : MethodName := ⟨RX8, "undo", "()I"⟩
abbrev cX8_save : ByteArray := prog_10_method_62_code
def yX8_save : MethodName := ⟨RX8, "save", "(I)I"⟩
abbrev cX8_restore : ByteArray := prog_10_method_63_code
def yX8_restore : MethodName := ⟨RX8, "restore", "(I)I"⟩
def RJ11 : String := "java/lang/Character"
def TJ11 : u_T := fun k => match k with
  | _ => ("", "", "", false)
def tyJ11 : Nat → FieldType := fun k => match k with
  | _ => .int
abbrev wsJ110 : List Cond := u_ws RJ11 TJ11 0
theorem nmJ11 : ∀ a, a < 0 → ∀ b, b < 0 → a ≠ b → (TJ11 a).2.1 ≠ (TJ11 b).2.1 := by decide +kernel
theorem tyJ11_ok : ∀ k, k < 0 → parseFieldDescriptor (TJ11 k).2.2.1 = some (tyJ11 k) := by decide +kernel
abbrev cJ11_isValidCodePoint_9a6ad : ByteArray := prog_11_method_11_code
def yJ11_isValidCodePoint_9a6ad : MethodName := ⟨RJ11, "isValidCodePoint", "(I)Z"⟩
abbrev cJ11_highSurrogate_5068e : ByteArray := prog_11_method_28_code
def yJ11_highSurrogate_5068e : MethodName := ⟨RJ11, "highSurrogate", "(I)C"⟩
abbrev cJ11_lowSurrogate_5068e : ByteArray := prog_11_method_29_code
def yJ11_lowSurrogate_5068e : MethodName := ⟨RJ11, "lowSurrogate", "(I)C"⟩
def RJ9 : String := "java/lang/Math"
def TJ9 : u_T := fun k => match k with
  | _ => ("", "", "", false)
def tyJ9 : Nat → FieldType := fun k => match k with
  | _ => .int
abbrev wsJ90 : List Cond := u_ws RJ9 TJ9 0
theorem nmJ9 : ∀ a, a < 0 → ∀ b, b < 0 → a ≠ b → (TJ9 a).2.1 ≠ (TJ9 b).2.1 := by decide +kernel
theorem tyJ9_ok : ∀ k, k < 0 → parseFieldDescriptor (TJ9 k).2.2.1 = some (tyJ9 k) := by decide +kernel
abbrev cJ9_max_7cf53 : ByteArray := prog_12_method_65_code
def yJ9_max_7cf53 : MethodName := ⟨RJ9, "max", "(II)I"⟩
abbrev cJ9_min_7cf53 : ByteArray := prog_12_method_69_code
def yJ9_min_7cf53 : MethodName := ⟨RJ9, "min", "(II)I"⟩
def RJ0 : String := "java/lang/String"
def TJ0 : u_T := fun k => match k with
  | _ => ("", "", "", false)
def tyJ0 : Nat → FieldType := fun k => match k with
  | _ => .int
abbrev wsJ00 : List Cond := u_ws RJ0 TJ0 0
theorem nmJ0 : ∀ a, a < 0 → ∀ b, b < 0 → a ≠ b → (TJ0 a).2.1 ≠ (TJ0 b).2.1 := by decide +kernel
theorem tyJ0_ok : ∀ k, k < 0 → parseFieldDescriptor (TJ0 k).2.2.1 = some (tyJ0 k) := by decide +kernel
abbrev cJ0_length_8abf5 : ByteArray := prog_13_method_54_code
def yJ0_length_8abf5 : MethodName := ⟨RJ0, "length", "()I"⟩
abbrev cJ0_indexOf_0f7a4 : ByteArray := prog_13_method_79_code
def yJ0_indexOf_0f7a4 : MethodName := ⟨RJ0, "indexOf", "(I)I"⟩
abbrev cJ0_indexOf_7cf53 : ByteArray := prog_13_method_80_code
def yJ0_indexOf_7cf53 : MethodName := ⟨RJ0, "indexOf", "(II)I"⟩
abbrev cJ0_coder_7d493 : ByteArray := prog_13_method_152_code
def yJ0_coder_7d493 : MethodName := ⟨RJ0, "coder", "()B"⟩
abbrev cJ0_isLatin1_aae02 : ByteArray := prog_13_method_154_code
def yJ0_isLatin1_aae02 : MethodName := ⟨RJ0, "isLatin1", "()Z"⟩
abbrev cJ0_checkBoundsBeginEnd_23922 : ByteArray := prog_13_method_158_code
def yJ0_checkBoundsBeginEnd_23922 : MethodName := ⟨RJ0, "checkBoundsBeginEnd", "(III)V"⟩
def RJ1 : String := "java/lang/StringLatin1"
def TJ1 : u_T := fun k => match k with
  | _ => ("", "", "", false)
def tyJ1 : Nat → FieldType := fun k => match k with
  | _ => .int
abbrev wsJ10 : List Cond := u_ws RJ1 TJ1 0
theorem nmJ1 : ∀ a, a < 0 → ∀ b, b < 0 → a ≠ b → (TJ1 a).2.1 ≠ (TJ1 b).2.1 := by decide +kernel
theorem tyJ1_ok : ∀ k, k < 0 → parseFieldDescriptor (TJ1 k).2.2.1 = some (tyJ1 k) := by decide +kernel
abbrev cJ1_canEncode_9a6ad : ByteArray := prog_14_method_4_code
def yJ1_canEncode_9a6ad : MethodName := ⟨RJ1, "canEncode", "(I)Z"⟩
abbrev cJ1_indexOf_4cfef : ByteArray := prog_14_method_22_code
def yJ1_indexOf_4cfef : MethodName := ⟨RJ1, "indexOf", "([BIII)I"⟩
abbrev cJ1_indexOfChar_4cfef : ByteArray := prog_14_method_23_code
def yJ1_indexOfChar_4cfef : MethodName := ⟨RJ1, "indexOfChar", "([BIII)I"⟩
def RJ2 : String := "java/lang/StringUTF16"
def TJ2 : u_T := fun k => match k with
  | _ => ("", "", "", false)
def tyJ2 : Nat → FieldType := fun k => match k with
  | _ => .int
abbrev wsJ20 : List Cond := u_ws RJ2 TJ2 0
theorem nmJ2 : ∀ a, a < 0 → ∀ b, b < 0 → a ≠ b → (TJ2 a).2.1 ≠ (TJ2 b).2.1 := by decide +kernel
theorem tyJ2_ok : ∀ k, k < 0 → parseFieldDescriptor (TJ2 k).2.2.1 = some (tyJ2 k) := by decide +kernel
abbrev cJ2_getChar_3b067 : ByteArray := prog_15_method_5_code
def yJ2_getChar_3b067 : MethodName := ⟨RJ2, "getChar", "([BI)C"⟩
abbrev cJ2_length_9d52b : ByteArray := prog_15_method_6_code
def yJ2_length_9d52b : MethodName := ⟨RJ2, "length", "([B)I"⟩
abbrev cJ2_indexOf_4cfef : ByteArray := prog_15_method_40_code
def yJ2_indexOf_4cfef : MethodName := ⟨RJ2, "indexOf", "([BIII)I"⟩
abbrev cJ2_indexOfChar_4cfef : ByteArray := prog_15_method_47_code
def yJ2_indexOfChar_4cfef : MethodName := ⟨RJ2, "indexOfChar", "([BIII)I"⟩
abbrev cJ2_indexOfCharUnsafe_4cfef : ByteArray := prog_15_method_48_code
def yJ2_indexOfCharUnsafe_4cfef : MethodName := ⟨RJ2, "indexOfCharUnsafe", "([BIII)I"⟩
abbrev cJ2_indexOfSupplementary_4cfef : ByteArray := prog_15_method_49_code
def yJ2_indexOfSupplementary_4cfef : MethodName := ⟨RJ2, "indexOfSupplementary", "([BIII)I"⟩
abbrev cJ2_checkBoundsBeginEnd_d044e : ByteArray := prog_15_method_93_code
def yJ2_checkBoundsBeginEnd_d044e : MethodName := ⟨RJ2, "checkBoundsBeginEnd", "(II[B)V"⟩
def RJ3 : String := "jdk/internal/util/Preconditions"
def TJ3 : u_T := fun k => match k with
  | _ => ("", "", "", false)
def tyJ3 : Nat → FieldType := fun k => match k with
  | _ => .int
abbrev wsJ30 : List Cond := u_ws RJ3 TJ3 0
theorem nmJ3 : ∀ a, a < 0 → ∀ b, b < 0 → a ≠ b → (TJ3 a).2.1 ≠ (TJ3 b).2.1 := by decide +kernel
theorem tyJ3_ok : ∀ k, k < 0 → parseFieldDescriptor (TJ3 k).2.2.1 = some (tyJ3 k) := by decide +kernel
abbrev cJ3_checkFromToIndex_8c36e : ByteArray := prog_16_method_12_code
def yJ3_checkFromToIndex_8c36e : MethodName := ⟨RJ3, "checkFromToIndex", "(IIILjava/util/function/BiFunction;)I"⟩
def RL : String := "OperaGlassesLaw"
abbrev cL_law : ByteArray := code
def yL_law : MethodName := ⟨RL, "law", "([I)Z"⟩
def wsL_law_r1 : List Cond := [Cond.classLink RL 7 RX7, Cond.instantiable RX7 7, Cond.initialized RX7, Cond.classLink RL 10 RX8, Cond.instantiable RX8 19, Cond.initialized RX8, Cond.constantLong RL 95 (4294967295), Cond.methodLink RL 9 yX7_init, Cond.instanceMethod yX7_init, Cond.code yX7_init cX7_init 1 none, Cond.methodLink RX7 1 objectInit, Cond.instanceMethod objectInit, Cond.code objectInit ⟨#[0xb1]⟩ 1 none, Cond.classLink RX7 7 RX1, Cond.instantiable RX1 7, Cond.initialized RX1, Cond.fieldLink RX7 10 "OperaGlasses" "house" "LOperaGlasses$House;", Cond.classLink RX7 16 RX0, Cond.instantiable RX0 3, Cond.initialized RX0, Cond.fieldLink RX7 19 "OperaGlasses" "history" "LOperaGlasses$History;", Cond.classLink RX7 23 RX4, Cond.instantiable RX4 2, Cond.initialized RX4]
def wsL_law_r2 : List Cond := [Cond.fieldLink RX7 26 "OperaGlasses" "firstSlot" "LOperaGlasses$Slot;", Cond.fieldLink RX7 30 "OperaGlasses" "secondSlot" "LOperaGlasses$Slot;", Cond.classLink RX7 33 RX2, Cond.instantiable RX2 2, Cond.initialized RX2, Cond.fieldLink RX7 36 "OperaGlasses" "pad" "LOperaGlasses$Pad;", Cond.classLink RX7 40 RX5, Cond.instantiable RX5 8, Cond.initialized RX5, Cond.fieldLink RX7 43 "OperaGlasses" "survey" "LOperaGlasses$Survey;", Cond.methodLink RX7 9 yX1_init, Cond.instanceMethod yX1_init, Cond.code yX1_init cX1_init 2 none, Cond.methodLink RX1 3 objectInit, Cond.arrayClass .int, Cond.fieldLink RX1 9 "OperaGlasses$House" "looks" "[I", Cond.fieldLink RX1 15 "OperaGlasses$House" "scores" "[I", Cond.fieldLink RX1 18 "OperaGlasses$House" "guessed" "[I", Cond.classLink RX1 21 RX3, Cond.fieldLink RX1 23 "OperaGlasses$House" "rumours" "[LOperaGlasses$Rumour;", Cond.instantiable RX3 5, Cond.initialized RX3, Cond.instanceMethod yX3_init, Cond.code yX3_init cX3_init 1 none]
def wsL_law_r3 : List Cond := [Cond.methodLink RX3 3 objectInit, Cond.methodLink RX7 18 yX0_init, Cond.instanceMethod yX0_init, Cond.code yX0_init cX0_init 2 none, Cond.methodLink RX0 3 objectInit, Cond.classLink RX0 9 RX1, Cond.fieldLink RX0 11 "OperaGlasses$History" "states" "[LOperaGlasses$House;", Cond.methodLink RX0 17 yX1_init, Cond.instanceMethod yX4_init, Cond.code yX4_init cX4_init 1 none, Cond.methodLink RX4 1 objectInit, Cond.classLink RX4 7 RX1, Cond.fieldLink RX4 10 "OperaGlasses$Slot" "state" "LOperaGlasses$House;", Cond.methodLink RX4 9 yX1_init, Cond.instanceMethod yX2_init, Cond.code yX2_init cX2_init 1 none, Cond.methodLink RX2 3 objectInit, Cond.arrayClass .char, Cond.fieldLink RX2 9 "OperaGlasses$Pad" "text" "[C", Cond.instanceMethod yX5_init, Cond.code yX5_init cX5_init 1 none, Cond.methodLink RX5 3 objectInit, Cond.classLink RX5 9 RX6, Cond.instantiable RX6 2]
def wsL_law_r4 : List Cond := [Cond.initialized RX6, Cond.fieldLink RX5 12 "OperaGlasses$Survey" "walk" "LOperaGlasses$Walk;", Cond.fieldLink RX5 18 "OperaGlasses$Survey" "looking" "[I", Cond.fieldLink RX5 22 "OperaGlasses$Survey" "holding" "[I", Cond.fieldLink RX5 25 "OperaGlasses$Survey" "onlyBroken" "[I", Cond.classLink RX5 28 RX3, Cond.fieldLink RX5 31 "OperaGlasses$Survey" "supposed" "LOperaGlasses$Rumour;", Cond.instanceMethod yX6_init, Cond.code yX6_init cX6_init 1 none, Cond.methodLink RX6 3 objectInit, Cond.fieldLink RX6 9 "OperaGlasses$Walk" "boxOf" "[I", Cond.methodLink RX7 47 yX1_arrange, Cond.instanceMethod yX1_arrange, Cond.selects RX1 yX1_arrange yX1_arrange, Cond.code yX1_arrange cX1_arrange 3 none, Cond.fieldLink RX1 28 "OperaGlasses$House" "boxes" "I", Cond.fieldLink RX1 32 "OperaGlasses$House" "act" "I", Cond.fieldLink RX1 35 "OperaGlasses$House" "told" "I", Cond.static yX7_fillRow, Cond.code yX7_fillRow cX7_fillRow 3 none, Cond.methodLink RL 12 yX8_init, Cond.instanceMethod yX8_init, Cond.code yX8_init cX8_init 1 none, Cond.methodLink RX8 1 objectInit]
def wsL_law_r5 : List Cond := [Cond.fieldLink RX8 7 "OperaGlassesModel" "state" "[I", Cond.fieldLink RX8 13 "OperaGlassesModel" "history" "[I", Cond.fieldLink RX8 16 "OperaGlassesModel" "slots" "[I", Cond.fieldLink RX8 19 "OperaGlassesModel" "isSaved" "[I", Cond.fieldLink RX8 22 "OperaGlassesModel" "pad" "[I", Cond.fieldLink RX8 25 "OperaGlassesModel" "world" "[I", Cond.fieldLink RX8 28 "OperaGlassesModel" "looking" "[I", Cond.fieldLink RX8 31 "OperaGlassesModel" "holding" "[I", Cond.fieldLink RX8 34 "OperaGlassesModel" "butOne" "[I", Cond.methodLink RX8 37 yX8_begins, Cond.instanceMethod yX8_begins, Cond.selects RX8 yX8_begins yX8_begins, Cond.code yX8_begins cX8_begins 3 none, Cond.methodLink RL 13 yX7_open, Cond.instanceMethod yX7_open, Cond.selects RX7 yX7_open yX7_open, Cond.code yX7_open cX7_open 3 (some .int), Cond.methodLink RX7 55 yX7_beginChange, Cond.instanceMethod yX7_beginChange, Cond.selects RX7 yX7_beginChange yX7_beginChange, Cond.code yX7_beginChange cX7_beginChange 1 none, Cond.fieldLink RX7 261 "OperaGlasses" "surveyed" "Z", Cond.methodLink RX7 278 yX0_record, Cond.instanceMethod yX0_record]
def wsL_law_r6 : List Cond := [Cond.selects RX0 yX0_record yX0_record, Cond.code yX0_record cX0_record 3 none, Cond.fieldLink RX0 18 "OperaGlasses$History" "next" "I", Cond.fieldLink RX0 30 "OperaGlasses$History" "kept" "I", Cond.methodLink RX0 33 Lib.Math.min.name, Cond.static Lib.Math.min.name, Cond.initialized "java/lang/Math", Cond.code Lib.Math.min.name Lib.Math.min.code 2 (some .int), Cond.methodLink RX0 22 yX0_stateAt, Cond.instanceMethod yX0_stateAt, Cond.selects RX0 yX0_stateAt yX0_stateAt, Cond.code yX0_stateAt cX0_stateAt 2 (some (.object "OperaGlasses$House")), Cond.methodLink RX0 26 yX1_copyFrom, Cond.instanceMethod yX1_copyFrom, Cond.selects RX1 yX1_copyFrom yX1_copyFrom, Cond.code yX1_copyFrom cX1_copyFrom 5 none, Cond.static yX7_copyRow, Cond.code yX7_copyRow cX7_copyRow 3 none, Cond.methodLink RX1 46 yX1_rumourAt, Cond.instanceMethod yX1_rumourAt, Cond.selects RX1 yX1_rumourAt yX1_rumourAt, Cond.code yX1_rumourAt cX1_rumourAt 2 (some (.object "OperaGlasses$Rumour")), Cond.methodLink RX1 50 yX3_copyFrom, Cond.instanceMethod yX3_copyFrom]
def wsL_law_r7 : List Cond := [Cond.selects RX3 yX3_copyFrom yX3_copyFrom, Cond.code yX3_copyFrom cX3_copyFrom 2 none, Cond.fieldLink RX3 9 "OperaGlasses$Rumour" "teller" "I", Cond.fieldLink RX3 15 "OperaGlasses$Rumour" "kind" "I", Cond.fieldLink RX3 18 "OperaGlasses$Rumour" "a" "I", Cond.fieldLink RX3 21 "OperaGlasses$Rumour" "b" "I", Cond.fieldLink RX3 24 "OperaGlasses$Rumour" "status" "I", Cond.methodLink RX3 27 yX3_become, Cond.instanceMethod yX3_become, Cond.selects RX3 yX3_become yX3_become, Cond.code yX3_become cX3_become 5 none, Cond.methodLink RL 17 yX8_open, Cond.instanceMethod yX8_open, Cond.selects RX8 yX8_open yX8_open, Cond.code yX8_open cX8_open 3 (some .int), Cond.methodLink RX8 49 yX8_within, Cond.static yX8_within, Cond.code yX8_within cX8_within 3 (some .boolean), Cond.methodLink RX8 105 yX8_record, Cond.instanceMethod yX8_record, Cond.selects RX8 yX8_record yX8_record, Cond.code yX8_record cX8_record 2 none, Cond.fieldLink RX8 41 "OperaGlassesModel" "recorded" "I", Cond.methodLink RX8 45 yX8_moves]
def wsL_law_r8 : List Cond := [Cond.static yX8_moves, Cond.code yX8_moves cX8_moves 5 none, Cond.methodLink RL 18 yX7_look, Cond.instanceMethod yX7_look, Cond.selects RX7 yX7_look yX7_look, Cond.code yX7_look cX7_look 4 (some .int), Cond.methodLink RX7 58 yX1_hasBox, Cond.instanceMethod yX1_hasBox, Cond.selects RX1 yX1_hasBox yX1_hasBox, Cond.code yX1_hasBox cX1_hasBox 2 (some .boolean), Cond.methodLink RX7 66 yX7_at, Cond.static yX7_at, Cond.code yX7_at cX7_at 2 (some .int), Cond.methodLink RX7 70 yX7_setAt, Cond.static yX7_setAt, Cond.code yX7_setAt cX7_setAt 3 none, Cond.methodLink RL 22 yX8_look, Cond.instanceMethod yX8_look, Cond.selects RX8 yX8_look yX8_look, Cond.code yX8_look cX8_look 4 (some .int), Cond.methodLink RX8 57 yX8_isBox, Cond.instanceMethod yX8_isBox, Cond.selects RX8 yX8_isBox yX8_isBox, Cond.code yX8_isBox cX8_isBox 2 (some .boolean)]
def wsL_law_r9 : List Cond := [Cond.methodLink RL 23 yX7_tell, Cond.instanceMethod yX7_tell, Cond.selects RX7 yX7_tell yX7_tell, Cond.code yX7_tell cX7_tell 5 (some .int), Cond.methodLink RX7 74 yX1_suits, Cond.instanceMethod yX1_suits, Cond.selects RX1 yX1_suits yX1_suits, Cond.code yX1_suits cX1_suits 4 (some .boolean), Cond.methodLink RX1 54 yX1_hasBox, Cond.methodLink RX7 78 yX1_hasRoomFor, Cond.instanceMethod yX1_hasRoomFor, Cond.selects RX1 yX1_hasRoomFor yX1_hasRoomFor, Cond.code yX1_hasRoomFor cX1_hasRoomFor 2 (some .boolean), Cond.methodLink RX7 81 yX1_addRumour, Cond.instanceMethod yX1_addRumour, Cond.selects RX1 yX1_addRumour yX1_addRumour, Cond.code yX1_addRumour cX1_addRumour 6 none, Cond.methodLink RX1 58 yX1_hasRoomFor, Cond.methodLink RX1 61 yX3_become, Cond.methodLink RL 27 yX8_tell, Cond.instanceMethod yX8_tell, Cond.selects RX8 yX8_tell yX8_tell, Cond.code yX8_tell cX8_tell 5 (some .int), Cond.methodLink RX8 108 yX8_suits]
def wsL_law_r10 : List Cond := [Cond.instanceMethod yX8_suits, Cond.selects RX8 yX8_suits yX8_suits, Cond.code yX8_suits cX8_suits 4 (some .boolean), Cond.methodLink RX8 111 yX8_tells, Cond.instanceMethod yX8_tells, Cond.selects RX8 yX8_tells yX8_tells, Cond.code yX8_tells cX8_tells 6 (some .int), Cond.methodLink RL 28 yX7_tellAll, Cond.instanceMethod yX7_tellAll, Cond.selects RX7 yX7_tellAll yX7_tellAll, Cond.code yX7_tellAll cX7_tellAll 3 (some .int), Cond.methodLink RX7 88 yX2_firstFault, Cond.instanceMethod yX2_firstFault, Cond.selects RX2 yX2_firstFault yX2_firstFault, Cond.code yX2_firstFault cX2_firstFault 2 (some .int), Cond.fieldLink RX2 15 "OperaGlasses$Pad" "length" "I", Cond.methodLink RX2 19 yX2_canStandAt, Cond.instanceMethod yX2_canStandAt, Cond.selects RX2 yX2_canStandAt yX2_canStandAt, Cond.code yX2_canStandAt cX2_canStandAt 3 (some .boolean), Cond.methodLink RX2 23 yX2_characterAt, Cond.instanceMethod yX2_characterAt, Cond.selects RX2 yX2_characterAt yX2_characterAt, Cond.code yX2_characterAt cX2_characterAt 2 (some .char)]
def wsL_law_r11 : List Cond := [Cond.methodLink RX2 27 yX2_isDigit, Cond.static yX2_isDigit, Cond.code yX2_isDigit cX2_isDigit 2 (some .boolean), Cond.methodLink RX2 33 yJ0_indexOf_0f7a4, Cond.instanceMethod yJ0_indexOf_0f7a4, Cond.selects RJ0 yJ0_indexOf_0f7a4 yJ0_indexOf_0f7a4, Cond.initialized RJ0, Cond.code yJ0_indexOf_0f7a4 cJ0_indexOf_0f7a4 2 (some .int), Cond.methodLink RJ0 633 yJ0_indexOf_7cf53, Cond.instanceMethod yJ0_indexOf_7cf53, Cond.selects RJ0 yJ0_indexOf_7cf53 yJ0_indexOf_7cf53, Cond.code yJ0_indexOf_7cf53 cJ0_indexOf_7cf53 3 (some .int), Cond.fieldLink RJ0 9 "java/lang/String" "value" "[B", Cond.methodLink RJ0 492 yJ0_isLatin1_aae02, Cond.instanceMethod yJ0_isLatin1_aae02, Cond.selects RJ0 yJ0_isLatin1_aae02 yJ0_isLatin1_aae02, Cond.code yJ0_isLatin1_aae02 cJ0_isLatin1_aae02 1 (some .boolean), Cond.fieldLink RJ0 38 "java/lang/String" "COMPACT_STRINGS" "Z", Cond.fieldLink RJ0 15 "java/lang/String" "coder" "B", Cond.methodLink RJ0 505 yJ0_length_8abf5, Cond.instanceMethod yJ0_length_8abf5, Cond.selects RJ0 yJ0_length_8abf5 yJ0_length_8abf5, Cond.code yJ0_length_8abf5 cJ0_length_8abf5 1 (some .int), Cond.methodLink RJ0 335 yJ0_coder_7d493]
def wsL_law_r12 : List Cond := [Cond.instanceMethod yJ0_coder_7d493, Cond.selects RJ0 yJ0_coder_7d493 yJ0_coder_7d493, Cond.code yJ0_coder_7d493 cJ0_coder_7d493 1 (some .byte), Cond.methodLink RJ0 637 yJ1_indexOf_4cfef, Cond.static yJ1_indexOf_4cfef, Cond.initialized RJ1, Cond.code yJ1_indexOf_4cfef cJ1_indexOf_4cfef 4 (some .int), Cond.methodLink RJ1 92 Lib.Math.max.name, Cond.static Lib.Math.max.name, Cond.code Lib.Math.max.name Lib.Math.max.code 2 (some .int), Cond.methodLink RJ1 38 Lib.Math.min.name, Cond.methodLink RJ1 88 yJ1_canEncode_9a6ad, Cond.static yJ1_canEncode_9a6ad, Cond.code yJ1_canEncode_9a6ad cJ1_canEncode_9a6ad 1 (some .boolean), Cond.methodLink RJ1 95 yJ1_indexOfChar_4cfef, Cond.static yJ1_indexOfChar_4cfef, Cond.code yJ1_indexOfChar_4cfef cJ1_indexOfChar_4cfef 6 (some .int), Cond.methodLink RJ0 640 yJ2_indexOf_4cfef, Cond.static yJ2_indexOf_4cfef, Cond.initialized RJ2, Cond.code yJ2_indexOf_4cfef cJ2_indexOf_4cfef 4 (some .int), Cond.methodLink RJ2 224 Lib.Math.max.name, Cond.methodLink RJ2 183 Lib.Math.min.name, Cond.constant RJ2 227 (65536)]
def wsL_law_r13 : List Cond := [Cond.methodLink RJ2 228 yJ2_indexOfChar_4cfef, Cond.static yJ2_indexOfChar_4cfef, Cond.code yJ2_indexOfChar_4cfef cJ2_indexOfChar_4cfef 4 (some .int), Cond.methodLink RJ2 96 yJ2_checkBoundsBeginEnd_d044e, Cond.static yJ2_checkBoundsBeginEnd_d044e, Cond.code yJ2_checkBoundsBeginEnd_d044e cJ2_checkBoundsBeginEnd_d044e 3 none, Cond.methodLink RJ2 48 yJ2_length_9d52b, Cond.static yJ2_length_9d52b, Cond.code yJ2_length_9d52b cJ2_length_9d52b 1 (some .int), Cond.methodLink RJ2 241 yJ0_checkBoundsBeginEnd_23922, Cond.static yJ0_checkBoundsBeginEnd_23922, Cond.code yJ0_checkBoundsBeginEnd_23922 cJ0_checkBoundsBeginEnd_23922 3 none, Cond.fieldLink RJ0 1053 "jdk/internal/util/Preconditions" "SIOOBE_FORMATTER" "Ljava/util/function/BiFunction;", Cond.methodLink RJ0 1062 yJ3_checkFromToIndex_8c36e, Cond.static yJ3_checkFromToIndex_8c36e, Cond.initialized RJ3, Cond.code yJ3_checkFromToIndex_8c36e cJ3_checkFromToIndex_8c36e 4 (some .int), Cond.methodLink RJ2 244 yJ2_indexOfCharUnsafe_4cfef, Cond.static yJ2_indexOfCharUnsafe_4cfef, Cond.code yJ2_indexOfCharUnsafe_4cfef cJ2_indexOfCharUnsafe_4cfef 5 (some .int), Cond.methodLink RJ2 71 yJ2_getChar_3b067, Cond.static yJ2_getChar_3b067, Cond.code yJ2_getChar_3b067 cJ2_getChar_3b067 2 (some .char), Cond.fieldLink RJ2 44 "java/lang/StringUTF16" "$assertionsDisabled" "Z"]
def wsL_law_r14 : List Cond := [Cond.fieldLink RJ2 59 "java/lang/StringUTF16" "HI_BYTE_SHIFT" "I", Cond.fieldLink RJ2 63 "java/lang/StringUTF16" "LO_BYTE_SHIFT" "I", Cond.methodLink RJ2 232 yJ2_indexOfSupplementary_4cfef, Cond.static yJ2_indexOfSupplementary_4cfef, Cond.code yJ2_indexOfSupplementary_4cfef cJ2_indexOfSupplementary_4cfef 7 (some .int), Cond.methodLink RJ2 164 yJ11_isValidCodePoint_9a6ad, Cond.static yJ11_isValidCodePoint_9a6ad, Cond.initialized RJ11, Cond.code yJ11_isValidCodePoint_9a6ad cJ11_isValidCodePoint_9a6ad 2 (some .boolean), Cond.methodLink RJ2 157 yJ11_highSurrogate_5068e, Cond.static yJ11_highSurrogate_5068e, Cond.code yJ11_highSurrogate_5068e cJ11_highSurrogate_5068e 1 (some .char), Cond.constant RJ11 110 (55232), Cond.methodLink RJ2 161 yJ11_lowSurrogate_5068e, Cond.static yJ11_lowSurrogate_5068e, Cond.code yJ11_lowSurrogate_5068e cJ11_lowSurrogate_5068e 1 (some .char), Cond.constant RJ11 76 (56320), Cond.methodLink RX2 39 yX2_canBeB, Cond.static yX2_canBeB, Cond.code yX2_canBeB cX2_canBeB 3 (some .boolean), Cond.methodLink RX7 92 yX7_allTellersAreThere, Cond.instanceMethod yX7_allTellersAreThere, Cond.selects RX7 yX7_allTellersAreThere yX7_allTellersAreThere, Cond.code yX7_allTellersAreThere cX7_allTellersAreThere 2 (some .boolean)]
def wsL_law_r15 : List Cond := [Cond.methodLink RX7 99 yX2_rumours, Cond.instanceMethod yX2_rumours, Cond.selects RX2 yX2_rumours yX2_rumours, Cond.code yX2_rumours cX2_rumours 1 (some .int), Cond.methodLink RX7 102 yX2_tellerOf, Cond.instanceMethod yX2_tellerOf, Cond.selects RX2 yX2_tellerOf yX2_tellerOf, Cond.code yX2_tellerOf cX2_tellerOf 2 (some .int), Cond.methodLink RX2 43 yX2_digitAt, Cond.instanceMethod yX2_digitAt, Cond.selects RX2 yX2_digitAt yX2_digitAt, Cond.code yX2_digitAt cX2_digitAt 2 (some .int), Cond.methodLink RX7 96 yX7_allOnPadSuit, Cond.instanceMethod yX7_allOnPadSuit, Cond.selects RX7 yX7_allOnPadSuit yX7_allOnPadSuit, Cond.code yX7_allOnPadSuit cX7_allOnPadSuit 2 (some .boolean), Cond.methodLink RX7 106 yX2_kindOf, Cond.instanceMethod yX2_kindOf, Cond.selects RX2 yX2_kindOf yX2_kindOf, Cond.code yX2_kindOf cX2_kindOf 2 (some .int), Cond.methodLink RX7 109 yX2_aOf, Cond.instanceMethod yX2_aOf, Cond.selects RX2 yX2_aOf yX2_aOf, Cond.code yX2_aOf cX2_aOf 2 (some .int)]
def wsL_law_r16 : List Cond := [Cond.methodLink RX7 112 yX2_bOf, Cond.instanceMethod yX2_bOf, Cond.selects RX2 yX2_bOf yX2_bOf, Cond.code yX2_bOf cX2_bOf 2 (some .int), Cond.methodLink RX7 115 yX2_empty, Cond.instanceMethod yX2_empty, Cond.selects RX2 yX2_empty yX2_empty, Cond.code yX2_empty cX2_empty 1 none, Cond.methodLink RL 32 yX8_tellAll, Cond.instanceMethod yX8_tellAll, Cond.selects RX8 yX8_tellAll yX8_tellAll, Cond.code yX8_tellAll cX8_tellAll 2 (some .int), Cond.fieldLink RX8 115 "OperaGlassesModel" "at" "I", Cond.fieldLink RX8 118 "OperaGlassesModel" "padLength" "I", Cond.fieldLink RX8 128 "OperaGlassesModel" "teller" "I", Cond.fieldLink RX8 131 "OperaGlassesModel" "kind" "I", Cond.fieldLink RX8 134 "OperaGlassesModel" "first" "I", Cond.fieldLink RX8 137 "OperaGlassesModel" "second" "I", Cond.methodLink RX8 140 yX8_findFault, Cond.instanceMethod yX8_findFault, Cond.selects RX8 yX8_findFault yX8_findFault, Cond.code yX8_findFault cX8_findFault 1 (some .int), Cond.methodLink RX8 121 yX8_readsRumour, Cond.instanceMethod yX8_readsRumour]
def wsL_law_r17 : List Cond := [Cond.selects RX8 yX8_readsRumour yX8_readsRumour, Cond.code yX8_readsRumour cX8_readsRumour 1 (some .boolean), Cond.methodLink RX8 184 yX8_takeDigit, Cond.instanceMethod yX8_takeDigit, Cond.selects RX8 yX8_takeDigit yX8_takeDigit, Cond.code yX8_takeDigit cX8_takeDigit 3 (some .int), Cond.methodLink RX8 181 yX8_character, Cond.instanceMethod yX8_character, Cond.selects RX8 yX8_character yX8_character, Cond.code yX8_character cX8_character 2 (some .int), Cond.methodLink RX8 125 yX8_isNext, Cond.instanceMethod yX8_isNext, Cond.selects RX8 yX8_isNext yX8_isNext, Cond.code yX8_isNext cX8_isNext 3 (some .boolean), Cond.methodLink RX8 187 yX8_takeKind, Cond.instanceMethod yX8_takeKind, Cond.selects RX8 yX8_takeKind yX8_takeKind, Cond.code yX8_takeKind cX8_takeKind 3 (some .int), Cond.methodLink RX8 143 yX8_lookThrough, Cond.instanceMethod yX8_lookThrough, Cond.selects RX8 yX8_lookThrough yX8_lookThrough, Cond.code yX8_lookThrough cX8_lookThrough 4 (some .int), Cond.methodLink RL 33 yX7_prove, Cond.instanceMethod yX7_prove]
def wsL_law_r18 : List Cond := [Cond.selects RX7 yX7_prove yX7_prove, Cond.code yX7_prove cX7_prove 4 (some .int), Cond.methodLink RX7 118 yX1_rumourAt, Cond.methodLink RX7 127 yX3_decide, Cond.instanceMethod yX3_decide, Cond.selects RX3 yX3_decide yX3_decide, Cond.code yX3_decide cX3_decide 2 none, Cond.methodLink RX7 131 yX7_surveyNow, Cond.instanceMethod yX7_surveyNow, Cond.selects RX7 yX7_surveyNow yX7_surveyNow, Cond.code yX7_surveyNow cX7_surveyNow 1 (some (.object "OperaGlasses$Survey")), Cond.methodLink RX7 281 yX5_take, Cond.instanceMethod yX5_take, Cond.selects RX5 yX5_take yX5_take, Cond.code yX5_take cX5_take 4 none, Cond.methodLink RX5 35 yX5_forget, Cond.instanceMethod yX5_forget, Cond.selects RX5 yX5_forget yX5_forget, Cond.code yX5_forget cX5_forget 1 none, Cond.fieldLink RX5 66 "OperaGlasses$Survey" "worlds" "I", Cond.methodLink RX5 44 yX6_begin, Cond.instanceMethod yX6_begin, Cond.selects RX6 yX6_begin yX6_begin, Cond.code yX6_begin cX6_begin 4 (some .int)]
def wsL_law_r19 : List Cond := [Cond.fieldLink RX6 15 "OperaGlasses$Walk" "boxes" "I", Cond.methodLink RX6 19 yX6_firstBoxFor, Cond.static yX6_firstBoxFor, Cond.code yX6_firstBoxFor cX6_firstBoxFor 1 (some .int), Cond.methodLink RX5 51 yX1_firstBroken, Cond.instanceMethod yX1_firstBroken, Cond.selects RX1 yX1_firstBroken yX1_firstBroken, Cond.code yX1_firstBroken cX1_firstBroken 5 (some .int), Cond.methodLink RX1 93 Lib.Math.max.name, Cond.methodLink RX1 99 yX3_isBrokenIn, Cond.instanceMethod yX3_isBrokenIn, Cond.selects RX3 yX3_isBrokenIn yX3_isBrokenIn, Cond.code yX3_isBrokenIn cX3_isBrokenIn 2 (some .boolean), Cond.methodLink RX3 38 yX3_holdsIn, Cond.instanceMethod yX3_holdsIn, Cond.selects RX3 yX3_holdsIn yX3_holdsIn, Cond.code yX3_holdsIn cX3_holdsIn 3 (some .boolean), Cond.static yX7_watchers, Cond.code yX7_watchers cX7_watchers 4 (some .int), Cond.methodLink RX5 55 yX5_tally, Cond.instanceMethod yX5_tally, Cond.selects RX5 yX5_tally yX5_tally, Cond.code yX5_tally cX5_tally 4 none, Cond.static yX7_addAt]
def wsL_law_r20 : List Cond := [Cond.code yX7_addAt cX7_addAt 3 none, Cond.methodLink RX5 80 yX1_rumourAt, Cond.methodLink RX5 84 yX3_holdsIn, Cond.methodLink RX5 63 yX6_step, Cond.instanceMethod yX6_step, Cond.selects RX6 yX6_step yX6_step, Cond.code yX6_step cX6_step 3 none, Cond.methodLink RL 37 yX8_prove, Cond.instanceMethod yX8_prove, Cond.selects RX8 yX8_prove yX8_prove, Cond.code yX8_prove cX8_prove 3 (some .int), Cond.methodLink RX8 146 yX8_isRumour, Cond.instanceMethod yX8_isRumour, Cond.selects RX8 yX8_isRumour yX8_isRumour, Cond.code yX8_isRumour cX8_isRumour 2 (some .boolean), Cond.methodLink RX8 74 yX8_isOpen, Cond.instanceMethod yX8_isOpen, Cond.selects RX8 yX8_isOpen yX8_isOpen, Cond.code yX8_isOpen cX8_isOpen 2 (some .boolean), Cond.methodLink RX8 53 yX8_part, Cond.instanceMethod yX8_part, Cond.selects RX8 yX8_part yX8_part, Cond.code yX8_part cX8_part 3 (some .int), Cond.methodLink RX8 149 yX8_setHow]
def wsL_law_r21 : List Cond := [Cond.instanceMethod yX8_setHow, Cond.selects RX8 yX8_setHow yX8_setHow, Cond.code yX8_setHow cX8_setHow 3 none, Cond.methodLink RX8 153 yX8_worldsNow, Cond.instanceMethod yX8_worldsNow, Cond.selects RX8 yX8_worldsNow yX8_worldsNow, Cond.code yX8_worldsNow cX8_worldsNow 1 (some .int), Cond.fieldLink RX8 77 "OperaGlassesModel" "worlds" "I", Cond.methodLink RX8 102 yX8_goThrough, Cond.instanceMethod yX8_goThrough, Cond.selects RX8 yX8_goThrough yX8_goThrough, Cond.code yX8_goThrough cX8_goThrough 4 none, Cond.methodLink RX8 86 yX8_clear, Cond.instanceMethod yX8_clear, Cond.selects RX8 yX8_clear yX8_clear, Cond.code yX8_clear cX8_clear 2 none, Cond.fieldLink RX8 80 "OperaGlassesModel" "mostPerson" "I", Cond.fieldLink RX8 83 "OperaGlassesModel" "mostMany" "I", Cond.methodLink RX8 89 yX8_worldsInAll, Cond.instanceMethod yX8_worldsInAll, Cond.selects RX8 yX8_worldsInAll yX8_worldsInAll, Cond.code yX8_worldsInAll cX8_worldsInAll 3 (some .int), Cond.methodLink RX8 93 yX8_takeWorld, Cond.instanceMethod yX8_takeWorld]
def wsL_law_r22 : List Cond := [Cond.selects RX8 yX8_takeWorld yX8_takeWorld, Cond.code yX8_takeWorld cX8_takeWorld 5 none, Cond.methodLink RX8 96 yX8_wrongOne, Cond.instanceMethod yX8_wrongOne, Cond.selects RX8 yX8_wrongOne yX8_wrongOne, Cond.code yX8_wrongOne cX8_wrongOne 4 (some .int), Cond.methodLink RX8 71 yX8_holdsRumour, Cond.instanceMethod yX8_holdsRumour, Cond.selects RX8 yX8_holdsRumour yX8_holdsRumour, Cond.code yX8_holdsRumour cX8_holdsRumour 2 (some .boolean), Cond.methodLink RX8 65 yX8_holds, Cond.instanceMethod yX8_holds, Cond.selects RX8 yX8_holds yX8_holds, Cond.code yX8_holds cX8_holds 4 (some .boolean), Cond.methodLink RX8 61 yX8_lookers, Cond.instanceMethod yX8_lookers, Cond.selects RX8 yX8_lookers yX8_lookers, Cond.code yX8_lookers cX8_lookers 4 (some .int), Cond.methodLink RX8 99 yX8_takesIn, Cond.instanceMethod yX8_takesIn, Cond.selects RX8 yX8_takesIn yX8_takesIn, Cond.code yX8_takesIn cX8_takesIn 3 none, Cond.methodLink RL 38 yX7_reveal, Cond.instanceMethod yX7_reveal]
def wsL_law_r23 : List Cond := [Cond.selects RX7 yX7_reveal yX7_reveal, Cond.code yX7_reveal cX7_reveal 1 (some .int), Cond.methodLink RX7 138 yX1_revealOpen, Cond.instanceMethod yX1_revealOpen, Cond.selects RX1 yX1_revealOpen yX1_revealOpen, Cond.code yX1_revealOpen cX1_revealOpen 4 (some .int), Cond.methodLink RX1 71 yX3_holdsIn, Cond.methodLink RX1 75 yX3_decide, Cond.methodLink RL 41 yX8_reveal, Cond.instanceMethod yX8_reveal, Cond.selects RX8 yX8_reveal yX8_reveal, Cond.code yX8_reveal cX8_reveal 3 (some .int), Cond.methodLink RX8 156 yX8_isTrue, Cond.instanceMethod yX8_isTrue, Cond.selects RX8 yX8_isTrue yX8_isTrue, Cond.code yX8_isTrue cX8_isTrue 2 (some .boolean), Cond.methodLink RX8 68 yX8_takeTruth, Cond.instanceMethod yX8_takeTruth, Cond.selects RX8 yX8_takeTruth yX8_takeTruth, Cond.code yX8_takeTruth cX8_takeTruth 2 none, Cond.methodLink RL 42 yX7_doubt, Cond.instanceMethod yX7_doubt, Cond.selects RX7 yX7_doubt yX7_doubt, Cond.code yX7_doubt cX7_doubt 3 (some .int)]
def wsL_law_r24 : List Cond := [Cond.methodLink RL 45 yX8_doubt, Cond.instanceMethod yX8_doubt, Cond.selects RX8 yX8_doubt yX8_doubt, Cond.code yX8_doubt cX8_doubt 2 (some .int), Cond.methodLink RL 46 yX7_guess, Cond.instanceMethod yX7_guess, Cond.selects RX7 yX7_guess yX7_guess, Cond.code yX7_guess cX7_guess 5 (some .int), Cond.methodLink RX7 144 yX7_pointsOfGuess, Cond.instanceMethod yX7_pointsOfGuess, Cond.selects RX7 yX7_pointsOfGuess yX7_pointsOfGuess, Cond.code yX7_pointsOfGuess cX7_pointsOfGuess 4 (some .int), Cond.methodLink RX7 211 yX5_lookingAt, Cond.instanceMethod yX5_lookingAt, Cond.selects RX5 yX5_lookingAt yX5_lookingAt, Cond.code yX5_lookingAt cX5_lookingAt 3 (some .int), Cond.methodLink RX7 284 yX5_isCertain, Cond.instanceMethod yX5_isCertain, Cond.selects RX5 yX5_isCertain yX5_isCertain, Cond.code yX5_isCertain cX5_isCertain 2 (some .boolean), Cond.methodLink RX7 287 yX5_isRuledOut, Cond.instanceMethod yX5_isRuledOut, Cond.selects RX5 yX5_isRuledOut yX5_isRuledOut, Cond.code yX5_isRuledOut cX5_isRuledOut 2 (some .boolean)]
def wsL_law_r25 : List Cond := [Cond.methodLink RX7 151 yX7_addAt, Cond.methodLink RL 50 yX8_guess, Cond.instanceMethod yX8_guess, Cond.selects RX8 yX8_guess yX8_guess, Cond.code yX8_guess cX8_guess 7 (some .int), Cond.methodLink RX8 159 yX8_certainBox, Cond.instanceMethod yX8_certainBox, Cond.selects RX8 yX8_certainBox yX8_certainBox, Cond.code yX8_certainBox cX8_certainBox 4 (some .int), Cond.methodLink RL 51 yX7_endAct, Cond.instanceMethod yX7_endAct, Cond.selects RX7 yX7_endAct yX7_endAct, Cond.code yX7_endAct cX7_endAct 1 (some .int), Cond.methodLink RX7 154 yX1_finishAct, Cond.instanceMethod yX1_finishAct, Cond.selects RX1 yX1_finishAct yX1_finishAct, Cond.code yX1_finishAct cX1_finishAct 2 none, Cond.methodLink RX1 79 yX1_tellerOf, Cond.instanceMethod yX1_tellerOf, Cond.selects RX1 yX1_tellerOf yX1_tellerOf, Cond.code yX1_tellerOf cX1_tellerOf 3 (some .int), Cond.methodLink RX1 83 yX1_isTrue, Cond.instanceMethod yX1_isTrue, Cond.selects RX1 yX1_isTrue yX1_isTrue]
def wsL_law_r26 : List Cond := [Cond.code yX1_isTrue cX1_isTrue 3 (some .boolean), Cond.methodLink RL 54 yX8_endAct, Cond.instanceMethod yX8_endAct, Cond.selects RX8 yX8_endAct yX8_endAct, Cond.code yX8_endAct cX8_endAct 2 (some .int), Cond.methodLink RL 55 yX7_person, Cond.instanceMethod yX7_person, Cond.selects RX7 yX7_person yX7_person, Cond.code yX7_person cX7_person 3 (some .int), Cond.methodLink RX7 160 yX1_toldBy, Cond.instanceMethod yX1_toldBy, Cond.selects RX1 yX1_toldBy yX1_toldBy, Cond.code yX1_toldBy cX1_toldBy 4 (some .int), Cond.methodLink RX7 163 yX1_toldTrulyBy, Cond.instanceMethod yX1_toldTrulyBy, Cond.selects RX1 yX1_toldTrulyBy yX1_toldTrulyBy, Cond.code yX1_toldTrulyBy cX1_toldTrulyBy 4 (some .int), Cond.methodLink RX7 166 yX7_watchers, Cond.methodLink RL 58 yX8_person, Cond.instanceMethod yX8_person, Cond.selects RX8 yX8_person yX8_person, Cond.code yX8_person cX8_person 3 (some .int), Cond.methodLink RX8 162 yX8_told, Cond.instanceMethod yX8_told]
def wsL_law_r27 : List Cond := [Cond.selects RX8 yX8_told yX8_told, Cond.code yX8_told cX8_told 5 (some .int), Cond.methodLink RL 59 yX7_rumour, Cond.instanceMethod yX7_rumour, Cond.selects RX7 yX7_rumour yX7_rumour, Cond.code yX7_rumour cX7_rumour 4 (some .int), Cond.methodLink RX7 181 yX3_holdsIn, Cond.methodLink RL 62 yX8_rumour, Cond.instanceMethod yX8_rumour, Cond.selects RX8 yX8_rumour yX8_rumour, Cond.code yX8_rumour cX8_rumour 3 (some .int), Cond.methodLink RL 63 yX7_count, Cond.instanceMethod yX7_count, Cond.selects RX7 yX7_count yX7_count, Cond.code yX7_count cX7_count 2 (some .int), Cond.methodLink RX7 188 yX1_openRumours, Cond.instanceMethod yX1_openRumours, Cond.selects RX1 yX1_openRumours yX1_openRumours, Cond.code yX1_openRumours cX1_openRumours 3 (some .int), Cond.methodLink RX1 65 yX1_isOpen, Cond.instanceMethod yX1_isOpen, Cond.selects RX1 yX1_isOpen yX1_isOpen, Cond.code yX1_isOpen cX1_isOpen 3 (some .boolean), Cond.methodLink RX7 191 yX1_firstBroken]
def wsL_law_r28 : List Cond := [Cond.methodLink RX7 195 yX5_certainPersons, Cond.instanceMethod yX5_certainPersons, Cond.selects RX5 yX5_certainPersons yX5_certainPersons, Cond.code yX5_certainPersons cX5_certainPersons 4 (some .int), Cond.methodLink RX5 96 yX5_certainBox, Cond.instanceMethod yX5_certainBox, Cond.selects RX5 yX5_certainBox yX5_certainBox, Cond.code yX5_certainBox cX5_certainBox 3 (some .int), Cond.methodLink RX5 88 yX5_lookingAt, Cond.methodLink RX5 92 yX5_isCertain, Cond.methodLink RX7 198 yX5_openCertain, Cond.instanceMethod yX5_openCertain, Cond.selects RX5 yX5_openCertain yX5_openCertain, Cond.code yX5_openCertain cX5_openCertain 4 (some .int), Cond.methodLink RX5 99 yX1_isOpen, Cond.methodLink RX7 202 yX5_openRuledOut, Cond.instanceMethod yX5_openRuledOut, Cond.selects RX5 yX5_openRuledOut yX5_openRuledOut, Cond.code yX5_openRuledOut cX5_openRuledOut 4 (some .int), Cond.methodLink RX5 102 yX5_isRuledOut, Cond.methodLink RL 66 yX8_count, Cond.instanceMethod yX8_count, Cond.selects RX8 yX8_count yX8_count, Cond.code yX8_count cX8_count 2 (some .int)]
def wsL_law_r29 : List Cond := [Cond.methodLink RX8 166 yX8_openMany, Cond.instanceMethod yX8_openMany, Cond.selects RX8 yX8_openMany yX8_openMany, Cond.code yX8_openMany cX8_openMany 3 (some .int), Cond.methodLink RX8 169 yX8_isTruthPossible, Cond.instanceMethod yX8_isTruthPossible, Cond.selects RX8 yX8_isTruthPossible yX8_isTruthPossible, Cond.code yX8_isTruthPossible cX8_isTruthPossible 1 (some .boolean), Cond.methodLink RX8 172 yX8_certainPersons, Cond.instanceMethod yX8_certainPersons, Cond.selects RX8 yX8_certainPersons yX8_certainPersons, Cond.code yX8_certainPersons cX8_certainPersons 3 (some .int), Cond.methodLink RX8 175 yX8_certainRumours, Cond.instanceMethod yX8_certainRumours, Cond.selects RX8 yX8_certainRumours yX8_certainRumours, Cond.code yX8_certainRumours cX8_certainRumours 4 (some .int), Cond.methodLink RL 67 yX7_possible, Cond.instanceMethod yX7_possible, Cond.selects RX7 yX7_possible yX7_possible, Cond.code yX7_possible cX7_possible 3 (some .int), Cond.methodLink RL 70 yX8_possible, Cond.instanceMethod yX8_possible, Cond.selects RX8 yX8_possible yX8_possible, Cond.code yX8_possible cX8_possible 3 (some .int)]
def wsL_law_r30 : List Cond := [Cond.methodLink RL 71 yX7_certain, Cond.instanceMethod yX7_certain, Cond.selects RX7 yX7_certain yX7_certain, Cond.code yX7_certain cX7_certain 2 (some .int), Cond.methodLink RX7 215 yX5_certainBox, Cond.methodLink RL 74 yX8_certain, Cond.instanceMethod yX8_certain, Cond.selects RX8 yX8_certain yX8_certain, Cond.code yX8_certain cX8_certain 2 (some .int), Cond.methodLink RL 75 yX7_world, Cond.instanceMethod yX7_world, Cond.selects RX7 yX7_world yX7_world, Cond.code yX7_world cX7_world 3 (some .int), Cond.methodLink RX7 218 yX5_boxInWorld, Cond.instanceMethod yX5_boxInWorld, Cond.selects RX5 yX5_boxInWorld yX5_boxInWorld, Cond.code yX5_boxInWorld cX5_boxInWorld 6 (some .int), Cond.methodLink RL 78 yX8_world, Cond.instanceMethod yX8_world, Cond.selects RX8 yX8_world yX8_world, Cond.code yX8_world cX8_world 7 (some .int), Cond.methodLink RL 79 yX7_ifProved, Cond.instanceMethod yX7_ifProved, Cond.selects RX7 yX7_ifProved yX7_ifProved]
def wsL_law_r31 : List Cond := [Cond.code yX7_ifProved cX7_ifProved 4 (some .int), Cond.methodLink RX7 222 yX5_worldsWith, Cond.instanceMethod yX5_worldsWith, Cond.selects RX5 yX5_worldsWith yX5_worldsWith, Cond.code yX5_worldsWith cX5_worldsWith 7 (some .int), Cond.methodLink RX5 113 yX3_become, Cond.methodLink RL 82 yX8_ifProved, Cond.instanceMethod yX8_ifProved, Cond.selects RX8 yX8_ifProved yX8_ifProved, Cond.code yX8_ifProved cX8_ifProved 7 (some .int), Cond.methodLink RL 83 yX7_sharpest, Cond.instanceMethod yX7_sharpest, Cond.selects RX7 yX7_sharpest yX7_sharpest, Cond.code yX7_sharpest cX7_sharpest 3 (some .int), Cond.methodLink RX7 226 yX5_sharpestRumour, Cond.instanceMethod yX5_sharpestRumour, Cond.selects RX5 yX5_sharpestRumour yX5_sharpestRumour, Cond.code yX5_sharpestRumour cX5_sharpestRumour 4 (some .int), Cond.methodLink RX5 110 yX5_worseOutcome, Cond.instanceMethod yX5_worseOutcome, Cond.selects RX5 yX5_worseOutcome yX5_worseOutcome, Cond.code yX5_worseOutcome cX5_worseOutcome 3 (some .int), Cond.methodLink RX5 105 Lib.Math.max.name, Cond.methodLink RX7 229 yX5_worseOutcome]
def wsL_law_r32 : List Cond := [Cond.methodLink RL 86 yX8_sharpest, Cond.instanceMethod yX8_sharpest, Cond.selects RX8 yX8_sharpest yX8_sharpest, Cond.code yX8_sharpest cX8_sharpest 7 (some .int), Cond.methodLink RL 87 yX7_blame, Cond.instanceMethod yX7_blame, Cond.selects RX7 yX7_blame yX7_blame, Cond.code yX7_blame cX7_blame 3 (some .int), Cond.methodLink RX7 232 yX5_mostToBlame, Cond.instanceMethod yX5_mostToBlame, Cond.selects RX5 yX5_mostToBlame yX5_mostToBlame, Cond.code yX5_mostToBlame cX5_mostToBlame 4 (some .int), Cond.methodLink RL 90 yX8_blame, Cond.instanceMethod yX8_blame, Cond.selects RX8 yX8_blame yX8_blame, Cond.code yX8_blame cX8_blame 6 (some .int), Cond.methodLink RL 91 yX7_mostWatched, Cond.instanceMethod yX7_mostWatched, Cond.selects RX7 yX7_mostWatched yX7_mostWatched, Cond.code yX7_mostWatched cX7_mostWatched 2 (some .int), Cond.methodLink RX7 238 yX5_findMostWatched, Cond.instanceMethod yX5_findMostWatched, Cond.selects RX5 yX5_findMostWatched yX5_findMostWatched, Cond.code yX5_findMostWatched cX5_findMostWatched 4 none]
def wsL_law_r33 : List Cond := [Cond.fieldLink RX5 117 "OperaGlasses$Survey" "mostWatchedPerson" "I", Cond.fieldLink RX5 120 "OperaGlasses$Survey" "mostWatchers" "I", Cond.methodLink RX5 126 yX5_compareWatchers, Cond.instanceMethod yX5_compareWatchers, Cond.selects RX5 yX5_compareWatchers yX5_compareWatchers, Cond.code yX5_compareWatchers cX5_compareWatchers 3 none, Cond.methodLink RL 94 yX8_mostWatched, Cond.instanceMethod yX8_mostWatched, Cond.selects RX8 yX8_mostWatched yX8_mostWatched, Cond.code yX8_mostWatched cX8_mostWatched 2 (some .int), Cond.methodLink RL 97 yX7_put, Cond.instanceMethod yX7_put, Cond.selects RX7 yX7_put yX7_put, Cond.code yX7_put cX7_put 5 (some .int), Cond.constantLong RX7 252 (255), Cond.methodLink RX7 248 yX7_lengthOfText, Cond.static yX7_lengthOfText, Cond.code yX7_lengthOfText cX7_lengthOfText 7 (some .int), Cond.constantLong RX7 290 (33), Cond.constantLong RX7 292 (126), Cond.methodLink RX7 254 yX2_append, Cond.instanceMethod yX2_append, Cond.selects RX2 yX2_append yX2_append, Cond.code yX2_append cX2_append 2 none]
def wsL_law_r34 : List Cond := [Cond.methodLink RL 101 yX8_put, Cond.instanceMethod yX8_put, Cond.selects RX8 yX8_put yX8_put, Cond.code yX8_put cX8_put 8 (some .int), Cond.constantLong RX8 179 (255), Cond.methodLink RL 102 yX7_wipe, Cond.instanceMethod yX7_wipe, Cond.selects RX7 yX7_wipe yX7_wipe, Cond.code yX7_wipe cX7_wipe 2 (some .int), Cond.methodLink RL 105 yX8_wipe, Cond.instanceMethod yX8_wipe, Cond.selects RX8 yX8_wipe yX8_wipe, Cond.code yX8_wipe cX8_wipe 2 (some .int), Cond.methodLink RL 106 yX7_fault, Cond.instanceMethod yX7_fault, Cond.selects RX7 yX7_fault yX7_fault, Cond.code yX7_fault cX7_fault 1 (some .int), Cond.methodLink RL 109 yX8_fault, Cond.instanceMethod yX8_fault, Cond.selects RX8 yX8_fault yX8_fault, Cond.code yX8_fault cX8_fault 1 (some .int), Cond.methodLink RL 110 yX7_undo, Cond.instanceMethod yX7_undo, Cond.selects RX7 yX7_undo yX7_undo]
def wsL_law_r35 : List Cond := [Cond.code yX7_undo cX7_undo 1 (some .int), Cond.methodLink RX7 258 yX0_takeBack, Cond.instanceMethod yX0_takeBack, Cond.selects RX0 yX0_takeBack yX0_takeBack, Cond.code yX0_takeBack cX0_takeBack 4 none, Cond.methodLink RL 113 yX8_undo, Cond.instanceMethod yX8_undo, Cond.selects RX8 yX8_undo yX8_undo, Cond.code yX8_undo cX8_undo 1 (some .int), Cond.methodLink RL 114 yX7_save, Cond.instanceMethod yX7_save, Cond.selects RX7 yX7_save yX7_save, Cond.code yX7_save cX7_save 3 (some .int), Cond.methodLink RX7 265 yX7_slotAt, Cond.instanceMethod yX7_slotAt, Cond.selects RX7 yX7_slotAt yX7_slotAt, Cond.code yX7_slotAt cX7_slotAt 2 (some (.object "OperaGlasses$Slot")), Cond.methodLink RX7 272 yX1_copyFrom, Cond.methodLink RL 117 yX8_save, Cond.instanceMethod yX8_save, Cond.selects RX8 yX8_save yX8_save, Cond.code yX8_save cX8_save 2 (some .int), Cond.methodLink RL 118 yX7_restore, Cond.instanceMethod yX7_restore]
def wsL_law_r36 : List Cond := [Cond.selects RX7 yX7_restore yX7_restore, Cond.code yX7_restore cX7_restore 3 (some .int), Cond.methodLink RL 121 yX8_restore, Cond.instanceMethod yX8_restore, Cond.selects RX8 yX8_restore yX8_restore, Cond.code yX8_restore cX8_restore 2 (some .int)]
def wsL_law : List Cond := (wsL_law_r1 ++ (wsL_law_r2 ++ (wsL_law_r3 ++ (wsL_law_r4 ++ (wsL_law_r5 ++ (wsL_law_r6 ++ (wsL_law_r7 ++ (wsL_law_r8 ++ (wsL_law_r9 ++ (wsL_law_r10 ++ (wsL_law_r11 ++ (wsL_law_r12 ++ (wsL_law_r13 ++ (wsL_law_r14 ++ (wsL_law_r15 ++ (wsL_law_r16 ++ (wsL_law_r17 ++ (wsL_law_r18 ++ (wsL_law_r19 ++ (wsL_law_r20 ++ (wsL_law_r21 ++ (wsL_law_r22 ++ (wsL_law_r23 ++ (wsL_law_r24 ++ (wsL_law_r25 ++ (wsL_law_r26 ++ (wsL_law_r27 ++ (wsL_law_r28 ++ (wsL_law_r29 ++ (wsL_law_r30 ++ (wsL_law_r31 ++ (wsL_law_r32 ++ (wsL_law_r33 ++ (wsL_law_r34 ++ (wsL_law_r35 ++ wsL_law_r36))))))))))))))))))))))))))))))))))) ++ wsX70 ++ wsX80 ++ wsX10 ++ wsX00 ++ wsX40 ++ wsX20 ++ wsX50 ++ wsX30 ++ wsX60 ++ ([] : List Cond)
theorem tmS : ∀ w ∈ k2_sels lw_privs, w ∈ lw_tbl := fun _ h => List.mem_append_left _ h
theorem tm1 : ∀ w ∈ tables_1_1, w ∈ lw_tbl := fun _ h => List.mem_append_right _ (List.mem_append_left _ h)
theorem tm2 : ∀ w ∈ tables_1_2, w ∈ lw_tbl := fun _ h => List.mem_append_right _ (List.mem_append_right _ (List.mem_append_left _ h))
theorem tm3 : ∀ w ∈ tables_1_3, w ∈ lw_tbl := fun _ h => List.mem_append_right _ (List.mem_append_right _ (List.mem_append_right _ (List.mem_append_left _ h)))
theorem tm4 : ∀ w ∈ tables_1_4, w ∈ lw_tbl := fun _ h => List.mem_append_right _ (List.mem_append_right _ (List.mem_append_right _ (List.mem_append_right _ (List.mem_append_left _ h))))
theorem tm5 : ∀ w ∈ tables_1_5, w ∈ lw_tbl := fun _ h => List.mem_append_right _ (List.mem_append_right _ (List.mem_append_right _ (List.mem_append_right _ (List.mem_append_right _ (h)))))
theorem tmI {A : List Cond} (hA : ∀ w ∈ A, w ∈ lw_tbl) {i : Nat} {w : Cond} (h : A[i]? = some w) : w ∈ lw_tbl := hA w (List.mem_of_getElem? h)
set_option maxRecDepth 20000 in
theorem wi_1 : ∀ w ∈ wsL_law_r1, w ∈ lw_tbl := List.forall_mem_cons.mpr ⟨tmI tm1 (i := 16) rfl, List.forall_mem_cons.mpr ⟨tmI tm1 (i := 17) rfl, List.forall_mem_cons.mpr ⟨tmI tm1 (i := 1) rfl, List.forall_mem_cons.mpr ⟨tmI tm3 (i := 227) rfl, List.forall_mem_cons.mpr ⟨tmI tm3 (i := 228) rfl, List.forall_mem_cons.mpr ⟨tmI tm1 (i := 9) rfl, List.forall_mem_cons.mpr ⟨tmI tm5 (i := 54) rfl, List.forall_mem_cons.mpr ⟨tmI tm1 (i := 18) rfl, List.forall_mem_cons.mpr ⟨tmI tm1 (i := 19) rfl, List.forall_mem_cons.mpr ⟨tmI tm1 (i := 20) rfl, List.forall_mem_cons.mpr ⟨tmI tm1 (i := 21) rfl, List.forall_mem_cons.mpr ⟨tmI tm1 (i := 22) rfl, List.forall_mem_cons.mpr ⟨tmI tm1 (i := 23) rfl, List.forall_mem_cons.mpr ⟨tmI tm1 (i := 24) rfl, List.forall_mem_cons.mpr ⟨tmI tm1 (i := 25) rfl, List.forall_mem_cons.mpr ⟨tmI tm1 (i := 2) rfl, List.forall_mem_cons.mpr ⟨tmI tm1 (i := 201) rfl, List.forall_mem_cons.mpr ⟨tmI tm1 (i := 91) rfl, List.forall_mem_cons.mpr ⟨tmI tm1 (i := 92) rfl, List.forall_mem_cons.mpr ⟨tmI tm1 (i := 4) rfl, List.forall_mem_cons.mpr ⟨tmI tm1 (i := 202) rfl, List.forall_mem_cons.mpr ⟨tmI tm1 (i := 111) rfl, List.forall_mem_cons.mpr ⟨tmI tm1 (i := 112) rfl, List.forall_mem_cons.mpr ⟨tmI tm1 (i := 5) rfl, fun _ h => absurd h List.not_mem_nil⟩⟩⟩⟩⟩⟩⟩⟩⟩⟩⟩⟩⟩⟩⟩⟩⟩⟩⟩⟩⟩⟩⟩⟩
set_option maxRecDepth 20000 in
theorem wi_2 : ∀ w ∈ wsL_law_r2, w ∈ lw_tbl := List.forall_mem_cons.mpr ⟨tmI tm1 (i := 203) rfl, List.forall_mem_cons.mpr ⟨tmI tm1 (i := 204) rfl, List.forall_mem_cons.mpr ⟨tmI tm1 (i := 127) rfl, List.forall_mem_cons.mpr ⟨tmI tm1 (i := 128) rfl, List.forall_mem_cons.mpr ⟨tmI tm1 (i := 6) rfl, List.forall_mem_cons.mpr ⟨tmI tm1 (i := 205) rfl, List.forall_mem_cons.mpr ⟨tmI tm1 (i := 142) rfl, List.forall_mem_cons.mpr ⟨tmI tm1 (i := 143) rfl, List.forall_mem_cons.mpr ⟨tmI tm1 (i := 7) rfl, List.forall_mem_cons.mpr ⟨tmI tm1 (i := 206) rfl, List.forall_mem_cons.mpr ⟨tmI tm1 (i := 26) rfl, List.forall_mem_cons.mpr ⟨tmI tm1 (i := 27) rfl, List.forall_mem_cons.mpr ⟨tmI tm1 (i := 28) rfl, List.forall_mem_cons.mpr ⟨tmI tm1 (i := 29) rfl, List.forall_mem_cons.mpr ⟨tmI tm1 (i := 60) rfl, List.forall_mem_cons.mpr ⟨tmI tm1 (i := 69) rfl, List.forall_mem_cons.mpr ⟨tmI tm1 (i := 71) rfl, List.forall_mem_cons.mpr ⟨tmI tm1 (i := 73) rfl, List.forall_mem_cons.mpr ⟨tmI tm1 (i := 30) rfl, List.forall_mem_cons.mpr ⟨tmI tm1 (i := 75) rfl, List.forall_mem_cons.mpr ⟨tmI tm1 (i := 32) rfl, List.forall_mem_cons.mpr ⟨tmI tm1 (i := 3) rfl, List.forall_mem_cons.mpr ⟨tmI tm1 (i := 34) rfl, List.forall_mem_cons.mpr ⟨tmI tm1 (i := 35) rfl, fun _ h => absurd h List.not_mem_nil⟩⟩⟩⟩⟩⟩⟩⟩⟩⟩⟩⟩⟩⟩⟩⟩⟩⟩⟩⟩⟩⟩⟩⟩
set_option maxRecDepth 20000 in
theorem wi_3 : ∀ w ∈ wsL_law_r3, w ∈ lw_tbl := List.forall_mem_cons.mpr ⟨tmI tm1 (i := 36) rfl, List.forall_mem_cons.mpr ⟨tmI tm1 (i := 93) rfl, List.forall_mem_cons.mpr ⟨tmI tm1 (i := 94) rfl, List.forall_mem_cons.mpr ⟨tmI tm1 (i := 95) rfl, List.forall_mem_cons.mpr ⟨tmI tm1 (i := 96) rfl, List.forall_mem_cons.mpr ⟨tmI tm1 (i := 97) rfl, List.forall_mem_cons.mpr ⟨tmI tm1 (i := 100) rfl, List.forall_mem_cons.mpr ⟨tmI tm1 (i := 99) rfl, List.forall_mem_cons.mpr ⟨tmI tm1 (i := 114) rfl, List.forall_mem_cons.mpr ⟨tmI tm1 (i := 115) rfl, List.forall_mem_cons.mpr ⟨tmI tm1 (i := 116) rfl, List.forall_mem_cons.mpr ⟨tmI tm1 (i := 117) rfl, List.forall_mem_cons.mpr ⟨tmI tm1 (i := 119) rfl, List.forall_mem_cons.mpr ⟨tmI tm1 (i := 118) rfl, List.forall_mem_cons.mpr ⟨tmI tm1 (i := 130) rfl, List.forall_mem_cons.mpr ⟨tmI tm1 (i := 131) rfl, List.forall_mem_cons.mpr ⟨tmI tm1 (i := 132) rfl, List.forall_mem_cons.mpr ⟨tmI tm1 (i := 141) rfl, List.forall_mem_cons.mpr ⟨tmI tm1 (i := 133) rfl, List.forall_mem_cons.mpr ⟨tmI tm1 (i := 145) rfl, List.forall_mem_cons.mpr ⟨tmI tm1 (i := 146) rfl, List.forall_mem_cons.mpr ⟨tmI tm1 (i := 147) rfl, List.forall_mem_cons.mpr ⟨tmI tm1 (i := 148) rfl, List.forall_mem_cons.mpr ⟨tmI tm1 (i := 149) rfl, fun _ h => absurd h List.not_mem_nil⟩⟩⟩⟩⟩⟩⟩⟩⟩⟩⟩⟩⟩⟩⟩⟩⟩⟩⟩⟩⟩⟩⟩⟩
set_option maxRecDepth 20000 in
theorem wi_4 : ∀ w ∈ wsL_law_r4, w ∈ lw_tbl := List.forall_mem_cons.mpr ⟨tmI tm1 (i := 8) rfl, List.forall_mem_cons.mpr ⟨tmI tm1 (i := 164) rfl, List.forall_mem_cons.mpr ⟨tmI tm1 (i := 171) rfl, List.forall_mem_cons.mpr ⟨tmI tm1 (i := 172) rfl, List.forall_mem_cons.mpr ⟨tmI tm1 (i := 174) rfl, List.forall_mem_cons.mpr ⟨tmI tm1 (i := 162) rfl, List.forall_mem_cons.mpr ⟨tmI tm1 (i := 176) rfl, List.forall_mem_cons.mpr ⟨tmI tm1 (i := 151) rfl, List.forall_mem_cons.mpr ⟨tmI tm1 (i := 152) rfl, List.forall_mem_cons.mpr ⟨tmI tm1 (i := 153) rfl, List.forall_mem_cons.mpr ⟨tmI tm1 (i := 155) rfl, List.forall_mem_cons.mpr ⟨tmI tm1 (i := 194) rfl, List.forall_mem_cons.mpr ⟨tmI tm1 (i := 195) rfl, List.forall_mem_cons.mpr ⟨tmI tm1 (i := 196) rfl, List.forall_mem_cons.mpr ⟨tmI tm1 (i := 197) rfl, List.forall_mem_cons.mpr ⟨tmI tm1 (i := 61) rfl, List.forall_mem_cons.mpr ⟨tmI tm1 (i := 64) rfl, List.forall_mem_cons.mpr ⟨tmI tm1 (i := 66) rfl, List.forall_mem_cons.mpr ⟨tmI tm1 (i := 199) rfl, List.forall_mem_cons.mpr ⟨tmI tm1 (i := 200) rfl, List.forall_mem_cons.mpr ⟨tmI tm3 (i := 229) rfl, List.forall_mem_cons.mpr ⟨tmI tm3 (i := 230) rfl, List.forall_mem_cons.mpr ⟨tmI tm3 (i := 231) rfl, List.forall_mem_cons.mpr ⟨tmI tm3 (i := 232) rfl, fun _ h => absurd h List.not_mem_nil⟩⟩⟩⟩⟩⟩⟩⟩⟩⟩⟩⟩⟩⟩⟩⟩⟩⟩⟩⟩⟩⟩⟩⟩
set_option maxRecDepth 20000 in
theorem wi_5 : ∀ w ∈ wsL_law_r5, w ∈ lw_tbl := List.forall_mem_cons.mpr ⟨tmI tm3 (i := 237) rfl, List.forall_mem_cons.mpr ⟨tmI tm3 (i := 238) rfl, List.forall_mem_cons.mpr ⟨tmI tm4 (i := 0) rfl, List.forall_mem_cons.mpr ⟨tmI tm4 (i := 1) rfl, List.forall_mem_cons.mpr ⟨tmI tm4 (i := 2) rfl, List.forall_mem_cons.mpr ⟨tmI tm4 (i := 4) rfl, List.forall_mem_cons.mpr ⟨tmI tm4 (i := 6) rfl, List.forall_mem_cons.mpr ⟨tmI tm4 (i := 7) rfl, List.forall_mem_cons.mpr ⟨tmI tm4 (i := 8) rfl, List.forall_mem_cons.mpr ⟨tmI tm3 (i := 233) rfl, List.forall_mem_cons.mpr ⟨tmI tm3 (i := 235) rfl, List.forall_mem_cons.mpr ⟨tmI tmS (i := 13) rfl, List.forall_mem_cons.mpr ⟨tmI tm3 (i := 236) rfl, List.forall_mem_cons.mpr ⟨tmI tm1 (i := 223) rfl, List.forall_mem_cons.mpr ⟨tmI tm1 (i := 224) rfl, List.forall_mem_cons.mpr ⟨tmI tm1 (i := 225) rfl, List.forall_mem_cons.mpr ⟨tmI tm1 (i := 226) rfl, List.forall_mem_cons.mpr ⟨tmI tm1 (i := 227) rfl, List.forall_mem_cons.mpr ⟨tmI tm1 (i := 229) rfl, List.forall_mem_cons.mpr ⟨tmI tmS (i := 0) rfl, List.forall_mem_cons.mpr ⟨tmI tm1 (i := 230) rfl, List.forall_mem_cons.mpr ⟨tmI tm1 (i := 207) rfl, List.forall_mem_cons.mpr ⟨tmI tm1 (i := 231) rfl, List.forall_mem_cons.mpr ⟨tmI tm1 (i := 232) rfl, fun _ h => absurd h List.not_mem_nil⟩⟩⟩⟩⟩⟩⟩⟩⟩⟩⟩⟩⟩⟩⟩⟩⟩⟩⟩⟩⟩⟩⟩⟩
set_option maxRecDepth 20000 in
theorem wi_6 : ∀ w ∈ wsL_law_r6, w ∈ lw_tbl := List.forall_mem_cons.mpr ⟨tmI tm1 (i := 233) rfl, List.forall_mem_cons.mpr ⟨tmI tm1 (i := 234) rfl, List.forall_mem_cons.mpr ⟨tmI tm1 (i := 103) rfl, List.forall_mem_cons.mpr ⟨tmI tm1 (i := 101) rfl, List.forall_mem_cons.mpr ⟨tmI tm2 (i := 18) rfl, List.forall_mem_cons.mpr ⟨tmI tm2 (i := 19) rfl, List.forall_mem_cons.mpr ⟨tmI tm1 (i := 10) rfl, List.forall_mem_cons.mpr ⟨tmI tm2 (i := 20) rfl, List.forall_mem_cons.mpr ⟨tmI tm1 (i := 235) rfl, List.forall_mem_cons.mpr ⟨tmI tm1 (i := 237) rfl, List.forall_mem_cons.mpr ⟨tmI tmS (i := 1) rfl, List.forall_mem_cons.mpr ⟨tmI tm1 (i := 238) rfl, List.forall_mem_cons.mpr ⟨tmI tm1 (i := 239) rfl, List.forall_mem_cons.mpr ⟨tmI tm2 (i := 0) rfl, List.forall_mem_cons.mpr ⟨tmI tm2 (i := 1) rfl, List.forall_mem_cons.mpr ⟨tmI tm2 (i := 2) rfl, List.forall_mem_cons.mpr ⟨tmI tm2 (i := 4) rfl, List.forall_mem_cons.mpr ⟨tmI tm2 (i := 5) rfl, List.forall_mem_cons.mpr ⟨tmI tm2 (i := 6) rfl, List.forall_mem_cons.mpr ⟨tmI tm2 (i := 7) rfl, List.forall_mem_cons.mpr ⟨tmI tm2 (i := 8) rfl, List.forall_mem_cons.mpr ⟨tmI tm2 (i := 9) rfl, List.forall_mem_cons.mpr ⟨tmI tm2 (i := 10) rfl, List.forall_mem_cons.mpr ⟨tmI tm2 (i := 11) rfl, fun _ h => absurd h List.not_mem_nil⟩⟩⟩⟩⟩⟩⟩⟩⟩⟩⟩⟩⟩⟩⟩⟩⟩⟩⟩⟩⟩⟩⟩⟩
set_option maxRecDepth 20000 in
theorem wi_7 : ∀ w ∈ wsL_law_r7, w ∈ lw_tbl := List.forall_mem_cons.mpr ⟨tmI tm2 (i := 12) rfl, List.forall_mem_cons.mpr ⟨tmI tm2 (i := 13) rfl, List.forall_mem_cons.mpr ⟨tmI tm1 (i := 37) rfl, List.forall_mem_cons.mpr ⟨tmI tm1 (i := 40) rfl, List.forall_mem_cons.mpr ⟨tmI tm1 (i := 42) rfl, List.forall_mem_cons.mpr ⟨tmI tm1 (i := 44) rfl, List.forall_mem_cons.mpr ⟨tmI tm1 (i := 46) rfl, List.forall_mem_cons.mpr ⟨tmI tm2 (i := 14) rfl, List.forall_mem_cons.mpr ⟨tmI tm2 (i := 15) rfl, List.forall_mem_cons.mpr ⟨tmI tm2 (i := 16) rfl, List.forall_mem_cons.mpr ⟨tmI tm2 (i := 17) rfl, List.forall_mem_cons.mpr ⟨tmI tm4 (i := 55) rfl, List.forall_mem_cons.mpr ⟨tmI tm4 (i := 56) rfl, List.forall_mem_cons.mpr ⟨tmI tm4 (i := 57) rfl, List.forall_mem_cons.mpr ⟨tmI tm4 (i := 58) rfl, List.forall_mem_cons.mpr ⟨tmI tm4 (i := 59) rfl, List.forall_mem_cons.mpr ⟨tmI tm4 (i := 60) rfl, List.forall_mem_cons.mpr ⟨tmI tm4 (i := 61) rfl, List.forall_mem_cons.mpr ⟨tmI tm4 (i := 62) rfl, List.forall_mem_cons.mpr ⟨tmI tm4 (i := 64) rfl, List.forall_mem_cons.mpr ⟨tmI tmS (i := 14) rfl, List.forall_mem_cons.mpr ⟨tmI tm4 (i := 65) rfl, List.forall_mem_cons.mpr ⟨tmI tm3 (i := 239) rfl, List.forall_mem_cons.mpr ⟨tmI tm4 (i := 66) rfl, fun _ h => absurd h List.not_mem_nil⟩⟩⟩⟩⟩⟩⟩⟩⟩⟩⟩⟩⟩⟩⟩⟩⟩⟩⟩⟩⟩⟩⟩⟩
set_option maxRecDepth 20000 in
theorem wi_8 : ∀ w ∈ wsL_law_r8, w ∈ lw_tbl := List.forall_mem_cons.mpr ⟨tmI tm4 (i := 67) rfl, List.forall_mem_cons.mpr ⟨tmI tm4 (i := 68) rfl, List.forall_mem_cons.mpr ⟨tmI tm2 (i := 21) rfl, List.forall_mem_cons.mpr ⟨tmI tm2 (i := 22) rfl, List.forall_mem_cons.mpr ⟨tmI tm2 (i := 23) rfl, List.forall_mem_cons.mpr ⟨tmI tm2 (i := 24) rfl, List.forall_mem_cons.mpr ⟨tmI tm2 (i := 25) rfl, List.forall_mem_cons.mpr ⟨tmI tm2 (i := 26) rfl, List.forall_mem_cons.mpr ⟨tmI tm2 (i := 27) rfl, List.forall_mem_cons.mpr ⟨tmI tm2 (i := 28) rfl, List.forall_mem_cons.mpr ⟨tmI tm2 (i := 29) rfl, List.forall_mem_cons.mpr ⟨tmI tm2 (i := 30) rfl, List.forall_mem_cons.mpr ⟨tmI tm2 (i := 31) rfl, List.forall_mem_cons.mpr ⟨tmI tm2 (i := 32) rfl, List.forall_mem_cons.mpr ⟨tmI tm2 (i := 33) rfl, List.forall_mem_cons.mpr ⟨tmI tm2 (i := 34) rfl, List.forall_mem_cons.mpr ⟨tmI tm4 (i := 69) rfl, List.forall_mem_cons.mpr ⟨tmI tm4 (i := 70) rfl, List.forall_mem_cons.mpr ⟨tmI tm4 (i := 71) rfl, List.forall_mem_cons.mpr ⟨tmI tm4 (i := 72) rfl, List.forall_mem_cons.mpr ⟨tmI tm4 (i := 73) rfl, List.forall_mem_cons.mpr ⟨tmI tm4 (i := 75) rfl, List.forall_mem_cons.mpr ⟨tmI tmS (i := 15) rfl, List.forall_mem_cons.mpr ⟨tmI tm4 (i := 76) rfl, fun _ h => absurd h List.not_mem_nil⟩⟩⟩⟩⟩⟩⟩⟩⟩⟩⟩⟩⟩⟩⟩⟩⟩⟩⟩⟩⟩⟩⟩⟩
set_option maxRecDepth 20000 in
theorem wi_9 : ∀ w ∈ wsL_law_r9, w ∈ lw_tbl := List.forall_mem_cons.mpr ⟨tmI tm2 (i := 35) rfl, List.forall_mem_cons.mpr ⟨tmI tm2 (i := 36) rfl, List.forall_mem_cons.mpr ⟨tmI tm2 (i := 37) rfl, List.forall_mem_cons.mpr ⟨tmI tm2 (i := 38) rfl, List.forall_mem_cons.mpr ⟨tmI tm2 (i := 39) rfl, List.forall_mem_cons.mpr ⟨tmI tm2 (i := 40) rfl, List.forall_mem_cons.mpr ⟨tmI tm2 (i := 41) rfl, List.forall_mem_cons.mpr ⟨tmI tm2 (i := 42) rfl, List.forall_mem_cons.mpr ⟨tmI tm2 (i := 43) rfl, List.forall_mem_cons.mpr ⟨tmI tm2 (i := 44) rfl, List.forall_mem_cons.mpr ⟨tmI tm2 (i := 45) rfl, List.forall_mem_cons.mpr ⟨tmI tm2 (i := 46) rfl, List.forall_mem_cons.mpr ⟨tmI tm2 (i := 47) rfl, List.forall_mem_cons.mpr ⟨tmI tm2 (i := 48) rfl, List.forall_mem_cons.mpr ⟨tmI tm2 (i := 49) rfl, List.forall_mem_cons.mpr ⟨tmI tm2 (i := 50) rfl, List.forall_mem_cons.mpr ⟨tmI tm2 (i := 51) rfl, List.forall_mem_cons.mpr ⟨tmI tm2 (i := 52) rfl, List.forall_mem_cons.mpr ⟨tmI tm2 (i := 53) rfl, List.forall_mem_cons.mpr ⟨tmI tm4 (i := 77) rfl, List.forall_mem_cons.mpr ⟨tmI tm4 (i := 78) rfl, List.forall_mem_cons.mpr ⟨tmI tm4 (i := 79) rfl, List.forall_mem_cons.mpr ⟨tmI tm4 (i := 80) rfl, List.forall_mem_cons.mpr ⟨tmI tm4 (i := 81) rfl, fun _ h => absurd h List.not_mem_nil⟩⟩⟩⟩⟩⟩⟩⟩⟩⟩⟩⟩⟩⟩⟩⟩⟩⟩⟩⟩⟩⟩⟩⟩
set_option maxRecDepth 20000 in
theorem wi_10 : ∀ w ∈ wsL_law_r10, w ∈ lw_tbl := List.forall_mem_cons.mpr ⟨tmI tm4 (i := 83) rfl, List.forall_mem_cons.mpr ⟨tmI tmS (i := 16) rfl, List.forall_mem_cons.mpr ⟨tmI tm4 (i := 84) rfl, List.forall_mem_cons.mpr ⟨tmI tm4 (i := 85) rfl, List.forall_mem_cons.mpr ⟨tmI tm4 (i := 87) rfl, List.forall_mem_cons.mpr ⟨tmI tmS (i := 17) rfl, List.forall_mem_cons.mpr ⟨tmI tm4 (i := 88) rfl, List.forall_mem_cons.mpr ⟨tmI tm2 (i := 54) rfl, List.forall_mem_cons.mpr ⟨tmI tm2 (i := 55) rfl, List.forall_mem_cons.mpr ⟨tmI tm2 (i := 56) rfl, List.forall_mem_cons.mpr ⟨tmI tm2 (i := 57) rfl, List.forall_mem_cons.mpr ⟨tmI tm2 (i := 58) rfl, List.forall_mem_cons.mpr ⟨tmI tm2 (i := 59) rfl, List.forall_mem_cons.mpr ⟨tmI tm2 (i := 60) rfl, List.forall_mem_cons.mpr ⟨tmI tm2 (i := 61) rfl, List.forall_mem_cons.mpr ⟨tmI tm1 (i := 134) rfl, List.forall_mem_cons.mpr ⟨tmI tm2 (i := 62) rfl, List.forall_mem_cons.mpr ⟨tmI tm2 (i := 64) rfl, List.forall_mem_cons.mpr ⟨tmI tmS (i := 2) rfl, List.forall_mem_cons.mpr ⟨tmI tm2 (i := 65) rfl, List.forall_mem_cons.mpr ⟨tmI tm2 (i := 66) rfl, List.forall_mem_cons.mpr ⟨tmI tm2 (i := 68) rfl, List.forall_mem_cons.mpr ⟨tmI tmS (i := 3) rfl, List.forall_mem_cons.mpr ⟨tmI tm2 (i := 69) rfl, fun _ h => absurd h List.not_mem_nil⟩⟩⟩⟩⟩⟩⟩⟩⟩⟩⟩⟩⟩⟩⟩⟩⟩⟩⟩⟩⟩⟩⟩⟩
set_option maxRecDepth 20000 in
theorem wi_11 : ∀ w ∈ wsL_law_r11, w ∈ lw_tbl := List.forall_mem_cons.mpr ⟨tmI tm2 (i := 70) rfl, List.forall_mem_cons.mpr ⟨tmI tm2 (i := 71) rfl, List.forall_mem_cons.mpr ⟨tmI tm2 (i := 72) rfl, List.forall_mem_cons.mpr ⟨tmI tm2 (i := 74) rfl, List.forall_mem_cons.mpr ⟨tmI tm2 (i := 75) rfl, List.forall_mem_cons.mpr ⟨tmI tm2 (i := 76) rfl, List.forall_mem_cons.mpr ⟨tmI tm1 (i := 11) rfl, List.forall_mem_cons.mpr ⟨tmI tm2 (i := 77) rfl, List.forall_mem_cons.mpr ⟨tmI tm2 (i := 78) rfl, List.forall_mem_cons.mpr ⟨tmI tm2 (i := 79) rfl, List.forall_mem_cons.mpr ⟨tmI tm2 (i := 80) rfl, List.forall_mem_cons.mpr ⟨tmI tm2 (i := 81) rfl, List.forall_mem_cons.mpr ⟨tmI tm5 (i := 56) rfl, List.forall_mem_cons.mpr ⟨tmI tm2 (i := 82) rfl, List.forall_mem_cons.mpr ⟨tmI tm2 (i := 83) rfl, List.forall_mem_cons.mpr ⟨tmI tm2 (i := 84) rfl, List.forall_mem_cons.mpr ⟨tmI tm2 (i := 85) rfl, List.forall_mem_cons.mpr ⟨tmI tm2 (i := 86) rfl, List.forall_mem_cons.mpr ⟨tmI tm5 (i := 55) rfl, List.forall_mem_cons.mpr ⟨tmI tm2 (i := 88) rfl, List.forall_mem_cons.mpr ⟨tmI tm2 (i := 89) rfl, List.forall_mem_cons.mpr ⟨tmI tm2 (i := 90) rfl, List.forall_mem_cons.mpr ⟨tmI tm2 (i := 91) rfl, List.forall_mem_cons.mpr ⟨tmI tm2 (i := 92) rfl, fun _ h => absurd h List.not_mem_nil⟩⟩⟩⟩⟩⟩⟩⟩⟩⟩⟩⟩⟩⟩⟩⟩⟩⟩⟩⟩⟩⟩⟩⟩
set_option maxRecDepth 20000 in
theorem wi_12 : ∀ w ∈ wsL_law_r12, w ∈ lw_tbl := List.forall_mem_cons.mpr ⟨tmI tm2 (i := 93) rfl, List.forall_mem_cons.mpr ⟨tmI tm2 (i := 94) rfl, List.forall_mem_cons.mpr ⟨tmI tm2 (i := 95) rfl, List.forall_mem_cons.mpr ⟨tmI tm2 (i := 96) rfl, List.forall_mem_cons.mpr ⟨tmI tm2 (i := 97) rfl, List.forall_mem_cons.mpr ⟨tmI tm1 (i := 12) rfl, List.forall_mem_cons.mpr ⟨tmI tm2 (i := 98) rfl, List.forall_mem_cons.mpr ⟨tmI tm2 (i := 102) rfl, List.forall_mem_cons.mpr ⟨tmI tm2 (i := 103) rfl, List.forall_mem_cons.mpr ⟨tmI tm2 (i := 104) rfl, List.forall_mem_cons.mpr ⟨tmI tm2 (i := 105) rfl, List.forall_mem_cons.mpr ⟨tmI tm2 (i := 99) rfl, List.forall_mem_cons.mpr ⟨tmI tm2 (i := 100) rfl, List.forall_mem_cons.mpr ⟨tmI tm2 (i := 101) rfl, List.forall_mem_cons.mpr ⟨tmI tm2 (i := 106) rfl, List.forall_mem_cons.mpr ⟨tmI tm2 (i := 107) rfl, List.forall_mem_cons.mpr ⟨tmI tm2 (i := 108) rfl, List.forall_mem_cons.mpr ⟨tmI tm2 (i := 109) rfl, List.forall_mem_cons.mpr ⟨tmI tm2 (i := 110) rfl, List.forall_mem_cons.mpr ⟨tmI tm1 (i := 13) rfl, List.forall_mem_cons.mpr ⟨tmI tm2 (i := 111) rfl, List.forall_mem_cons.mpr ⟨tmI tm2 (i := 112) rfl, List.forall_mem_cons.mpr ⟨tmI tm2 (i := 113) rfl, List.forall_mem_cons.mpr ⟨tmI tm2 (i := 114) rfl, fun _ h => absurd h List.not_mem_nil⟩⟩⟩⟩⟩⟩⟩⟩⟩⟩⟩⟩⟩⟩⟩⟩⟩⟩⟩⟩⟩⟩⟩⟩
set_option maxRecDepth 20000 in
theorem wi_13 : ∀ w ∈ wsL_law_r13, w ∈ lw_tbl := List.forall_mem_cons.mpr ⟨tmI tm2 (i := 115) rfl, List.forall_mem_cons.mpr ⟨tmI tm2 (i := 116) rfl, List.forall_mem_cons.mpr ⟨tmI tm2 (i := 117) rfl, List.forall_mem_cons.mpr ⟨tmI tm2 (i := 118) rfl, List.forall_mem_cons.mpr ⟨tmI tm2 (i := 119) rfl, List.forall_mem_cons.mpr ⟨tmI tm2 (i := 120) rfl, List.forall_mem_cons.mpr ⟨tmI tm2 (i := 121) rfl, List.forall_mem_cons.mpr ⟨tmI tm2 (i := 122) rfl, List.forall_mem_cons.mpr ⟨tmI tm2 (i := 123) rfl, List.forall_mem_cons.mpr ⟨tmI tm2 (i := 124) rfl, List.forall_mem_cons.mpr ⟨tmI tm2 (i := 125) rfl, List.forall_mem_cons.mpr ⟨tmI tm2 (i := 126) rfl, List.forall_mem_cons.mpr ⟨tmI tm2 (i := 127) rfl, List.forall_mem_cons.mpr ⟨tmI tm2 (i := 129) rfl, List.forall_mem_cons.mpr ⟨tmI tm2 (i := 130) rfl, List.forall_mem_cons.mpr ⟨tmI tm1 (i := 14) rfl, List.forall_mem_cons.mpr ⟨tmI tm2 (i := 131) rfl, List.forall_mem_cons.mpr ⟨tmI tm2 (i := 132) rfl, List.forall_mem_cons.mpr ⟨tmI tm2 (i := 133) rfl, List.forall_mem_cons.mpr ⟨tmI tm2 (i := 134) rfl, List.forall_mem_cons.mpr ⟨tmI tm2 (i := 135) rfl, List.forall_mem_cons.mpr ⟨tmI tm2 (i := 136) rfl, List.forall_mem_cons.mpr ⟨tmI tm2 (i := 137) rfl, List.forall_mem_cons.mpr ⟨tmI tm2 (i := 138) rfl, fun _ h => absurd h List.not_mem_nil⟩⟩⟩⟩⟩⟩⟩⟩⟩⟩⟩⟩⟩⟩⟩⟩⟩⟩⟩⟩⟩⟩⟩⟩
set_option maxRecDepth 20000 in
theorem wi_14 : ∀ w ∈ wsL_law_r14, w ∈ lw_tbl := List.forall_mem_cons.mpr ⟨tmI tm2 (i := 140) rfl, List.forall_mem_cons.mpr ⟨tmI tm2 (i := 142) rfl, List.forall_mem_cons.mpr ⟨tmI tm2 (i := 144) rfl, List.forall_mem_cons.mpr ⟨tmI tm2 (i := 145) rfl, List.forall_mem_cons.mpr ⟨tmI tm2 (i := 146) rfl, List.forall_mem_cons.mpr ⟨tmI tm2 (i := 147) rfl, List.forall_mem_cons.mpr ⟨tmI tm2 (i := 148) rfl, List.forall_mem_cons.mpr ⟨tmI tm1 (i := 15) rfl, List.forall_mem_cons.mpr ⟨tmI tm2 (i := 149) rfl, List.forall_mem_cons.mpr ⟨tmI tm2 (i := 150) rfl, List.forall_mem_cons.mpr ⟨tmI tm2 (i := 151) rfl, List.forall_mem_cons.mpr ⟨tmI tm2 (i := 152) rfl, List.forall_mem_cons.mpr ⟨tmI tm2 (i := 153) rfl, List.forall_mem_cons.mpr ⟨tmI tm2 (i := 154) rfl, List.forall_mem_cons.mpr ⟨tmI tm2 (i := 155) rfl, List.forall_mem_cons.mpr ⟨tmI tm2 (i := 156) rfl, List.forall_mem_cons.mpr ⟨tmI tm2 (i := 157) rfl, List.forall_mem_cons.mpr ⟨tmI tm2 (i := 158) rfl, List.forall_mem_cons.mpr ⟨tmI tm2 (i := 159) rfl, List.forall_mem_cons.mpr ⟨tmI tm2 (i := 160) rfl, List.forall_mem_cons.mpr ⟨tmI tm2 (i := 161) rfl, List.forall_mem_cons.mpr ⟨tmI tm2 (i := 163) rfl, List.forall_mem_cons.mpr ⟨tmI tmS (i := 4) rfl, List.forall_mem_cons.mpr ⟨tmI tm2 (i := 164) rfl, fun _ h => absurd h List.not_mem_nil⟩⟩⟩⟩⟩⟩⟩⟩⟩⟩⟩⟩⟩⟩⟩⟩⟩⟩⟩⟩⟩⟩⟩⟩
set_option maxRecDepth 20000 in
theorem wi_15 : ∀ w ∈ wsL_law_r15, w ∈ lw_tbl := List.forall_mem_cons.mpr ⟨tmI tm2 (i := 165) rfl, List.forall_mem_cons.mpr ⟨tmI tm2 (i := 166) rfl, List.forall_mem_cons.mpr ⟨tmI tm2 (i := 167) rfl, List.forall_mem_cons.mpr ⟨tmI tm2 (i := 168) rfl, List.forall_mem_cons.mpr ⟨tmI tm2 (i := 169) rfl, List.forall_mem_cons.mpr ⟨tmI tm2 (i := 170) rfl, List.forall_mem_cons.mpr ⟨tmI tm2 (i := 171) rfl, List.forall_mem_cons.mpr ⟨tmI tm2 (i := 172) rfl, List.forall_mem_cons.mpr ⟨tmI tm2 (i := 173) rfl, List.forall_mem_cons.mpr ⟨tmI tm2 (i := 175) rfl, List.forall_mem_cons.mpr ⟨tmI tmS (i := 5) rfl, List.forall_mem_cons.mpr ⟨tmI tm2 (i := 176) rfl, List.forall_mem_cons.mpr ⟨tmI tm2 (i := 177) rfl, List.forall_mem_cons.mpr ⟨tmI tm2 (i := 179) rfl, List.forall_mem_cons.mpr ⟨tmI tmS (i := 6) rfl, List.forall_mem_cons.mpr ⟨tmI tm2 (i := 180) rfl, List.forall_mem_cons.mpr ⟨tmI tm2 (i := 181) rfl, List.forall_mem_cons.mpr ⟨tmI tm2 (i := 182) rfl, List.forall_mem_cons.mpr ⟨tmI tm2 (i := 183) rfl, List.forall_mem_cons.mpr ⟨tmI tm2 (i := 184) rfl, List.forall_mem_cons.mpr ⟨tmI tm2 (i := 185) rfl, List.forall_mem_cons.mpr ⟨tmI tm2 (i := 186) rfl, List.forall_mem_cons.mpr ⟨tmI tm2 (i := 187) rfl, List.forall_mem_cons.mpr ⟨tmI tm2 (i := 188) rfl, fun _ h => absurd h List.not_mem_nil⟩⟩⟩⟩⟩⟩⟩⟩⟩⟩⟩⟩⟩⟩⟩⟩⟩⟩⟩⟩⟩⟩⟩⟩
set_option maxRecDepth 20000 in
theorem wi_16 : ∀ w ∈ wsL_law_r16, w ∈ lw_tbl := List.forall_mem_cons.mpr ⟨tmI tm2 (i := 189) rfl, List.forall_mem_cons.mpr ⟨tmI tm2 (i := 190) rfl, List.forall_mem_cons.mpr ⟨tmI tm2 (i := 191) rfl, List.forall_mem_cons.mpr ⟨tmI tm2 (i := 192) rfl, List.forall_mem_cons.mpr ⟨tmI tm2 (i := 193) rfl, List.forall_mem_cons.mpr ⟨tmI tm2 (i := 194) rfl, List.forall_mem_cons.mpr ⟨tmI tm2 (i := 195) rfl, List.forall_mem_cons.mpr ⟨tmI tm2 (i := 196) rfl, List.forall_mem_cons.mpr ⟨tmI tm4 (i := 89) rfl, List.forall_mem_cons.mpr ⟨tmI tm4 (i := 90) rfl, List.forall_mem_cons.mpr ⟨tmI tm4 (i := 91) rfl, List.forall_mem_cons.mpr ⟨tmI tm4 (i := 92) rfl, List.forall_mem_cons.mpr ⟨tmI tm4 (i := 11) rfl, List.forall_mem_cons.mpr ⟨tmI tm4 (i := 3) rfl, List.forall_mem_cons.mpr ⟨tmI tm4 (i := 12) rfl, List.forall_mem_cons.mpr ⟨tmI tm4 (i := 13) rfl, List.forall_mem_cons.mpr ⟨tmI tm4 (i := 14) rfl, List.forall_mem_cons.mpr ⟨tmI tm4 (i := 15) rfl, List.forall_mem_cons.mpr ⟨tmI tm4 (i := 93) rfl, List.forall_mem_cons.mpr ⟨tmI tm4 (i := 95) rfl, List.forall_mem_cons.mpr ⟨tmI tmS (i := 18) rfl, List.forall_mem_cons.mpr ⟨tmI tm4 (i := 96) rfl, List.forall_mem_cons.mpr ⟨tmI tm4 (i := 97) rfl, List.forall_mem_cons.mpr ⟨tmI tm4 (i := 99) rfl, fun _ h => absurd h List.not_mem_nil⟩⟩⟩⟩⟩⟩⟩⟩⟩⟩⟩⟩⟩⟩⟩⟩⟩⟩⟩⟩⟩⟩⟩⟩
set_option maxRecDepth 20000 in
theorem wi_17 : ∀ w ∈ wsL_law_r17, w ∈ lw_tbl := List.forall_mem_cons.mpr ⟨tmI tmS (i := 19) rfl, List.forall_mem_cons.mpr ⟨tmI tm4 (i := 100) rfl, List.forall_mem_cons.mpr ⟨tmI tm4 (i := 101) rfl, List.forall_mem_cons.mpr ⟨tmI tm4 (i := 103) rfl, List.forall_mem_cons.mpr ⟨tmI tmS (i := 20) rfl, List.forall_mem_cons.mpr ⟨tmI tm4 (i := 104) rfl, List.forall_mem_cons.mpr ⟨tmI tm4 (i := 105) rfl, List.forall_mem_cons.mpr ⟨tmI tm4 (i := 107) rfl, List.forall_mem_cons.mpr ⟨tmI tmS (i := 21) rfl, List.forall_mem_cons.mpr ⟨tmI tm4 (i := 108) rfl, List.forall_mem_cons.mpr ⟨tmI tm4 (i := 109) rfl, List.forall_mem_cons.mpr ⟨tmI tm4 (i := 111) rfl, List.forall_mem_cons.mpr ⟨tmI tmS (i := 22) rfl, List.forall_mem_cons.mpr ⟨tmI tm4 (i := 112) rfl, List.forall_mem_cons.mpr ⟨tmI tm4 (i := 113) rfl, List.forall_mem_cons.mpr ⟨tmI tm4 (i := 115) rfl, List.forall_mem_cons.mpr ⟨tmI tmS (i := 23) rfl, List.forall_mem_cons.mpr ⟨tmI tm4 (i := 116) rfl, List.forall_mem_cons.mpr ⟨tmI tm4 (i := 117) rfl, List.forall_mem_cons.mpr ⟨tmI tm4 (i := 119) rfl, List.forall_mem_cons.mpr ⟨tmI tmS (i := 24) rfl, List.forall_mem_cons.mpr ⟨tmI tm4 (i := 120) rfl, List.forall_mem_cons.mpr ⟨tmI tm2 (i := 198) rfl, List.forall_mem_cons.mpr ⟨tmI tm2 (i := 199) rfl, fun _ h => absurd h List.not_mem_nil⟩⟩⟩⟩⟩⟩⟩⟩⟩⟩⟩⟩⟩⟩⟩⟩⟩⟩⟩⟩⟩⟩⟩⟩
set_option maxRecDepth 20000 in
theorem wi_18 : ∀ w ∈ wsL_law_r18, w ∈ lw_tbl := List.forall_mem_cons.mpr ⟨tmI tm2 (i := 200) rfl, List.forall_mem_cons.mpr ⟨tmI tm2 (i := 201) rfl, List.forall_mem_cons.mpr ⟨tmI tm2 (i := 202) rfl, List.forall_mem_cons.mpr ⟨tmI tm2 (i := 203) rfl, List.forall_mem_cons.mpr ⟨tmI tm2 (i := 204) rfl, List.forall_mem_cons.mpr ⟨tmI tm2 (i := 205) rfl, List.forall_mem_cons.mpr ⟨tmI tm2 (i := 206) rfl, List.forall_mem_cons.mpr ⟨tmI tm2 (i := 207) rfl, List.forall_mem_cons.mpr ⟨tmI tm2 (i := 209) rfl, List.forall_mem_cons.mpr ⟨tmI tmS (i := 7) rfl, List.forall_mem_cons.mpr ⟨tmI tm2 (i := 210) rfl, List.forall_mem_cons.mpr ⟨tmI tm2 (i := 211) rfl, List.forall_mem_cons.mpr ⟨tmI tm2 (i := 212) rfl, List.forall_mem_cons.mpr ⟨tmI tm2 (i := 213) rfl, List.forall_mem_cons.mpr ⟨tmI tm2 (i := 214) rfl, List.forall_mem_cons.mpr ⟨tmI tm2 (i := 215) rfl, List.forall_mem_cons.mpr ⟨tmI tm2 (i := 217) rfl, List.forall_mem_cons.mpr ⟨tmI tmS (i := 8) rfl, List.forall_mem_cons.mpr ⟨tmI tm2 (i := 218) rfl, List.forall_mem_cons.mpr ⟨tmI tm1 (i := 165) rfl, List.forall_mem_cons.mpr ⟨tmI tm2 (i := 220) rfl, List.forall_mem_cons.mpr ⟨tmI tm2 (i := 221) rfl, List.forall_mem_cons.mpr ⟨tmI tm2 (i := 222) rfl, List.forall_mem_cons.mpr ⟨tmI tm2 (i := 223) rfl, fun _ h => absurd h List.not_mem_nil⟩⟩⟩⟩⟩⟩⟩⟩⟩⟩⟩⟩⟩⟩⟩⟩⟩⟩⟩⟩⟩⟩⟩⟩
set_option maxRecDepth 20000 in
theorem wi_19 : ∀ w ∈ wsL_law_r19, w ∈ lw_tbl := List.forall_mem_cons.mpr ⟨tmI tm1 (i := 154) rfl, List.forall_mem_cons.mpr ⟨tmI tm2 (i := 224) rfl, List.forall_mem_cons.mpr ⟨tmI tm2 (i := 225) rfl, List.forall_mem_cons.mpr ⟨tmI tm2 (i := 226) rfl, List.forall_mem_cons.mpr ⟨tmI tm2 (i := 227) rfl, List.forall_mem_cons.mpr ⟨tmI tm2 (i := 228) rfl, List.forall_mem_cons.mpr ⟨tmI tm2 (i := 229) rfl, List.forall_mem_cons.mpr ⟨tmI tm2 (i := 230) rfl, List.forall_mem_cons.mpr ⟨tmI tm2 (i := 231) rfl, List.forall_mem_cons.mpr ⟨tmI tm2 (i := 232) rfl, List.forall_mem_cons.mpr ⟨tmI tm2 (i := 233) rfl, List.forall_mem_cons.mpr ⟨tmI tm2 (i := 234) rfl, List.forall_mem_cons.mpr ⟨tmI tm2 (i := 235) rfl, List.forall_mem_cons.mpr ⟨tmI tm2 (i := 236) rfl, List.forall_mem_cons.mpr ⟨tmI tm2 (i := 237) rfl, List.forall_mem_cons.mpr ⟨tmI tm2 (i := 238) rfl, List.forall_mem_cons.mpr ⟨tmI tm2 (i := 239) rfl, List.forall_mem_cons.mpr ⟨tmI tm3 (i := 2) rfl, List.forall_mem_cons.mpr ⟨tmI tm3 (i := 3) rfl, List.forall_mem_cons.mpr ⟨tmI tm3 (i := 4) rfl, List.forall_mem_cons.mpr ⟨tmI tm3 (i := 6) rfl, List.forall_mem_cons.mpr ⟨tmI tmS (i := 9) rfl, List.forall_mem_cons.mpr ⟨tmI tm3 (i := 7) rfl, List.forall_mem_cons.mpr ⟨tmI tm3 (i := 10) rfl, fun _ h => absurd h List.not_mem_nil⟩⟩⟩⟩⟩⟩⟩⟩⟩⟩⟩⟩⟩⟩⟩⟩⟩⟩⟩⟩⟩⟩⟩⟩
set_option maxRecDepth 20000 in
theorem wi_20 : ∀ w ∈ wsL_law_r20, w ∈ lw_tbl := List.forall_mem_cons.mpr ⟨tmI tm3 (i := 11) rfl, List.forall_mem_cons.mpr ⟨tmI tm3 (i := 12) rfl, List.forall_mem_cons.mpr ⟨tmI tm3 (i := 13) rfl, List.forall_mem_cons.mpr ⟨tmI tm3 (i := 14) rfl, List.forall_mem_cons.mpr ⟨tmI tm3 (i := 15) rfl, List.forall_mem_cons.mpr ⟨tmI tm3 (i := 16) rfl, List.forall_mem_cons.mpr ⟨tmI tm3 (i := 17) rfl, List.forall_mem_cons.mpr ⟨tmI tm4 (i := 121) rfl, List.forall_mem_cons.mpr ⟨tmI tm4 (i := 122) rfl, List.forall_mem_cons.mpr ⟨tmI tm4 (i := 123) rfl, List.forall_mem_cons.mpr ⟨tmI tm4 (i := 124) rfl, List.forall_mem_cons.mpr ⟨tmI tm4 (i := 125) rfl, List.forall_mem_cons.mpr ⟨tmI tm4 (i := 127) rfl, List.forall_mem_cons.mpr ⟨tmI tmS (i := 25) rfl, List.forall_mem_cons.mpr ⟨tmI tm4 (i := 128) rfl, List.forall_mem_cons.mpr ⟨tmI tm4 (i := 129) rfl, List.forall_mem_cons.mpr ⟨tmI tm4 (i := 131) rfl, List.forall_mem_cons.mpr ⟨tmI tmS (i := 26) rfl, List.forall_mem_cons.mpr ⟨tmI tm4 (i := 132) rfl, List.forall_mem_cons.mpr ⟨tmI tm4 (i := 133) rfl, List.forall_mem_cons.mpr ⟨tmI tm4 (i := 135) rfl, List.forall_mem_cons.mpr ⟨tmI tmS (i := 27) rfl, List.forall_mem_cons.mpr ⟨tmI tm4 (i := 136) rfl, List.forall_mem_cons.mpr ⟨tmI tm4 (i := 137) rfl, fun _ h => absurd h List.not_mem_nil⟩⟩⟩⟩⟩⟩⟩⟩⟩⟩⟩⟩⟩⟩⟩⟩⟩⟩⟩⟩⟩⟩⟩⟩
set_option maxRecDepth 20000 in
theorem wi_21 : ∀ w ∈ wsL_law_r21, w ∈ lw_tbl := List.forall_mem_cons.mpr ⟨tmI tm4 (i := 139) rfl, List.forall_mem_cons.mpr ⟨tmI tmS (i := 28) rfl, List.forall_mem_cons.mpr ⟨tmI tm4 (i := 140) rfl, List.forall_mem_cons.mpr ⟨tmI tm4 (i := 141) rfl, List.forall_mem_cons.mpr ⟨tmI tm4 (i := 143) rfl, List.forall_mem_cons.mpr ⟨tmI tmS (i := 29) rfl, List.forall_mem_cons.mpr ⟨tmI tm4 (i := 144) rfl, List.forall_mem_cons.mpr ⟨tmI tm4 (i := 5) rfl, List.forall_mem_cons.mpr ⟨tmI tm4 (i := 145) rfl, List.forall_mem_cons.mpr ⟨tmI tm4 (i := 147) rfl, List.forall_mem_cons.mpr ⟨tmI tmS (i := 30) rfl, List.forall_mem_cons.mpr ⟨tmI tm4 (i := 148) rfl, List.forall_mem_cons.mpr ⟨tmI tm4 (i := 149) rfl, List.forall_mem_cons.mpr ⟨tmI tm4 (i := 151) rfl, List.forall_mem_cons.mpr ⟨tmI tmS (i := 31) rfl, List.forall_mem_cons.mpr ⟨tmI tm4 (i := 152) rfl, List.forall_mem_cons.mpr ⟨tmI tm4 (i := 9) rfl, List.forall_mem_cons.mpr ⟨tmI tm4 (i := 10) rfl, List.forall_mem_cons.mpr ⟨tmI tm4 (i := 153) rfl, List.forall_mem_cons.mpr ⟨tmI tm4 (i := 155) rfl, List.forall_mem_cons.mpr ⟨tmI tmS (i := 32) rfl, List.forall_mem_cons.mpr ⟨tmI tm4 (i := 156) rfl, List.forall_mem_cons.mpr ⟨tmI tm4 (i := 157) rfl, List.forall_mem_cons.mpr ⟨tmI tm4 (i := 159) rfl, fun _ h => absurd h List.not_mem_nil⟩⟩⟩⟩⟩⟩⟩⟩⟩⟩⟩⟩⟩⟩⟩⟩⟩⟩⟩⟩⟩⟩⟩⟩
set_option maxRecDepth 20000 in
theorem wi_22 : ∀ w ∈ wsL_law_r22, w ∈ lw_tbl := List.forall_mem_cons.mpr ⟨tmI tmS (i := 33) rfl, List.forall_mem_cons.mpr ⟨tmI tm4 (i := 160) rfl, List.forall_mem_cons.mpr ⟨tmI tm4 (i := 161) rfl, List.forall_mem_cons.mpr ⟨tmI tm4 (i := 163) rfl, List.forall_mem_cons.mpr ⟨tmI tmS (i := 34) rfl, List.forall_mem_cons.mpr ⟨tmI tm4 (i := 164) rfl, List.forall_mem_cons.mpr ⟨tmI tm4 (i := 165) rfl, List.forall_mem_cons.mpr ⟨tmI tm4 (i := 167) rfl, List.forall_mem_cons.mpr ⟨tmI tmS (i := 35) rfl, List.forall_mem_cons.mpr ⟨tmI tm4 (i := 168) rfl, List.forall_mem_cons.mpr ⟨tmI tm4 (i := 169) rfl, List.forall_mem_cons.mpr ⟨tmI tm4 (i := 171) rfl, List.forall_mem_cons.mpr ⟨tmI tmS (i := 36) rfl, List.forall_mem_cons.mpr ⟨tmI tm4 (i := 172) rfl, List.forall_mem_cons.mpr ⟨tmI tm4 (i := 173) rfl, List.forall_mem_cons.mpr ⟨tmI tm4 (i := 175) rfl, List.forall_mem_cons.mpr ⟨tmI tmS (i := 37) rfl, List.forall_mem_cons.mpr ⟨tmI tm4 (i := 176) rfl, List.forall_mem_cons.mpr ⟨tmI tm4 (i := 177) rfl, List.forall_mem_cons.mpr ⟨tmI tm4 (i := 179) rfl, List.forall_mem_cons.mpr ⟨tmI tmS (i := 38) rfl, List.forall_mem_cons.mpr ⟨tmI tm4 (i := 180) rfl, List.forall_mem_cons.mpr ⟨tmI tm3 (i := 20) rfl, List.forall_mem_cons.mpr ⟨tmI tm3 (i := 21) rfl, fun _ h => absurd h List.not_mem_nil⟩⟩⟩⟩⟩⟩⟩⟩⟩⟩⟩⟩⟩⟩⟩⟩⟩⟩⟩⟩⟩⟩⟩⟩
set_option maxRecDepth 20000 in
theorem wi_23 : ∀ w ∈ wsL_law_r23, w ∈ lw_tbl := List.forall_mem_cons.mpr ⟨tmI tm3 (i := 22) rfl, List.forall_mem_cons.mpr ⟨tmI tm3 (i := 23) rfl, List.forall_mem_cons.mpr ⟨tmI tm3 (i := 24) rfl, List.forall_mem_cons.mpr ⟨tmI tm3 (i := 25) rfl, List.forall_mem_cons.mpr ⟨tmI tm3 (i := 26) rfl, List.forall_mem_cons.mpr ⟨tmI tm3 (i := 27) rfl, List.forall_mem_cons.mpr ⟨tmI tm3 (i := 28) rfl, List.forall_mem_cons.mpr ⟨tmI tm3 (i := 29) rfl, List.forall_mem_cons.mpr ⟨tmI tm4 (i := 181) rfl, List.forall_mem_cons.mpr ⟨tmI tm4 (i := 182) rfl, List.forall_mem_cons.mpr ⟨tmI tm4 (i := 183) rfl, List.forall_mem_cons.mpr ⟨tmI tm4 (i := 184) rfl, List.forall_mem_cons.mpr ⟨tmI tm4 (i := 185) rfl, List.forall_mem_cons.mpr ⟨tmI tm4 (i := 187) rfl, List.forall_mem_cons.mpr ⟨tmI tmS (i := 39) rfl, List.forall_mem_cons.mpr ⟨tmI tm4 (i := 188) rfl, List.forall_mem_cons.mpr ⟨tmI tm4 (i := 189) rfl, List.forall_mem_cons.mpr ⟨tmI tm4 (i := 191) rfl, List.forall_mem_cons.mpr ⟨tmI tmS (i := 40) rfl, List.forall_mem_cons.mpr ⟨tmI tm4 (i := 192) rfl, List.forall_mem_cons.mpr ⟨tmI tm3 (i := 30) rfl, List.forall_mem_cons.mpr ⟨tmI tm3 (i := 31) rfl, List.forall_mem_cons.mpr ⟨tmI tm3 (i := 32) rfl, List.forall_mem_cons.mpr ⟨tmI tm3 (i := 33) rfl, fun _ h => absurd h List.not_mem_nil⟩⟩⟩⟩⟩⟩⟩⟩⟩⟩⟩⟩⟩⟩⟩⟩⟩⟩⟩⟩⟩⟩⟩⟩
set_option maxRecDepth 20000 in
theorem wi_24 : ∀ w ∈ wsL_law_r24, w ∈ lw_tbl := List.forall_mem_cons.mpr ⟨tmI tm4 (i := 193) rfl, List.forall_mem_cons.mpr ⟨tmI tm4 (i := 194) rfl, List.forall_mem_cons.mpr ⟨tmI tm4 (i := 195) rfl, List.forall_mem_cons.mpr ⟨tmI tm4 (i := 196) rfl, List.forall_mem_cons.mpr ⟨tmI tm3 (i := 34) rfl, List.forall_mem_cons.mpr ⟨tmI tm3 (i := 35) rfl, List.forall_mem_cons.mpr ⟨tmI tm3 (i := 36) rfl, List.forall_mem_cons.mpr ⟨tmI tm3 (i := 37) rfl, List.forall_mem_cons.mpr ⟨tmI tm3 (i := 38) rfl, List.forall_mem_cons.mpr ⟨tmI tm3 (i := 40) rfl, List.forall_mem_cons.mpr ⟨tmI tmS (i := 10) rfl, List.forall_mem_cons.mpr ⟨tmI tm3 (i := 41) rfl, List.forall_mem_cons.mpr ⟨tmI tm3 (i := 42) rfl, List.forall_mem_cons.mpr ⟨tmI tm3 (i := 43) rfl, List.forall_mem_cons.mpr ⟨tmI tm3 (i := 44) rfl, List.forall_mem_cons.mpr ⟨tmI tm3 (i := 45) rfl, List.forall_mem_cons.mpr ⟨tmI tm3 (i := 46) rfl, List.forall_mem_cons.mpr ⟨tmI tm3 (i := 47) rfl, List.forall_mem_cons.mpr ⟨tmI tm3 (i := 48) rfl, List.forall_mem_cons.mpr ⟨tmI tm3 (i := 49) rfl, List.forall_mem_cons.mpr ⟨tmI tm3 (i := 50) rfl, List.forall_mem_cons.mpr ⟨tmI tm3 (i := 51) rfl, List.forall_mem_cons.mpr ⟨tmI tm3 (i := 52) rfl, List.forall_mem_cons.mpr ⟨tmI tm3 (i := 53) rfl, fun _ h => absurd h List.not_mem_nil⟩⟩⟩⟩⟩⟩⟩⟩⟩⟩⟩⟩⟩⟩⟩⟩⟩⟩⟩⟩⟩⟩⟩⟩
set_option maxRecDepth 20000 in
theorem wi_25 : ∀ w ∈ wsL_law_r25, w ∈ lw_tbl := List.forall_mem_cons.mpr ⟨tmI tm3 (i := 54) rfl, List.forall_mem_cons.mpr ⟨tmI tm4 (i := 197) rfl, List.forall_mem_cons.mpr ⟨tmI tm4 (i := 198) rfl, List.forall_mem_cons.mpr ⟨tmI tm4 (i := 199) rfl, List.forall_mem_cons.mpr ⟨tmI tm4 (i := 200) rfl, List.forall_mem_cons.mpr ⟨tmI tm4 (i := 201) rfl, List.forall_mem_cons.mpr ⟨tmI tm4 (i := 203) rfl, List.forall_mem_cons.mpr ⟨tmI tmS (i := 41) rfl, List.forall_mem_cons.mpr ⟨tmI tm4 (i := 204) rfl, List.forall_mem_cons.mpr ⟨tmI tm3 (i := 55) rfl, List.forall_mem_cons.mpr ⟨tmI tm3 (i := 56) rfl, List.forall_mem_cons.mpr ⟨tmI tm3 (i := 57) rfl, List.forall_mem_cons.mpr ⟨tmI tm3 (i := 58) rfl, List.forall_mem_cons.mpr ⟨tmI tm3 (i := 59) rfl, List.forall_mem_cons.mpr ⟨tmI tm3 (i := 60) rfl, List.forall_mem_cons.mpr ⟨tmI tm3 (i := 61) rfl, List.forall_mem_cons.mpr ⟨tmI tm3 (i := 62) rfl, List.forall_mem_cons.mpr ⟨tmI tm3 (i := 63) rfl, List.forall_mem_cons.mpr ⟨tmI tm3 (i := 64) rfl, List.forall_mem_cons.mpr ⟨tmI tm3 (i := 65) rfl, List.forall_mem_cons.mpr ⟨tmI tm3 (i := 66) rfl, List.forall_mem_cons.mpr ⟨tmI tm3 (i := 67) rfl, List.forall_mem_cons.mpr ⟨tmI tm3 (i := 68) rfl, List.forall_mem_cons.mpr ⟨tmI tm3 (i := 69) rfl, fun _ h => absurd h List.not_mem_nil⟩⟩⟩⟩⟩⟩⟩⟩⟩⟩⟩⟩⟩⟩⟩⟩⟩⟩⟩⟩⟩⟩⟩⟩
set_option maxRecDepth 20000 in
theorem wi_26 : ∀ w ∈ wsL_law_r26, w ∈ lw_tbl := List.forall_mem_cons.mpr ⟨tmI tm3 (i := 70) rfl, List.forall_mem_cons.mpr ⟨tmI tm4 (i := 205) rfl, List.forall_mem_cons.mpr ⟨tmI tm4 (i := 206) rfl, List.forall_mem_cons.mpr ⟨tmI tm4 (i := 207) rfl, List.forall_mem_cons.mpr ⟨tmI tm4 (i := 208) rfl, List.forall_mem_cons.mpr ⟨tmI tm3 (i := 72) rfl, List.forall_mem_cons.mpr ⟨tmI tm3 (i := 73) rfl, List.forall_mem_cons.mpr ⟨tmI tm3 (i := 74) rfl, List.forall_mem_cons.mpr ⟨tmI tm3 (i := 75) rfl, List.forall_mem_cons.mpr ⟨tmI tm3 (i := 76) rfl, List.forall_mem_cons.mpr ⟨tmI tm3 (i := 77) rfl, List.forall_mem_cons.mpr ⟨tmI tm3 (i := 78) rfl, List.forall_mem_cons.mpr ⟨tmI tm3 (i := 79) rfl, List.forall_mem_cons.mpr ⟨tmI tm3 (i := 80) rfl, List.forall_mem_cons.mpr ⟨tmI tm3 (i := 81) rfl, List.forall_mem_cons.mpr ⟨tmI tm3 (i := 82) rfl, List.forall_mem_cons.mpr ⟨tmI tm3 (i := 83) rfl, List.forall_mem_cons.mpr ⟨tmI tm3 (i := 84) rfl, List.forall_mem_cons.mpr ⟨tmI tm4 (i := 209) rfl, List.forall_mem_cons.mpr ⟨tmI tm4 (i := 210) rfl, List.forall_mem_cons.mpr ⟨tmI tm4 (i := 211) rfl, List.forall_mem_cons.mpr ⟨tmI tm4 (i := 212) rfl, List.forall_mem_cons.mpr ⟨tmI tm4 (i := 213) rfl, List.forall_mem_cons.mpr ⟨tmI tm4 (i := 215) rfl, fun _ h => absurd h List.not_mem_nil⟩⟩⟩⟩⟩⟩⟩⟩⟩⟩⟩⟩⟩⟩⟩⟩⟩⟩⟩⟩⟩⟩⟩⟩
set_option maxRecDepth 20000 in
theorem wi_27 : ∀ w ∈ wsL_law_r27, w ∈ lw_tbl := List.forall_mem_cons.mpr ⟨tmI tmS (i := 42) rfl, List.forall_mem_cons.mpr ⟨tmI tm4 (i := 216) rfl, List.forall_mem_cons.mpr ⟨tmI tm3 (i := 85) rfl, List.forall_mem_cons.mpr ⟨tmI tm3 (i := 86) rfl, List.forall_mem_cons.mpr ⟨tmI tm3 (i := 87) rfl, List.forall_mem_cons.mpr ⟨tmI tm3 (i := 88) rfl, List.forall_mem_cons.mpr ⟨tmI tm3 (i := 89) rfl, List.forall_mem_cons.mpr ⟨tmI tm4 (i := 217) rfl, List.forall_mem_cons.mpr ⟨tmI tm4 (i := 218) rfl, List.forall_mem_cons.mpr ⟨tmI tm4 (i := 219) rfl, List.forall_mem_cons.mpr ⟨tmI tm4 (i := 220) rfl, List.forall_mem_cons.mpr ⟨tmI tm3 (i := 90) rfl, List.forall_mem_cons.mpr ⟨tmI tm3 (i := 91) rfl, List.forall_mem_cons.mpr ⟨tmI tm3 (i := 92) rfl, List.forall_mem_cons.mpr ⟨tmI tm3 (i := 93) rfl, List.forall_mem_cons.mpr ⟨tmI tm3 (i := 94) rfl, List.forall_mem_cons.mpr ⟨tmI tm3 (i := 95) rfl, List.forall_mem_cons.mpr ⟨tmI tm3 (i := 96) rfl, List.forall_mem_cons.mpr ⟨tmI tm3 (i := 97) rfl, List.forall_mem_cons.mpr ⟨tmI tm3 (i := 98) rfl, List.forall_mem_cons.mpr ⟨tmI tm3 (i := 99) rfl, List.forall_mem_cons.mpr ⟨tmI tm3 (i := 100) rfl, List.forall_mem_cons.mpr ⟨tmI tm3 (i := 101) rfl, List.forall_mem_cons.mpr ⟨tmI tm3 (i := 102) rfl, fun _ h => absurd h List.not_mem_nil⟩⟩⟩⟩⟩⟩⟩⟩⟩⟩⟩⟩⟩⟩⟩⟩⟩⟩⟩⟩⟩⟩⟩⟩
set_option maxRecDepth 20000 in
theorem wi_28 : ∀ w ∈ wsL_law_r28, w ∈ lw_tbl := List.forall_mem_cons.mpr ⟨tmI tm3 (i := 103) rfl, List.forall_mem_cons.mpr ⟨tmI tm3 (i := 104) rfl, List.forall_mem_cons.mpr ⟨tmI tm3 (i := 105) rfl, List.forall_mem_cons.mpr ⟨tmI tm3 (i := 106) rfl, List.forall_mem_cons.mpr ⟨tmI tm3 (i := 107) rfl, List.forall_mem_cons.mpr ⟨tmI tm3 (i := 108) rfl, List.forall_mem_cons.mpr ⟨tmI tm3 (i := 109) rfl, List.forall_mem_cons.mpr ⟨tmI tm3 (i := 110) rfl, List.forall_mem_cons.mpr ⟨tmI tm3 (i := 111) rfl, List.forall_mem_cons.mpr ⟨tmI tm3 (i := 112) rfl, List.forall_mem_cons.mpr ⟨tmI tm3 (i := 113) rfl, List.forall_mem_cons.mpr ⟨tmI tm3 (i := 114) rfl, List.forall_mem_cons.mpr ⟨tmI tm3 (i := 115) rfl, List.forall_mem_cons.mpr ⟨tmI tm3 (i := 116) rfl, List.forall_mem_cons.mpr ⟨tmI tm3 (i := 117) rfl, List.forall_mem_cons.mpr ⟨tmI tm3 (i := 118) rfl, List.forall_mem_cons.mpr ⟨tmI tm3 (i := 119) rfl, List.forall_mem_cons.mpr ⟨tmI tm3 (i := 120) rfl, List.forall_mem_cons.mpr ⟨tmI tm3 (i := 121) rfl, List.forall_mem_cons.mpr ⟨tmI tm3 (i := 122) rfl, List.forall_mem_cons.mpr ⟨tmI tm4 (i := 221) rfl, List.forall_mem_cons.mpr ⟨tmI tm4 (i := 222) rfl, List.forall_mem_cons.mpr ⟨tmI tm4 (i := 223) rfl, List.forall_mem_cons.mpr ⟨tmI tm4 (i := 224) rfl, fun _ h => absurd h List.not_mem_nil⟩⟩⟩⟩⟩⟩⟩⟩⟩⟩⟩⟩⟩⟩⟩⟩⟩⟩⟩⟩⟩⟩⟩⟩
set_option maxRecDepth 20000 in
theorem wi_29 : ∀ w ∈ wsL_law_r29, w ∈ lw_tbl := List.forall_mem_cons.mpr ⟨tmI tm4 (i := 225) rfl, List.forall_mem_cons.mpr ⟨tmI tm4 (i := 227) rfl, List.forall_mem_cons.mpr ⟨tmI tmS (i := 43) rfl, List.forall_mem_cons.mpr ⟨tmI tm4 (i := 228) rfl, List.forall_mem_cons.mpr ⟨tmI tm4 (i := 229) rfl, List.forall_mem_cons.mpr ⟨tmI tm4 (i := 231) rfl, List.forall_mem_cons.mpr ⟨tmI tmS (i := 44) rfl, List.forall_mem_cons.mpr ⟨tmI tm4 (i := 232) rfl, List.forall_mem_cons.mpr ⟨tmI tm4 (i := 233) rfl, List.forall_mem_cons.mpr ⟨tmI tm4 (i := 235) rfl, List.forall_mem_cons.mpr ⟨tmI tmS (i := 45) rfl, List.forall_mem_cons.mpr ⟨tmI tm4 (i := 236) rfl, List.forall_mem_cons.mpr ⟨tmI tm4 (i := 237) rfl, List.forall_mem_cons.mpr ⟨tmI tm4 (i := 239) rfl, List.forall_mem_cons.mpr ⟨tmI tmS (i := 46) rfl, List.forall_mem_cons.mpr ⟨tmI tm5 (i := 0) rfl, List.forall_mem_cons.mpr ⟨tmI tm3 (i := 123) rfl, List.forall_mem_cons.mpr ⟨tmI tm3 (i := 124) rfl, List.forall_mem_cons.mpr ⟨tmI tm3 (i := 125) rfl, List.forall_mem_cons.mpr ⟨tmI tm3 (i := 126) rfl, List.forall_mem_cons.mpr ⟨tmI tm5 (i := 1) rfl, List.forall_mem_cons.mpr ⟨tmI tm5 (i := 2) rfl, List.forall_mem_cons.mpr ⟨tmI tm5 (i := 3) rfl, List.forall_mem_cons.mpr ⟨tmI tm5 (i := 4) rfl, fun _ h => absurd h List.not_mem_nil⟩⟩⟩⟩⟩⟩⟩⟩⟩⟩⟩⟩⟩⟩⟩⟩⟩⟩⟩⟩⟩⟩⟩⟩
set_option maxRecDepth 20000 in
theorem wi_30 : ∀ w ∈ wsL_law_r30, w ∈ lw_tbl := List.forall_mem_cons.mpr ⟨tmI tm3 (i := 127) rfl, List.forall_mem_cons.mpr ⟨tmI tm3 (i := 128) rfl, List.forall_mem_cons.mpr ⟨tmI tm3 (i := 129) rfl, List.forall_mem_cons.mpr ⟨tmI tm3 (i := 130) rfl, List.forall_mem_cons.mpr ⟨tmI tm3 (i := 131) rfl, List.forall_mem_cons.mpr ⟨tmI tm5 (i := 5) rfl, List.forall_mem_cons.mpr ⟨tmI tm5 (i := 6) rfl, List.forall_mem_cons.mpr ⟨tmI tm5 (i := 7) rfl, List.forall_mem_cons.mpr ⟨tmI tm5 (i := 8) rfl, List.forall_mem_cons.mpr ⟨tmI tm3 (i := 132) rfl, List.forall_mem_cons.mpr ⟨tmI tm3 (i := 133) rfl, List.forall_mem_cons.mpr ⟨tmI tm3 (i := 134) rfl, List.forall_mem_cons.mpr ⟨tmI tm3 (i := 135) rfl, List.forall_mem_cons.mpr ⟨tmI tm3 (i := 136) rfl, List.forall_mem_cons.mpr ⟨tmI tm3 (i := 137) rfl, List.forall_mem_cons.mpr ⟨tmI tm3 (i := 138) rfl, List.forall_mem_cons.mpr ⟨tmI tm3 (i := 139) rfl, List.forall_mem_cons.mpr ⟨tmI tm5 (i := 9) rfl, List.forall_mem_cons.mpr ⟨tmI tm5 (i := 10) rfl, List.forall_mem_cons.mpr ⟨tmI tm5 (i := 11) rfl, List.forall_mem_cons.mpr ⟨tmI tm5 (i := 12) rfl, List.forall_mem_cons.mpr ⟨tmI tm3 (i := 140) rfl, List.forall_mem_cons.mpr ⟨tmI tm3 (i := 141) rfl, List.forall_mem_cons.mpr ⟨tmI tm3 (i := 142) rfl, fun _ h => absurd h List.not_mem_nil⟩⟩⟩⟩⟩⟩⟩⟩⟩⟩⟩⟩⟩⟩⟩⟩⟩⟩⟩⟩⟩⟩⟩⟩
set_option maxRecDepth 20000 in
theorem wi_31 : ∀ w ∈ wsL_law_r31, w ∈ lw_tbl := List.forall_mem_cons.mpr ⟨tmI tm3 (i := 143) rfl, List.forall_mem_cons.mpr ⟨tmI tm3 (i := 144) rfl, List.forall_mem_cons.mpr ⟨tmI tm3 (i := 145) rfl, List.forall_mem_cons.mpr ⟨tmI tm3 (i := 146) rfl, List.forall_mem_cons.mpr ⟨tmI tm3 (i := 147) rfl, List.forall_mem_cons.mpr ⟨tmI tm3 (i := 148) rfl, List.forall_mem_cons.mpr ⟨tmI tm5 (i := 13) rfl, List.forall_mem_cons.mpr ⟨tmI tm5 (i := 14) rfl, List.forall_mem_cons.mpr ⟨tmI tm5 (i := 15) rfl, List.forall_mem_cons.mpr ⟨tmI tm5 (i := 16) rfl, List.forall_mem_cons.mpr ⟨tmI tm3 (i := 149) rfl, List.forall_mem_cons.mpr ⟨tmI tm3 (i := 150) rfl, List.forall_mem_cons.mpr ⟨tmI tm3 (i := 151) rfl, List.forall_mem_cons.mpr ⟨tmI tm3 (i := 152) rfl, List.forall_mem_cons.mpr ⟨tmI tm3 (i := 153) rfl, List.forall_mem_cons.mpr ⟨tmI tm3 (i := 154) rfl, List.forall_mem_cons.mpr ⟨tmI tm3 (i := 155) rfl, List.forall_mem_cons.mpr ⟨tmI tm3 (i := 156) rfl, List.forall_mem_cons.mpr ⟨tmI tm3 (i := 157) rfl, List.forall_mem_cons.mpr ⟨tmI tm3 (i := 158) rfl, List.forall_mem_cons.mpr ⟨tmI tm3 (i := 159) rfl, List.forall_mem_cons.mpr ⟨tmI tm3 (i := 160) rfl, List.forall_mem_cons.mpr ⟨tmI tm3 (i := 161) rfl, List.forall_mem_cons.mpr ⟨tmI tm3 (i := 162) rfl, fun _ h => absurd h List.not_mem_nil⟩⟩⟩⟩⟩⟩⟩⟩⟩⟩⟩⟩⟩⟩⟩⟩⟩⟩⟩⟩⟩⟩⟩⟩
set_option maxRecDepth 20000 in
theorem wi_32 : ∀ w ∈ wsL_law_r32, w ∈ lw_tbl := List.forall_mem_cons.mpr ⟨tmI tm5 (i := 17) rfl, List.forall_mem_cons.mpr ⟨tmI tm5 (i := 18) rfl, List.forall_mem_cons.mpr ⟨tmI tm5 (i := 19) rfl, List.forall_mem_cons.mpr ⟨tmI tm5 (i := 20) rfl, List.forall_mem_cons.mpr ⟨tmI tm3 (i := 163) rfl, List.forall_mem_cons.mpr ⟨tmI tm3 (i := 164) rfl, List.forall_mem_cons.mpr ⟨tmI tm3 (i := 165) rfl, List.forall_mem_cons.mpr ⟨tmI tm3 (i := 166) rfl, List.forall_mem_cons.mpr ⟨tmI tm3 (i := 167) rfl, List.forall_mem_cons.mpr ⟨tmI tm3 (i := 168) rfl, List.forall_mem_cons.mpr ⟨tmI tm3 (i := 169) rfl, List.forall_mem_cons.mpr ⟨tmI tm3 (i := 170) rfl, List.forall_mem_cons.mpr ⟨tmI tm5 (i := 21) rfl, List.forall_mem_cons.mpr ⟨tmI tm5 (i := 22) rfl, List.forall_mem_cons.mpr ⟨tmI tm5 (i := 23) rfl, List.forall_mem_cons.mpr ⟨tmI tm5 (i := 24) rfl, List.forall_mem_cons.mpr ⟨tmI tm3 (i := 171) rfl, List.forall_mem_cons.mpr ⟨tmI tm3 (i := 172) rfl, List.forall_mem_cons.mpr ⟨tmI tm3 (i := 173) rfl, List.forall_mem_cons.mpr ⟨tmI tm3 (i := 174) rfl, List.forall_mem_cons.mpr ⟨tmI tm3 (i := 175) rfl, List.forall_mem_cons.mpr ⟨tmI tm3 (i := 176) rfl, List.forall_mem_cons.mpr ⟨tmI tm3 (i := 177) rfl, List.forall_mem_cons.mpr ⟨tmI tm3 (i := 178) rfl, fun _ h => absurd h List.not_mem_nil⟩⟩⟩⟩⟩⟩⟩⟩⟩⟩⟩⟩⟩⟩⟩⟩⟩⟩⟩⟩⟩⟩⟩⟩
set_option maxRecDepth 20000 in
theorem wi_33 : ∀ w ∈ wsL_law_r33, w ∈ lw_tbl := List.forall_mem_cons.mpr ⟨tmI tm1 (i := 167) rfl, List.forall_mem_cons.mpr ⟨tmI tm1 (i := 169) rfl, List.forall_mem_cons.mpr ⟨tmI tm3 (i := 180) rfl, List.forall_mem_cons.mpr ⟨tmI tm3 (i := 182) rfl, List.forall_mem_cons.mpr ⟨tmI tmS (i := 11) rfl, List.forall_mem_cons.mpr ⟨tmI tm3 (i := 183) rfl, List.forall_mem_cons.mpr ⟨tmI tm5 (i := 25) rfl, List.forall_mem_cons.mpr ⟨tmI tm5 (i := 26) rfl, List.forall_mem_cons.mpr ⟨tmI tm5 (i := 27) rfl, List.forall_mem_cons.mpr ⟨tmI tm5 (i := 28) rfl, List.forall_mem_cons.mpr ⟨tmI tm3 (i := 184) rfl, List.forall_mem_cons.mpr ⟨tmI tm3 (i := 185) rfl, List.forall_mem_cons.mpr ⟨tmI tm3 (i := 186) rfl, List.forall_mem_cons.mpr ⟨tmI tm3 (i := 187) rfl, List.forall_mem_cons.mpr ⟨tmI tm3 (i := 191) rfl, List.forall_mem_cons.mpr ⟨tmI tm3 (i := 188) rfl, List.forall_mem_cons.mpr ⟨tmI tm3 (i := 189) rfl, List.forall_mem_cons.mpr ⟨tmI tm3 (i := 190) rfl, List.forall_mem_cons.mpr ⟨tmI tm3 (i := 192) rfl, List.forall_mem_cons.mpr ⟨tmI tm3 (i := 193) rfl, List.forall_mem_cons.mpr ⟨tmI tm3 (i := 194) rfl, List.forall_mem_cons.mpr ⟨tmI tm3 (i := 195) rfl, List.forall_mem_cons.mpr ⟨tmI tm3 (i := 196) rfl, List.forall_mem_cons.mpr ⟨tmI tm3 (i := 197) rfl, fun _ h => absurd h List.not_mem_nil⟩⟩⟩⟩⟩⟩⟩⟩⟩⟩⟩⟩⟩⟩⟩⟩⟩⟩⟩⟩⟩⟩⟩⟩
set_option maxRecDepth 20000 in
theorem wi_34 : ∀ w ∈ wsL_law_r34, w ∈ lw_tbl := List.forall_mem_cons.mpr ⟨tmI tm5 (i := 29) rfl, List.forall_mem_cons.mpr ⟨tmI tm5 (i := 30) rfl, List.forall_mem_cons.mpr ⟨tmI tm5 (i := 31) rfl, List.forall_mem_cons.mpr ⟨tmI tm5 (i := 32) rfl, List.forall_mem_cons.mpr ⟨tmI tm5 (i := 33) rfl, List.forall_mem_cons.mpr ⟨tmI tm3 (i := 198) rfl, List.forall_mem_cons.mpr ⟨tmI tm3 (i := 199) rfl, List.forall_mem_cons.mpr ⟨tmI tm3 (i := 200) rfl, List.forall_mem_cons.mpr ⟨tmI tm3 (i := 201) rfl, List.forall_mem_cons.mpr ⟨tmI tm5 (i := 34) rfl, List.forall_mem_cons.mpr ⟨tmI tm5 (i := 35) rfl, List.forall_mem_cons.mpr ⟨tmI tm5 (i := 36) rfl, List.forall_mem_cons.mpr ⟨tmI tm5 (i := 37) rfl, List.forall_mem_cons.mpr ⟨tmI tm3 (i := 202) rfl, List.forall_mem_cons.mpr ⟨tmI tm3 (i := 203) rfl, List.forall_mem_cons.mpr ⟨tmI tm3 (i := 204) rfl, List.forall_mem_cons.mpr ⟨tmI tm3 (i := 205) rfl, List.forall_mem_cons.mpr ⟨tmI tm5 (i := 38) rfl, List.forall_mem_cons.mpr ⟨tmI tm5 (i := 39) rfl, List.forall_mem_cons.mpr ⟨tmI tm5 (i := 40) rfl, List.forall_mem_cons.mpr ⟨tmI tm5 (i := 41) rfl, List.forall_mem_cons.mpr ⟨tmI tm3 (i := 206) rfl, List.forall_mem_cons.mpr ⟨tmI tm3 (i := 207) rfl, List.forall_mem_cons.mpr ⟨tmI tm3 (i := 208) rfl, fun _ h => absurd h List.not_mem_nil⟩⟩⟩⟩⟩⟩⟩⟩⟩⟩⟩⟩⟩⟩⟩⟩⟩⟩⟩⟩⟩⟩⟩⟩
set_option maxRecDepth 20000 in
theorem wi_35 : ∀ w ∈ wsL_law_r35, w ∈ lw_tbl := List.forall_mem_cons.mpr ⟨tmI tm3 (i := 209) rfl, List.forall_mem_cons.mpr ⟨tmI tm3 (i := 210) rfl, List.forall_mem_cons.mpr ⟨tmI tm3 (i := 211) rfl, List.forall_mem_cons.mpr ⟨tmI tm3 (i := 212) rfl, List.forall_mem_cons.mpr ⟨tmI tm3 (i := 213) rfl, List.forall_mem_cons.mpr ⟨tmI tm5 (i := 42) rfl, List.forall_mem_cons.mpr ⟨tmI tm5 (i := 43) rfl, List.forall_mem_cons.mpr ⟨tmI tm5 (i := 44) rfl, List.forall_mem_cons.mpr ⟨tmI tm5 (i := 45) rfl, List.forall_mem_cons.mpr ⟨tmI tm3 (i := 214) rfl, List.forall_mem_cons.mpr ⟨tmI tm3 (i := 215) rfl, List.forall_mem_cons.mpr ⟨tmI tm3 (i := 216) rfl, List.forall_mem_cons.mpr ⟨tmI tm3 (i := 217) rfl, List.forall_mem_cons.mpr ⟨tmI tm3 (i := 218) rfl, List.forall_mem_cons.mpr ⟨tmI tm3 (i := 220) rfl, List.forall_mem_cons.mpr ⟨tmI tmS (i := 12) rfl, List.forall_mem_cons.mpr ⟨tmI tm3 (i := 221) rfl, List.forall_mem_cons.mpr ⟨tmI tm3 (i := 222) rfl, List.forall_mem_cons.mpr ⟨tmI tm5 (i := 46) rfl, List.forall_mem_cons.mpr ⟨tmI tm5 (i := 47) rfl, List.forall_mem_cons.mpr ⟨tmI tm5 (i := 48) rfl, List.forall_mem_cons.mpr ⟨tmI tm5 (i := 49) rfl, List.forall_mem_cons.mpr ⟨tmI tm3 (i := 223) rfl, List.forall_mem_cons.mpr ⟨tmI tm3 (i := 224) rfl, fun _ h => absurd h List.not_mem_nil⟩⟩⟩⟩⟩⟩⟩⟩⟩⟩⟩⟩⟩⟩⟩⟩⟩⟩⟩⟩⟩⟩⟩⟩
set_option maxRecDepth 20000 in
theorem wi_36 : ∀ w ∈ wsL_law_r36, w ∈ lw_tbl := List.forall_mem_cons.mpr ⟨tmI tm3 (i := 225) rfl, List.forall_mem_cons.mpr ⟨tmI tm3 (i := 226) rfl, List.forall_mem_cons.mpr ⟨tmI tm5 (i := 50) rfl, List.forall_mem_cons.mpr ⟨tmI tm5 (i := 51) rfl, List.forall_mem_cons.mpr ⟨tmI tm5 (i := 52) rfl, List.forall_mem_cons.mpr ⟨tmI tm5 (i := 53) rfl, fun _ h => absurd h List.not_mem_nil⟩⟩⟩⟩⟩⟩
set_option maxRecDepth 20000 in
theorem wy_7 : ∀ w ∈ wsX70, w ∈ lw_tbl := by
  show ∀ w ∈ (List.range 7).map (u_lay RX7 TX7), w ∈ lw_tbl
  exact List.forall_mem_cons.mpr ⟨tmI tm1 (i := 208) rfl, List.forall_mem_cons.mpr ⟨tmI tm1 (i := 210) rfl, List.forall_mem_cons.mpr ⟨tmI tm1 (i := 212) rfl, List.forall_mem_cons.mpr ⟨tmI tm1 (i := 214) rfl, List.forall_mem_cons.mpr ⟨tmI tm1 (i := 216) rfl, List.forall_mem_cons.mpr ⟨tmI tm1 (i := 218) rfl, List.forall_mem_cons.mpr ⟨tmI tm1 (i := 220) rfl, fun _ h => absurd h List.not_mem_nil⟩⟩⟩⟩⟩⟩⟩
set_option maxRecDepth 20000 in
theorem wy_8 : ∀ w ∈ wsX80, w ∈ lw_tbl := by
  show ∀ w ∈ (List.range 19).map (u_lay RX8 TX8), w ∈ lw_tbl
  exact List.forall_mem_cons.mpr ⟨tmI tm4 (i := 16) rfl, List.forall_mem_cons.mpr ⟨tmI tm4 (i := 18) rfl, List.forall_mem_cons.mpr ⟨tmI tm4 (i := 20) rfl, List.forall_mem_cons.mpr ⟨tmI tm4 (i := 22) rfl, List.forall_mem_cons.mpr ⟨tmI tm4 (i := 24) rfl, List.forall_mem_cons.mpr ⟨tmI tm4 (i := 26) rfl, List.forall_mem_cons.mpr ⟨tmI tm4 (i := 28) rfl, List.forall_mem_cons.mpr ⟨tmI tm4 (i := 30) rfl, List.forall_mem_cons.mpr ⟨tmI tm4 (i := 32) rfl, List.forall_mem_cons.mpr ⟨tmI tm4 (i := 34) rfl, List.forall_mem_cons.mpr ⟨tmI tm4 (i := 36) rfl, List.forall_mem_cons.mpr ⟨tmI tm4 (i := 38) rfl, List.forall_mem_cons.mpr ⟨tmI tm4 (i := 40) rfl, List.forall_mem_cons.mpr ⟨tmI tm4 (i := 42) rfl, List.forall_mem_cons.mpr ⟨tmI tm4 (i := 44) rfl, List.forall_mem_cons.mpr ⟨tmI tm4 (i := 46) rfl, List.forall_mem_cons.mpr ⟨tmI tm4 (i := 48) rfl, List.forall_mem_cons.mpr ⟨tmI tm4 (i := 50) rfl, List.forall_mem_cons.mpr ⟨tmI tm4 (i := 52) rfl, fun _ h => absurd h List.not_mem_nil⟩⟩⟩⟩⟩⟩⟩⟩⟩⟩⟩⟩⟩⟩⟩⟩⟩⟩⟩
set_option maxRecDepth 20000 in
theorem wy_1 : ∀ w ∈ wsX10, w ∈ lw_tbl := by
  show ∀ w ∈ (List.range 7).map (u_lay RX1 TX1), w ∈ lw_tbl
  exact List.forall_mem_cons.mpr ⟨tmI tm1 (i := 76) rfl, List.forall_mem_cons.mpr ⟨tmI tm1 (i := 78) rfl, List.forall_mem_cons.mpr ⟨tmI tm1 (i := 80) rfl, List.forall_mem_cons.mpr ⟨tmI tm1 (i := 82) rfl, List.forall_mem_cons.mpr ⟨tmI tm1 (i := 84) rfl, List.forall_mem_cons.mpr ⟨tmI tm1 (i := 86) rfl, List.forall_mem_cons.mpr ⟨tmI tm1 (i := 88) rfl, fun _ h => absurd h List.not_mem_nil⟩⟩⟩⟩⟩⟩⟩
set_option maxRecDepth 20000 in
theorem wy_0 : ∀ w ∈ wsX00, w ∈ lw_tbl := by
  show ∀ w ∈ (List.range 3).map (u_lay RX0 TX0), w ∈ lw_tbl
  exact List.forall_mem_cons.mpr ⟨tmI tm1 (i := 104) rfl, List.forall_mem_cons.mpr ⟨tmI tm1 (i := 106) rfl, List.forall_mem_cons.mpr ⟨tmI tm1 (i := 108) rfl, fun _ h => absurd h List.not_mem_nil⟩⟩⟩
set_option maxRecDepth 20000 in
theorem wy_4 : ∀ w ∈ wsX40, w ∈ lw_tbl := by
  show ∀ w ∈ (List.range 2).map (u_lay RX4 TX4), w ∈ lw_tbl
  exact List.forall_mem_cons.mpr ⟨tmI tm1 (i := 122) rfl, List.forall_mem_cons.mpr ⟨tmI tm1 (i := 124) rfl, fun _ h => absurd h List.not_mem_nil⟩⟩
set_option maxRecDepth 20000 in
theorem wy_2 : ∀ w ∈ wsX20, w ∈ lw_tbl := by
  show ∀ w ∈ (List.range 2).map (u_lay RX2 TX2), w ∈ lw_tbl
  exact List.forall_mem_cons.mpr ⟨tmI tm1 (i := 136) rfl, List.forall_mem_cons.mpr ⟨tmI tm1 (i := 138) rfl, fun _ h => absurd h List.not_mem_nil⟩⟩
set_option maxRecDepth 20000 in
theorem wy_5 : ∀ w ∈ wsX50, w ∈ lw_tbl := by
  show ∀ w ∈ (List.range 8).map (u_lay RX5 TX5), w ∈ lw_tbl
  exact List.forall_mem_cons.mpr ⟨tmI tm1 (i := 177) rfl, List.forall_mem_cons.mpr ⟨tmI tm1 (i := 179) rfl, List.forall_mem_cons.mpr ⟨tmI tm1 (i := 181) rfl, List.forall_mem_cons.mpr ⟨tmI tm1 (i := 183) rfl, List.forall_mem_cons.mpr ⟨tmI tm1 (i := 185) rfl, List.forall_mem_cons.mpr ⟨tmI tm1 (i := 187) rfl, List.forall_mem_cons.mpr ⟨tmI tm1 (i := 189) rfl, List.forall_mem_cons.mpr ⟨tmI tm1 (i := 191) rfl, fun _ h => absurd h List.not_mem_nil⟩⟩⟩⟩⟩⟩⟩⟩
set_option maxRecDepth 20000 in
theorem wy_3 : ∀ w ∈ wsX30, w ∈ lw_tbl := by
  show ∀ w ∈ (List.range 5).map (u_lay RX3 TX3), w ∈ lw_tbl
  exact List.forall_mem_cons.mpr ⟨tmI tm1 (i := 49) rfl, List.forall_mem_cons.mpr ⟨tmI tm1 (i := 51) rfl, List.forall_mem_cons.mpr ⟨tmI tm1 (i := 53) rfl, List.forall_mem_cons.mpr ⟨tmI tm1 (i := 55) rfl, List.forall_mem_cons.mpr ⟨tmI tm1 (i := 57) rfl, fun _ h => absurd h List.not_mem_nil⟩⟩⟩⟩⟩
set_option maxRecDepth 20000 in
theorem wy_6 : ∀ w ∈ wsX60, w ∈ lw_tbl := by
  show ∀ w ∈ (List.range 2).map (u_lay RX6 TX6), w ∈ lw_tbl
  exact List.forall_mem_cons.mpr ⟨tmI tm1 (i := 157) rfl, List.forall_mem_cons.mpr ⟨tmI tm1 (i := 159) rfl, fun _ h => absurd h List.not_mem_nil⟩⟩
theorem mapp {A B : List Cond} (ha : ∀ w ∈ A, w ∈ lw_tbl) (hb : ∀ w ∈ B, w ∈ lw_tbl) : ∀ w ∈ A ++ B, w ∈ lw_tbl := fun w h => (List.mem_append.mp h).elim (ha w) (hb w)
theorem wsL_law_in : ∀ w ∈ wsL_law, w ∈ lw_tbl := mapp (mapp (mapp (mapp (mapp (mapp (mapp (mapp (mapp (mapp (mapp wi_1 (mapp wi_2 (mapp wi_3 (mapp wi_4 (mapp wi_5 (mapp wi_6 (mapp wi_7 (mapp wi_8 (mapp wi_9 (mapp wi_10 (mapp wi_11 (mapp wi_12 (mapp wi_13 (mapp wi_14 (mapp wi_15 (mapp wi_16 (mapp wi_17 (mapp wi_18 (mapp wi_19 (mapp wi_20 (mapp wi_21 (mapp wi_22 (mapp wi_23 (mapp wi_24 (mapp wi_25 (mapp wi_26 (mapp wi_27 (mapp wi_28 (mapp wi_29 (mapp wi_30 (mapp wi_31 (mapp wi_32 (mapp wi_33 (mapp wi_34 (mapp wi_35 (wi_36)))))))))))))))))))))))))))))))))))) wy_7) wy_8) wy_1) wy_0) wy_4) wy_2) wy_5) wy_3) wy_6) (fun _ h => absurd h List.not_mem_nil)
theorem inlX0 : ∀ w ∈ wsX00, w ∈ wsL_law := fun _ h => List.mem_append_left _ (List.mem_append_left _ (List.mem_append_left _ (List.mem_append_left _ (List.mem_append_left _ (List.mem_append_left _ (List.mem_append_right _ h))))))
theorem inX0 : ∀ w ∈ wsX00, w ∈ lw_tbl := fun w h => wsL_law_in w (inlX0 w h)
theorem inlX1 : ∀ w ∈ wsX10, w ∈ wsL_law := fun _ h => List.mem_append_left _ (List.mem_append_left _ (List.mem_append_left _ (List.mem_append_left _ (List.mem_append_left _ (List.mem_append_left _ (List.mem_append_left _ (List.mem_append_right _ h)))))))
theorem inX1 : ∀ w ∈ wsX10, w ∈ lw_tbl := fun w h => wsL_law_in w (inlX1 w h)
theorem inlX2 : ∀ w ∈ wsX20, w ∈ wsL_law := fun _ h => List.mem_append_left _ (List.mem_append_left _ (List.mem_append_left _ (List.mem_append_left _ (List.mem_append_right _ h))))
theorem inX2 : ∀ w ∈ wsX20, w ∈ lw_tbl := fun w h => wsL_law_in w (inlX2 w h)
theorem inlX3 : ∀ w ∈ wsX30, w ∈ wsL_law := fun _ h => List.mem_append_left _ (List.mem_append_left _ (List.mem_append_right _ h))
theorem inX3 : ∀ w ∈ wsX30, w ∈ lw_tbl := fun w h => wsL_law_in w (inlX3 w h)
theorem inlX4 : ∀ w ∈ wsX40, w ∈ wsL_law := fun _ h => List.mem_append_left _ (List.mem_append_left _ (List.mem_append_left _ (List.mem_append_left _ (List.mem_append_left _ (List.mem_append_right _ h)))))
theorem inX4 : ∀ w ∈ wsX40, w ∈ lw_tbl := fun w h => wsL_law_in w (inlX4 w h)
theorem inlX5 : ∀ w ∈ wsX50, w ∈ wsL_law := fun _ h => List.mem_append_left _ (List.mem_append_left _ (List.mem_append_left _ (List.mem_append_right _ h)))
theorem inX5 : ∀ w ∈ wsX50, w ∈ lw_tbl := fun w h => wsL_law_in w (inlX5 w h)
theorem inlX6 : ∀ w ∈ wsX60, w ∈ wsL_law := fun _ h => List.mem_append_left _ (List.mem_append_right _ h)
theorem inX6 : ∀ w ∈ wsX60, w ∈ lw_tbl := fun w h => wsL_law_in w (inlX6 w h)
theorem inlX7 : ∀ w ∈ wsX70, w ∈ wsL_law := fun _ h => List.mem_append_left _ (List.mem_append_left _ (List.mem_append_left _ (List.mem_append_left _ (List.mem_append_left _ (List.mem_append_left _ (List.mem_append_left _ (List.mem_append_left _ (List.mem_append_left _ (List.mem_append_right _ h)))))))))
theorem inX7 : ∀ w ∈ wsX70, w ∈ lw_tbl := fun w h => wsL_law_in w (inlX7 w h)
theorem inlX8 : ∀ w ∈ wsX80, w ∈ wsL_law := fun _ h => List.mem_append_left _ (List.mem_append_left _ (List.mem_append_left _ (List.mem_append_left _ (List.mem_append_left _ (List.mem_append_left _ (List.mem_append_left _ (List.mem_append_left _ (List.mem_append_right _ h))))))))
theorem inX8 : ∀ w ∈ wsX80, w ∈ lw_tbl := fun w h => wsL_law_in w (inlX8 w h)
theorem inJ11 : ∀ w ∈ wsJ110, w ∈ lw_tbl := by decide +kernel
theorem inJ9 : ∀ w ∈ wsJ90, w ∈ lw_tbl := by decide +kernel
theorem inJ0 : ∀ w ∈ wsJ00, w ∈ lw_tbl := by decide +kernel
theorem inJ1 : ∀ w ∈ wsJ10, w ∈ lw_tbl := by decide +kernel
theorem inJ2 : ∀ w ∈ wsJ20, w ∈ lw_tbl := by decide +kernel
theorem inJ3 : ∀ w ∈ wsJ30, w ∈ lw_tbl := by decide +kernel
abbrev vwCl : List vw_C := [(RX0, TX0, 3), (RX1, TX1, 7), (RX2, TX2, 2), (RX3, TX3, 5), (RX4, TX4, 2), (RX5, TX5, 8), (RX6, TX6, 2), (RX7, TX7, 7), (RX8, TX8, 19)]
end
section
/-! THE CLAIM OUT OF ONE WALK OF THE LAW'S BODY. Your part is whole_start (and what it stands on); all else here is the same for every law, but numbers. -/
def R_law : String := "OperaGlassesLaw"
def lw_P (b : Addr) (xs : List Int32) (args : Array Value) (s : State) : Prop := args = #[.ref b] ∧ s.IntsAt b xs ∧ xs.length ≤ 2560 ∧ (Jvm.Cond.and given_1 narrow_1).before args s = true
def lw_Q (_ : Array Value) (s : State) (o : Outcome) (t : State) : Prop := o = .returned (some (.int 1)) ∧ Framed s o t [] 600000 7302250
def lw_Z (below : List Frame) (a : Array Value) (s : State) : State → Prop := fun t => ∃ o, t.status = .running ∧ Ended t below o ∧ lw_Q a s o t
/-- the law's own end, with 1 on the stack, nothing written that was there before, its room as the claim has it -/
theorem lw_ret {p : Program} {l : Launch} {e : Env} {s : State} {m : MethodId} {below : List Frame} {meth : Method} {c : Code} {b : Nat} (hx : p.tables.exec = Jvm.exec) (hb : c.code = code) (hr : meth.sig.returnType = ret) (hlocks : meth.locks = false) {pc : Nat} {H : Heap} {ls : Array Slot} (hdg : decode code pc = .ok (.ireturn, 1)) : W p l e room_1 s m #[Value.ref b] below meth c H [] 600000 7302250 (lw_Z below #[Value.ref b] s) (F0 m pc ls [.int 1]) := by
  intro T hT X
  obtain ⟨fs, hret, hrun, hended, hW, hframe⟩ := X.leave (v := some (.int 1)) (hlocks := hlocks) (fun h => by rw [hr] at h; cases h)
  have hmeth' : T.vm.method? m = some meth := X.method'
  refine ⟨T.setFrames fs, ?_, .returned (some (.int 1)), hrun, hended, rfl, ⟨_, rfl⟩, hW, hframe⟩
  jvm_step X.here [X.here.top, hx, hb, hdg, hmeth', hr, ret, narrow_b1]
  (try refine ⟨rfl, ?_⟩); (try refine ⟨rfl, ?_⟩)
  first | (intro acts; rw [hret _ acts rfl rfl rfl]) | rw [hret _ _ rfl rfl rfl]
  exact Steps.refl _
/-- what holds at the law's entry: the machine, the code, the tables' words (any of lw_tbl by 'hts w (by decide +kernel)'), the script of L ints xs at the cell b, what the Statement gives of the start (any of its parts by flat_of_before) -/
def lw_At (p : Program) (s : State) (m : MethodId) (meth : Method) (c : Code) (b L : Nat) (xs : Nat → Int32) : Prop :=
  p.tables.exec = Jvm.exec ∧ c.code = code ∧ meth.sig.returnType = ret ∧ c.maxLocals = 4 ∧ s.vm.findClass R_law = some m.cls ∧ (∀ w ∈ lw_tbl, w.before #[Value.ref b] s = true) ∧ va_X b L xs s s.heap ∧ b < s.heap.size ∧ meth.locks = false ∧ (Jvm.Cond.and given_1 narrow_1).before #[Value.ref b] s = true
-- ===== YOUR PART BEGINS =====
/-- YOUR PART: from the entry, for every script of at most 2560 ints, the law comes to its end with true ('hflags': the launch's flags, for a law that throws: no stack traces) -/
theorem whole_start {p : Program} {e : Env} {s : State} {m : MethodId} {below : List Frame} {meth : Method} {c : Code} (l : Launch) (hflags : l.flags = flags0) {b L : Nat} {xs : Nat → Int32} (hL : L ≤ 2560) (C0 : lw_At p s m meth c b L xs) : W p l e room_1 s m #[Value.ref b] below meth c s.heap [] 0 0 (lw_Z below #[Value.ref b] s) (entryFrame m ([Value.ref b] : List Value).toArray 4) := by
  sorry
-- ===== YOUR PART ENDS =====
set_option maxHeartbeats 4000000 in
theorem lw_walk (l : Launch) (hflags : l.flags = flags0) (b : Addr) (xs : List Int32) : MetFree l x (headSpec (Jvm.Cond.code x code maxLocals ret :: tables_1) room_1) (lw_P b xs) (fun _ _ _ _ _ => True) lw_Q := by
  refine MetFree.of_bodyS (code := code) (maxLocals := maxLocals) (ret := ret) (by decide) ?_ ?_
  · intro args s m h hn
    obtain ⟨meth, c, h1, h2, h3, h4, h5, h6, -, -⟩ := Cond.code_spec hn (atoms_spec (ws := Jvm.Cond.code x code maxLocals ret :: tables_1) h _ List.mem_cons_self)
    exact ⟨meth, c, h1, h2, h3, h4, h5, h6⟩
  · intro p e s m args below meth c s₁ B hml0 hP _
    obtain ⟨rfl, hx, hbd, hgv⟩ := hP
    obtain ⟨scr, harrAt, hlist, hof, hsmall⟩ := hx
    obtain ⟨hcb, hkn, -, -⟩ := State.arrayAt?_spec harrAt
    have hown : s.vm.findClass R_law = some m.cls := findClass_of_methodNamed B.named
    have hts0 : ∀ c ∈ (Jvm.Cond.code x code maxLocals ret :: tables_1), c.before #[Value.ref b] s = true := atoms_spec (ws := Jvm.Cond.code x code maxLocals ret :: tables_1) B.pre
    have hts : ∀ w ∈ lw_tbl, w.before #[Value.ref b] s = true := k2_hts_sels lw_privs (fun w hw => hts0 w (List.mem_cons_of_mem _ hw)) lw_privs_ok
    have hml : c.maxLocals = 4 := B.maxLocals_eq (hts0 _ List.mem_cons_self)
    have X₀ : Stand p l e room_1 s m #[Value.ref b] below meth c s₁ [] 0 0 := Stand.of_body B
    have hh0 : s₁.heap = s.heap := by rw [B.state]; rfl
    have hsz : scr.slots.size = xs.length := by rw [← Array.length_toList, hlist, List.length_map]
    have hval : ∀ j : Nat, j < xs.length → scr.slots[j]? = some (.int (xs.getD j 0)) := fun j hj => by
      rw [← Array.getElem?_toList, hlist]
      simp [hj]
    have hbl : b < s.heap.size := (Array.getElem?_eq_some_iff.mp hcb).1
    have hX : va_X b xs.length (fun j => xs.getD j 0) s s.heap := ⟨scr, hcb, hof, hkn, hsz, hval⟩
    have K : W p l e room_1 s m #[Value.ref b] below meth c s₁.heap [] 0 0 (lw_Z below #[Value.ref b] s) (entryFrame m ([Value.ref b] : List Value).toArray 4) := by
      rw [hh0]
      exact whole_start l hflags hbd ⟨B.exec, B.bytes, B.returns, hml, hown, hts, hX, hbl, B.notSynchronized, hgv⟩
    obtain ⟨t, a1, o, b1, b2, b3⟩ := K s₁ rfl X₀
    exact ⟨t, o, a1, b1, b2, b3⟩
theorem lw_pre_spec {args : Array Value} {s : State} (h : (Jvm.Cond.and given_1 narrow_1).before args s = true) (hr : rest_1_c.before args s = true) : ∃ (b : Addr) (xs : List Int32), lw_P b xs args s := by
  have hs := flat_of_before _ h
  have hq := flat_of_before _ hr
  have hc : (Cond.count 1).before args s = true := hs _ (by decide +kernel)
  have harr : (Cond.arrayOf (.arg 0) .int).before args s = true := hs _ (by decide +kernel)
  have hle : (Cond.le (.length (.arg 0)) (.int 2560)).before args s = true := hs _ (by decide +kernel)
  have hlen : (Cond.isInt (.length (.arg 0))).before args s = true := hq _ (by decide +kernel)
  have hall : (Cond.all (.arg 0) (.isInt (.elem (.arg 0) (.index 0)))).before args s = true := hq _ (by decide +kernel)
  obtain ⟨b, xs, hb, hx⟩ := State.ints_of_pre rfl harr hlen hall
  have hsm : xs.length < 2 ^ 31 := hx.choose_spec.2.2.2
  have hev : (Term.length (.arg 0)).eval args s none [] s = some (.int xs.length.toInt32) := hx.length_eval hb
  have hv := Cond.le_ints hev (show (Term.int 2560).eval args s none [] s = some (.int 2560) from rfl)
  have hd : xs.length.toInt32 ≤ 2560 := by
    simpa [Cond.before, Cond.holds, hv] using hle
  have hN : xs.length ≤ 2560 := (Int32.ofNat_le_ofNat hsm (by decide)).mp (show Int32.ofNat xs.length ≤ Int32.ofNat 2560 from hd)
  exact ⟨b, xs, Cond.one_arg hc (show args[0]? = some (.ref b) from hb), hx, hN, h⟩
theorem lw_comes (l : Launch) (hflags : l.flags = flags0) : Comes l x (Jvm.Cond.code x code maxLocals ret :: tables_1) room_1 (fun tb e args s => Calls_1 tb e args s ∧ rest_1 tb e args s ∧ Pre_1 tb e args s)
    (fun _ _ args s o t => lw_Q args s o t) := by
  intro p e ha hc hk s m args below hf hfit hheap happ hpre
  obtain ⟨b, xs, hP⟩ := lw_pre_spec hpre.2.2 hpre.2.1
  obtain ⟨k, o, h1, h2, h3, hQ⟩ := lw_walk l hflags b xs p e ha hc hk s m args below hf ((Spec.applies_iff_loose hf).mp happ).1 hP trivial
  exact ⟨k, o, h1, h2, h3, hQ⟩
theorem lw_frame {s t : State} {o : Outcome} {args : Array Value} (h : Framed s o t [] 600000 7302250) :
    Framed s o t (fieldLocs frame_1_writes args s ++ arrayLocs frame_1_arrays args s ++ staticLocs frame_1_statics s) 600000 7302250 := h
theorem lw_limb (L : Cond) (hL : ∀ (args : Array Value) (s t : State), L.after args s (.returned (some (.int 1))) t = true) :
    ArmFor flags0 classFile x code maxLocals ret World_1 tables_1 room_1 Calls_1 rest_1 Pre_1
      (fun tb e a s o t => postC L tb e a s o t ∧ Framed s o t (fieldLocs frame_1_writes a s ++ arrayLocs frame_1_arrays a s ++ staticLocs frame_1_statics s) 600000 7302250) := by
  intro l hflags _ _ p e ha hc hk s m args below hf hfit hheap happ hpre
  obtain ⟨k, o, h1, h2, h3, rfl, hF⟩ := lw_comes l hflags p e ha hc hk s m args below hf hfit hheap happ hpre
  exact ⟨k, _, h1, h2, h3, hL args s _, lw_frame hF⟩
theorem i_vc : Claimed_1_1 ∧ Claimed_1_2 := ⟨lw_limb limb_1_1 (fun args s t => by simp [limb_1_1, Cond.after, Cond.holds, Cond.value]), lw_limb limb_1_2 (fun args s t => Cond.after_iff.mpr (by
  first | (rw [show limb_1_2 = Cond.eq .result (.int 1) from rfl, Cond.eq_ints (x := 1) (y := 1) rfl rfl]; simp; done) | (simp [limb_1_2, Cond.value, Term.eval]; done)))⟩
end
