theorem dX7_pointsOfGuess_1 : decode cX7_pointsOfGuess 1 = .ok (.getfield 10, 3) := by decide +kernel
theorem dX7_pointsOfGuess_4 : decode cX7_pointsOfGuess 4 = .ok (.getfield 62, 3) := by decide +kernel
theorem dX7_pointsOfGuess_7 : decode cX7_pointsOfGuess 7 = .ok (.iload_n 2, 1) := by decide +kernel
theorem dX7_pointsOfGuess_8 : decode cX7_pointsOfGuess 8 = .ok (.invokestatic 66, 3) := by decide +kernel
theorem dX7_pointsOfGuess_11 : decode cX7_pointsOfGuess 11 = .ok (.iload_n 3, 1) := by decide +kernel
theorem dX7_pointsOfGuess_12 : decode cX7_pointsOfGuess 12 = .ok (.if_icmp .ne 22, 3) := by decide +kernel
theorem dX7_pointsOfGuess_15 : decode cX7_pointsOfGuess 15 = .ok (.aload_n 1, 1) := by decide +kernel
theorem dX7_pointsOfGuess_16 : decode cX7_pointsOfGuess 16 = .ok (.aload_n 1, 1) := by decide +kernel
theorem dX7_pointsOfGuess_17 : decode cX7_pointsOfGuess 17 = .ok (.iload_n 2, 1) := by decide +kernel
theorem dX7_pointsOfGuess_18 : decode cX7_pointsOfGuess 18 = .ok (.iload_n 3, 1) := by decide +kernel
theorem dX7_pointsOfGuess_19 : decode cX7_pointsOfGuess 19 = .ok (.invokevirtual 211, 3) := by decide +kernel
theorem dX7_pointsOfGuess_22 : decode cX7_pointsOfGuess 22 = .ok (.invokevirtual 284, 3) := by decide +kernel
theorem dX7_pointsOfGuess_25 : decode cX7_pointsOfGuess 25 = .ok (.ifCond .eq 7, 3) := by decide +kernel
theorem dX7_pointsOfGuess_28 : decode cX7_pointsOfGuess 28 = .ok (.iconst 3, 1) := by decide +kernel
theorem dX7_pointsOfGuess_29 : decode cX7_pointsOfGuess 29 = .ok (.goto 4, 3) := by decide +kernel
theorem dX7_pointsOfGuess_32 : decode cX7_pointsOfGuess 32 = .ok (.iconst 5, 1) := by decide +kernel
theorem dX7_pointsOfGuess_33 : decode cX7_pointsOfGuess 33 = .ok (.ireturn, 1) := by decide +kernel
theorem dX7_pointsOfGuess_34 : decode cX7_pointsOfGuess 34 = .ok (.aload_n 1, 1) := by decide +kernel
theorem dX7_pointsOfGuess_35 : decode cX7_pointsOfGuess 35 = .ok (.aload_n 1, 1) := by decide +kernel
theorem dX7_pointsOfGuess_36 : decode cX7_pointsOfGuess 36 = .ok (.iload_n 2, 1) := by decide +kernel
theorem dX7_pointsOfGuess_37 : decode cX7_pointsOfGuess 37 = .ok (.iload_n 3, 1) := by decide +kernel
theorem dX7_pointsOfGuess_38 : decode cX7_pointsOfGuess 38 = .ok (.invokevirtual 211, 3) := by decide +kernel
theorem dX7_pointsOfGuess_41 : decode cX7_pointsOfGuess 41 = .ok (.invokevirtual 287, 3) := by decide +kernel
theorem dX7_pointsOfGuess_44 : decode cX7_pointsOfGuess 44 = .ok (.ifCond .eq 8, 3) := by decide +kernel
theorem dX7_pointsOfGuess_47 : decode cX7_pointsOfGuess 47 = .ok (.bipush (-4), 2) := by decide +kernel
theorem dX7_pointsOfGuess_49 : decode cX7_pointsOfGuess 49 = .ok (.goto 5, 3) := by decide +kernel
theorem dX7_pointsOfGuess_52 : decode cX7_pointsOfGuess 52 = .ok (.bipush (-2), 2) := by decide +kernel
theorem dX7_pointsOfGuess_54 : decode cX7_pointsOfGuess 54 = .ok (.ireturn, 1) := by decide +kernel
theorem dX7_watchers_0 : decode cX7_watchers 0 = .ok (.iconst 0, 1) := by decide +kernel
theorem dX7_watchers_1 : decode cX7_watchers 1 = .ok (.istore_n 2, 1) := by decide +kernel
theorem dX7_watchers_2 : decode cX7_watchers 2 = .ok (.iconst 0, 1) := by decide +kernel
theorem dX7_watchers_3 : decode cX7_watchers 3 = .ok (.istore_n 3, 1) := by decide +kernel
theorem dX7_watchers_4 : decode cX7_watchers 4 = .ok (.iload_n 3, 1) := by decide +kernel
theorem dX7_watchers_5 : decode cX7_watchers 5 = .ok (.aload_n 0, 1) := by decide +kernel
theorem dX7_watchers_6 : decode cX7_watchers 6 = .ok (.arraylength, 1) := by decide +kernel
theorem dX7_watchers_7 : decode cX7_watchers 7 = .ok (.if_icmp .ge 19, 3) := by decide +kernel
theorem dX7_watchers_10 : decode cX7_watchers 10 = .ok (.aload_n 0, 1) := by decide +kernel
theorem dX7_watchers_11 : decode cX7_watchers 11 = .ok (.iload_n 3, 1) := by decide +kernel
theorem dX7_watchers_12 : decode cX7_watchers 12 = .ok (.iaload, 1) := by decide +kernel
theorem dX7_watchers_13 : decode cX7_watchers 13 = .ok (.iload_n 1, 1) := by decide +kernel
theorem dX7_watchers_14 : decode cX7_watchers 14 = .ok (.if_icmp .ne 6, 3) := by decide +kernel
theorem dX7_watchers_17 : decode cX7_watchers 17 = .ok (.iinc 2 1, 3) := by decide +kernel
theorem dX7_watchers_20 : decode cX7_watchers 20 = .ok (.iinc 3 1, 3) := by decide +kernel
theorem dX7_watchers_23 : decode cX7_watchers 23 = .ok (.goto (-19), 3) := by decide +kernel
theorem dX7_watchers_26 : decode cX7_watchers 26 = .ok (.iload_n 2, 1) := by decide +kernel
theorem dX7_watchers_27 : decode cX7_watchers 27 = .ok (.ireturn, 1) := by decide +kernel
theorem dX7_at_0 : decode cX7_at 0 = .ok (.iload_n 1, 1) := by decide +kernel
theorem dX7_at_1 : decode cX7_at 1 = .ok (.ifCond .lt 15, 3) := by decide +kernel
theorem dX7_at_4 : decode cX7_at 4 = .ok (.iload_n 1, 1) := by decide +kernel
theorem dX7_at_5 : decode cX7_at 5 = .ok (.aload_n 0, 1) := by decide +kernel
theorem dX7_at_6 : decode cX7_at 6 = .ok (.arraylength, 1) := by decide +kernel
theorem dX7_at_7 : decode cX7_at 7 = .ok (.if_icmp .ge 9, 3) := by decide +kernel
theorem dX7_at_10 : decode cX7_at 10 = .ok (.aload_n 0, 1) := by decide +kernel
theorem dX7_at_11 : decode cX7_at 11 = .ok (.iload_n 1, 1) := by decide +kernel
theorem dX7_at_12 : decode cX7_at 12 = .ok (.iaload, 1) := by decide +kernel
theorem dX7_at_13 : decode cX7_at 13 = .ok (.goto 4, 3) := by decide +kernel
theorem dX7_at_16 : decode cX7_at 16 = .ok (.iconst (-1), 1) := by decide +kernel
theorem dX7_at_17 : decode cX7_at 17 = .ok (.ireturn, 1) := by decide +kernel
theorem dX7_setAt_0 : decode cX7_setAt 0 = .ok (.iload_n 1, 1) := by decide +kernel
theorem dX7_setAt_1 : decode cX7_setAt 1 = .ok (.ifCond .lt 13, 3) := by decide +kernel
theorem dX7_setAt_4 : decode cX7_setAt 4 = .ok (.iload_n 1, 1) := by decide +kernel
theorem dX7_setAt_5 : decode cX7_setAt 5 = .ok (.aload_n 0, 1) := by decide +kernel
theorem dX7_setAt_6 : decode cX7_setAt 6 = .ok (.arraylength, 1) := by decide +kernel
theorem dX7_setAt_7 : decode cX7_setAt 7 = .ok (.if_icmp .ge 7, 3) := by decide +kernel
theorem dX7_setAt_10 : decode cX7_setAt 10 = .ok (.aload_n 0, 1) := by decide +kernel
theorem dX7_setAt_11 : decode cX7_setAt 11 = .ok (.iload_n 1, 1) := by decide +kernel
theorem dX7_setAt_12 : decode cX7_setAt 12 = .ok (.iload_n 2, 1) := by decide +kernel
theorem dX7_setAt_13 : decode cX7_setAt 13 = .ok (.iastore, 1) := by decide +kernel
theorem dX7_setAt_14 : decode cX7_setAt 14 = .ok (.return_, 1) := by decide +kernel
theorem dX7_addAt_0 : decode cX7_addAt 0 = .ok (.iload_n 1, 1) := by decide +kernel
theorem dX7_addAt_1 : decode cX7_addAt 1 = .ok (.ifCond .lt 16, 3) := by decide +kernel
theorem dX7_addAt_4 : decode cX7_addAt 4 = .ok (.iload_n 1, 1) := by decide +kernel
theorem dX7_addAt_5 : decode cX7_addAt 5 = .ok (.aload_n 0, 1) := by decide +kernel
theorem dX7_addAt_6 : decode cX7_addAt 6 = .ok (.arraylength, 1) := by decide +kernel
theorem dX7_addAt_7 : decode cX7_addAt 7 = .ok (.if_icmp .ge 10, 3) := by decide +kernel
theorem dX7_addAt_10 : decode cX7_addAt 10 = .ok (.aload_n 0, 1) := by decide +kernel
theorem dX7_addAt_11 : decode cX7_addAt 11 = .ok (.iload_n 1, 1) := by decide +kernel
theorem dX7_addAt_12 : decode cX7_addAt 12 = .ok (.dup2, 1) := by decide +kernel
theorem dX7_addAt_13 : decode cX7_addAt 13 = .ok (.iaload, 1) := by decide +kernel
theorem dX7_addAt_14 : decode cX7_addAt 14 = .ok (.iload_n 2, 1) := by decide +kernel
theorem dX7_addAt_15 : decode cX7_addAt 15 = .ok (.iadd, 1) := by decide +kernel
theorem dX7_addAt_16 : decode cX7_addAt 16 = .ok (.iastore, 1) := by decide +kernel
theorem dX7_addAt_17 : decode cX7_addAt 17 = .ok (.return_, 1) := by decide +kernel
theorem dX7_fillRow_0 : decode cX7_fillRow 0 = .ok (.iconst 0, 1) := by decide +kernel
theorem dX7_fillRow_1 : decode cX7_fillRow 1 = .ok (.istore_n 2, 1) := by decide +kernel
theorem dX7_fillRow_2 : decode cX7_fillRow 2 = .ok (.iload_n 2, 1) := by decide +kernel
theorem dX7_fillRow_3 : decode cX7_fillRow 3 = .ok (.aload_n 0, 1) := by decide +kernel
theorem dX7_fillRow_4 : decode cX7_fillRow 4 = .ok (.arraylength, 1) := by decide +kernel
theorem dX7_fillRow_5 : decode cX7_fillRow 5 = .ok (.if_icmp .ge 13, 3) := by decide +kernel
theorem dX7_fillRow_8 : decode cX7_fillRow 8 = .ok (.aload_n 0, 1) := by decide +kernel
theorem dX7_fillRow_9 : decode cX7_fillRow 9 = .ok (.iload_n 2, 1) := by decide +kernel
theorem dX7_fillRow_10 : decode cX7_fillRow 10 = .ok (.iload_n 1, 1) := by decide +kernel
theorem dX7_fillRow_11 : decode cX7_fillRow 11 = .ok (.iastore, 1) := by decide +kernel
theorem dX7_fillRow_12 : decode cX7_fillRow 12 = .ok (.iinc 2 1, 3) := by decide +kernel
theorem dX7_fillRow_15 : decode cX7_fillRow 15 = .ok (.goto (-13), 3) := by decide +kernel
theorem dX7_fillRow_18 : decode cX7_fillRow 18 = .ok (.return_, 1) := by decide +kernel
theorem dX7_copyRow_0 : decode cX7_copyRow 0 = .ok (.iconst 0, 1) := by decide +kernel
theorem dX7_copyRow_1 : decode cX7_copyRow 1 = .ok (.istore_n 2, 1) := by decide +kernel
theorem dX7_copyRow_2 : decode cX7_copyRow 2 = .ok (.iload_n 2, 1) := by decide +kernel
theorem dX7_copyRow_3 : decode cX7_copyRow 3 = .ok (.aload_n 0, 1) := by decide +kernel
theorem dX7_copyRow_4 : decode cX7_copyRow 4 = .ok (.arraylength, 1) := by decide +kernel
theorem dX7_copyRow_5 : decode cX7_copyRow 5 = .ok (.if_icmp .ge 21, 3) := by decide +kernel
theorem dX7_copyRow_8 : decode cX7_copyRow 8 = .ok (.iload_n 2, 1) := by decide +kernel
theorem dX7_copyRow_9 : decode cX7_copyRow 9 = .ok (.aload_n 1, 1) := by decide +kernel
theorem dX7_copyRow_10 : decode cX7_copyRow 10 = .ok (.arraylength, 1) := by decide +kernel
theorem dX7_copyRow_11 : decode cX7_copyRow 11 = .ok (.if_icmp .ge 15, 3) := by decide +kernel
theorem dX7_copyRow_14 : decode cX7_copyRow 14 = .ok (.aload_n 1, 1) := by decide +kernel
theorem dX7_copyRow_15 : decode cX7_copyRow 15 = .ok (.iload_n 2, 1) := by decide +kernel
theorem dX7_copyRow_16 : decode cX7_copyRow 16 = .ok (.aload_n 0, 1) := by decide +kernel
theorem dX7_copyRow_17 : decode cX7_copyRow 17 = .ok (.iload_n 2, 1) := by decide +kernel
theorem dX7_copyRow_18 : decode cX7_copyRow 18 = .ok (.iaload, 1) := by decide +kernel
theorem dX7_copyRow_19 : decode cX7_copyRow 19 = .ok (.iastore, 1) := by decide +kernel
theorem dX7_copyRow_20 : decode cX7_copyRow 20 = .ok (.iinc 2 1, 3) := by decide +kernel
theorem dX7_copyRow_23 : decode cX7_copyRow 23 = .ok (.goto (-21), 3) := by decide +kernel
theorem dX7_copyRow_26 : decode cX7_copyRow 26 = .ok (.return_, 1) := by decide +kernel
theorem dJ9_max_7cf53_0 : decode cJ9_max_7cf53 0 = .ok (.iload_n 0, 1) := by decide +kernel
theorem dJ9_max_7cf53_1 : decode cJ9_max_7cf53 1 = .ok (.iload_n 1, 1) := by decide +kernel
theorem dJ9_max_7cf53_2 : decode cJ9_max_7cf53 2 = .ok (.if_icmp .lt 7, 3) := by decide +kernel
theorem dJ9_max_7cf53_5 : decode cJ9_max_7cf53 5 = .ok (.iload_n 0, 1) := by decide +kernel
theorem dJ9_max_7cf53_6 : decode cJ9_max_7cf53 6 = .ok (.goto 4, 3) := by decide +kernel
theorem dJ9_max_7cf53_9 : decode cJ9_max_7cf53 9 = .ok (.iload_n 1, 1) := by decide +kernel
theorem dJ9_max_7cf53_10 : decode cJ9_max_7cf53 10 = .ok (.ireturn, 1) := by decide +kernel
theorem dJ9_min_7cf53_0 : decode cJ9_min_7cf53 0 = .ok (.iload_n 0, 1) := by decide +kernel
theorem dJ9_min_7cf53_1 : decode cJ9_min_7cf53 1 = .ok (.iload_n 1, 1) := by decide +kernel
theorem dJ9_min_7cf53_2 : decode cJ9_min_7cf53 2 = .ok (.if_icmp .gt 7, 3) := by decide +kernel
theorem dJ9_min_7cf53_5 : decode cJ9_min_7cf53 5 = .ok (.iload_n 0, 1) := by decide +kernel
theorem dJ9_min_7cf53_6 : decode cJ9_min_7cf53 6 = .ok (.goto 4, 3) := by decide +kernel
theorem dJ9_min_7cf53_9 : decode cJ9_min_7cf53 9 = .ok (.iload_n 1, 1) := by decide +kernel
theorem dJ9_min_7cf53_10 : decode cJ9_min_7cf53 10 = .ok (.ireturn, 1) := by decide +kernel
theorem dL_cell_0 : decode cL_cell 0 = .ok (.iload_n 1, 1) := by decide +kernel
theorem dL_cell_1 : decode cL_cell 1 = .ok (.aload_n 0, 1) := by decide +kernel
theorem dL_cell_2 : decode cL_cell 2 = .ok (.arraylength, 1) := by decide +kernel
theorem dL_cell_3 : decode cL_cell 3 = .ok (.if_icmp .ge 9, 3) := by decide +kernel
theorem dL_cell_6 : decode cL_cell 6 = .ok (.aload_n 0, 1) := by decide +kernel
theorem dL_cell_7 : decode cL_cell 7 = .ok (.iload_n 1, 1) := by decide +kernel
theorem dL_cell_8 : decode cL_cell 8 = .ok (.iaload, 1) := by decide +kernel
theorem dL_cell_9 : decode cL_cell 9 = .ok (.goto 12, 3) := by decide +kernel
theorem dL_cell_12 : decode cL_cell 12 = .ok (.ldc 7, 2) := by decide +kernel
theorem dL_cell_14 : decode cL_cell 14 = .ok (.iload_n 1, 1) := by decide +kernel
theorem dL_cell_15 : decode cL_cell 15 = .ok (.iconst 1, 1) := by decide +kernel
theorem dL_cell_16 : decode cL_cell 16 = .ok (.iadd, 1) := by decide +kernel
theorem dL_cell_17 : decode cL_cell 17 = .ok (.imul, 1) := by decide +kernel
theorem dL_cell_18 : decode cL_cell 18 = .ok (.ldc 8, 2) := by decide +kernel
theorem dL_cell_20 : decode cL_cell 20 = .ok (.iadd, 1) := by decide +kernel
theorem dL_cell_21 : decode cL_cell 21 = .ok (.ireturn, 1) := by decide +kernel
theorem dL_low_0 : decode cL_low 0 = .ok (.iload_n 0, 1) := by decide +kernel
theorem dL_low_1 : decode cL_low 1 = .ok (.ldc 9, 2) := by decide +kernel
theorem dL_low_3 : decode cL_low 3 = .ok (.iand, 1) := by decide +kernel
theorem dL_low_4 : decode cL_low 4 = .ok (.iload_n 1, 1) := by decide +kernel
theorem dL_low_5 : decode cL_low 5 = .ok (.irem, 1) := by decide +kernel
theorem dL_low_6 : decode cL_low 6 = .ok (.ireturn, 1) := by decide +kernel
theorem dL_holds_0 : decode cL_holds 0 = .ok (.iconst 0, 1) := by decide +kernel
theorem dL_holds_1 : decode cL_holds 1 = .ok (.istore 5, 2) := by decide +kernel
theorem dL_holds_3 : decode cL_holds 3 = .ok (.iconst 0, 1) := by decide +kernel
theorem dL_holds_4 : decode cL_holds 4 = .ok (.istore 6, 2) := by decide +kernel
theorem dL_holds_6 : decode cL_holds 6 = .ok (.iload 6, 2) := by decide +kernel
theorem dL_holds_8 : decode cL_holds 8 = .ok (.iload 4, 2) := by decide +kernel
theorem dL_holds_10 : decode cL_holds 10 = .ok (.if_icmp .ge 27, 3) := by decide +kernel
theorem dL_holds_13 : decode cL_holds 13 = .ok (.iload 5, 2) := by decide +kernel
theorem dL_holds_15 : decode cL_holds 15 = .ok (.aload_n 3, 1) := by decide +kernel
theorem dL_holds_16 : decode cL_holds 16 = .ok (.iload 6, 2) := by decide +kernel
theorem dL_holds_18 : decode cL_holds 18 = .ok (.iaload, 1) := by decide +kernel
theorem dL_holds_19 : decode cL_holds 19 = .ok (.iload_n 1, 1) := by decide +kernel
theorem dL_holds_20 : decode cL_holds 20 = .ok (.if_icmp .ne 7, 3) := by decide +kernel
theorem dL_holds_23 : decode cL_holds 23 = .ok (.iconst 1, 1) := by decide +kernel
theorem dL_holds_24 : decode cL_holds 24 = .ok (.goto 4, 3) := by decide +kernel
theorem dL_holds_27 : decode cL_holds 27 = .ok (.iconst 0, 1) := by decide +kernel
theorem dL_holds_28 : decode cL_holds 28 = .ok (.iadd, 1) := by decide +kernel
theorem dL_holds_29 : decode cL_holds 29 = .ok (.istore 5, 2) := by decide +kernel
theorem dL_holds_31 : decode cL_holds 31 = .ok (.iinc 6 1, 3) := by decide +kernel
theorem dL_holds_34 : decode cL_holds 34 = .ok (.goto (-28), 3) := by decide +kernel
theorem dL_holds_37 : decode cL_holds 37 = .ok (.iload_n 0, 1) := by decide +kernel
theorem dL_holds_38 : decode cL_holds 38 = .ok (.ifCond .ne 10, 3) := by decide +kernel
theorem dL_holds_41 : decode cL_holds 41 = .ok (.aload_n 3, 1) := by decide +kernel
theorem dL_holds_42 : decode cL_holds 42 = .ok (.iload_n 1, 1) := by decide +kernel
theorem dL_holds_43 : decode cL_holds 43 = .ok (.iaload, 1) := by decide +kernel
theorem dL_holds_44 : decode cL_holds 44 = .ok (.iload_n 2, 1) := by decide +kernel
theorem dL_holds_45 : decode cL_holds 45 = .ok (.if_icmp .eq 73, 3) := by decide +kernel
theorem dL_holds_48 : decode cL_holds 48 = .ok (.iload_n 0, 1) := by decide +kernel
theorem dL_holds_49 : decode cL_holds 49 = .ok (.iconst 1, 1) := by decide +kernel
theorem dL_holds_50 : decode cL_holds 50 = .ok (.if_icmp .ne 10, 3) := by decide +kernel
theorem dL_holds_53 : decode cL_holds 53 = .ok (.aload_n 3, 1) := by decide +kernel
theorem dL_holds_54 : decode cL_holds 54 = .ok (.iload_n 1, 1) := by decide +kernel
theorem dL_holds_55 : decode cL_holds 55 = .ok (.iaload, 1) := by decide +kernel
theorem dL_holds_56 : decode cL_holds 56 = .ok (.iload_n 2, 1) := by decide +kernel
theorem dL_holds_57 : decode cL_holds 57 = .ok (.if_icmp .ne 61, 3) := by decide +kernel
theorem dL_holds_60 : decode cL_holds 60 = .ok (.iload_n 0, 1) := by decide +kernel
theorem dL_holds_61 : decode cL_holds 61 = .ok (.iconst 2, 1) := by decide +kernel
theorem dL_holds_62 : decode cL_holds 62 = .ok (.if_icmp .ne 17, 3) := by decide +kernel
theorem dL_holds_65 : decode cL_holds 65 = .ok (.aload_n 3, 1) := by decide +kernel
theorem dL_holds_66 : decode cL_holds 66 = .ok (.iload_n 1, 1) := by decide +kernel
theorem dL_holds_67 : decode cL_holds 67 = .ok (.iaload, 1) := by decide +kernel
theorem dL_holds_68 : decode cL_holds 68 = .ok (.iload_n 2, 1) := by decide +kernel
theorem dL_holds_69 : decode cL_holds 69 = .ok (.if_icmp .ne 10, 3) := by decide +kernel
theorem dL_holds_72 : decode cL_holds 72 = .ok (.aload_n 3, 1) := by decide +kernel
theorem dL_holds_73 : decode cL_holds 73 = .ok (.iload_n 2, 1) := by decide +kernel
theorem dL_holds_74 : decode cL_holds 74 = .ok (.iaload, 1) := by decide +kernel
theorem dL_holds_75 : decode cL_holds 75 = .ok (.iload_n 1, 1) := by decide +kernel
theorem dL_holds_76 : decode cL_holds 76 = .ok (.if_icmp .eq 42, 3) := by decide +kernel
theorem dL_holds_79 : decode cL_holds 79 = .ok (.iload_n 0, 1) := by decide +kernel
theorem dL_holds_80 : decode cL_holds 80 = .ok (.iconst 3, 1) := by decide +kernel
theorem dL_holds_81 : decode cL_holds 81 = .ok (.if_icmp .ne 12, 3) := by decide +kernel
theorem dL_holds_84 : decode cL_holds 84 = .ok (.aload_n 3, 1) := by decide +kernel
theorem dL_holds_85 : decode cL_holds 85 = .ok (.iload_n 1, 1) := by decide +kernel
theorem dL_holds_86 : decode cL_holds 86 = .ok (.iaload, 1) := by decide +kernel
theorem dL_holds_87 : decode cL_holds 87 = .ok (.aload_n 3, 1) := by decide +kernel
theorem dL_holds_88 : decode cL_holds 88 = .ok (.iload_n 2, 1) := by decide +kernel
theorem dL_holds_89 : decode cL_holds 89 = .ok (.iaload, 1) := by decide +kernel
theorem dL_holds_90 : decode cL_holds 90 = .ok (.if_icmp .eq 28, 3) := by decide +kernel
theorem dL_holds_93 : decode cL_holds 93 = .ok (.iload_n 0, 1) := by decide +kernel
theorem dL_holds_94 : decode cL_holds 94 = .ok (.iconst 4, 1) := by decide +kernel
theorem dL_holds_95 : decode cL_holds 95 = .ok (.if_icmp .ne 9, 3) := by decide +kernel
theorem dL_holds_98 : decode cL_holds 98 = .ok (.iload 5, 2) := by decide +kernel
theorem dL_holds_100 : decode cL_holds 100 = .ok (.iload_n 2, 1) := by decide +kernel
theorem dL_holds_101 : decode cL_holds 101 = .ok (.if_icmp .eq 17, 3) := by decide +kernel
theorem dL_holds_104 : decode cL_holds 104 = .ok (.iload_n 0, 1) := by decide +kernel
theorem dL_holds_105 : decode cL_holds 105 = .ok (.iconst 5, 1) := by decide +kernel
theorem dL_holds_106 : decode cL_holds 106 = .ok (.if_icmp .ne 16, 3) := by decide +kernel
theorem dL_holds_109 : decode cL_holds 109 = .ok (.aload_n 3, 1) := by decide +kernel
theorem dL_holds_110 : decode cL_holds 110 = .ok (.aload_n 3, 1) := by decide +kernel
theorem dL_holds_111 : decode cL_holds 111 = .ok (.iload_n 1, 1) := by decide +kernel
theorem dL_holds_112 : decode cL_holds 112 = .ok (.iaload, 1) := by decide +kernel
theorem dL_holds_113 : decode cL_holds 113 = .ok (.iaload, 1) := by decide +kernel
theorem dL_holds_114 : decode cL_holds 114 = .ok (.iload_n 2, 1) := by decide +kernel
theorem dL_holds_115 : decode cL_holds 115 = .ok (.if_icmp .ne 7, 3) := by decide +kernel
theorem dL_holds_118 : decode cL_holds 118 = .ok (.iconst 1, 1) := by decide +kernel
theorem dL_holds_119 : decode cL_holds 119 = .ok (.goto 4, 3) := by decide +kernel
theorem dL_holds_122 : decode cL_holds 122 = .ok (.iconst 0, 1) := by decide +kernel
theorem dL_holds_123 : decode cL_holds 123 = .ok (.ireturn, 1) := by decide +kernel
theorem dL_of_0 : decode cL_of 0 = .ok (.aload_n 1, 1) := by decide +kernel
theorem dL_of_1 : decode cL_of 1 = .ok (.iconst 5, 1) := by decide +kernel
theorem dL_of_2 : decode cL_of 2 = .ok (.iload_n 0, 1) := by decide +kernel
theorem dL_of_3 : decode cL_of 3 = .ok (.imul, 1) := by decide +kernel
theorem dL_of_4 : decode cL_of 4 = .ok (.iconst 1, 1) := by decide +kernel
theorem dL_of_5 : decode cL_of 5 = .ok (.iadd, 1) := by decide +kernel
theorem dL_of_6 : decode cL_of 6 = .ok (.iaload, 1) := by decide +kernel
theorem dL_of_7 : decode cL_of 7 = .ok (.aload_n 1, 1) := by decide +kernel
theorem dL_of_8 : decode cL_of 8 = .ok (.iconst 5, 1) := by decide +kernel
theorem dL_of_9 : decode cL_of 9 = .ok (.iload_n 0, 1) := by decide +kernel
theorem dL_of_10 : decode cL_of 10 = .ok (.imul, 1) := by decide +kernel
theorem dL_of_11 : decode cL_of 11 = .ok (.iconst 2, 1) := by decide +kernel
theorem dL_of_12 : decode cL_of 12 = .ok (.iadd, 1) := by decide +kernel
theorem dL_of_13 : decode cL_of 13 = .ok (.iaload, 1) := by decide +kernel
theorem dL_of_14 : decode cL_of 14 = .ok (.aload_n 1, 1) := by decide +kernel
theorem dL_of_15 : decode cL_of 15 = .ok (.iconst 5, 1) := by decide +kernel
theorem dL_of_16 : decode cL_of 16 = .ok (.iload_n 0, 1) := by decide +kernel
theorem dL_of_17 : decode cL_of 17 = .ok (.imul, 1) := by decide +kernel
theorem dL_of_18 : decode cL_of 18 = .ok (.iconst 3, 1) := by decide +kernel
theorem dL_of_19 : decode cL_of 19 = .ok (.iadd, 1) := by decide +kernel
theorem dL_of_20 : decode cL_of 20 = .ok (.iaload, 1) := by decide +kernel
theorem dL_of_21 : decode cL_of 21 = .ok (.aload_n 2, 1) := by decide +kernel
theorem dL_of_22 : decode cL_of 22 = .ok (.iload_n 3, 1) := by decide +kernel
theorem dL_of_23 : decode cL_of 23 = .ok (.invokestatic 10, 3) := by decide +kernel
theorem dL_of_26 : decode cL_of 26 = .ok (.ireturn, 1) := by decide +kernel
theorem dL_may_0 : decode cL_may 0 = .ok (.iconst 0, 1) := by decide +kernel
theorem dL_may_1 : decode cL_may 1 = .ok (.istore 4, 2) := by decide +kernel
theorem dL_may_3 : decode cL_may 3 = .ok (.iload 4, 2) := by decide +kernel
theorem dL_may_5 : decode cL_may 5 = .ok (.aload_n 0, 1) := by decide +kernel
theorem dL_may_6 : decode cL_may 6 = .ok (.iconst 1, 1) := by decide +kernel
theorem dL_may_7 : decode cL_may 7 = .ok (.iaload, 1) := by decide +kernel
theorem dL_may_8 : decode cL_may 8 = .ok (.if_icmp .ge 58, 3) := by decide +kernel
theorem dL_may_11 : decode cL_may 11 = .ok (.iload 4, 2) := by decide +kernel
theorem dL_may_13 : decode cL_may 13 = .ok (.iload_n 3, 1) := by decide +kernel
theorem dL_may_14 : decode cL_may 14 = .ok (.if_icmp .eq 46, 3) := by decide +kernel
theorem dL_may_17 : decode cL_may 17 = .ok (.aload_n 1, 1) := by decide +kernel
theorem dL_may_18 : decode cL_may 18 = .ok (.iconst 5, 1) := by decide +kernel
theorem dL_may_19 : decode cL_may 19 = .ok (.iload 4, 2) := by decide +kernel
theorem dL_may_21 : decode cL_may 21 = .ok (.imul, 1) := by decide +kernel
theorem dL_may_22 : decode cL_may 22 = .ok (.iconst 4, 1) := by decide +kernel
theorem dL_may_23 : decode cL_may 23 = .ok (.iadd, 1) := by decide +kernel
theorem dL_may_24 : decode cL_may 24 = .ok (.iaload, 1) := by decide +kernel
theorem dL_may_25 : decode cL_may 25 = .ok (.ifCond .eq 35, 3) := by decide +kernel
theorem dL_may_28 : decode cL_may 28 = .ok (.iload 4, 2) := by decide +kernel
theorem dL_may_30 : decode cL_may 30 = .ok (.aload_n 1, 1) := by decide +kernel
theorem dL_may_31 : decode cL_may 31 = .ok (.aload_n 2, 1) := by decide +kernel
theorem dL_may_32 : decode cL_may 32 = .ok (.aload_n 0, 1) := by decide +kernel
theorem dL_may_33 : decode cL_may 33 = .ok (.iconst 0, 1) := by decide +kernel
theorem dL_may_34 : decode cL_may 34 = .ok (.iaload, 1) := by decide +kernel
theorem dL_may_35 : decode cL_may 35 = .ok (.invokestatic 16, 3) := by decide +kernel
theorem dL_may_38 : decode cL_may 38 = .ok (.aload_n 1, 1) := by decide +kernel
theorem dL_may_39 : decode cL_may 39 = .ok (.iconst 5, 1) := by decide +kernel
theorem dL_may_40 : decode cL_may 40 = .ok (.iload 4, 2) := by decide +kernel
theorem dL_may_42 : decode cL_may 42 = .ok (.imul, 1) := by decide +kernel
theorem dL_may_43 : decode cL_may 43 = .ok (.iconst 4, 1) := by decide +kernel
theorem dL_may_44 : decode cL_may 44 = .ok (.iadd, 1) := by decide +kernel
theorem dL_may_45 : decode cL_may 45 = .ok (.iaload, 1) := by decide +kernel
theorem dL_may_46 : decode cL_may 46 = .ok (.iconst 1, 1) := by decide +kernel
theorem dL_may_47 : decode cL_may 47 = .ok (.if_icmp .ne 7, 3) := by decide +kernel
theorem dL_may_50 : decode cL_may 50 = .ok (.iconst 1, 1) := by decide +kernel
theorem dL_may_51 : decode cL_may 51 = .ok (.goto 4, 3) := by decide +kernel
theorem dL_may_54 : decode cL_may 54 = .ok (.iconst 0, 1) := by decide +kernel
theorem dL_may_55 : decode cL_may 55 = .ok (.if_icmp .eq 5, 3) := by decide +kernel
theorem dL_may_58 : decode cL_may 58 = .ok (.iconst 0, 1) := by decide +kernel
theorem dL_may_59 : decode cL_may 59 = .ok (.ireturn, 1) := by decide +kernel
theorem dL_may_60 : decode cL_may 60 = .ok (.iinc 4 1, 3) := by decide +kernel
theorem dL_may_63 : decode cL_may 63 = .ok (.goto (-60), 3) := by decide +kernel
theorem dL_may_66 : decode cL_may 66 = .ok (.iconst 1, 1) := by decide +kernel
theorem dL_may_67 : decode cL_may 67 = .ok (.ireturn, 1) := by decide +kernel
theorem dL_first_0 : decode cL_first 0 = .ok (.iconst 0, 1) := by decide +kernel
theorem dL_first_1 : decode cL_first 1 = .ok (.istore_n 2, 1) := by decide +kernel
theorem dL_first_2 : decode cL_first 2 = .ok (.iload_n 2, 1) := by decide +kernel
theorem dL_first_3 : decode cL_first 3 = .ok (.aload_n 0, 1) := by decide +kernel
theorem dL_first_4 : decode cL_first 4 = .ok (.iconst 0, 1) := by decide +kernel
theorem dL_first_5 : decode cL_first 5 = .ok (.iaload, 1) := by decide +kernel
theorem dL_first_6 : decode cL_first 6 = .ok (.if_icmp .ge 21, 3) := by decide +kernel
theorem dL_first_9 : decode cL_first 9 = .ok (.aload_n 1, 1) := by decide +kernel
theorem dL_first_10 : decode cL_first 10 = .ok (.iload_n 2, 1) := by decide +kernel
theorem dL_first_11 : decode cL_first 11 = .ok (.iload_n 2, 1) := by decide +kernel
theorem dL_first_12 : decode cL_first 12 = .ok (.ifCond .ne 7, 3) := by decide +kernel
theorem dL_first_15 : decode cL_first 15 = .ok (.iconst 1, 1) := by decide +kernel
theorem dL_first_16 : decode cL_first 16 = .ok (.goto 4, 3) := by decide +kernel
theorem dL_first_19 : decode cL_first 19 = .ok (.iconst 0, 1) := by decide +kernel
theorem dL_first_20 : decode cL_first 20 = .ok (.iastore, 1) := by decide +kernel
theorem dL_first_21 : decode cL_first 21 = .ok (.iinc 2 1, 3) := by decide +kernel
theorem dL_first_24 : decode cL_first 24 = .ok (.goto (-22), 3) := by decide +kernel
theorem dL_first_27 : decode cL_first 27 = .ok (.return_, 1) := by decide +kernel
theorem dL_next_0 : decode cL_next 0 = .ok (.aload_n 0, 1) := by decide +kernel
theorem dL_next_1 : decode cL_next 1 = .ok (.iconst 0, 1) := by decide +kernel
theorem dL_next_2 : decode cL_next 2 = .ok (.iaload, 1) := by decide +kernel
theorem dL_next_3 : decode cL_next 3 = .ok (.iconst 1, 1) := by decide +kernel
theorem dL_next_4 : decode cL_next 4 = .ok (.isub, 1) := by decide +kernel
theorem dL_next_5 : decode cL_next 5 = .ok (.istore_n 2, 1) := by decide +kernel
theorem dL_next_6 : decode cL_next 6 = .ok (.iload_n 2, 1) := by decide +kernel
theorem dL_next_7 : decode cL_next 7 = .ok (.ifCond .lt 52, 3) := by decide +kernel
theorem dL_next_10 : decode cL_next 10 = .ok (.aload_n 1, 1) := by decide +kernel
theorem dL_next_11 : decode cL_next 11 = .ok (.iload_n 2, 1) := by decide +kernel
theorem dL_next_12 : decode cL_next 12 = .ok (.dup2, 1) := by decide +kernel
theorem dL_next_13 : decode cL_next 13 = .ok (.iaload, 1) := by decide +kernel
theorem dL_next_14 : decode cL_next 14 = .ok (.aload_n 1, 1) := by decide +kernel
theorem dL_next_15 : decode cL_next 15 = .ok (.iload_n 2, 1) := by decide +kernel
theorem dL_next_16 : decode cL_next 16 = .ok (.iaload, 1) := by decide +kernel
theorem dL_next_17 : decode cL_next 17 = .ok (.iconst 1, 1) := by decide +kernel
theorem dL_next_18 : decode cL_next 18 = .ok (.iadd, 1) := by decide +kernel
theorem dL_next_19 : decode cL_next 19 = .ok (.iload_n 2, 1) := by decide +kernel
theorem dL_next_20 : decode cL_next 20 = .ok (.if_icmp .ne 7, 3) := by decide +kernel
theorem dL_next_23 : decode cL_next 23 = .ok (.iconst 2, 1) := by decide +kernel
theorem dL_next_24 : decode cL_next 24 = .ok (.goto 4, 3) := by decide +kernel
theorem dL_next_27 : decode cL_next 27 = .ok (.iconst 1, 1) := by decide +kernel
theorem dL_next_28 : decode cL_next 28 = .ok (.iadd, 1) := by decide +kernel
theorem dL_next_29 : decode cL_next 29 = .ok (.iastore, 1) := by decide +kernel
theorem dL_next_30 : decode cL_next 30 = .ok (.aload_n 1, 1) := by decide +kernel
theorem dL_next_31 : decode cL_next 31 = .ok (.iload_n 2, 1) := by decide +kernel
theorem dL_next_32 : decode cL_next 32 = .ok (.iaload, 1) := by decide +kernel
theorem dL_next_33 : decode cL_next 33 = .ok (.aload_n 0, 1) := by decide +kernel
theorem dL_next_34 : decode cL_next 34 = .ok (.iconst 0, 1) := by decide +kernel
theorem dL_next_35 : decode cL_next 35 = .ok (.iaload, 1) := by decide +kernel
theorem dL_next_36 : decode cL_next 36 = .ok (.if_icmp .ge 5, 3) := by decide +kernel
theorem dL_next_39 : decode cL_next 39 = .ok (.iconst 1, 1) := by decide +kernel
theorem dL_next_40 : decode cL_next 40 = .ok (.ireturn, 1) := by decide +kernel
theorem dL_next_41 : decode cL_next 41 = .ok (.aload_n 1, 1) := by decide +kernel
theorem dL_next_42 : decode cL_next 42 = .ok (.iload_n 2, 1) := by decide +kernel
theorem dL_next_43 : decode cL_next 43 = .ok (.iload_n 2, 1) := by decide +kernel
theorem dL_next_44 : decode cL_next 44 = .ok (.ifCond .ne 7, 3) := by decide +kernel
theorem dL_next_47 : decode cL_next 47 = .ok (.iconst 1, 1) := by decide +kernel
theorem dL_next_48 : decode cL_next 48 = .ok (.goto 4, 3) := by decide +kernel
theorem dL_next_51 : decode cL_next 51 = .ok (.iconst 0, 1) := by decide +kernel
theorem dL_next_52 : decode cL_next 52 = .ok (.iastore, 1) := by decide +kernel
theorem dL_next_53 : decode cL_next 53 = .ok (.iinc 2 (-1), 3) := by decide +kernel
theorem dL_next_56 : decode cL_next 56 = .ok (.goto (-50), 3) := by decide +kernel
theorem dL_next_59 : decode cL_next 59 = .ok (.iconst 0, 1) := by decide +kernel
theorem dL_next_60 : decode cL_next 60 = .ok (.ireturn, 1) := by decide +kernel
theorem dL_all_0 : decode cL_all 0 = .ok (.iconst 0, 1) := by decide +kernel
theorem dL_all_1 : decode cL_all 1 = .ok (.istore 4, 2) := by decide +kernel
theorem dL_all_3 : decode cL_all 3 = .ok (.iload 4, 2) := by decide +kernel
theorem dL_all_5 : decode cL_all 5 = .ok (.bipush 51, 2) := by decide +kernel
theorem dL_all_7 : decode cL_all 7 = .ok (.if_icmp .ge 14, 3) := by decide +kernel
theorem dL_all_10 : decode cL_all 10 = .ok (.aload_n 3, 1) := by decide +kernel
theorem dL_all_11 : decode cL_all 11 = .ok (.iload 4, 2) := by decide +kernel
theorem dL_all_13 : decode cL_all 13 = .ok (.iconst 0, 1) := by decide +kernel
theorem dL_all_14 : decode cL_all 14 = .ok (.iastore, 1) := by decide +kernel
theorem dL_all_15 : decode cL_all 15 = .ok (.iinc 4 1, 3) := by decide +kernel
theorem dL_all_18 : decode cL_all 18 = .ok (.goto (-15), 3) := by decide +kernel
theorem dL_all_21 : decode cL_all 21 = .ok (.aload_n 0, 1) := by decide +kernel
theorem dL_all_22 : decode cL_all 22 = .ok (.aload_n 2, 1) := by decide +kernel
theorem dL_all_23 : decode cL_all 23 = .ok (.invokestatic 20, 3) := by decide +kernel
theorem dL_all_26 : decode cL_all 26 = .ok (.aload_n 0, 1) := by decide +kernel
theorem dL_all_27 : decode cL_all 27 = .ok (.aload_n 1, 1) := by decide +kernel
theorem dL_all_28 : decode cL_all 28 = .ok (.aload_n 2, 1) := by decide +kernel
theorem dL_all_29 : decode cL_all 29 = .ok (.iconst (-1), 1) := by decide +kernel
theorem dL_all_30 : decode cL_all 30 = .ok (.invokestatic 24, 3) := by decide +kernel
theorem dL_all_33 : decode cL_all 33 = .ok (.ifCond .ne 6, 3) := by decide +kernel
theorem dL_all_36 : decode cL_all 36 = .ok (.goto 171, 3) := by decide +kernel
theorem dL_all_39 : decode cL_all 39 = .ok (.aload_n 3, 1) := by decide +kernel
theorem dL_all_40 : decode cL_all 40 = .ok (.iconst 0, 1) := by decide +kernel
theorem dL_all_41 : decode cL_all 41 = .ok (.dup2, 1) := by decide +kernel
theorem dL_all_42 : decode cL_all 42 = .ok (.iaload, 1) := by decide +kernel
theorem dL_all_43 : decode cL_all 43 = .ok (.iconst 1, 1) := by decide +kernel
theorem dL_all_44 : decode cL_all 44 = .ok (.iadd, 1) := by decide +kernel
theorem dL_all_45 : decode cL_all 45 = .ok (.iastore, 1) := by decide +kernel
theorem dL_all_46 : decode cL_all 46 = .ok (.iconst 0, 1) := by decide +kernel
theorem dL_all_47 : decode cL_all 47 = .ok (.istore 4, 2) := by decide +kernel
theorem dL_all_49 : decode cL_all 49 = .ok (.iload 4, 2) := by decide +kernel
theorem dL_all_51 : decode cL_all 51 = .ok (.aload_n 0, 1) := by decide +kernel
theorem dL_all_52 : decode cL_all 52 = .ok (.iconst 0, 1) := by decide +kernel
theorem dL_all_53 : decode cL_all 53 = .ok (.iaload, 1) := by decide +kernel
theorem dL_all_54 : decode cL_all 54 = .ok (.if_icmp .ge 108, 3) := by decide +kernel
theorem dL_all_57 : decode cL_all 57 = .ok (.aload_n 3, 1) := by decide +kernel
theorem dL_all_58 : decode cL_all 58 = .ok (.iconst 1, 1) := by decide +kernel
theorem dL_all_59 : decode cL_all 59 = .ok (.bipush 6, 2) := by decide +kernel
theorem dL_all_61 : decode cL_all 61 = .ok (.iload 4, 2) := by decide +kernel
theorem dL_all_63 : decode cL_all 63 = .ok (.imul, 1) := by decide +kernel
theorem dL_all_64 : decode cL_all 64 = .ok (.iadd, 1) := by decide +kernel
theorem dL_all_65 : decode cL_all 65 = .ok (.aload_n 2, 1) := by decide +kernel
theorem dL_all_66 : decode cL_all 66 = .ok (.iload 4, 2) := by decide +kernel
theorem dL_all_68 : decode cL_all 68 = .ok (.iaload, 1) := by decide +kernel
theorem dL_all_69 : decode cL_all 69 = .ok (.iadd, 1) := by decide +kernel
theorem dL_all_70 : decode cL_all 70 = .ok (.dup2, 1) := by decide +kernel
theorem dL_all_71 : decode cL_all 71 = .ok (.iaload, 1) := by decide +kernel
theorem dL_all_72 : decode cL_all 72 = .ok (.iconst 1, 1) := by decide +kernel
theorem dL_all_73 : decode cL_all 73 = .ok (.iadd, 1) := by decide +kernel
theorem dL_all_74 : decode cL_all 74 = .ok (.iastore, 1) := by decide +kernel
theorem dL_all_75 : decode cL_all 75 = .ok (.iconst 0, 1) := by decide +kernel
theorem dL_all_76 : decode cL_all 76 = .ok (.istore 5, 2) := by decide +kernel
theorem dL_all_78 : decode cL_all 78 = .ok (.iconst 0, 1) := by decide +kernel
theorem dL_all_79 : decode cL_all 79 = .ok (.istore 6, 2) := by decide +kernel
theorem dL_all_81 : decode cL_all 81 = .ok (.iload 6, 2) := by decide +kernel
theorem dL_all_83 : decode cL_all 83 = .ok (.aload_n 0, 1) := by decide +kernel
theorem dL_all_84 : decode cL_all 84 = .ok (.iconst 0, 1) := by decide +kernel
theorem dL_all_85 : decode cL_all 85 = .ok (.iaload, 1) := by decide +kernel
theorem dL_all_86 : decode cL_all 86 = .ok (.if_icmp .ge 28, 3) := by decide +kernel
theorem dL_all_89 : decode cL_all 89 = .ok (.iload 5, 2) := by decide +kernel
theorem dL_all_91 : decode cL_all 91 = .ok (.aload_n 2, 1) := by decide +kernel
theorem dL_all_92 : decode cL_all 92 = .ok (.iload 6, 2) := by decide +kernel
theorem dL_all_94 : decode cL_all 94 = .ok (.iaload, 1) := by decide +kernel
theorem dL_all_95 : decode cL_all 95 = .ok (.iload 4, 2) := by decide +kernel
theorem dL_all_97 : decode cL_all 97 = .ok (.if_icmp .ne 7, 3) := by decide +kernel
theorem dL_all_100 : decode cL_all 100 = .ok (.iconst 1, 1) := by decide +kernel
theorem dL_all_101 : decode cL_all 101 = .ok (.goto 4, 3) := by decide +kernel
theorem dL_all_104 : decode cL_all 104 = .ok (.iconst 0, 1) := by decide +kernel
theorem dL_all_105 : decode cL_all 105 = .ok (.iadd, 1) := by decide +kernel
theorem dL_all_106 : decode cL_all 106 = .ok (.istore 5, 2) := by decide +kernel
theorem dL_all_108 : decode cL_all 108 = .ok (.iinc 6 1, 3) := by decide +kernel
theorem dL_all_111 : decode cL_all 111 = .ok (.goto (-30), 3) := by decide +kernel
theorem dL_all_114 : decode cL_all 114 = .ok (.iload 5, 2) := by decide +kernel
theorem dL_all_116 : decode cL_all 116 = .ok (.aload_n 3, 1) := by decide +kernel
theorem dL_all_117 : decode cL_all 117 = .ok (.bipush 49, 2) := by decide +kernel
theorem dL_all_119 : decode cL_all 119 = .ok (.iaload, 1) := by decide +kernel
theorem dL_all_120 : decode cL_all 120 = .ok (.if_icmp .lt 36, 3) := by decide +kernel
theorem dL_all_123 : decode cL_all 123 = .ok (.iload 5, 2) := by decide +kernel
theorem dL_all_125 : decode cL_all 125 = .ok (.aload_n 3, 1) := by decide +kernel
theorem dL_all_126 : decode cL_all 126 = .ok (.bipush 49, 2) := by decide +kernel
theorem dL_all_128 : decode cL_all 128 = .ok (.iaload, 1) := by decide +kernel
theorem dL_all_129 : decode cL_all 129 = .ok (.if_icmp .ne 15, 3) := by decide +kernel
theorem dL_all_132 : decode cL_all 132 = .ok (.iload 4, 2) := by decide +kernel
theorem dL_all_134 : decode cL_all 134 = .ok (.aload_n 3, 1) := by decide +kernel
theorem dL_all_135 : decode cL_all 135 = .ok (.bipush 50, 2) := by decide +kernel
theorem dL_all_137 : decode cL_all 137 = .ok (.iaload, 1) := by decide +kernel
theorem dL_all_138 : decode cL_all 138 = .ok (.if_icmp .lt 6, 3) := by decide +kernel
theorem dL_all_141 : decode cL_all 141 = .ok (.goto 15, 3) := by decide +kernel
theorem dL_all_144 : decode cL_all 144 = .ok (.aload_n 3, 1) := by decide +kernel
theorem dL_all_145 : decode cL_all 145 = .ok (.bipush 49, 2) := by decide +kernel
theorem dL_all_147 : decode cL_all 147 = .ok (.iload 5, 2) := by decide +kernel
theorem dL_all_149 : decode cL_all 149 = .ok (.iastore, 1) := by decide +kernel
theorem dL_all_150 : decode cL_all 150 = .ok (.aload_n 3, 1) := by decide +kernel
theorem dL_all_151 : decode cL_all 151 = .ok (.bipush 50, 2) := by decide +kernel
theorem dL_all_153 : decode cL_all 153 = .ok (.iload 4, 2) := by decide +kernel
theorem dL_all_155 : decode cL_all 155 = .ok (.iastore, 1) := by decide +kernel
theorem dL_all_156 : decode cL_all 156 = .ok (.iinc 4 1, 3) := by decide +kernel
theorem dL_all_159 : decode cL_all 159 = .ok (.goto (-110), 3) := by decide +kernel
theorem dL_all_162 : decode cL_all 162 = .ok (.iconst 0, 1) := by decide +kernel
theorem dL_all_163 : decode cL_all 163 = .ok (.istore 4, 2) := by decide +kernel
theorem dL_all_165 : decode cL_all 165 = .ok (.iload 4, 2) := by decide +kernel
theorem dL_all_167 : decode cL_all 167 = .ok (.aload_n 0, 1) := by decide +kernel
theorem dL_all_168 : decode cL_all 168 = .ok (.iconst 1, 1) := by decide +kernel
theorem dL_all_169 : decode cL_all 169 = .ok (.iaload, 1) := by decide +kernel
theorem dL_all_170 : decode cL_all 170 = .ok (.if_icmp .ge 37, 3) := by decide +kernel
theorem dL_all_173 : decode cL_all 173 = .ok (.aload_n 3, 1) := by decide +kernel
theorem dL_all_174 : decode cL_all 174 = .ok (.bipush 37, 2) := by decide +kernel
theorem dL_all_176 : decode cL_all 176 = .ok (.iload 4, 2) := by decide +kernel
theorem dL_all_178 : decode cL_all 178 = .ok (.iadd, 1) := by decide +kernel
theorem dL_all_179 : decode cL_all 179 = .ok (.dup2, 1) := by decide +kernel
theorem dL_all_180 : decode cL_all 180 = .ok (.iaload, 1) := by decide +kernel
theorem dL_all_181 : decode cL_all 181 = .ok (.iload 4, 2) := by decide +kernel
theorem dL_all_183 : decode cL_all 183 = .ok (.aload_n 1, 1) := by decide +kernel
theorem dL_all_184 : decode cL_all 184 = .ok (.aload_n 2, 1) := by decide +kernel
theorem dL_all_185 : decode cL_all 185 = .ok (.aload_n 0, 1) := by decide +kernel
theorem dL_all_186 : decode cL_all 186 = .ok (.iconst 0, 1) := by decide +kernel
theorem dL_all_187 : decode cL_all 187 = .ok (.iaload, 1) := by decide +kernel
theorem dL_all_188 : decode cL_all 188 = .ok (.invokestatic 16, 3) := by decide +kernel
theorem dL_all_191 : decode cL_all 191 = .ok (.ifCond .eq 7, 3) := by decide +kernel
theorem dL_all_194 : decode cL_all 194 = .ok (.iconst 1, 1) := by decide +kernel
theorem dL_all_195 : decode cL_all 195 = .ok (.goto 4, 3) := by decide +kernel
theorem dL_all_198 : decode cL_all 198 = .ok (.iconst 0, 1) := by decide +kernel
theorem dL_all_199 : decode cL_all 199 = .ok (.iadd, 1) := by decide +kernel
theorem dL_all_200 : decode cL_all 200 = .ok (.iastore, 1) := by decide +kernel
theorem dL_all_201 : decode cL_all 201 = .ok (.iinc 4 1, 3) := by decide +kernel
theorem dL_all_204 : decode cL_all 204 = .ok (.goto (-39), 3) := by decide +kernel
theorem dL_all_207 : decode cL_all 207 = .ok (.aload_n 0, 1) := by decide +kernel
theorem dL_all_208 : decode cL_all 208 = .ok (.aload_n 2, 1) := by decide +kernel
theorem dL_all_209 : decode cL_all 209 = .ok (.invokestatic 28, 3) := by decide +kernel
theorem dL_all_212 : decode cL_all 212 = .ok (.ifCond .ne (-186), 3) := by decide +kernel
theorem dL_all_215 : decode cL_all 215 = .ok (.return_, 1) := by decide +kernel
theorem dL_without_0 : decode cL_without 0 = .ok (.iconst 0, 1) := by decide +kernel
theorem dL_without_1 : decode cL_without 1 = .ok (.istore 4, 2) := by decide +kernel
theorem dL_without_3 : decode cL_without 3 = .ok (.aload_n 1, 1) := by decide +kernel
theorem dL_without_4 : decode cL_without 4 = .ok (.aload_n 3, 1) := by decide +kernel
theorem dL_without_5 : decode cL_without 5 = .ok (.invokestatic 20, 3) := by decide +kernel
theorem dL_without_8 : decode cL_without 8 = .ok (.iload 4, 2) := by decide +kernel
theorem dL_without_10 : decode cL_without 10 = .ok (.aload_n 1, 1) := by decide +kernel
theorem dL_without_11 : decode cL_without 11 = .ok (.aload_n 2, 1) := by decide +kernel
theorem dL_without_12 : decode cL_without 12 = .ok (.aload_n 3, 1) := by decide +kernel
theorem dL_without_13 : decode cL_without 13 = .ok (.iload_n 0, 1) := by decide +kernel
theorem dL_without_14 : decode cL_without 14 = .ok (.invokestatic 24, 3) := by decide +kernel
theorem dL_without_17 : decode cL_without 17 = .ok (.ifCond .eq 7, 3) := by decide +kernel
theorem dL_without_20 : decode cL_without 20 = .ok (.iconst 1, 1) := by decide +kernel
theorem dL_without_21 : decode cL_without 21 = .ok (.goto 4, 3) := by decide +kernel
theorem dL_without_24 : decode cL_without 24 = .ok (.iconst 0, 1) := by decide +kernel
theorem dL_without_25 : decode cL_without 25 = .ok (.iadd, 1) := by decide +kernel
theorem dL_without_26 : decode cL_without 26 = .ok (.istore 4, 2) := by decide +kernel
theorem dL_without_28 : decode cL_without 28 = .ok (.aload_n 1, 1) := by decide +kernel
theorem dL_without_29 : decode cL_without 29 = .ok (.aload_n 3, 1) := by decide +kernel
theorem dL_without_30 : decode cL_without 30 = .ok (.invokestatic 28, 3) := by decide +kernel
theorem dL_without_33 : decode cL_without 33 = .ok (.ifCond .ne (-25), 3) := by decide +kernel
theorem dL_without_36 : decode cL_without 36 = .ok (.iload 4, 2) := by decide +kernel
theorem dL_without_38 : decode cL_without 38 = .ok (.ireturn, 1) := by decide +kernel
theorem dL_same_0 : decode cL_same 0 = .ok (.iconst 0, 1) := by decide +kernel
theorem dL_same_1 : decode cL_same 1 = .ok (.istore 9, 2) := by decide +kernel
theorem dL_same_3 : decode cL_same 3 = .ok (.iconst 0, 1) := by decide +kernel
theorem dL_same_4 : decode cL_same 4 = .ok (.istore 10, 2) := by decide +kernel
theorem dL_same_6 : decode cL_same 6 = .ok (.iconst 0, 1) := by decide +kernel
theorem dL_same_7 : decode cL_same 7 = .ok (.istore 11, 2) := by decide +kernel
theorem dL_same_9 : decode cL_same 9 = .ok (.iconst 0, 1) := by decide +kernel
theorem dL_same_10 : decode cL_same 10 = .ok (.istore 12, 2) := by decide +kernel
theorem dL_same_12 : decode cL_same 12 = .ok (.bipush (-6), 2) := by decide +kernel
theorem dL_same_14 : decode cL_same 14 = .ok (.istore 13, 2) := by decide +kernel
theorem dL_same_16 : decode cL_same 16 = .ok (.iconst 0, 1) := by decide +kernel
theorem dL_same_17 : decode cL_same 17 = .ok (.istore 14, 2) := by decide +kernel
theorem dL_same_19 : decode cL_same 19 = .ok (.bipush (-6), 2) := by decide +kernel
theorem dL_same_21 : decode cL_same 21 = .ok (.istore 15, 2) := by decide +kernel
theorem dL_same_23 : decode cL_same 23 = .ok (.iconst 0, 1) := by decide +kernel
theorem dL_same_24 : decode cL_same 24 = .ok (.istore 16, 2) := by decide +kernel
theorem dL_same_26 : decode cL_same 26 = .ok (.aload_n 2, 1) := by decide +kernel
theorem dL_same_27 : decode cL_same 27 = .ok (.aload 6, 2) := by decide +kernel
theorem dL_same_29 : decode cL_same 29 = .ok (.aload 7, 2) := by decide +kernel
theorem dL_same_31 : decode cL_same 31 = .ok (.aload 8, 2) := by decide +kernel
theorem dL_same_33 : decode cL_same 33 = .ok (.invokestatic 32, 3) := by decide +kernel
theorem dL_same_36 : decode cL_same 36 = .ok (.iconst 0, 1) := by decide +kernel
theorem dL_same_37 : decode cL_same 37 = .ok (.istore 17, 2) := by decide +kernel
theorem dL_same_39 : decode cL_same 39 = .ok (.iload 17, 2) := by decide +kernel
theorem dL_same_41 : decode cL_same 41 = .ok (.aload_n 2, 1) := by decide +kernel
theorem dL_same_42 : decode cL_same 42 = .ok (.iconst 1, 1) := by decide +kernel
theorem dL_same_43 : decode cL_same 43 = .ok (.iaload, 1) := by decide +kernel
theorem dL_same_44 : decode cL_same 44 = .ok (.if_icmp .ge 279, 3) := by decide +kernel
theorem dL_same_47 : decode cL_same 47 = .ok (.iconst 5, 1) := by decide +kernel
theorem dL_same_48 : decode cL_same 48 = .ok (.iload 17, 2) := by decide +kernel
theorem dL_same_50 : decode cL_same 50 = .ok (.imul, 1) := by decide +kernel
theorem dL_same_51 : decode cL_same 51 = .ok (.istore 18, 2) := by decide +kernel
theorem dL_same_53 : decode cL_same 53 = .ok (.iconst 0, 1) := by decide +kernel
theorem dL_same_54 : decode cL_same 54 = .ok (.istore 19, 2) := by decide +kernel
theorem dL_same_56 : decode cL_same 56 = .ok (.iload 19, 2) := by decide +kernel
theorem dL_same_58 : decode cL_same 58 = .ok (.iconst 5, 1) := by decide +kernel
theorem dL_same_59 : decode cL_same 59 = .ok (.if_icmp .ge 30, 3) := by decide +kernel
theorem dL_same_62 : decode cL_same 62 = .ok (.aload_n 0, 1) := by decide +kernel
theorem dL_same_63 : decode cL_same 63 = .ok (.iload 17, 2) := by decide +kernel
theorem dL_same_65 : decode cL_same 65 = .ok (.iload 19, 2) := by decide +kernel
theorem dL_same_67 : decode cL_same 67 = .ok (.invokevirtual 36, 3) := by decide +kernel
theorem dL_same_70 : decode cL_same 70 = .ok (.aload 6, 2) := by decide +kernel
theorem dL_same_72 : decode cL_same 72 = .ok (.iload 18, 2) := by decide +kernel
theorem dL_same_74 : decode cL_same 74 = .ok (.iload 19, 2) := by decide +kernel
theorem dL_same_76 : decode cL_same 76 = .ok (.iadd, 1) := by decide +kernel
theorem dL_same_77 : decode cL_same 77 = .ok (.iaload, 1) := by decide +kernel
theorem dL_same_78 : decode cL_same 78 = .ok (.if_icmp .eq 5, 3) := by decide +kernel
theorem dL_same_81 : decode cL_same 81 = .ok (.iconst 0, 1) := by decide +kernel
theorem dL_same_82 : decode cL_same 82 = .ok (.ireturn, 1) := by decide +kernel
theorem dL_same_83 : decode cL_same 83 = .ok (.iinc 19 1, 3) := by decide +kernel
theorem dL_same_86 : decode cL_same 86 = .ok (.goto (-30), 3) := by decide +kernel
theorem dL_same_89 : decode cL_same 89 = .ok (.aload_n 0, 1) := by decide +kernel
theorem dL_same_90 : decode cL_same 90 = .ok (.iload 17, 2) := by decide +kernel
theorem dL_same_92 : decode cL_same 92 = .ok (.iconst 5, 1) := by decide +kernel
theorem dL_same_93 : decode cL_same 93 = .ok (.invokevirtual 36, 3) := by decide +kernel
theorem dL_same_96 : decode cL_same 96 = .ok (.iload 17, 2) := by decide +kernel
theorem dL_same_98 : decode cL_same 98 = .ok (.aload 6, 2) := by decide +kernel
theorem dL_same_100 : decode cL_same 100 = .ok (.aload_n 3, 1) := by decide +kernel
theorem dL_same_101 : decode cL_same 101 = .ok (.aload_n 2, 1) := by decide +kernel
theorem dL_same_102 : decode cL_same 102 = .ok (.iconst 0, 1) := by decide +kernel
theorem dL_same_103 : decode cL_same 103 = .ok (.iaload, 1) := by decide +kernel
theorem dL_same_104 : decode cL_same 104 = .ok (.invokestatic 16, 3) := by decide +kernel
theorem dL_same_107 : decode cL_same 107 = .ok (.ifCond .eq 7, 3) := by decide +kernel
theorem dL_same_110 : decode cL_same 110 = .ok (.iconst 1, 1) := by decide +kernel
theorem dL_same_111 : decode cL_same 111 = .ok (.goto 4, 3) := by decide +kernel
theorem dL_same_114 : decode cL_same 114 = .ok (.iconst 0, 1) := by decide +kernel
theorem dL_same_115 : decode cL_same 115 = .ok (.if_icmp .ne 22, 3) := by decide +kernel
theorem dL_same_118 : decode cL_same 118 = .ok (.aload_n 0, 1) := by decide +kernel
theorem dL_same_119 : decode cL_same 119 = .ok (.iload 17, 2) := by decide +kernel
theorem dL_same_121 : decode cL_same 121 = .ok (.bipush 6, 2) := by decide +kernel
theorem dL_same_123 : decode cL_same 123 = .ok (.invokevirtual 36, 3) := by decide +kernel
theorem dL_same_126 : decode cL_same 126 = .ok (.aload 8, 2) := by decide +kernel
theorem dL_same_128 : decode cL_same 128 = .ok (.bipush 37, 2) := by decide +kernel
theorem dL_same_130 : decode cL_same 130 = .ok (.iload 17, 2) := by decide +kernel
theorem dL_same_132 : decode cL_same 132 = .ok (.iadd, 1) := by decide +kernel
theorem dL_same_133 : decode cL_same 133 = .ok (.iaload, 1) := by decide +kernel
theorem dL_same_134 : decode cL_same 134 = .ok (.if_icmp .eq 5, 3) := by decide +kernel
theorem dL_same_137 : decode cL_same 137 = .ok (.iconst 0, 1) := by decide +kernel
theorem dL_same_138 : decode cL_same 138 = .ok (.ireturn, 1) := by decide +kernel
theorem dL_same_139 : decode cL_same 139 = .ok (.aload 6, 2) := by decide +kernel
theorem dL_same_141 : decode cL_same 141 = .ok (.iload 18, 2) := by decide +kernel
theorem dL_same_143 : decode cL_same 143 = .ok (.iconst 4, 1) := by decide +kernel
theorem dL_same_144 : decode cL_same 144 = .ok (.iadd, 1) := by decide +kernel
theorem dL_same_145 : decode cL_same 145 = .ok (.iaload, 1) := by decide +kernel
theorem dL_same_146 : decode cL_same 146 = .ok (.ifCond .ne 132, 3) := by decide +kernel
theorem dL_same_149 : decode cL_same 149 = .ok (.aload 8, 2) := by decide +kernel
theorem dL_same_151 : decode cL_same 151 = .ok (.bipush 37, 2) := by decide +kernel
theorem dL_same_153 : decode cL_same 153 = .ok (.iload 17, 2) := by decide +kernel
theorem dL_same_155 : decode cL_same 155 = .ok (.iadd, 1) := by decide +kernel
theorem dL_same_156 : decode cL_same 156 = .ok (.iaload, 1) := by decide +kernel
theorem dL_same_157 : decode cL_same 157 = .ok (.iconst 2, 1) := by decide +kernel
theorem dL_same_158 : decode cL_same 158 = .ok (.imul, 1) := by decide +kernel
theorem dL_same_159 : decode cL_same 159 = .ok (.aload 8, 2) := by decide +kernel
theorem dL_same_161 : decode cL_same 161 = .ok (.iconst 0, 1) := by decide +kernel
theorem dL_same_162 : decode cL_same 162 = .ok (.iaload, 1) := by decide +kernel
theorem dL_same_163 : decode cL_same 163 = .ok (.if_icmp .le 14, 3) := by decide +kernel
theorem dL_same_166 : decode cL_same 166 = .ok (.aload 8, 2) := by decide +kernel
theorem dL_same_168 : decode cL_same 168 = .ok (.bipush 37, 2) := by decide +kernel
theorem dL_same_170 : decode cL_same 170 = .ok (.iload 17, 2) := by decide +kernel
theorem dL_same_172 : decode cL_same 172 = .ok (.iadd, 1) := by decide +kernel
theorem dL_same_173 : decode cL_same 173 = .ok (.iaload, 1) := by decide +kernel
theorem dL_same_174 : decode cL_same 174 = .ok (.goto 16, 3) := by decide +kernel
theorem dL_same_177 : decode cL_same 177 = .ok (.aload 8, 2) := by decide +kernel
theorem dL_same_179 : decode cL_same 179 = .ok (.iconst 0, 1) := by decide +kernel
theorem dL_same_180 : decode cL_same 180 = .ok (.iaload, 1) := by decide +kernel
theorem dL_same_181 : decode cL_same 181 = .ok (.aload 8, 2) := by decide +kernel
theorem dL_same_183 : decode cL_same 183 = .ok (.bipush 37, 2) := by decide +kernel
theorem dL_same_185 : decode cL_same 185 = .ok (.iload 17, 2) := by decide +kernel
theorem dL_same_187 : decode cL_same 187 = .ok (.iadd, 1) := by decide +kernel
theorem dL_same_188 : decode cL_same 188 = .ok (.iaload, 1) := by decide +kernel
theorem dL_same_189 : decode cL_same 189 = .ok (.isub, 1) := by decide +kernel
theorem dL_same_190 : decode cL_same 190 = .ok (.istore 19, 2) := by decide +kernel
theorem dL_same_192 : decode cL_same 192 = .ok (.iinc 9 1, 3) := by decide +kernel
theorem dL_same_195 : decode cL_same 195 = .ok (.iload 10, 2) := by decide +kernel
theorem dL_same_197 : decode cL_same 197 = .ok (.aload 8, 2) := by decide +kernel
theorem dL_same_199 : decode cL_same 199 = .ok (.iconst 0, 1) := by decide +kernel
theorem dL_same_200 : decode cL_same 200 = .ok (.iaload, 1) := by decide +kernel
theorem dL_same_201 : decode cL_same 201 = .ok (.ifCond .le 22, 3) := by decide +kernel
theorem dL_same_204 : decode cL_same 204 = .ok (.aload 8, 2) := by decide +kernel
theorem dL_same_206 : decode cL_same 206 = .ok (.bipush 37, 2) := by decide +kernel
theorem dL_same_208 : decode cL_same 208 = .ok (.iload 17, 2) := by decide +kernel
theorem dL_same_210 : decode cL_same 210 = .ok (.iadd, 1) := by decide +kernel
theorem dL_same_211 : decode cL_same 211 = .ok (.iaload, 1) := by decide +kernel
theorem dL_same_212 : decode cL_same 212 = .ok (.aload 8, 2) := by decide +kernel
theorem dL_same_214 : decode cL_same 214 = .ok (.iconst 0, 1) := by decide +kernel
theorem dL_same_215 : decode cL_same 215 = .ok (.iaload, 1) := by decide +kernel
theorem dL_same_216 : decode cL_same 216 = .ok (.if_icmp .ne 7, 3) := by decide +kernel
theorem dL_same_219 : decode cL_same 219 = .ok (.iconst 1, 1) := by decide +kernel
theorem dL_same_220 : decode cL_same 220 = .ok (.goto 4, 3) := by decide +kernel
theorem dL_same_223 : decode cL_same 223 = .ok (.iconst 0, 1) := by decide +kernel
theorem dL_same_224 : decode cL_same 224 = .ok (.iadd, 1) := by decide +kernel
theorem dL_same_225 : decode cL_same 225 = .ok (.istore 10, 2) := by decide +kernel
theorem dL_same_227 : decode cL_same 227 = .ok (.iload 11, 2) := by decide +kernel
theorem dL_same_229 : decode cL_same 229 = .ok (.aload 8, 2) := by decide +kernel
theorem dL_same_231 : decode cL_same 231 = .ok (.iconst 0, 1) := by decide +kernel
theorem dL_same_232 : decode cL_same 232 = .ok (.iaload, 1) := by decide +kernel
theorem dL_same_233 : decode cL_same 233 = .ok (.ifCond .le 18, 3) := by decide +kernel
theorem dL_same_236 : decode cL_same 236 = .ok (.aload 8, 2) := by decide +kernel
theorem dL_same_238 : decode cL_same 238 = .ok (.bipush 37, 2) := by decide +kernel
theorem dL_same_240 : decode cL_same 240 = .ok (.iload 17, 2) := by decide +kernel
theorem dL_same_242 : decode cL_same 242 = .ok (.iadd, 1) := by decide +kernel
theorem dL_same_243 : decode cL_same 243 = .ok (.iaload, 1) := by decide +kernel
theorem dL_same_244 : decode cL_same 244 = .ok (.ifCond .ne 7, 3) := by decide +kernel
theorem dL_same_247 : decode cL_same 247 = .ok (.iconst 1, 1) := by decide +kernel
theorem dL_same_248 : decode cL_same 248 = .ok (.goto 4, 3) := by decide +kernel
theorem dL_same_251 : decode cL_same 251 = .ok (.iconst 0, 1) := by decide +kernel
theorem dL_same_252 : decode cL_same 252 = .ok (.iadd, 1) := by decide +kernel
theorem dL_same_253 : decode cL_same 253 = .ok (.istore 11, 2) := by decide +kernel
theorem dL_same_255 : decode cL_same 255 = .ok (.iload 13, 2) := by decide +kernel
theorem dL_same_257 : decode cL_same 257 = .ok (.ifCond .lt 10, 3) := by decide +kernel
theorem dL_same_260 : decode cL_same 260 = .ok (.iload 19, 2) := by decide +kernel
theorem dL_same_262 : decode cL_same 262 = .ok (.iload 14, 2) := by decide +kernel
theorem dL_same_264 : decode cL_same 264 = .ok (.if_icmp .ge 11, 3) := by decide +kernel
theorem dL_same_267 : decode cL_same 267 = .ok (.iload 17, 2) := by decide +kernel
theorem dL_same_269 : decode cL_same 269 = .ok (.istore 13, 2) := by decide +kernel
theorem dL_same_271 : decode cL_same 271 = .ok (.iload 19, 2) := by decide +kernel
theorem dL_same_273 : decode cL_same 273 = .ok (.istore 14, 2) := by decide +kernel
theorem dL_same_275 : decode cL_same 275 = .ok (.goto 42, 3) := by decide +kernel
theorem dL_same_278 : decode cL_same 278 = .ok (.aload 8, 2) := by decide +kernel
theorem dL_same_280 : decode cL_same 280 = .ok (.iconst 0, 1) := by decide +kernel
theorem dL_same_281 : decode cL_same 281 = .ok (.iaload, 1) := by decide +kernel
theorem dL_same_282 : decode cL_same 282 = .ok (.ifCond .ne 35, 3) := by decide +kernel
theorem dL_same_285 : decode cL_same 285 = .ok (.iload 17, 2) := by decide +kernel
theorem dL_same_287 : decode cL_same 287 = .ok (.aload_n 2, 1) := by decide +kernel
theorem dL_same_288 : decode cL_same 288 = .ok (.aload 6, 2) := by decide +kernel
theorem dL_same_290 : decode cL_same 290 = .ok (.aload 7, 2) := by decide +kernel
theorem dL_same_292 : decode cL_same 292 = .ok (.invokestatic 42, 3) := by decide +kernel
theorem dL_same_295 : decode cL_same 295 = .ok (.istore 19, 2) := by decide +kernel
theorem dL_same_297 : decode cL_same 297 = .ok (.iload 15, 2) := by decide +kernel
theorem dL_same_299 : decode cL_same 299 = .ok (.ifCond .lt 10, 3) := by decide +kernel
theorem dL_same_302 : decode cL_same 302 = .ok (.iload 19, 2) := by decide +kernel
theorem dL_same_304 : decode cL_same 304 = .ok (.iload 16, 2) := by decide +kernel
theorem dL_same_306 : decode cL_same 306 = .ok (.if_icmp .le 11, 3) := by decide +kernel
theorem dL_same_309 : decode cL_same 309 = .ok (.iload 17, 2) := by decide +kernel
theorem dL_same_311 : decode cL_same 311 = .ok (.istore 15, 2) := by decide +kernel
theorem dL_same_313 : decode cL_same 313 = .ok (.iload 19, 2) := by decide +kernel
theorem dL_same_315 : decode cL_same 315 = .ok (.istore 16, 2) := by decide +kernel
theorem dL_same_317 : decode cL_same 317 = .ok (.iinc 17 1, 3) := by decide +kernel
theorem dL_same_320 : decode cL_same 320 = .ok (.goto (-281), 3) := by decide +kernel
theorem dL_same_323 : decode cL_same 323 = .ok (.iconst 0, 1) := by decide +kernel
theorem dL_same_324 : decode cL_same 324 = .ok (.istore 17, 2) := by decide +kernel
theorem dL_same_326 : decode cL_same 326 = .ok (.iload 17, 2) := by decide +kernel
theorem dL_same_328 : decode cL_same 328 = .ok (.aload_n 2, 1) := by decide +kernel
theorem dL_same_329 : decode cL_same 329 = .ok (.iconst 0, 1) := by decide +kernel
theorem dL_same_330 : decode cL_same 330 = .ok (.iaload, 1) := by decide +kernel
theorem dL_same_331 : decode cL_same 331 = .ok (.if_icmp .ge 307, 3) := by decide +kernel
theorem dL_same_334 : decode cL_same 334 = .ok (.iconst 0, 1) := by decide +kernel
theorem dL_same_335 : decode cL_same 335 = .ok (.istore 18, 2) := by decide +kernel
theorem dL_same_337 : decode cL_same 337 = .ok (.iconst 0, 1) := by decide +kernel
theorem dL_same_338 : decode cL_same 338 = .ok (.istore 19, 2) := by decide +kernel
theorem dL_same_340 : decode cL_same 340 = .ok (.iconst 0, 1) := by decide +kernel
theorem dL_same_341 : decode cL_same 341 = .ok (.istore 20, 2) := by decide +kernel
theorem dL_same_343 : decode cL_same 343 = .ok (.bipush (-6), 2) := by decide +kernel
theorem dL_same_345 : decode cL_same 345 = .ok (.istore 21, 2) := by decide +kernel
theorem dL_same_347 : decode cL_same 347 = .ok (.iconst 0, 1) := by decide +kernel
theorem dL_same_348 : decode cL_same 348 = .ok (.istore 22, 2) := by decide +kernel
theorem dL_same_350 : decode cL_same 350 = .ok (.iload 22, 2) := by decide +kernel
theorem dL_same_352 : decode cL_same 352 = .ok (.aload_n 2, 1) := by decide +kernel
theorem dL_same_353 : decode cL_same 353 = .ok (.iconst 0, 1) := by decide +kernel
theorem dL_same_354 : decode cL_same 354 = .ok (.iaload, 1) := by decide +kernel
theorem dL_same_355 : decode cL_same 355 = .ok (.if_icmp .ge 90, 3) := by decide +kernel
theorem dL_same_358 : decode cL_same 358 = .ok (.iload 18, 2) := by decide +kernel
theorem dL_same_360 : decode cL_same 360 = .ok (.aload_n 3, 1) := by decide +kernel
theorem dL_same_361 : decode cL_same 361 = .ok (.iload 22, 2) := by decide +kernel
theorem dL_same_363 : decode cL_same 363 = .ok (.iaload, 1) := by decide +kernel
theorem dL_same_364 : decode cL_same 364 = .ok (.iload 17, 2) := by decide +kernel
theorem dL_same_366 : decode cL_same 366 = .ok (.if_icmp .ne 7, 3) := by decide +kernel
theorem dL_same_369 : decode cL_same 369 = .ok (.iconst 1, 1) := by decide +kernel
theorem dL_same_370 : decode cL_same 370 = .ok (.goto 4, 3) := by decide +kernel
theorem dL_same_373 : decode cL_same 373 = .ok (.iconst 0, 1) := by decide +kernel
theorem dL_same_374 : decode cL_same 374 = .ok (.iadd, 1) := by decide +kernel
theorem dL_same_375 : decode cL_same 375 = .ok (.istore 18, 2) := by decide +kernel
theorem dL_same_377 : decode cL_same 377 = .ok (.aload 8, 2) := by decide +kernel
theorem dL_same_379 : decode cL_same 379 = .ok (.iconst 0, 1) := by decide +kernel
theorem dL_same_380 : decode cL_same 380 = .ok (.iaload, 1) := by decide +kernel
theorem dL_same_381 : decode cL_same 381 = .ok (.ifCond .le 28, 3) := by decide +kernel
theorem dL_same_384 : decode cL_same 384 = .ok (.aload 8, 2) := by decide +kernel
theorem dL_same_386 : decode cL_same 386 = .ok (.iconst 1, 1) := by decide +kernel
theorem dL_same_387 : decode cL_same 387 = .ok (.bipush 6, 2) := by decide +kernel
theorem dL_same_389 : decode cL_same 389 = .ok (.iload 17, 2) := by decide +kernel
theorem dL_same_391 : decode cL_same 391 = .ok (.imul, 1) := by decide +kernel
theorem dL_same_392 : decode cL_same 392 = .ok (.iadd, 1) := by decide +kernel
theorem dL_same_393 : decode cL_same 393 = .ok (.iload 22, 2) := by decide +kernel
theorem dL_same_395 : decode cL_same 395 = .ok (.iadd, 1) := by decide +kernel
theorem dL_same_396 : decode cL_same 396 = .ok (.iaload, 1) := by decide +kernel
theorem dL_same_397 : decode cL_same 397 = .ok (.aload 8, 2) := by decide +kernel
theorem dL_same_399 : decode cL_same 399 = .ok (.iconst 0, 1) := by decide +kernel
theorem dL_same_400 : decode cL_same 400 = .ok (.iaload, 1) := by decide +kernel
theorem dL_same_401 : decode cL_same 401 = .ok (.if_icmp .ne 8, 3) := by decide +kernel
theorem dL_same_404 : decode cL_same 404 = .ok (.iload 22, 2) := by decide +kernel
theorem dL_same_406 : decode cL_same 406 = .ok (.goto 5, 3) := by decide +kernel
theorem dL_same_409 : decode cL_same 409 = .ok (.iload 21, 2) := by decide +kernel
theorem dL_same_411 : decode cL_same 411 = .ok (.istore 21, 2) := by decide +kernel
theorem dL_same_413 : decode cL_same 413 = .ok (.aload_n 0, 1) := by decide +kernel
theorem dL_same_414 : decode cL_same 414 = .ok (.iload 17, 2) := by decide +kernel
theorem dL_same_416 : decode cL_same 416 = .ok (.iload 22, 2) := by decide +kernel
theorem dL_same_418 : decode cL_same 418 = .ok (.invokevirtual 46, 3) := by decide +kernel
theorem dL_same_421 : decode cL_same 421 = .ok (.aload 8, 2) := by decide +kernel
theorem dL_same_423 : decode cL_same 423 = .ok (.iconst 1, 1) := by decide +kernel
theorem dL_same_424 : decode cL_same 424 = .ok (.bipush 6, 2) := by decide +kernel
theorem dL_same_426 : decode cL_same 426 = .ok (.iload 17, 2) := by decide +kernel
theorem dL_same_428 : decode cL_same 428 = .ok (.imul, 1) := by decide +kernel
theorem dL_same_429 : decode cL_same 429 = .ok (.iadd, 1) := by decide +kernel
theorem dL_same_430 : decode cL_same 430 = .ok (.iload 22, 2) := by decide +kernel
theorem dL_same_432 : decode cL_same 432 = .ok (.iadd, 1) := by decide +kernel
theorem dL_same_433 : decode cL_same 433 = .ok (.iaload, 1) := by decide +kernel
theorem dL_same_434 : decode cL_same 434 = .ok (.if_icmp .eq 5, 3) := by decide +kernel
theorem dL_same_437 : decode cL_same 437 = .ok (.iconst 0, 1) := by decide +kernel
theorem dL_same_438 : decode cL_same 438 = .ok (.ireturn, 1) := by decide +kernel
theorem dL_same_439 : decode cL_same 439 = .ok (.iinc 22 1, 3) := by decide +kernel
theorem dL_same_442 : decode cL_same 442 = .ok (.goto (-92), 3) := by decide +kernel
theorem dL_same_445 : decode cL_same 445 = .ok (.iconst 0, 1) := by decide +kernel
theorem dL_same_446 : decode cL_same 446 = .ok (.istore 22, 2) := by decide +kernel
theorem dL_same_448 : decode cL_same 448 = .ok (.iload 22, 2) := by decide +kernel
theorem dL_same_450 : decode cL_same 450 = .ok (.aload_n 2, 1) := by decide +kernel
theorem dL_same_451 : decode cL_same 451 = .ok (.iconst 1, 1) := by decide +kernel
theorem dL_same_452 : decode cL_same 452 = .ok (.iaload, 1) := by decide +kernel
theorem dL_same_453 : decode cL_same 453 = .ok (.if_icmp .ge 67, 3) := by decide +kernel
theorem dL_same_456 : decode cL_same 456 = .ok (.iload 19, 2) := by decide +kernel
theorem dL_same_458 : decode cL_same 458 = .ok (.aload 6, 2) := by decide +kernel
theorem dL_same_460 : decode cL_same 460 = .ok (.iconst 5, 1) := by decide +kernel
theorem dL_same_461 : decode cL_same 461 = .ok (.iload 22, 2) := by decide +kernel
theorem dL_same_463 : decode cL_same 463 = .ok (.imul, 1) := by decide +kernel
theorem dL_same_464 : decode cL_same 464 = .ok (.iaload, 1) := by decide +kernel
theorem dL_same_465 : decode cL_same 465 = .ok (.iload 17, 2) := by decide +kernel
theorem dL_same_467 : decode cL_same 467 = .ok (.if_icmp .ne 7, 3) := by decide +kernel
theorem dL_same_470 : decode cL_same 470 = .ok (.iconst 1, 1) := by decide +kernel
theorem dL_same_471 : decode cL_same 471 = .ok (.goto 4, 3) := by decide +kernel
theorem dL_same_474 : decode cL_same 474 = .ok (.iconst 0, 1) := by decide +kernel
theorem dL_same_475 : decode cL_same 475 = .ok (.iadd, 1) := by decide +kernel
theorem dL_same_476 : decode cL_same 476 = .ok (.istore 19, 2) := by decide +kernel
theorem dL_same_478 : decode cL_same 478 = .ok (.iload 20, 2) := by decide +kernel
theorem dL_same_480 : decode cL_same 480 = .ok (.aload 6, 2) := by decide +kernel
theorem dL_same_482 : decode cL_same 482 = .ok (.iconst 5, 1) := by decide +kernel
theorem dL_same_483 : decode cL_same 483 = .ok (.iload 22, 2) := by decide +kernel
theorem dL_same_485 : decode cL_same 485 = .ok (.imul, 1) := by decide +kernel
theorem dL_same_486 : decode cL_same 486 = .ok (.iaload, 1) := by decide +kernel
theorem dL_same_487 : decode cL_same 487 = .ok (.iload 17, 2) := by decide +kernel
theorem dL_same_489 : decode cL_same 489 = .ok (.if_icmp .ne 21, 3) := by decide +kernel
theorem dL_same_492 : decode cL_same 492 = .ok (.iload 22, 2) := by decide +kernel
theorem dL_same_494 : decode cL_same 494 = .ok (.aload 6, 2) := by decide +kernel
theorem dL_same_496 : decode cL_same 496 = .ok (.aload_n 3, 1) := by decide +kernel
theorem dL_same_497 : decode cL_same 497 = .ok (.aload_n 2, 1) := by decide +kernel
theorem dL_same_498 : decode cL_same 498 = .ok (.iconst 0, 1) := by decide +kernel
theorem dL_same_499 : decode cL_same 499 = .ok (.iaload, 1) := by decide +kernel
theorem dL_same_500 : decode cL_same 500 = .ok (.invokestatic 16, 3) := by decide +kernel
theorem dL_same_503 : decode cL_same 503 = .ok (.ifCond .eq 7, 3) := by decide +kernel
theorem dL_same_506 : decode cL_same 506 = .ok (.iconst 1, 1) := by decide +kernel
theorem dL_same_507 : decode cL_same 507 = .ok (.goto 4, 3) := by decide +kernel
theorem dL_same_510 : decode cL_same 510 = .ok (.iconst 0, 1) := by decide +kernel
theorem dL_same_511 : decode cL_same 511 = .ok (.iadd, 1) := by decide +kernel
theorem dL_same_512 : decode cL_same 512 = .ok (.istore 20, 2) := by decide +kernel
theorem dL_same_514 : decode cL_same 514 = .ok (.iinc 22 1, 3) := by decide +kernel
theorem dL_same_517 : decode cL_same 517 = .ok (.goto (-69), 3) := by decide +kernel
theorem dL_same_520 : decode cL_same 520 = .ok (.iload 12, 2) := by decide +kernel
theorem dL_same_522 : decode cL_same 522 = .ok (.iload 21, 2) := by decide +kernel
theorem dL_same_524 : decode cL_same 524 = .ok (.ifCond .ge 7, 3) := by decide +kernel
theorem dL_same_527 : decode cL_same 527 = .ok (.iconst 0, 1) := by decide +kernel
theorem dL_same_528 : decode cL_same 528 = .ok (.goto 4, 3) := by decide +kernel
theorem dL_same_531 : decode cL_same 531 = .ok (.iconst 1, 1) := by decide +kernel
theorem dL_same_532 : decode cL_same 532 = .ok (.iadd, 1) := by decide +kernel
theorem dL_same_533 : decode cL_same 533 = .ok (.istore 12, 2) := by decide +kernel
theorem dL_same_535 : decode cL_same 535 = .ok (.aload_n 0, 1) := by decide +kernel
theorem dL_same_536 : decode cL_same 536 = .ok (.iload 17, 2) := by decide +kernel
theorem dL_same_538 : decode cL_same 538 = .ok (.iconst 0, 1) := by decide +kernel
theorem dL_same_539 : decode cL_same 539 = .ok (.invokevirtual 49, 3) := by decide +kernel
theorem dL_same_542 : decode cL_same 542 = .ok (.aload_n 3, 1) := by decide +kernel
theorem dL_same_543 : decode cL_same 543 = .ok (.iload 17, 2) := by decide +kernel
theorem dL_same_545 : decode cL_same 545 = .ok (.iaload, 1) := by decide +kernel
theorem dL_same_546 : decode cL_same 546 = .ok (.if_icmp .ne 84, 3) := by decide +kernel
theorem dL_same_549 : decode cL_same 549 = .ok (.aload_n 0, 1) := by decide +kernel
theorem dL_same_550 : decode cL_same 550 = .ok (.iload 17, 2) := by decide +kernel
theorem dL_same_552 : decode cL_same 552 = .ok (.iconst 1, 1) := by decide +kernel
theorem dL_same_553 : decode cL_same 553 = .ok (.invokevirtual 49, 3) := by decide +kernel
theorem dL_same_556 : decode cL_same 556 = .ok (.aload 4, 2) := by decide +kernel
theorem dL_same_558 : decode cL_same 558 = .ok (.iload 17, 2) := by decide +kernel
theorem dL_same_560 : decode cL_same 560 = .ok (.iaload, 1) := by decide +kernel
theorem dL_same_561 : decode cL_same 561 = .ok (.sipush 1000, 3) := by decide +kernel
theorem dL_same_564 : decode cL_same 564 = .ok (.iadd, 1) := by decide +kernel
theorem dL_same_565 : decode cL_same 565 = .ok (.if_icmp .ne 65, 3) := by decide +kernel
theorem dL_same_568 : decode cL_same 568 = .ok (.aload_n 0, 1) := by decide +kernel
theorem dL_same_569 : decode cL_same 569 = .ok (.iload 17, 2) := by decide +kernel
theorem dL_same_571 : decode cL_same 571 = .ok (.iconst 2, 1) := by decide +kernel
theorem dL_same_572 : decode cL_same 572 = .ok (.invokevirtual 49, 3) := by decide +kernel
theorem dL_same_575 : decode cL_same 575 = .ok (.aload 5, 2) := by decide +kernel
theorem dL_same_577 : decode cL_same 577 = .ok (.iload 17, 2) := by decide +kernel
theorem dL_same_579 : decode cL_same 579 = .ok (.iaload, 1) := by decide +kernel
theorem dL_same_580 : decode cL_same 580 = .ok (.if_icmp .ne 50, 3) := by decide +kernel
theorem dL_same_583 : decode cL_same 583 = .ok (.aload_n 0, 1) := by decide +kernel
theorem dL_same_584 : decode cL_same 584 = .ok (.iload 17, 2) := by decide +kernel
theorem dL_same_586 : decode cL_same 586 = .ok (.iconst 3, 1) := by decide +kernel
theorem dL_same_587 : decode cL_same 587 = .ok (.invokevirtual 49, 3) := by decide +kernel
theorem dL_same_590 : decode cL_same 590 = .ok (.iload 19, 2) := by decide +kernel
theorem dL_same_592 : decode cL_same 592 = .ok (.if_icmp .ne 38, 3) := by decide +kernel
theorem dL_same_595 : decode cL_same 595 = .ok (.aload_n 0, 1) := by decide +kernel
theorem dL_same_596 : decode cL_same 596 = .ok (.iload 17, 2) := by decide +kernel
theorem dL_same_598 : decode cL_same 598 = .ok (.iconst 4, 1) := by decide +kernel
theorem dL_same_599 : decode cL_same 599 = .ok (.invokevirtual 49, 3) := by decide +kernel
theorem dL_same_602 : decode cL_same 602 = .ok (.iload 20, 2) := by decide +kernel
theorem dL_same_604 : decode cL_same 604 = .ok (.if_icmp .ne 26, 3) := by decide +kernel
theorem dL_same_607 : decode cL_same 607 = .ok (.aload_n 0, 1) := by decide +kernel
theorem dL_same_608 : decode cL_same 608 = .ok (.iload 17, 2) := by decide +kernel
theorem dL_same_610 : decode cL_same 610 = .ok (.iconst 5, 1) := by decide +kernel
theorem dL_same_611 : decode cL_same 611 = .ok (.invokevirtual 49, 3) := by decide +kernel
theorem dL_same_614 : decode cL_same 614 = .ok (.iload 18, 2) := by decide +kernel
theorem dL_same_616 : decode cL_same 616 = .ok (.if_icmp .ne 14, 3) := by decide +kernel
theorem dL_same_619 : decode cL_same 619 = .ok (.aload_n 0, 1) := by decide +kernel
theorem dL_same_620 : decode cL_same 620 = .ok (.iload 17, 2) := by decide +kernel
theorem dL_same_622 : decode cL_same 622 = .ok (.invokevirtual 52, 3) := by decide +kernel
theorem dL_same_625 : decode cL_same 625 = .ok (.iload 21, 2) := by decide +kernel
theorem dL_same_627 : decode cL_same 627 = .ok (.if_icmp .eq 5, 3) := by decide +kernel
theorem dL_same_630 : decode cL_same 630 = .ok (.iconst 0, 1) := by decide +kernel
theorem dL_same_631 : decode cL_same 631 = .ok (.ireturn, 1) := by decide +kernel
theorem dL_same_632 : decode cL_same 632 = .ok (.iinc 17 1, 3) := by decide +kernel
theorem dL_same_635 : decode cL_same 635 = .ok (.goto (-309), 3) := by decide +kernel
theorem dL_same_638 : decode cL_same 638 = .ok (.aload_n 0, 1) := by decide +kernel
theorem dL_same_639 : decode cL_same 639 = .ok (.iconst 0, 1) := by decide +kernel
theorem dL_same_640 : decode cL_same 640 = .ok (.invokevirtual 56, 3) := by decide +kernel
theorem dL_same_643 : decode cL_same 643 = .ok (.aload_n 2, 1) := by decide +kernel
theorem dL_same_644 : decode cL_same 644 = .ok (.iconst 0, 1) := by decide +kernel
theorem dL_same_645 : decode cL_same 645 = .ok (.iaload, 1) := by decide +kernel
theorem dL_same_646 : decode cL_same 646 = .ok (.if_icmp .ne 104, 3) := by decide +kernel
theorem dL_same_649 : decode cL_same 649 = .ok (.aload_n 0, 1) := by decide +kernel
theorem dL_same_650 : decode cL_same 650 = .ok (.iconst 1, 1) := by decide +kernel
theorem dL_same_651 : decode cL_same 651 = .ok (.invokevirtual 56, 3) := by decide +kernel
theorem dL_same_654 : decode cL_same 654 = .ok (.aload_n 2, 1) := by decide +kernel
theorem dL_same_655 : decode cL_same 655 = .ok (.iconst 1, 1) := by decide +kernel
theorem dL_same_656 : decode cL_same 656 = .ok (.iaload, 1) := by decide +kernel
theorem dL_same_657 : decode cL_same 657 = .ok (.if_icmp .ne 93, 3) := by decide +kernel
theorem dL_same_660 : decode cL_same 660 = .ok (.aload_n 0, 1) := by decide +kernel
theorem dL_same_661 : decode cL_same 661 = .ok (.iconst 2, 1) := by decide +kernel
theorem dL_same_662 : decode cL_same 662 = .ok (.invokevirtual 56, 3) := by decide +kernel
theorem dL_same_665 : decode cL_same 665 = .ok (.iload 9, 2) := by decide +kernel
theorem dL_same_667 : decode cL_same 667 = .ok (.if_icmp .ne 83, 3) := by decide +kernel
