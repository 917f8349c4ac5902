theorem dX5_openRuledOut_20 : decode cX5_openRuledOut 20 = .ok (.aload_n 0, 1) := by decide +kernel
theorem dX5_openRuledOut_21 : decode cX5_openRuledOut 21 = .ok (.aload_n 0, 1) := by decide +kernel
theorem dX5_openRuledOut_22 : decode cX5_openRuledOut 22 = .ok (.getfield 22, 3) := by decide +kernel
theorem dX5_openRuledOut_25 : decode cX5_openRuledOut 25 = .ok (.iload_n 3, 1) := by decide +kernel
theorem dX5_openRuledOut_26 : decode cX5_openRuledOut 26 = .ok (.invokestatic 73, 3) := by decide +kernel
theorem dX5_openRuledOut_29 : decode cX5_openRuledOut 29 = .ok (.invokevirtual 102, 3) := by decide +kernel
theorem dX5_openRuledOut_32 : decode cX5_openRuledOut 32 = .ok (.ifCond .eq 6, 3) := by decide +kernel
theorem dX5_openRuledOut_35 : decode cX5_openRuledOut 35 = .ok (.iinc 2 1, 3) := by decide +kernel
theorem dX5_openRuledOut_38 : decode cX5_openRuledOut 38 = .ok (.iinc 3 1, 3) := by decide +kernel
theorem dX5_openRuledOut_41 : decode cX5_openRuledOut 41 = .ok (.goto (-37), 3) := by decide +kernel
theorem dX5_openRuledOut_44 : decode cX5_openRuledOut 44 = .ok (.iload_n 2, 1) := by decide +kernel
theorem dX5_openRuledOut_45 : decode cX5_openRuledOut 45 = .ok (.ireturn, 1) := by decide +kernel
theorem dX5_worseOutcome_0 : decode cX5_worseOutcome 0 = .ok (.aload_n 0, 1) := by decide +kernel
theorem dX5_worseOutcome_1 : decode cX5_worseOutcome 1 = .ok (.getfield 22, 3) := by decide +kernel
theorem dX5_worseOutcome_4 : decode cX5_worseOutcome 4 = .ok (.iload_n 1, 1) := by decide +kernel
theorem dX5_worseOutcome_5 : decode cX5_worseOutcome 5 = .ok (.invokestatic 73, 3) := by decide +kernel
theorem dX5_worseOutcome_8 : decode cX5_worseOutcome 8 = .ok (.istore_n 2, 1) := by decide +kernel
theorem dX5_worseOutcome_9 : decode cX5_worseOutcome 9 = .ok (.iload_n 2, 1) := by decide +kernel
theorem dX5_worseOutcome_10 : decode cX5_worseOutcome 10 = .ok (.aload_n 0, 1) := by decide +kernel
theorem dX5_worseOutcome_11 : decode cX5_worseOutcome 11 = .ok (.getfield 66, 3) := by decide +kernel
theorem dX5_worseOutcome_14 : decode cX5_worseOutcome 14 = .ok (.iload_n 2, 1) := by decide +kernel
theorem dX5_worseOutcome_15 : decode cX5_worseOutcome 15 = .ok (.isub, 1) := by decide +kernel
theorem dX5_worseOutcome_16 : decode cX5_worseOutcome 16 = .ok (.invokestatic 105, 3) := by decide +kernel
theorem dX5_worseOutcome_19 : decode cX5_worseOutcome 19 = .ok (.ireturn, 1) := by decide +kernel
theorem dX5_sharpestRumour_0 : decode cX5_sharpestRumour 0 = .ok (.bipush (-6), 2) := by decide +kernel
theorem dX5_sharpestRumour_2 : decode cX5_sharpestRumour 2 = .ok (.istore_n 2, 1) := by decide +kernel
theorem dX5_sharpestRumour_3 : decode cX5_sharpestRumour 3 = .ok (.iconst 0, 1) := by decide +kernel
theorem dX5_sharpestRumour_4 : decode cX5_sharpestRumour 4 = .ok (.istore_n 3, 1) := by decide +kernel
theorem dX5_sharpestRumour_5 : decode cX5_sharpestRumour 5 = .ok (.iload_n 3, 1) := by decide +kernel
theorem dX5_sharpestRumour_6 : decode cX5_sharpestRumour 6 = .ok (.aload_n 1, 1) := by decide +kernel
theorem dX5_sharpestRumour_7 : decode cX5_sharpestRumour 7 = .ok (.getfield 77, 3) := by decide +kernel
theorem dX5_sharpestRumour_10 : decode cX5_sharpestRumour 10 = .ok (.if_icmp .ge 38, 3) := by decide +kernel
theorem dX5_sharpestRumour_13 : decode cX5_sharpestRumour 13 = .ok (.aload_n 1, 1) := by decide +kernel
theorem dX5_sharpestRumour_14 : decode cX5_sharpestRumour 14 = .ok (.iload_n 3, 1) := by decide +kernel
theorem dX5_sharpestRumour_15 : decode cX5_sharpestRumour 15 = .ok (.invokevirtual 99, 3) := by decide +kernel
theorem dX5_sharpestRumour_18 : decode cX5_sharpestRumour 18 = .ok (.ifCond .eq 24, 3) := by decide +kernel
theorem dX5_sharpestRumour_21 : decode cX5_sharpestRumour 21 = .ok (.iload_n 2, 1) := by decide +kernel
theorem dX5_sharpestRumour_22 : decode cX5_sharpestRumour 22 = .ok (.bipush (-6), 2) := by decide +kernel
theorem dX5_sharpestRumour_24 : decode cX5_sharpestRumour 24 = .ok (.if_icmp .eq 16, 3) := by decide +kernel
theorem dX5_sharpestRumour_27 : decode cX5_sharpestRumour 27 = .ok (.aload_n 0, 1) := by decide +kernel
theorem dX5_sharpestRumour_28 : decode cX5_sharpestRumour 28 = .ok (.iload_n 3, 1) := by decide +kernel
theorem dX5_sharpestRumour_29 : decode cX5_sharpestRumour 29 = .ok (.invokevirtual 110, 3) := by decide +kernel
theorem dX5_sharpestRumour_32 : decode cX5_sharpestRumour 32 = .ok (.aload_n 0, 1) := by decide +kernel
theorem dX5_sharpestRumour_33 : decode cX5_sharpestRumour 33 = .ok (.iload_n 2, 1) := by decide +kernel
theorem dX5_sharpestRumour_34 : decode cX5_sharpestRumour 34 = .ok (.invokevirtual 110, 3) := by decide +kernel
theorem dX5_sharpestRumour_37 : decode cX5_sharpestRumour 37 = .ok (.if_icmp .ge 5, 3) := by decide +kernel
theorem dX5_sharpestRumour_40 : decode cX5_sharpestRumour 40 = .ok (.iload_n 3, 1) := by decide +kernel
theorem dX5_sharpestRumour_41 : decode cX5_sharpestRumour 41 = .ok (.istore_n 2, 1) := by decide +kernel
theorem dX5_sharpestRumour_42 : decode cX5_sharpestRumour 42 = .ok (.iinc 3 1, 3) := by decide +kernel
theorem dX5_sharpestRumour_45 : decode cX5_sharpestRumour 45 = .ok (.goto (-40), 3) := by decide +kernel
theorem dX5_sharpestRumour_48 : decode cX5_sharpestRumour 48 = .ok (.iload_n 2, 1) := by decide +kernel
theorem dX5_sharpestRumour_49 : decode cX5_sharpestRumour 49 = .ok (.ireturn, 1) := by decide +kernel
theorem dX5_mostToBlame_0 : decode cX5_mostToBlame 0 = .ok (.bipush (-6), 2) := by decide +kernel
theorem dX5_mostToBlame_2 : decode cX5_mostToBlame 2 = .ok (.istore_n 2, 1) := by decide +kernel
theorem dX5_mostToBlame_3 : decode cX5_mostToBlame 3 = .ok (.iconst 0, 1) := by decide +kernel
theorem dX5_mostToBlame_4 : decode cX5_mostToBlame 4 = .ok (.istore_n 3, 1) := by decide +kernel
theorem dX5_mostToBlame_5 : decode cX5_mostToBlame 5 = .ok (.iload_n 3, 1) := by decide +kernel
theorem dX5_mostToBlame_6 : decode cX5_mostToBlame 6 = .ok (.aload_n 1, 1) := by decide +kernel
theorem dX5_mostToBlame_7 : decode cX5_mostToBlame 7 = .ok (.getfield 77, 3) := by decide +kernel
theorem dX5_mostToBlame_10 : decode cX5_mostToBlame 10 = .ok (.if_icmp .ge 44, 3) := by decide +kernel
theorem dX5_mostToBlame_13 : decode cX5_mostToBlame 13 = .ok (.aload_n 1, 1) := by decide +kernel
theorem dX5_mostToBlame_14 : decode cX5_mostToBlame 14 = .ok (.iload_n 3, 1) := by decide +kernel
theorem dX5_mostToBlame_15 : decode cX5_mostToBlame 15 = .ok (.invokevirtual 99, 3) := by decide +kernel
theorem dX5_mostToBlame_18 : decode cX5_mostToBlame 18 = .ok (.ifCond .ne 30, 3) := by decide +kernel
theorem dX5_mostToBlame_21 : decode cX5_mostToBlame 21 = .ok (.iload_n 2, 1) := by decide +kernel
theorem dX5_mostToBlame_22 : decode cX5_mostToBlame 22 = .ok (.bipush (-6), 2) := by decide +kernel
theorem dX5_mostToBlame_24 : decode cX5_mostToBlame 24 = .ok (.if_icmp .eq 22, 3) := by decide +kernel
theorem dX5_mostToBlame_27 : decode cX5_mostToBlame 27 = .ok (.aload_n 0, 1) := by decide +kernel
theorem dX5_mostToBlame_28 : decode cX5_mostToBlame 28 = .ok (.getfield 25, 3) := by decide +kernel
theorem dX5_mostToBlame_31 : decode cX5_mostToBlame 31 = .ok (.iload_n 3, 1) := by decide +kernel
theorem dX5_mostToBlame_32 : decode cX5_mostToBlame 32 = .ok (.invokestatic 73, 3) := by decide +kernel
theorem dX5_mostToBlame_35 : decode cX5_mostToBlame 35 = .ok (.aload_n 0, 1) := by decide +kernel
theorem dX5_mostToBlame_36 : decode cX5_mostToBlame 36 = .ok (.getfield 25, 3) := by decide +kernel
theorem dX5_mostToBlame_39 : decode cX5_mostToBlame 39 = .ok (.iload_n 2, 1) := by decide +kernel
theorem dX5_mostToBlame_40 : decode cX5_mostToBlame 40 = .ok (.invokestatic 73, 3) := by decide +kernel
theorem dX5_mostToBlame_43 : decode cX5_mostToBlame 43 = .ok (.if_icmp .le 5, 3) := by decide +kernel
theorem dX5_mostToBlame_46 : decode cX5_mostToBlame 46 = .ok (.iload_n 3, 1) := by decide +kernel
theorem dX5_mostToBlame_47 : decode cX5_mostToBlame 47 = .ok (.istore_n 2, 1) := by decide +kernel
theorem dX5_mostToBlame_48 : decode cX5_mostToBlame 48 = .ok (.iinc 3 1, 3) := by decide +kernel
theorem dX5_mostToBlame_51 : decode cX5_mostToBlame 51 = .ok (.goto (-46), 3) := by decide +kernel
theorem dX5_mostToBlame_54 : decode cX5_mostToBlame 54 = .ok (.iload_n 2, 1) := by decide +kernel
theorem dX5_mostToBlame_55 : decode cX5_mostToBlame 55 = .ok (.ireturn, 1) := by decide +kernel
theorem dX5_worldsWith_0 : decode cX5_worldsWith 0 = .ok (.aload_n 0, 1) := by decide +kernel
theorem dX5_worldsWith_1 : decode cX5_worldsWith 1 = .ok (.getfield 31, 3) := by decide +kernel
theorem dX5_worldsWith_4 : decode cX5_worldsWith 4 = .ok (.iconst (-1), 1) := by decide +kernel
theorem dX5_worldsWith_5 : decode cX5_worldsWith 5 = .ok (.iload_n 2, 1) := by decide +kernel
theorem dX5_worldsWith_6 : decode cX5_worldsWith 6 = .ok (.iload_n 3, 1) := by decide +kernel
theorem dX5_worldsWith_7 : decode cX5_worldsWith 7 = .ok (.iload 4, 2) := by decide +kernel
theorem dX5_worldsWith_9 : decode cX5_worldsWith 9 = .ok (.invokevirtual 113, 3) := by decide +kernel
theorem dX5_worldsWith_12 : decode cX5_worldsWith 12 = .ok (.iconst 0, 1) := by decide +kernel
theorem dX5_worldsWith_13 : decode cX5_worldsWith 13 = .ok (.istore 5, 2) := by decide +kernel
theorem dX5_worldsWith_15 : decode cX5_worldsWith 15 = .ok (.aload_n 0, 1) := by decide +kernel
theorem dX5_worldsWith_16 : decode cX5_worldsWith 16 = .ok (.getfield 12, 3) := by decide +kernel
theorem dX5_worldsWith_19 : decode cX5_worldsWith 19 = .ok (.aload_n 1, 1) := by decide +kernel
theorem dX5_worldsWith_20 : decode cX5_worldsWith 20 = .ok (.getfield 38, 3) := by decide +kernel
theorem dX5_worldsWith_23 : decode cX5_worldsWith 23 = .ok (.invokevirtual 44, 3) := by decide +kernel
theorem dX5_worldsWith_26 : decode cX5_worldsWith 26 = .ok (.istore 6, 2) := by decide +kernel
theorem dX5_worldsWith_28 : decode cX5_worldsWith 28 = .ok (.iload 6, 2) := by decide +kernel
theorem dX5_worldsWith_30 : decode cX5_worldsWith 30 = .ok (.ifCond .le 53, 3) := by decide +kernel
theorem dX5_worldsWith_33 : decode cX5_worldsWith 33 = .ok (.aload_n 0, 1) := by decide +kernel
theorem dX5_worldsWith_34 : decode cX5_worldsWith 34 = .ok (.getfield 31, 3) := by decide +kernel
theorem dX5_worldsWith_37 : decode cX5_worldsWith 37 = .ok (.aload_n 0, 1) := by decide +kernel
theorem dX5_worldsWith_38 : decode cX5_worldsWith 38 = .ok (.getfield 12, 3) := by decide +kernel
theorem dX5_worldsWith_41 : decode cX5_worldsWith 41 = .ok (.getfield 48, 3) := by decide +kernel
theorem dX5_worldsWith_44 : decode cX5_worldsWith 44 = .ok (.invokevirtual 84, 3) := by decide +kernel
theorem dX5_worldsWith_47 : decode cX5_worldsWith 47 = .ok (.ifCond .eq 23, 3) := by decide +kernel
theorem dX5_worldsWith_50 : decode cX5_worldsWith 50 = .ok (.aload_n 1, 1) := by decide +kernel
theorem dX5_worldsWith_51 : decode cX5_worldsWith 51 = .ok (.iconst 0, 1) := by decide +kernel
theorem dX5_worldsWith_52 : decode cX5_worldsWith 52 = .ok (.aload_n 0, 1) := by decide +kernel
theorem dX5_worldsWith_53 : decode cX5_worldsWith 53 = .ok (.getfield 12, 3) := by decide +kernel
theorem dX5_worldsWith_56 : decode cX5_worldsWith 56 = .ok (.getfield 48, 3) := by decide +kernel
theorem dX5_worldsWith_59 : decode cX5_worldsWith 59 = .ok (.invokevirtual 51, 3) := by decide +kernel
theorem dX5_worldsWith_62 : decode cX5_worldsWith 62 = .ok (.bipush (-6), 2) := by decide +kernel
theorem dX5_worldsWith_64 : decode cX5_worldsWith 64 = .ok (.if_icmp .ne 6, 3) := by decide +kernel
theorem dX5_worldsWith_67 : decode cX5_worldsWith 67 = .ok (.iinc 5 1, 3) := by decide +kernel
theorem dX5_worldsWith_70 : decode cX5_worldsWith 70 = .ok (.aload_n 0, 1) := by decide +kernel
theorem dX5_worldsWith_71 : decode cX5_worldsWith 71 = .ok (.getfield 12, 3) := by decide +kernel
theorem dX5_worldsWith_74 : decode cX5_worldsWith 74 = .ok (.invokevirtual 63, 3) := by decide +kernel
theorem dX5_worldsWith_77 : decode cX5_worldsWith 77 = .ok (.iinc 6 (-1), 3) := by decide +kernel
theorem dX5_worldsWith_80 : decode cX5_worldsWith 80 = .ok (.goto (-52), 3) := by decide +kernel
theorem dX5_worldsWith_83 : decode cX5_worldsWith 83 = .ok (.iload 5, 2) := by decide +kernel
theorem dX5_worldsWith_85 : decode cX5_worldsWith 85 = .ok (.ireturn, 1) := by decide +kernel
theorem dX5_findMostWatched_0 : decode cX5_findMostWatched 0 = .ok (.aload_n 0, 1) := by decide +kernel
theorem dX5_findMostWatched_1 : decode cX5_findMostWatched 1 = .ok (.iconst 0, 1) := by decide +kernel
theorem dX5_findMostWatched_2 : decode cX5_findMostWatched 2 = .ok (.putfield 117, 3) := by decide +kernel
theorem dX5_findMostWatched_5 : decode cX5_findMostWatched 5 = .ok (.aload_n 0, 1) := by decide +kernel
theorem dX5_findMostWatched_6 : decode cX5_findMostWatched 6 = .ok (.iconst 0, 1) := by decide +kernel
theorem dX5_findMostWatched_7 : decode cX5_findMostWatched 7 = .ok (.putfield 120, 3) := by decide +kernel
theorem dX5_findMostWatched_10 : decode cX5_findMostWatched 10 = .ok (.aload_n 0, 1) := by decide +kernel
theorem dX5_findMostWatched_11 : decode cX5_findMostWatched 11 = .ok (.getfield 12, 3) := by decide +kernel
theorem dX5_findMostWatched_14 : decode cX5_findMostWatched 14 = .ok (.aload_n 1, 1) := by decide +kernel
theorem dX5_findMostWatched_15 : decode cX5_findMostWatched 15 = .ok (.getfield 38, 3) := by decide +kernel
theorem dX5_findMostWatched_18 : decode cX5_findMostWatched 18 = .ok (.invokevirtual 44, 3) := by decide +kernel
theorem dX5_findMostWatched_21 : decode cX5_findMostWatched 21 = .ok (.istore_n 2, 1) := by decide +kernel
theorem dX5_findMostWatched_22 : decode cX5_findMostWatched 22 = .ok (.iload_n 2, 1) := by decide +kernel
theorem dX5_findMostWatched_23 : decode cX5_findMostWatched 23 = .ok (.ifCond .le 65, 3) := by decide +kernel
theorem dX5_findMostWatched_26 : decode cX5_findMostWatched 26 = .ok (.aload_n 1, 1) := by decide +kernel
theorem dX5_findMostWatched_27 : decode cX5_findMostWatched 27 = .ok (.iconst 0, 1) := by decide +kernel
theorem dX5_findMostWatched_28 : decode cX5_findMostWatched 28 = .ok (.aload_n 0, 1) := by decide +kernel
theorem dX5_findMostWatched_29 : decode cX5_findMostWatched 29 = .ok (.getfield 12, 3) := by decide +kernel
theorem dX5_findMostWatched_32 : decode cX5_findMostWatched 32 = .ok (.getfield 48, 3) := by decide +kernel
theorem dX5_findMostWatched_35 : decode cX5_findMostWatched 35 = .ok (.invokevirtual 51, 3) := by decide +kernel
theorem dX5_findMostWatched_38 : decode cX5_findMostWatched 38 = .ok (.bipush (-6), 2) := by decide +kernel
theorem dX5_findMostWatched_40 : decode cX5_findMostWatched 40 = .ok (.if_icmp .ne 35, 3) := by decide +kernel
theorem dX5_findMostWatched_43 : decode cX5_findMostWatched 43 = .ok (.iconst 0, 1) := by decide +kernel
theorem dX5_findMostWatched_44 : decode cX5_findMostWatched 44 = .ok (.istore_n 3, 1) := by decide +kernel
theorem dX5_findMostWatched_45 : decode cX5_findMostWatched 45 = .ok (.iload_n 3, 1) := by decide +kernel
theorem dX5_findMostWatched_46 : decode cX5_findMostWatched 46 = .ok (.aload_n 1, 1) := by decide +kernel
theorem dX5_findMostWatched_47 : decode cX5_findMostWatched 47 = .ok (.getfield 38, 3) := by decide +kernel
theorem dX5_findMostWatched_50 : decode cX5_findMostWatched 50 = .ok (.if_icmp .ge 25, 3) := by decide +kernel
theorem dX5_findMostWatched_53 : decode cX5_findMostWatched 53 = .ok (.aload_n 0, 1) := by decide +kernel
theorem dX5_findMostWatched_54 : decode cX5_findMostWatched 54 = .ok (.iload_n 3, 1) := by decide +kernel
theorem dX5_findMostWatched_55 : decode cX5_findMostWatched 55 = .ok (.aload_n 0, 1) := by decide +kernel
theorem dX5_findMostWatched_56 : decode cX5_findMostWatched 56 = .ok (.getfield 12, 3) := by decide +kernel
theorem dX5_findMostWatched_59 : decode cX5_findMostWatched 59 = .ok (.getfield 48, 3) := by decide +kernel
theorem dX5_findMostWatched_62 : decode cX5_findMostWatched 62 = .ok (.iload_n 3, 1) := by decide +kernel
theorem dX5_findMostWatched_63 : decode cX5_findMostWatched 63 = .ok (.invokestatic 123, 3) := by decide +kernel
theorem dX5_findMostWatched_66 : decode cX5_findMostWatched 66 = .ok (.invokevirtual 126, 3) := by decide +kernel
theorem dX5_findMostWatched_69 : decode cX5_findMostWatched 69 = .ok (.iinc 3 1, 3) := by decide +kernel
theorem dX5_findMostWatched_72 : decode cX5_findMostWatched 72 = .ok (.goto (-27), 3) := by decide +kernel
theorem dX5_findMostWatched_75 : decode cX5_findMostWatched 75 = .ok (.aload_n 0, 1) := by decide +kernel
theorem dX5_findMostWatched_76 : decode cX5_findMostWatched 76 = .ok (.getfield 12, 3) := by decide +kernel
theorem dX5_findMostWatched_79 : decode cX5_findMostWatched 79 = .ok (.invokevirtual 63, 3) := by decide +kernel
theorem dX5_findMostWatched_82 : decode cX5_findMostWatched 82 = .ok (.iinc 2 (-1), 3) := by decide +kernel
theorem dX5_findMostWatched_85 : decode cX5_findMostWatched 85 = .ok (.goto (-63), 3) := by decide +kernel
theorem dX5_findMostWatched_88 : decode cX5_findMostWatched 88 = .ok (.return_, 1) := by decide +kernel
theorem dX5_compareWatchers_0 : decode cX5_compareWatchers 0 = .ok (.iload_n 2, 1) := by decide +kernel
theorem dX5_compareWatchers_1 : decode cX5_compareWatchers 1 = .ok (.aload_n 0, 1) := by decide +kernel
theorem dX5_compareWatchers_2 : decode cX5_compareWatchers 2 = .ok (.getfield 120, 3) := by decide +kernel
theorem dX5_compareWatchers_5 : decode cX5_compareWatchers 5 = .ok (.if_icmp .gt 19, 3) := by decide +kernel
theorem dX5_compareWatchers_8 : decode cX5_compareWatchers 8 = .ok (.iload_n 2, 1) := by decide +kernel
theorem dX5_compareWatchers_9 : decode cX5_compareWatchers 9 = .ok (.aload_n 0, 1) := by decide +kernel
theorem dX5_compareWatchers_10 : decode cX5_compareWatchers 10 = .ok (.getfield 120, 3) := by decide +kernel
theorem dX5_compareWatchers_13 : decode cX5_compareWatchers 13 = .ok (.if_icmp .ne 21, 3) := by decide +kernel
theorem dX5_compareWatchers_16 : decode cX5_compareWatchers 16 = .ok (.iload_n 1, 1) := by decide +kernel
theorem dX5_compareWatchers_17 : decode cX5_compareWatchers 17 = .ok (.aload_n 0, 1) := by decide +kernel
theorem dX5_compareWatchers_18 : decode cX5_compareWatchers 18 = .ok (.getfield 117, 3) := by decide +kernel
theorem dX5_compareWatchers_21 : decode cX5_compareWatchers 21 = .ok (.if_icmp .ge 13, 3) := by decide +kernel
theorem dX5_compareWatchers_24 : decode cX5_compareWatchers 24 = .ok (.aload_n 0, 1) := by decide +kernel
theorem dX5_compareWatchers_25 : decode cX5_compareWatchers 25 = .ok (.iload_n 2, 1) := by decide +kernel
theorem dX5_compareWatchers_26 : decode cX5_compareWatchers 26 = .ok (.putfield 120, 3) := by decide +kernel
theorem dX5_compareWatchers_29 : decode cX5_compareWatchers 29 = .ok (.aload_n 0, 1) := by decide +kernel
theorem dX5_compareWatchers_30 : decode cX5_compareWatchers 30 = .ok (.iload_n 1, 1) := by decide +kernel
theorem dX5_compareWatchers_31 : decode cX5_compareWatchers 31 = .ok (.putfield 117, 3) := by decide +kernel
theorem dX5_compareWatchers_34 : decode cX5_compareWatchers 34 = .ok (.return_, 1) := by decide +kernel
theorem dX5_boxInWorld_0 : decode cX5_boxInWorld 0 = .ok (.iconst 0, 1) := by decide +kernel
theorem dX5_boxInWorld_1 : decode cX5_boxInWorld 1 = .ok (.istore 4, 2) := by decide +kernel
theorem dX5_boxInWorld_3 : decode cX5_boxInWorld 3 = .ok (.aload_n 0, 1) := by decide +kernel
theorem dX5_boxInWorld_4 : decode cX5_boxInWorld 4 = .ok (.getfield 12, 3) := by decide +kernel
theorem dX5_boxInWorld_7 : decode cX5_boxInWorld 7 = .ok (.aload_n 1, 1) := by decide +kernel
theorem dX5_boxInWorld_8 : decode cX5_boxInWorld 8 = .ok (.getfield 38, 3) := by decide +kernel
theorem dX5_boxInWorld_11 : decode cX5_boxInWorld 11 = .ok (.invokevirtual 44, 3) := by decide +kernel
theorem dX5_boxInWorld_14 : decode cX5_boxInWorld 14 = .ok (.istore 5, 2) := by decide +kernel
theorem dX5_boxInWorld_16 : decode cX5_boxInWorld 16 = .ok (.iload 5, 2) := by decide +kernel
theorem dX5_boxInWorld_18 : decode cX5_boxInWorld 18 = .ok (.ifCond .le 54, 3) := by decide +kernel
theorem dX5_boxInWorld_21 : decode cX5_boxInWorld 21 = .ok (.aload_n 1, 1) := by decide +kernel
theorem dX5_boxInWorld_22 : decode cX5_boxInWorld 22 = .ok (.iconst 0, 1) := by decide +kernel
theorem dX5_boxInWorld_23 : decode cX5_boxInWorld 23 = .ok (.aload_n 0, 1) := by decide +kernel
theorem dX5_boxInWorld_24 : decode cX5_boxInWorld 24 = .ok (.getfield 12, 3) := by decide +kernel
theorem dX5_boxInWorld_27 : decode cX5_boxInWorld 27 = .ok (.getfield 48, 3) := by decide +kernel
theorem dX5_boxInWorld_30 : decode cX5_boxInWorld 30 = .ok (.invokevirtual 51, 3) := by decide +kernel
theorem dX5_boxInWorld_33 : decode cX5_boxInWorld 33 = .ok (.bipush (-6), 2) := by decide +kernel
theorem dX5_boxInWorld_35 : decode cX5_boxInWorld 35 = .ok (.if_icmp .ne 24, 3) := by decide +kernel
theorem dX5_boxInWorld_38 : decode cX5_boxInWorld 38 = .ok (.iload 4, 2) := by decide +kernel
theorem dX5_boxInWorld_40 : decode cX5_boxInWorld 40 = .ok (.iload_n 2, 1) := by decide +kernel
theorem dX5_boxInWorld_41 : decode cX5_boxInWorld 41 = .ok (.if_icmp .ne 15, 3) := by decide +kernel
theorem dX5_boxInWorld_44 : decode cX5_boxInWorld 44 = .ok (.aload_n 0, 1) := by decide +kernel
theorem dX5_boxInWorld_45 : decode cX5_boxInWorld 45 = .ok (.getfield 12, 3) := by decide +kernel
theorem dX5_boxInWorld_48 : decode cX5_boxInWorld 48 = .ok (.getfield 48, 3) := by decide +kernel
theorem dX5_boxInWorld_51 : decode cX5_boxInWorld 51 = .ok (.iload_n 3, 1) := by decide +kernel
theorem dX5_boxInWorld_52 : decode cX5_boxInWorld 52 = .ok (.invokestatic 73, 3) := by decide +kernel
theorem dX5_boxInWorld_55 : decode cX5_boxInWorld 55 = .ok (.ireturn, 1) := by decide +kernel
theorem dX5_boxInWorld_56 : decode cX5_boxInWorld 56 = .ok (.iinc 4 1, 3) := by decide +kernel
theorem dX5_boxInWorld_59 : decode cX5_boxInWorld 59 = .ok (.aload_n 0, 1) := by decide +kernel
theorem dX5_boxInWorld_60 : decode cX5_boxInWorld 60 = .ok (.getfield 12, 3) := by decide +kernel
theorem dX5_boxInWorld_63 : decode cX5_boxInWorld 63 = .ok (.invokevirtual 63, 3) := by decide +kernel
theorem dX5_boxInWorld_66 : decode cX5_boxInWorld 66 = .ok (.iinc 5 (-1), 3) := by decide +kernel
theorem dX5_boxInWorld_69 : decode cX5_boxInWorld 69 = .ok (.goto (-53), 3) := by decide +kernel
theorem dX5_boxInWorld_72 : decode cX5_boxInWorld 72 = .ok (.iconst (-1), 1) := by decide +kernel
theorem dX5_boxInWorld_73 : decode cX5_boxInWorld 73 = .ok (.ireturn, 1) := by decide +kernel
theorem dX6_init_0 : decode cX6_init 0 = .ok (.aload_n 0, 1) := by decide +kernel
theorem dX6_init_1 : decode cX6_init 1 = .ok (.invokespecial 3, 3) := by decide +kernel
theorem dX6_init_4 : decode cX6_init 4 = .ok (.aload_n 0, 1) := by decide +kernel
theorem dX6_init_5 : decode cX6_init 5 = .ok (.bipush 6, 2) := by decide +kernel
theorem dX6_init_7 : decode cX6_init 7 = .ok (.newarray .int, 2) := by decide +kernel
theorem dX6_init_9 : decode cX6_init 9 = .ok (.putfield 9, 3) := by decide +kernel
theorem dX6_init_12 : decode cX6_init 12 = .ok (.return_, 1) := by decide +kernel
theorem dX6_begin_0 : decode cX6_begin 0 = .ok (.aload_n 0, 1) := by decide +kernel
theorem dX6_begin_1 : decode cX6_begin 1 = .ok (.iload_n 1, 1) := by decide +kernel
theorem dX6_begin_2 : decode cX6_begin 2 = .ok (.putfield 15, 3) := by decide +kernel
theorem dX6_begin_5 : decode cX6_begin 5 = .ok (.iconst 1, 1) := by decide +kernel
theorem dX6_begin_6 : decode cX6_begin 6 = .ok (.istore_n 2, 1) := by decide +kernel
theorem dX6_begin_7 : decode cX6_begin 7 = .ok (.iconst 0, 1) := by decide +kernel
theorem dX6_begin_8 : decode cX6_begin 8 = .ok (.istore_n 3, 1) := by decide +kernel
theorem dX6_begin_9 : decode cX6_begin 9 = .ok (.iload_n 3, 1) := by decide +kernel
theorem dX6_begin_10 : decode cX6_begin 10 = .ok (.aload_n 0, 1) := by decide +kernel
theorem dX6_begin_11 : decode cX6_begin 11 = .ok (.getfield 9, 3) := by decide +kernel
theorem dX6_begin_14 : decode cX6_begin 14 = .ok (.arraylength, 1) := by decide +kernel
theorem dX6_begin_15 : decode cX6_begin 15 = .ok (.if_icmp .ge 52, 3) := by decide +kernel
theorem dX6_begin_18 : decode cX6_begin 18 = .ok (.aload_n 0, 1) := by decide +kernel
theorem dX6_begin_19 : decode cX6_begin 19 = .ok (.getfield 9, 3) := by decide +kernel
theorem dX6_begin_22 : decode cX6_begin 22 = .ok (.iload_n 3, 1) := by decide +kernel
theorem dX6_begin_23 : decode cX6_begin 23 = .ok (.iload_n 3, 1) := by decide +kernel
theorem dX6_begin_24 : decode cX6_begin 24 = .ok (.aload_n 0, 1) := by decide +kernel
theorem dX6_begin_25 : decode cX6_begin 25 = .ok (.getfield 15, 3) := by decide +kernel
theorem dX6_begin_28 : decode cX6_begin 28 = .ok (.if_icmp .ge 10, 3) := by decide +kernel
theorem dX6_begin_31 : decode cX6_begin 31 = .ok (.iload_n 3, 1) := by decide +kernel
theorem dX6_begin_32 : decode cX6_begin 32 = .ok (.invokestatic 19, 3) := by decide +kernel
theorem dX6_begin_35 : decode cX6_begin 35 = .ok (.goto 4, 3) := by decide +kernel
theorem dX6_begin_38 : decode cX6_begin 38 = .ok (.iconst (-1), 1) := by decide +kernel
theorem dX6_begin_39 : decode cX6_begin 39 = .ok (.iastore, 1) := by decide +kernel
theorem dX6_begin_40 : decode cX6_begin 40 = .ok (.iload_n 2, 1) := by decide +kernel
theorem dX6_begin_41 : decode cX6_begin 41 = .ok (.iload_n 3, 1) := by decide +kernel
theorem dX6_begin_42 : decode cX6_begin 42 = .ok (.aload_n 0, 1) := by decide +kernel
theorem dX6_begin_43 : decode cX6_begin 43 = .ok (.getfield 15, 3) := by decide +kernel
theorem dX6_begin_46 : decode cX6_begin 46 = .ok (.if_icmp .ge 12, 3) := by decide +kernel
theorem dX6_begin_49 : decode cX6_begin 49 = .ok (.aload_n 0, 1) := by decide +kernel
theorem dX6_begin_50 : decode cX6_begin 50 = .ok (.getfield 15, 3) := by decide +kernel
theorem dX6_begin_53 : decode cX6_begin 53 = .ok (.iconst 1, 1) := by decide +kernel
theorem dX6_begin_54 : decode cX6_begin 54 = .ok (.isub, 1) := by decide +kernel
theorem dX6_begin_55 : decode cX6_begin 55 = .ok (.goto 4, 3) := by decide +kernel
theorem dX6_begin_58 : decode cX6_begin 58 = .ok (.iconst 1, 1) := by decide +kernel
theorem dX6_begin_59 : decode cX6_begin 59 = .ok (.imul, 1) := by decide +kernel
theorem dX6_begin_60 : decode cX6_begin 60 = .ok (.istore_n 2, 1) := by decide +kernel
theorem dX6_begin_61 : decode cX6_begin 61 = .ok (.iinc 3 1, 3) := by decide +kernel
theorem dX6_begin_64 : decode cX6_begin 64 = .ok (.goto (-55), 3) := by decide +kernel
theorem dX6_begin_67 : decode cX6_begin 67 = .ok (.iload_n 2, 1) := by decide +kernel
theorem dX6_begin_68 : decode cX6_begin 68 = .ok (.ireturn, 1) := by decide +kernel
theorem dX6_step_0 : decode cX6_step 0 = .ok (.aload_n 0, 1) := by decide +kernel
theorem dX6_step_1 : decode cX6_step 1 = .ok (.getfield 15, 3) := by decide +kernel
theorem dX6_step_4 : decode cX6_step 4 = .ok (.iconst 1, 1) := by decide +kernel
theorem dX6_step_5 : decode cX6_step 5 = .ok (.isub, 1) := by decide +kernel
theorem dX6_step_6 : decode cX6_step 6 = .ok (.istore_n 1, 1) := by decide +kernel
theorem dX6_step_7 : decode cX6_step 7 = .ok (.iload_n 1, 1) := by decide +kernel
theorem dX6_step_8 : decode cX6_step 8 = .ok (.ifCond .lt 58, 3) := by decide +kernel
theorem dX6_step_11 : decode cX6_step 11 = .ok (.aload_n 0, 1) := by decide +kernel
theorem dX6_step_12 : decode cX6_step 12 = .ok (.getfield 9, 3) := by decide +kernel
theorem dX6_step_15 : decode cX6_step 15 = .ok (.iload_n 1, 1) := by decide +kernel
theorem dX6_step_16 : decode cX6_step 16 = .ok (.invokestatic 23, 3) := by decide +kernel
theorem dX6_step_19 : decode cX6_step 19 = .ok (.iconst 1, 1) := by decide +kernel
theorem dX6_step_20 : decode cX6_step 20 = .ok (.iadd, 1) := by decide +kernel
theorem dX6_step_21 : decode cX6_step 21 = .ok (.istore_n 2, 1) := by decide +kernel
theorem dX6_step_22 : decode cX6_step 22 = .ok (.iload_n 2, 1) := by decide +kernel
theorem dX6_step_23 : decode cX6_step 23 = .ok (.iload_n 1, 1) := by decide +kernel
theorem dX6_step_24 : decode cX6_step 24 = .ok (.if_icmp .ne 6, 3) := by decide +kernel
theorem dX6_step_27 : decode cX6_step 27 = .ok (.iinc 2 1, 3) := by decide +kernel
theorem dX6_step_30 : decode cX6_step 30 = .ok (.iload_n 2, 1) := by decide +kernel
theorem dX6_step_31 : decode cX6_step 31 = .ok (.aload_n 0, 1) := by decide +kernel
theorem dX6_step_32 : decode cX6_step 32 = .ok (.getfield 15, 3) := by decide +kernel
theorem dX6_step_35 : decode cX6_step 35 = .ok (.if_icmp .ge 13, 3) := by decide +kernel
theorem dX6_step_38 : decode cX6_step 38 = .ok (.aload_n 0, 1) := by decide +kernel
theorem dX6_step_39 : decode cX6_step 39 = .ok (.getfield 9, 3) := by decide +kernel
theorem dX6_step_42 : decode cX6_step 42 = .ok (.iload_n 1, 1) := by decide +kernel
theorem dX6_step_43 : decode cX6_step 43 = .ok (.iload_n 2, 1) := by decide +kernel
theorem dX6_step_44 : decode cX6_step 44 = .ok (.invokestatic 27, 3) := by decide +kernel
theorem dX6_step_47 : decode cX6_step 47 = .ok (.return_, 1) := by decide +kernel
theorem dX6_step_48 : decode cX6_step 48 = .ok (.aload_n 0, 1) := by decide +kernel
theorem dX6_step_49 : decode cX6_step 49 = .ok (.getfield 9, 3) := by decide +kernel
theorem dX6_step_52 : decode cX6_step 52 = .ok (.iload_n 1, 1) := by decide +kernel
theorem dX6_step_53 : decode cX6_step 53 = .ok (.iload_n 1, 1) := by decide +kernel
theorem dX6_step_54 : decode cX6_step 54 = .ok (.invokestatic 19, 3) := by decide +kernel
theorem dX6_step_57 : decode cX6_step 57 = .ok (.invokestatic 27, 3) := by decide +kernel
theorem dX6_step_60 : decode cX6_step 60 = .ok (.iinc 1 (-1), 3) := by decide +kernel
theorem dX6_step_63 : decode cX6_step 63 = .ok (.goto (-56), 3) := by decide +kernel
theorem dX6_step_66 : decode cX6_step 66 = .ok (.return_, 1) := by decide +kernel
theorem dX6_firstBoxFor_0 : decode cX6_firstBoxFor 0 = .ok (.iload_n 0, 1) := by decide +kernel
theorem dX6_firstBoxFor_1 : decode cX6_firstBoxFor 1 = .ok (.ifCond .ne 7, 3) := by decide +kernel
theorem dX6_firstBoxFor_4 : decode cX6_firstBoxFor 4 = .ok (.iconst 1, 1) := by decide +kernel
theorem dX6_firstBoxFor_5 : decode cX6_firstBoxFor 5 = .ok (.goto 4, 3) := by decide +kernel
theorem dX6_firstBoxFor_8 : decode cX6_firstBoxFor 8 = .ok (.iconst 0, 1) := by decide +kernel
theorem dX6_firstBoxFor_9 : decode cX6_firstBoxFor 9 = .ok (.ireturn, 1) := by decide +kernel
theorem dX7_init_0 : decode cX7_init 0 = .ok (.aload_n 0, 1) := by decide +kernel
theorem dX7_init_1 : decode cX7_init 1 = .ok (.invokespecial 1, 3) := by decide +kernel
theorem dX7_init_4 : decode cX7_init 4 = .ok (.aload_n 0, 1) := by decide +kernel
theorem dX7_init_5 : decode cX7_init 5 = .ok (.new 7, 3) := by decide +kernel
theorem dX7_init_8 : decode cX7_init 8 = .ok (.dup, 1) := by decide +kernel
theorem dX7_init_9 : decode cX7_init 9 = .ok (.invokespecial 9, 3) := by decide +kernel
theorem dX7_init_12 : decode cX7_init 12 = .ok (.putfield 10, 3) := by decide +kernel
theorem dX7_init_15 : decode cX7_init 15 = .ok (.aload_n 0, 1) := by decide +kernel
theorem dX7_init_16 : decode cX7_init 16 = .ok (.new 16, 3) := by decide +kernel
theorem dX7_init_19 : decode cX7_init 19 = .ok (.dup, 1) := by decide +kernel
theorem dX7_init_20 : decode cX7_init 20 = .ok (.invokespecial 18, 3) := by decide +kernel
theorem dX7_init_23 : decode cX7_init 23 = .ok (.putfield 19, 3) := by decide +kernel
theorem dX7_init_26 : decode cX7_init 26 = .ok (.aload_n 0, 1) := by decide +kernel
theorem dX7_init_27 : decode cX7_init 27 = .ok (.new 23, 3) := by decide +kernel
theorem dX7_init_30 : decode cX7_init 30 = .ok (.dup, 1) := by decide +kernel
theorem dX7_init_31 : decode cX7_init 31 = .ok (.invokespecial 25, 3) := by decide +kernel
theorem dX7_init_34 : decode cX7_init 34 = .ok (.putfield 26, 3) := by decide +kernel
theorem dX7_init_37 : decode cX7_init 37 = .ok (.aload_n 0, 1) := by decide +kernel
theorem dX7_init_38 : decode cX7_init 38 = .ok (.new 23, 3) := by decide +kernel
theorem dX7_init_41 : decode cX7_init 41 = .ok (.dup, 1) := by decide +kernel
theorem dX7_init_42 : decode cX7_init 42 = .ok (.invokespecial 25, 3) := by decide +kernel
theorem dX7_init_45 : decode cX7_init 45 = .ok (.putfield 30, 3) := by decide +kernel
theorem dX7_init_48 : decode cX7_init 48 = .ok (.aload_n 0, 1) := by decide +kernel
theorem dX7_init_49 : decode cX7_init 49 = .ok (.new 33, 3) := by decide +kernel
theorem dX7_init_52 : decode cX7_init 52 = .ok (.dup, 1) := by decide +kernel
theorem dX7_init_53 : decode cX7_init 53 = .ok (.invokespecial 35, 3) := by decide +kernel
theorem dX7_init_56 : decode cX7_init 56 = .ok (.putfield 36, 3) := by decide +kernel
theorem dX7_init_59 : decode cX7_init 59 = .ok (.aload_n 0, 1) := by decide +kernel
theorem dX7_init_60 : decode cX7_init 60 = .ok (.new 40, 3) := by decide +kernel
theorem dX7_init_63 : decode cX7_init 63 = .ok (.dup, 1) := by decide +kernel
theorem dX7_init_64 : decode cX7_init 64 = .ok (.invokespecial 42, 3) := by decide +kernel
theorem dX7_init_67 : decode cX7_init 67 = .ok (.putfield 43, 3) := by decide +kernel
theorem dX7_init_70 : decode cX7_init 70 = .ok (.aload_n 0, 1) := by decide +kernel
theorem dX7_init_71 : decode cX7_init 71 = .ok (.getfield 10, 3) := by decide +kernel
theorem dX7_init_74 : decode cX7_init 74 = .ok (.iconst 4, 1) := by decide +kernel
theorem dX7_init_75 : decode cX7_init 75 = .ok (.invokevirtual 47, 3) := by decide +kernel
theorem dX7_init_78 : decode cX7_init 78 = .ok (.return_, 1) := by decide +kernel
theorem dX7_open_0 : decode cX7_open 0 = .ok (.iload_n 1, 1) := by decide +kernel
theorem dX7_open_1 : decode cX7_open 1 = .ok (.iconst 3, 1) := by decide +kernel
theorem dX7_open_2 : decode cX7_open 2 = .ok (.if_icmp .lt 9, 3) := by decide +kernel
theorem dX7_open_5 : decode cX7_open 5 = .ok (.iload_n 1, 1) := by decide +kernel
theorem dX7_open_6 : decode cX7_open 6 = .ok (.bipush 6, 2) := by decide +kernel
theorem dX7_open_8 : decode cX7_open 8 = .ok (.if_icmp .le 6, 3) := by decide +kernel
theorem dX7_open_11 : decode cX7_open 11 = .ok (.bipush (-2), 2) := by decide +kernel
theorem dX7_open_13 : decode cX7_open 13 = .ok (.ireturn, 1) := by decide +kernel
theorem dX7_open_14 : decode cX7_open 14 = .ok (.aload_n 0, 1) := by decide +kernel
theorem dX7_open_15 : decode cX7_open 15 = .ok (.getfield 10, 3) := by decide +kernel
theorem dX7_open_18 : decode cX7_open 18 = .ok (.getfield 51, 3) := by decide +kernel
theorem dX7_open_21 : decode cX7_open 21 = .ok (.istore_n 2, 1) := by decide +kernel
theorem dX7_open_22 : decode cX7_open 22 = .ok (.aload_n 0, 1) := by decide +kernel
theorem dX7_open_23 : decode cX7_open 23 = .ok (.invokevirtual 55, 3) := by decide +kernel
theorem dX7_open_26 : decode cX7_open 26 = .ok (.aload_n 0, 1) := by decide +kernel
theorem dX7_open_27 : decode cX7_open 27 = .ok (.getfield 10, 3) := by decide +kernel
theorem dX7_open_30 : decode cX7_open 30 = .ok (.iload_n 1, 1) := by decide +kernel
theorem dX7_open_31 : decode cX7_open 31 = .ok (.invokevirtual 47, 3) := by decide +kernel
theorem dX7_open_34 : decode cX7_open 34 = .ok (.iload_n 2, 1) := by decide +kernel
theorem dX7_open_35 : decode cX7_open 35 = .ok (.ireturn, 1) := by decide +kernel
theorem dX7_look_0 : decode cX7_look 0 = .ok (.aload_n 0, 1) := by decide +kernel
theorem dX7_look_1 : decode cX7_look 1 = .ok (.getfield 10, 3) := by decide +kernel
theorem dX7_look_4 : decode cX7_look 4 = .ok (.iload_n 1, 1) := by decide +kernel
theorem dX7_look_5 : decode cX7_look 5 = .ok (.invokevirtual 58, 3) := by decide +kernel
theorem dX7_look_8 : decode cX7_look 8 = .ok (.ifCond .eq 14, 3) := by decide +kernel
theorem dX7_look_11 : decode cX7_look 11 = .ok (.aload_n 0, 1) := by decide +kernel
theorem dX7_look_12 : decode cX7_look 12 = .ok (.getfield 10, 3) := by decide +kernel
theorem dX7_look_15 : decode cX7_look 15 = .ok (.iload_n 2, 1) := by decide +kernel
theorem dX7_look_16 : decode cX7_look 16 = .ok (.invokevirtual 58, 3) := by decide +kernel
theorem dX7_look_19 : decode cX7_look 19 = .ok (.ifCond .ne 5, 3) := by decide +kernel
theorem dX7_look_22 : decode cX7_look 22 = .ok (.iconst (-1), 1) := by decide +kernel
theorem dX7_look_23 : decode cX7_look 23 = .ok (.ireturn, 1) := by decide +kernel
theorem dX7_look_24 : decode cX7_look 24 = .ok (.iload_n 1, 1) := by decide +kernel
theorem dX7_look_25 : decode cX7_look 25 = .ok (.iload_n 2, 1) := by decide +kernel
theorem dX7_look_26 : decode cX7_look 26 = .ok (.if_icmp .ne 6, 3) := by decide +kernel
theorem dX7_look_29 : decode cX7_look 29 = .ok (.bipush (-2), 2) := by decide +kernel
theorem dX7_look_31 : decode cX7_look 31 = .ok (.ireturn, 1) := by decide +kernel
theorem dX7_look_32 : decode cX7_look 32 = .ok (.aload_n 0, 1) := by decide +kernel
theorem dX7_look_33 : decode cX7_look 33 = .ok (.getfield 10, 3) := by decide +kernel
theorem dX7_look_36 : decode cX7_look 36 = .ok (.getfield 62, 3) := by decide +kernel
theorem dX7_look_39 : decode cX7_look 39 = .ok (.iload_n 1, 1) := by decide +kernel
theorem dX7_look_40 : decode cX7_look 40 = .ok (.invokestatic 66, 3) := by decide +kernel
theorem dX7_look_43 : decode cX7_look 43 = .ok (.istore_n 3, 1) := by decide +kernel
theorem dX7_look_44 : decode cX7_look 44 = .ok (.aload_n 0, 1) := by decide +kernel
theorem dX7_look_45 : decode cX7_look 45 = .ok (.invokevirtual 55, 3) := by decide +kernel
theorem dX7_look_48 : decode cX7_look 48 = .ok (.aload_n 0, 1) := by decide +kernel
theorem dX7_look_49 : decode cX7_look 49 = .ok (.getfield 10, 3) := by decide +kernel
theorem dX7_look_52 : decode cX7_look 52 = .ok (.getfield 62, 3) := by decide +kernel
theorem dX7_look_55 : decode cX7_look 55 = .ok (.iload_n 1, 1) := by decide +kernel
theorem dX7_look_56 : decode cX7_look 56 = .ok (.iload_n 2, 1) := by decide +kernel
theorem dX7_look_57 : decode cX7_look 57 = .ok (.invokestatic 70, 3) := by decide +kernel
theorem dX7_look_60 : decode cX7_look 60 = .ok (.iload_n 3, 1) := by decide +kernel
theorem dX7_look_61 : decode cX7_look 61 = .ok (.ireturn, 1) := by decide +kernel
theorem dX7_tell_0 : decode cX7_tell 0 = .ok (.aload_n 0, 1) := by decide +kernel
theorem dX7_tell_1 : decode cX7_tell 1 = .ok (.getfield 10, 3) := by decide +kernel
theorem dX7_tell_4 : decode cX7_tell 4 = .ok (.iload_n 1, 1) := by decide +kernel
theorem dX7_tell_5 : decode cX7_tell 5 = .ok (.invokevirtual 58, 3) := by decide +kernel
theorem dX7_tell_8 : decode cX7_tell 8 = .ok (.ifCond .ne 5, 3) := by decide +kernel
theorem dX7_tell_11 : decode cX7_tell 11 = .ok (.iconst (-1), 1) := by decide +kernel
theorem dX7_tell_12 : decode cX7_tell 12 = .ok (.ireturn, 1) := by decide +kernel
theorem dX7_tell_13 : decode cX7_tell 13 = .ok (.aload_n 0, 1) := by decide +kernel
theorem dX7_tell_14 : decode cX7_tell 14 = .ok (.getfield 10, 3) := by decide +kernel
theorem dX7_tell_17 : decode cX7_tell 17 = .ok (.iload_n 2, 1) := by decide +kernel
theorem dX7_tell_18 : decode cX7_tell 18 = .ok (.iload_n 3, 1) := by decide +kernel
theorem dX7_tell_19 : decode cX7_tell 19 = .ok (.iload 4, 2) := by decide +kernel
theorem dX7_tell_21 : decode cX7_tell 21 = .ok (.invokevirtual 74, 3) := by decide +kernel
theorem dX7_tell_24 : decode cX7_tell 24 = .ok (.ifCond .ne 6, 3) := by decide +kernel
theorem dX7_tell_27 : decode cX7_tell 27 = .ok (.bipush (-2), 2) := by decide +kernel
theorem dX7_tell_29 : decode cX7_tell 29 = .ok (.ireturn, 1) := by decide +kernel
theorem dX7_tell_30 : decode cX7_tell 30 = .ok (.aload_n 0, 1) := by decide +kernel
theorem dX7_tell_31 : decode cX7_tell 31 = .ok (.getfield 10, 3) := by decide +kernel
theorem dX7_tell_34 : decode cX7_tell 34 = .ok (.iconst 1, 1) := by decide +kernel
theorem dX7_tell_35 : decode cX7_tell 35 = .ok (.invokevirtual 78, 3) := by decide +kernel
theorem dX7_tell_38 : decode cX7_tell 38 = .ok (.ifCond .ne 6, 3) := by decide +kernel
theorem dX7_tell_41 : decode cX7_tell 41 = .ok (.bipush (-4), 2) := by decide +kernel
theorem dX7_tell_43 : decode cX7_tell 43 = .ok (.ireturn, 1) := by decide +kernel
theorem dX7_tell_44 : decode cX7_tell 44 = .ok (.aload_n 0, 1) := by decide +kernel
theorem dX7_tell_45 : decode cX7_tell 45 = .ok (.invokevirtual 55, 3) := by decide +kernel
theorem dX7_tell_48 : decode cX7_tell 48 = .ok (.aload_n 0, 1) := by decide +kernel
theorem dX7_tell_49 : decode cX7_tell 49 = .ok (.getfield 10, 3) := by decide +kernel
theorem dX7_tell_52 : decode cX7_tell 52 = .ok (.iload_n 1, 1) := by decide +kernel
theorem dX7_tell_53 : decode cX7_tell 53 = .ok (.iload_n 2, 1) := by decide +kernel
theorem dX7_tell_54 : decode cX7_tell 54 = .ok (.iload_n 3, 1) := by decide +kernel
theorem dX7_tell_55 : decode cX7_tell 55 = .ok (.iload 4, 2) := by decide +kernel
theorem dX7_tell_57 : decode cX7_tell 57 = .ok (.invokevirtual 81, 3) := by decide +kernel
theorem dX7_tell_60 : decode cX7_tell 60 = .ok (.aload_n 0, 1) := by decide +kernel
theorem dX7_tell_61 : decode cX7_tell 61 = .ok (.getfield 10, 3) := by decide +kernel
theorem dX7_tell_64 : decode cX7_tell 64 = .ok (.getfield 85, 3) := by decide +kernel
theorem dX7_tell_67 : decode cX7_tell 67 = .ok (.iconst 1, 1) := by decide +kernel
theorem dX7_tell_68 : decode cX7_tell 68 = .ok (.isub, 1) := by decide +kernel
theorem dX7_tell_69 : decode cX7_tell 69 = .ok (.ireturn, 1) := by decide +kernel
theorem dX7_prove_0 : decode cX7_prove 0 = .ok (.aload_n 0, 1) := by decide +kernel
theorem dX7_prove_1 : decode cX7_prove 1 = .ok (.getfield 10, 3) := by decide +kernel
theorem dX7_prove_4 : decode cX7_prove 4 = .ok (.iload_n 1, 1) := by decide +kernel
theorem dX7_prove_5 : decode cX7_prove 5 = .ok (.invokevirtual 118, 3) := by decide +kernel
theorem dX7_prove_8 : decode cX7_prove 8 = .ok (.astore_n 3, 1) := by decide +kernel
theorem dX7_prove_9 : decode cX7_prove 9 = .ok (.aload_n 3, 1) := by decide +kernel
theorem dX7_prove_10 : decode cX7_prove 10 = .ok (.ifnonnull 5, 3) := by decide +kernel
theorem dX7_prove_13 : decode cX7_prove 13 = .ok (.iconst (-1), 1) := by decide +kernel
theorem dX7_prove_14 : decode cX7_prove 14 = .ok (.ireturn, 1) := by decide +kernel
theorem dX7_prove_15 : decode cX7_prove 15 = .ok (.aload_n 3, 1) := by decide +kernel
theorem dX7_prove_16 : decode cX7_prove 16 = .ok (.getfield 122, 3) := by decide +kernel
theorem dX7_prove_19 : decode cX7_prove 19 = .ok (.ifCond .eq 6, 3) := by decide +kernel
theorem dX7_prove_22 : decode cX7_prove 22 = .ok (.bipush (-5), 2) := by decide +kernel
theorem dX7_prove_24 : decode cX7_prove 24 = .ok (.ireturn, 1) := by decide +kernel
theorem dX7_prove_25 : decode cX7_prove 25 = .ok (.aload_n 0, 1) := by decide +kernel
theorem dX7_prove_26 : decode cX7_prove 26 = .ok (.invokevirtual 55, 3) := by decide +kernel
theorem dX7_prove_29 : decode cX7_prove 29 = .ok (.aload_n 3, 1) := by decide +kernel
theorem dX7_prove_30 : decode cX7_prove 30 = .ok (.iload_n 2, 1) := by decide +kernel
theorem dX7_prove_31 : decode cX7_prove 31 = .ok (.invokevirtual 127, 3) := by decide +kernel
theorem dX7_prove_34 : decode cX7_prove 34 = .ok (.aload_n 0, 1) := by decide +kernel
theorem dX7_prove_35 : decode cX7_prove 35 = .ok (.invokevirtual 131, 3) := by decide +kernel
theorem dX7_prove_38 : decode cX7_prove 38 = .ok (.getfield 135, 3) := by decide +kernel
theorem dX7_prove_41 : decode cX7_prove 41 = .ok (.ireturn, 1) := by decide +kernel
theorem dX7_reveal_0 : decode cX7_reveal 0 = .ok (.aload_n 0, 1) := by decide +kernel
theorem dX7_reveal_1 : decode cX7_reveal 1 = .ok (.invokevirtual 55, 3) := by decide +kernel
theorem dX7_reveal_4 : decode cX7_reveal 4 = .ok (.aload_n 0, 1) := by decide +kernel
theorem dX7_reveal_5 : decode cX7_reveal 5 = .ok (.getfield 10, 3) := by decide +kernel
theorem dX7_reveal_8 : decode cX7_reveal 8 = .ok (.invokevirtual 138, 3) := by decide +kernel
theorem dX7_reveal_11 : decode cX7_reveal 11 = .ok (.ireturn, 1) := by decide +kernel
theorem dX7_doubt_0 : decode cX7_doubt 0 = .ok (.aload_n 0, 1) := by decide +kernel
theorem dX7_doubt_1 : decode cX7_doubt 1 = .ok (.getfield 10, 3) := by decide +kernel
theorem dX7_doubt_4 : decode cX7_doubt 4 = .ok (.iload_n 1, 1) := by decide +kernel
theorem dX7_doubt_5 : decode cX7_doubt 5 = .ok (.invokevirtual 118, 3) := by decide +kernel
theorem dX7_doubt_8 : decode cX7_doubt 8 = .ok (.astore_n 2, 1) := by decide +kernel
theorem dX7_doubt_9 : decode cX7_doubt 9 = .ok (.aload_n 2, 1) := by decide +kernel
theorem dX7_doubt_10 : decode cX7_doubt 10 = .ok (.ifnonnull 5, 3) := by decide +kernel
theorem dX7_doubt_13 : decode cX7_doubt 13 = .ok (.iconst (-1), 1) := by decide +kernel
theorem dX7_doubt_14 : decode cX7_doubt 14 = .ok (.ireturn, 1) := by decide +kernel
theorem dX7_doubt_15 : decode cX7_doubt 15 = .ok (.aload_n 2, 1) := by decide +kernel
theorem dX7_doubt_16 : decode cX7_doubt 16 = .ok (.getfield 122, 3) := by decide +kernel
theorem dX7_doubt_19 : decode cX7_doubt 19 = .ok (.ifCond .ne 6, 3) := by decide +kernel
theorem dX7_doubt_22 : decode cX7_doubt 22 = .ok (.bipush (-5), 2) := by decide +kernel
theorem dX7_doubt_24 : decode cX7_doubt 24 = .ok (.ireturn, 1) := by decide +kernel
theorem dX7_doubt_25 : decode cX7_doubt 25 = .ok (.aload_n 0, 1) := by decide +kernel
theorem dX7_doubt_26 : decode cX7_doubt 26 = .ok (.invokevirtual 55, 3) := by decide +kernel
theorem dX7_doubt_29 : decode cX7_doubt 29 = .ok (.aload_n 2, 1) := by decide +kernel
theorem dX7_doubt_30 : decode cX7_doubt 30 = .ok (.iconst 0, 1) := by decide +kernel
theorem dX7_doubt_31 : decode cX7_doubt 31 = .ok (.putfield 122, 3) := by decide +kernel
theorem dX7_doubt_34 : decode cX7_doubt 34 = .ok (.aload_n 0, 1) := by decide +kernel
theorem dX7_doubt_35 : decode cX7_doubt 35 = .ok (.invokevirtual 131, 3) := by decide +kernel
theorem dX7_doubt_38 : decode cX7_doubt 38 = .ok (.getfield 135, 3) := by decide +kernel
theorem dX7_doubt_41 : decode cX7_doubt 41 = .ok (.ireturn, 1) := by decide +kernel
theorem dX7_guess_0 : decode cX7_guess 0 = .ok (.aload_n 0, 1) := by decide +kernel
theorem dX7_guess_1 : decode cX7_guess 1 = .ok (.getfield 10, 3) := by decide +kernel
theorem dX7_guess_4 : decode cX7_guess 4 = .ok (.iload_n 1, 1) := by decide +kernel
theorem dX7_guess_5 : decode cX7_guess 5 = .ok (.invokevirtual 58, 3) := by decide +kernel
theorem dX7_guess_8 : decode cX7_guess 8 = .ok (.ifCond .eq 25, 3) := by decide +kernel
theorem dX7_guess_11 : decode cX7_guess 11 = .ok (.aload_n 0, 1) := by decide +kernel
theorem dX7_guess_12 : decode cX7_guess 12 = .ok (.getfield 10, 3) := by decide +kernel
theorem dX7_guess_15 : decode cX7_guess 15 = .ok (.iload_n 2, 1) := by decide +kernel
theorem dX7_guess_16 : decode cX7_guess 16 = .ok (.invokevirtual 58, 3) := by decide +kernel
theorem dX7_guess_19 : decode cX7_guess 19 = .ok (.ifCond .eq 14, 3) := by decide +kernel
theorem dX7_guess_22 : decode cX7_guess 22 = .ok (.aload_n 0, 1) := by decide +kernel
theorem dX7_guess_23 : decode cX7_guess 23 = .ok (.getfield 10, 3) := by decide +kernel
theorem dX7_guess_26 : decode cX7_guess 26 = .ok (.iload_n 3, 1) := by decide +kernel
theorem dX7_guess_27 : decode cX7_guess 27 = .ok (.invokevirtual 58, 3) := by decide +kernel
theorem dX7_guess_30 : decode cX7_guess 30 = .ok (.ifCond .ne 5, 3) := by decide +kernel
theorem dX7_guess_33 : decode cX7_guess 33 = .ok (.iconst (-1), 1) := by decide +kernel
theorem dX7_guess_34 : decode cX7_guess 34 = .ok (.ireturn, 1) := by decide +kernel
theorem dX7_guess_35 : decode cX7_guess 35 = .ok (.iload_n 1, 1) := by decide +kernel
theorem dX7_guess_36 : decode cX7_guess 36 = .ok (.iload_n 2, 1) := by decide +kernel
theorem dX7_guess_37 : decode cX7_guess 37 = .ok (.if_icmp .eq 8, 3) := by decide +kernel
theorem dX7_guess_40 : decode cX7_guess 40 = .ok (.iload_n 2, 1) := by decide +kernel
theorem dX7_guess_41 : decode cX7_guess 41 = .ok (.iload_n 3, 1) := by decide +kernel
theorem dX7_guess_42 : decode cX7_guess 42 = .ok (.if_icmp .ne 6, 3) := by decide +kernel
theorem dX7_guess_45 : decode cX7_guess 45 = .ok (.bipush (-2), 2) := by decide +kernel
theorem dX7_guess_47 : decode cX7_guess 47 = .ok (.ireturn, 1) := by decide +kernel
theorem dX7_guess_48 : decode cX7_guess 48 = .ok (.aload_n 0, 1) := by decide +kernel
theorem dX7_guess_49 : decode cX7_guess 49 = .ok (.getfield 10, 3) := by decide +kernel
theorem dX7_guess_52 : decode cX7_guess 52 = .ok (.getfield 141, 3) := by decide +kernel
theorem dX7_guess_55 : decode cX7_guess 55 = .ok (.iload_n 1, 1) := by decide +kernel
theorem dX7_guess_56 : decode cX7_guess 56 = .ok (.invokestatic 66, 3) := by decide +kernel
theorem dX7_guess_59 : decode cX7_guess 59 = .ok (.ifCond .eq 6, 3) := by decide +kernel
theorem dX7_guess_62 : decode cX7_guess 62 = .ok (.bipush (-5), 2) := by decide +kernel
theorem dX7_guess_64 : decode cX7_guess 64 = .ok (.ireturn, 1) := by decide +kernel
theorem dX7_guess_65 : decode cX7_guess 65 = .ok (.aload_n 0, 1) := by decide +kernel
theorem dX7_guess_66 : decode cX7_guess 66 = .ok (.aload_n 0, 1) := by decide +kernel
theorem dX7_guess_67 : decode cX7_guess 67 = .ok (.invokevirtual 131, 3) := by decide +kernel
theorem dX7_guess_70 : decode cX7_guess 70 = .ok (.iload_n 2, 1) := by decide +kernel
theorem dX7_guess_71 : decode cX7_guess 71 = .ok (.iload_n 3, 1) := by decide +kernel
theorem dX7_guess_72 : decode cX7_guess 72 = .ok (.invokevirtual 144, 3) := by decide +kernel
theorem dX7_guess_75 : decode cX7_guess 75 = .ok (.istore 4, 2) := by decide +kernel
theorem dX7_guess_77 : decode cX7_guess 77 = .ok (.aload_n 0, 1) := by decide +kernel
theorem dX7_guess_78 : decode cX7_guess 78 = .ok (.invokevirtual 55, 3) := by decide +kernel
theorem dX7_guess_81 : decode cX7_guess 81 = .ok (.aload_n 0, 1) := by decide +kernel
theorem dX7_guess_82 : decode cX7_guess 82 = .ok (.getfield 10, 3) := by decide +kernel
theorem dX7_guess_85 : decode cX7_guess 85 = .ok (.getfield 148, 3) := by decide +kernel
theorem dX7_guess_88 : decode cX7_guess 88 = .ok (.iload_n 1, 1) := by decide +kernel
theorem dX7_guess_89 : decode cX7_guess 89 = .ok (.iload 4, 2) := by decide +kernel
theorem dX7_guess_91 : decode cX7_guess 91 = .ok (.invokestatic 151, 3) := by decide +kernel
theorem dX7_guess_94 : decode cX7_guess 94 = .ok (.aload_n 0, 1) := by decide +kernel
theorem dX7_guess_95 : decode cX7_guess 95 = .ok (.getfield 10, 3) := by decide +kernel
theorem dX7_guess_98 : decode cX7_guess 98 = .ok (.getfield 141, 3) := by decide +kernel
theorem dX7_guess_101 : decode cX7_guess 101 = .ok (.iload_n 1, 1) := by decide +kernel
theorem dX7_guess_102 : decode cX7_guess 102 = .ok (.iconst 1, 1) := by decide +kernel
theorem dX7_guess_103 : decode cX7_guess 103 = .ok (.invokestatic 70, 3) := by decide +kernel
theorem dX7_guess_106 : decode cX7_guess 106 = .ok (.sipush 1000, 3) := by decide +kernel
theorem dX7_guess_109 : decode cX7_guess 109 = .ok (.aload_n 0, 1) := by decide +kernel
theorem dX7_guess_110 : decode cX7_guess 110 = .ok (.getfield 10, 3) := by decide +kernel
theorem dX7_guess_113 : decode cX7_guess 113 = .ok (.getfield 148, 3) := by decide +kernel
theorem dX7_guess_116 : decode cX7_guess 116 = .ok (.iload_n 1, 1) := by decide +kernel
theorem dX7_guess_117 : decode cX7_guess 117 = .ok (.invokestatic 66, 3) := by decide +kernel
theorem dX7_guess_120 : decode cX7_guess 120 = .ok (.iadd, 1) := by decide +kernel
theorem dX7_guess_121 : decode cX7_guess 121 = .ok (.ireturn, 1) := by decide +kernel
theorem dX7_endAct_0 : decode cX7_endAct 0 = .ok (.aload_n 0, 1) := by decide +kernel
theorem dX7_endAct_1 : decode cX7_endAct 1 = .ok (.invokevirtual 55, 3) := by decide +kernel
theorem dX7_endAct_4 : decode cX7_endAct 4 = .ok (.aload_n 0, 1) := by decide +kernel
theorem dX7_endAct_5 : decode cX7_endAct 5 = .ok (.getfield 10, 3) := by decide +kernel
theorem dX7_endAct_8 : decode cX7_endAct 8 = .ok (.invokevirtual 154, 3) := by decide +kernel
theorem dX7_endAct_11 : decode cX7_endAct 11 = .ok (.aload_n 0, 1) := by decide +kernel
theorem dX7_endAct_12 : decode cX7_endAct 12 = .ok (.getfield 10, 3) := by decide +kernel
theorem dX7_endAct_15 : decode cX7_endAct 15 = .ok (.getfield 157, 3) := by decide +kernel
theorem dX7_endAct_18 : decode cX7_endAct 18 = .ok (.ireturn, 1) := by decide +kernel
theorem dX7_person_0 : decode cX7_person 0 = .ok (.aload_n 0, 1) := by decide +kernel
theorem dX7_person_1 : decode cX7_person 1 = .ok (.getfield 10, 3) := by decide +kernel
theorem dX7_person_4 : decode cX7_person 4 = .ok (.iload_n 1, 1) := by decide +kernel
theorem dX7_person_5 : decode cX7_person 5 = .ok (.invokevirtual 58, 3) := by decide +kernel
theorem dX7_person_8 : decode cX7_person 8 = .ok (.ifCond .ne 5, 3) := by decide +kernel
theorem dX7_person_11 : decode cX7_person 11 = .ok (.iconst (-1), 1) := by decide +kernel
theorem dX7_person_12 : decode cX7_person 12 = .ok (.ireturn, 1) := by decide +kernel
theorem dX7_person_13 : decode cX7_person 13 = .ok (.iload_n 2, 1) := by decide +kernel
theorem dX7_person_14 : decode cX7_person 14 = .ok (.tableswitch 108 0 5 #[38, 50, 66, 78, 87, 96], 38) := by decide +kernel
theorem dX7_person_52 : decode cX7_person 52 = .ok (.aload_n 0, 1) := by decide +kernel
theorem dX7_person_53 : decode cX7_person 53 = .ok (.getfield 10, 3) := by decide +kernel
theorem dX7_person_56 : decode cX7_person 56 = .ok (.getfield 62, 3) := by decide +kernel
theorem dX7_person_59 : decode cX7_person 59 = .ok (.iload_n 1, 1) := by decide +kernel
theorem dX7_person_60 : decode cX7_person 60 = .ok (.invokestatic 66, 3) := by decide +kernel
theorem dX7_person_63 : decode cX7_person 63 = .ok (.ireturn, 1) := by decide +kernel
theorem dX7_person_64 : decode cX7_person 64 = .ok (.sipush 1000, 3) := by decide +kernel
theorem dX7_person_67 : decode cX7_person 67 = .ok (.aload_n 0, 1) := by decide +kernel
theorem dX7_person_68 : decode cX7_person 68 = .ok (.getfield 10, 3) := by decide +kernel
theorem dX7_person_71 : decode cX7_person 71 = .ok (.getfield 148, 3) := by decide +kernel
theorem dX7_person_74 : decode cX7_person 74 = .ok (.iload_n 1, 1) := by decide +kernel
theorem dX7_person_75 : decode cX7_person 75 = .ok (.invokestatic 66, 3) := by decide +kernel
theorem dX7_person_78 : decode cX7_person 78 = .ok (.iadd, 1) := by decide +kernel
theorem dX7_person_79 : decode cX7_person 79 = .ok (.ireturn, 1) := by decide +kernel
theorem dX7_person_80 : decode cX7_person 80 = .ok (.aload_n 0, 1) := by decide +kernel
theorem dX7_person_81 : decode cX7_person 81 = .ok (.getfield 10, 3) := by decide +kernel
theorem dX7_person_84 : decode cX7_person 84 = .ok (.getfield 141, 3) := by decide +kernel
theorem dX7_person_87 : decode cX7_person 87 = .ok (.iload_n 1, 1) := by decide +kernel
theorem dX7_person_88 : decode cX7_person 88 = .ok (.invokestatic 66, 3) := by decide +kernel
theorem dX7_person_91 : decode cX7_person 91 = .ok (.ireturn, 1) := by decide +kernel
theorem dX7_person_92 : decode cX7_person 92 = .ok (.aload_n 0, 1) := by decide +kernel
theorem dX7_person_93 : decode cX7_person 93 = .ok (.getfield 10, 3) := by decide +kernel
theorem dX7_person_96 : decode cX7_person 96 = .ok (.iload_n 1, 1) := by decide +kernel
theorem dX7_person_97 : decode cX7_person 97 = .ok (.invokevirtual 160, 3) := by decide +kernel
theorem dX7_person_100 : decode cX7_person 100 = .ok (.ireturn, 1) := by decide +kernel
theorem dX7_person_101 : decode cX7_person 101 = .ok (.aload_n 0, 1) := by decide +kernel
theorem dX7_person_102 : decode cX7_person 102 = .ok (.getfield 10, 3) := by decide +kernel
theorem dX7_person_105 : decode cX7_person 105 = .ok (.iload_n 1, 1) := by decide +kernel
theorem dX7_person_106 : decode cX7_person 106 = .ok (.invokevirtual 163, 3) := by decide +kernel
theorem dX7_person_109 : decode cX7_person 109 = .ok (.ireturn, 1) := by decide +kernel
theorem dX7_person_110 : decode cX7_person 110 = .ok (.aload_n 0, 1) := by decide +kernel
theorem dX7_person_111 : decode cX7_person 111 = .ok (.getfield 10, 3) := by decide +kernel
theorem dX7_person_114 : decode cX7_person 114 = .ok (.getfield 62, 3) := by decide +kernel
theorem dX7_person_117 : decode cX7_person 117 = .ok (.iload_n 1, 1) := by decide +kernel
theorem dX7_person_118 : decode cX7_person 118 = .ok (.invokestatic 166, 3) := by decide +kernel
theorem dX7_person_121 : decode cX7_person 121 = .ok (.ireturn, 1) := by decide +kernel
theorem dX7_person_122 : decode cX7_person 122 = .ok (.bipush (-2), 2) := by decide +kernel
theorem dX7_person_124 : decode cX7_person 124 = .ok (.ireturn, 1) := by decide +kernel
theorem dX7_rumour_0 : decode cX7_rumour 0 = .ok (.aload_n 0, 1) := by decide +kernel
theorem dX7_rumour_1 : decode cX7_rumour 1 = .ok (.getfield 10, 3) := by decide +kernel
theorem dX7_rumour_4 : decode cX7_rumour 4 = .ok (.iload_n 1, 1) := by decide +kernel
theorem dX7_rumour_5 : decode cX7_rumour 5 = .ok (.invokevirtual 118, 3) := by decide +kernel
theorem dX7_rumour_8 : decode cX7_rumour 8 = .ok (.astore_n 3, 1) := by decide +kernel
theorem dX7_rumour_9 : decode cX7_rumour 9 = .ok (.aload_n 3, 1) := by decide +kernel
theorem dX7_rumour_10 : decode cX7_rumour 10 = .ok (.ifnonnull 5, 3) := by decide +kernel
theorem dX7_rumour_13 : decode cX7_rumour 13 = .ok (.iconst (-1), 1) := by decide +kernel
theorem dX7_rumour_14 : decode cX7_rumour 14 = .ok (.ireturn, 1) := by decide +kernel
theorem dX7_rumour_15 : decode cX7_rumour 15 = .ok (.iload_n 2, 1) := by decide +kernel
theorem dX7_rumour_16 : decode cX7_rumour 16 = .ok (.tableswitch 101 0 6 #[44, 49, 54, 59, 64, 69, 89], 44) := by decide +kernel
theorem dX7_rumour_60 : decode cX7_rumour 60 = .ok (.aload_n 3, 1) := by decide +kernel
theorem dX7_rumour_61 : decode cX7_rumour 61 = .ok (.getfield 169, 3) := by decide +kernel
theorem dX7_rumour_64 : decode cX7_rumour 64 = .ok (.ireturn, 1) := by decide +kernel
theorem dX7_rumour_65 : decode cX7_rumour 65 = .ok (.aload_n 3, 1) := by decide +kernel
theorem dX7_rumour_66 : decode cX7_rumour 66 = .ok (.getfield 172, 3) := by decide +kernel
theorem dX7_rumour_69 : decode cX7_rumour 69 = .ok (.ireturn, 1) := by decide +kernel
theorem dX7_rumour_70 : decode cX7_rumour 70 = .ok (.aload_n 3, 1) := by decide +kernel
theorem dX7_rumour_71 : decode cX7_rumour 71 = .ok (.getfield 175, 3) := by decide +kernel
theorem dX7_rumour_74 : decode cX7_rumour 74 = .ok (.ireturn, 1) := by decide +kernel
theorem dX7_rumour_75 : decode cX7_rumour 75 = .ok (.aload_n 3, 1) := by decide +kernel
theorem dX7_rumour_76 : decode cX7_rumour 76 = .ok (.getfield 178, 3) := by decide +kernel
theorem dX7_rumour_79 : decode cX7_rumour 79 = .ok (.ireturn, 1) := by decide +kernel
theorem dX7_rumour_80 : decode cX7_rumour 80 = .ok (.aload_n 3, 1) := by decide +kernel
theorem dX7_rumour_81 : decode cX7_rumour 81 = .ok (.getfield 122, 3) := by decide +kernel
theorem dX7_rumour_84 : decode cX7_rumour 84 = .ok (.ireturn, 1) := by decide +kernel
theorem dX7_rumour_85 : decode cX7_rumour 85 = .ok (.aload_n 3, 1) := by decide +kernel
theorem dX7_rumour_86 : decode cX7_rumour 86 = .ok (.aload_n 0, 1) := by decide +kernel
theorem dX7_rumour_87 : decode cX7_rumour 87 = .ok (.getfield 10, 3) := by decide +kernel
theorem dX7_rumour_90 : decode cX7_rumour 90 = .ok (.getfield 62, 3) := by decide +kernel
theorem dX7_rumour_93 : decode cX7_rumour 93 = .ok (.invokevirtual 181, 3) := by decide +kernel
theorem dX7_rumour_96 : decode cX7_rumour 96 = .ok (.ifCond .eq 7, 3) := by decide +kernel
theorem dX7_rumour_99 : decode cX7_rumour 99 = .ok (.iconst 1, 1) := by decide +kernel
theorem dX7_rumour_100 : decode cX7_rumour 100 = .ok (.goto 4, 3) := by decide +kernel
theorem dX7_rumour_103 : decode cX7_rumour 103 = .ok (.iconst 0, 1) := by decide +kernel
theorem dX7_rumour_104 : decode cX7_rumour 104 = .ok (.ireturn, 1) := by decide +kernel
theorem dX7_rumour_105 : decode cX7_rumour 105 = .ok (.aload_n 0, 1) := by decide +kernel
theorem dX7_rumour_106 : decode cX7_rumour 106 = .ok (.invokevirtual 131, 3) := by decide +kernel
theorem dX7_rumour_109 : decode cX7_rumour 109 = .ok (.getfield 185, 3) := by decide +kernel
theorem dX7_rumour_112 : decode cX7_rumour 112 = .ok (.iload_n 1, 1) := by decide +kernel
theorem dX7_rumour_113 : decode cX7_rumour 113 = .ok (.invokestatic 66, 3) := by decide +kernel
theorem dX7_rumour_116 : decode cX7_rumour 116 = .ok (.ireturn, 1) := by decide +kernel
theorem dX7_rumour_117 : decode cX7_rumour 117 = .ok (.bipush (-2), 2) := by decide +kernel
theorem dX7_rumour_119 : decode cX7_rumour 119 = .ok (.ireturn, 1) := by decide +kernel
theorem dX7_count_0 : decode cX7_count 0 = .ok (.iload_n 1, 1) := by decide +kernel
theorem dX7_count_1 : decode cX7_count 1 = .ok (.tableswitch 180 0 10 #[59, 67, 75, 83, 91, 117, 125, 140, 152, 164, 172], 59) := by decide +kernel
theorem dX7_count_60 : decode cX7_count 60 = .ok (.aload_n 0, 1) := by decide +kernel
theorem dX7_count_61 : decode cX7_count 61 = .ok (.getfield 10, 3) := by decide +kernel
theorem dX7_count_64 : decode cX7_count 64 = .ok (.getfield 51, 3) := by decide +kernel
theorem dX7_count_67 : decode cX7_count 67 = .ok (.ireturn, 1) := by decide +kernel
theorem dX7_count_68 : decode cX7_count 68 = .ok (.aload_n 0, 1) := by decide +kernel
theorem dX7_count_69 : decode cX7_count 69 = .ok (.getfield 10, 3) := by decide +kernel
theorem dX7_count_72 : decode cX7_count 72 = .ok (.getfield 85, 3) := by decide +kernel
theorem dX7_count_75 : decode cX7_count 75 = .ok (.ireturn, 1) := by decide +kernel
theorem dX7_count_76 : decode cX7_count 76 = .ok (.aload_n 0, 1) := by decide +kernel
theorem dX7_count_77 : decode cX7_count 77 = .ok (.getfield 10, 3) := by decide +kernel
theorem dX7_count_80 : decode cX7_count 80 = .ok (.invokevirtual 188, 3) := by decide +kernel
theorem dX7_count_83 : decode cX7_count 83 = .ok (.ireturn, 1) := by decide +kernel
theorem dX7_count_84 : decode cX7_count 84 = .ok (.aload_n 0, 1) := by decide +kernel
theorem dX7_count_85 : decode cX7_count 85 = .ok (.invokevirtual 131, 3) := by decide +kernel
theorem dX7_count_88 : decode cX7_count 88 = .ok (.getfield 135, 3) := by decide +kernel
theorem dX7_count_91 : decode cX7_count 91 = .ok (.ireturn, 1) := by decide +kernel
theorem dX7_count_92 : decode cX7_count 92 = .ok (.aload_n 0, 1) := by decide +kernel
theorem dX7_count_93 : decode cX7_count 93 = .ok (.getfield 10, 3) := by decide +kernel
theorem dX7_count_96 : decode cX7_count 96 = .ok (.iconst 0, 1) := by decide +kernel
theorem dX7_count_97 : decode cX7_count 97 = .ok (.aload_n 0, 1) := by decide +kernel
theorem dX7_count_98 : decode cX7_count 98 = .ok (.getfield 10, 3) := by decide +kernel
theorem dX7_count_101 : decode cX7_count 101 = .ok (.getfield 62, 3) := by decide +kernel
theorem dX7_count_104 : decode cX7_count 104 = .ok (.invokevirtual 191, 3) := by decide +kernel
theorem dX7_count_107 : decode cX7_count 107 = .ok (.bipush (-6), 2) := by decide +kernel
theorem dX7_count_109 : decode cX7_count 109 = .ok (.if_icmp .ne 7, 3) := by decide +kernel
theorem dX7_count_112 : decode cX7_count 112 = .ok (.iconst 1, 1) := by decide +kernel
theorem dX7_count_113 : decode cX7_count 113 = .ok (.goto 4, 3) := by decide +kernel
theorem dX7_count_116 : decode cX7_count 116 = .ok (.iconst 0, 1) := by decide +kernel
theorem dX7_count_117 : decode cX7_count 117 = .ok (.ireturn, 1) := by decide +kernel
theorem dX7_count_118 : decode cX7_count 118 = .ok (.aload_n 0, 1) := by decide +kernel
theorem dX7_count_119 : decode cX7_count 119 = .ok (.getfield 10, 3) := by decide +kernel
theorem dX7_count_122 : decode cX7_count 122 = .ok (.getfield 157, 3) := by decide +kernel
theorem dX7_count_125 : decode cX7_count 125 = .ok (.ireturn, 1) := by decide +kernel
theorem dX7_count_126 : decode cX7_count 126 = .ok (.aload_n 0, 1) := by decide +kernel
theorem dX7_count_127 : decode cX7_count 127 = .ok (.invokevirtual 131, 3) := by decide +kernel
theorem dX7_count_130 : decode cX7_count 130 = .ok (.aload_n 0, 1) := by decide +kernel
theorem dX7_count_131 : decode cX7_count 131 = .ok (.getfield 10, 3) := by decide +kernel
theorem dX7_count_134 : decode cX7_count 134 = .ok (.getfield 51, 3) := by decide +kernel
theorem dX7_count_137 : decode cX7_count 137 = .ok (.invokevirtual 195, 3) := by decide +kernel
theorem dX7_count_140 : decode cX7_count 140 = .ok (.ireturn, 1) := by decide +kernel
theorem dX7_count_141 : decode cX7_count 141 = .ok (.aload_n 0, 1) := by decide +kernel
theorem dX7_count_142 : decode cX7_count 142 = .ok (.invokevirtual 131, 3) := by decide +kernel
theorem dX7_count_145 : decode cX7_count 145 = .ok (.aload_n 0, 1) := by decide +kernel
theorem dX7_count_146 : decode cX7_count 146 = .ok (.getfield 10, 3) := by decide +kernel
theorem dX7_count_149 : decode cX7_count 149 = .ok (.invokevirtual 198, 3) := by decide +kernel
theorem dX7_count_152 : decode cX7_count 152 = .ok (.ireturn, 1) := by decide +kernel
theorem dX7_count_153 : decode cX7_count 153 = .ok (.aload_n 0, 1) := by decide +kernel
theorem dX7_count_154 : decode cX7_count 154 = .ok (.invokevirtual 131, 3) := by decide +kernel
theorem dX7_count_157 : decode cX7_count 157 = .ok (.aload_n 0, 1) := by decide +kernel
theorem dX7_count_158 : decode cX7_count 158 = .ok (.getfield 10, 3) := by decide +kernel
theorem dX7_count_161 : decode cX7_count 161 = .ok (.invokevirtual 202, 3) := by decide +kernel
theorem dX7_count_164 : decode cX7_count 164 = .ok (.ireturn, 1) := by decide +kernel
theorem dX7_count_165 : decode cX7_count 165 = .ok (.aload_n 0, 1) := by decide +kernel
theorem dX7_count_166 : decode cX7_count 166 = .ok (.getfield 36, 3) := by decide +kernel
theorem dX7_count_169 : decode cX7_count 169 = .ok (.getfield 205, 3) := by decide +kernel
theorem dX7_count_172 : decode cX7_count 172 = .ok (.ireturn, 1) := by decide +kernel
theorem dX7_count_173 : decode cX7_count 173 = .ok (.aload_n 0, 1) := by decide +kernel
theorem dX7_count_174 : decode cX7_count 174 = .ok (.getfield 19, 3) := by decide +kernel
theorem dX7_count_177 : decode cX7_count 177 = .ok (.getfield 208, 3) := by decide +kernel
theorem dX7_count_180 : decode cX7_count 180 = .ok (.ireturn, 1) := by decide +kernel
theorem dX7_count_181 : decode cX7_count 181 = .ok (.bipush (-2), 2) := by decide +kernel
theorem dX7_count_183 : decode cX7_count 183 = .ok (.ireturn, 1) := by decide +kernel
theorem dX7_possible_0 : decode cX7_possible 0 = .ok (.aload_n 0, 1) := by decide +kernel
theorem dX7_possible_1 : decode cX7_possible 1 = .ok (.getfield 10, 3) := by decide +kernel
theorem dX7_possible_4 : decode cX7_possible 4 = .ok (.iload_n 1, 1) := by decide +kernel
theorem dX7_possible_5 : decode cX7_possible 5 = .ok (.invokevirtual 58, 3) := by decide +kernel
theorem dX7_possible_8 : decode cX7_possible 8 = .ok (.ifCond .eq 14, 3) := by decide +kernel
theorem dX7_possible_11 : decode cX7_possible 11 = .ok (.aload_n 0, 1) := by decide +kernel
theorem dX7_possible_12 : decode cX7_possible 12 = .ok (.getfield 10, 3) := by decide +kernel
theorem dX7_possible_15 : decode cX7_possible 15 = .ok (.iload_n 2, 1) := by decide +kernel
theorem dX7_possible_16 : decode cX7_possible 16 = .ok (.invokevirtual 58, 3) := by decide +kernel
theorem dX7_possible_19 : decode cX7_possible 19 = .ok (.ifCond .ne 5, 3) := by decide +kernel
theorem dX7_possible_22 : decode cX7_possible 22 = .ok (.iconst (-1), 1) := by decide +kernel
theorem dX7_possible_23 : decode cX7_possible 23 = .ok (.ireturn, 1) := by decide +kernel
theorem dX7_possible_24 : decode cX7_possible 24 = .ok (.aload_n 0, 1) := by decide +kernel
theorem dX7_possible_25 : decode cX7_possible 25 = .ok (.invokevirtual 131, 3) := by decide +kernel
theorem dX7_possible_28 : decode cX7_possible 28 = .ok (.iload_n 1, 1) := by decide +kernel
theorem dX7_possible_29 : decode cX7_possible 29 = .ok (.iload_n 2, 1) := by decide +kernel
theorem dX7_possible_30 : decode cX7_possible 30 = .ok (.invokevirtual 211, 3) := by decide +kernel
theorem dX7_possible_33 : decode cX7_possible 33 = .ok (.ireturn, 1) := by decide +kernel
theorem dX7_certain_0 : decode cX7_certain 0 = .ok (.aload_n 0, 1) := by decide +kernel
theorem dX7_certain_1 : decode cX7_certain 1 = .ok (.getfield 10, 3) := by decide +kernel
theorem dX7_certain_4 : decode cX7_certain 4 = .ok (.iload_n 1, 1) := by decide +kernel
theorem dX7_certain_5 : decode cX7_certain 5 = .ok (.invokevirtual 58, 3) := by decide +kernel
theorem dX7_certain_8 : decode cX7_certain 8 = .ok (.ifCond .ne 5, 3) := by decide +kernel
theorem dX7_certain_11 : decode cX7_certain 11 = .ok (.iconst (-1), 1) := by decide +kernel
theorem dX7_certain_12 : decode cX7_certain 12 = .ok (.ireturn, 1) := by decide +kernel
theorem dX7_certain_13 : decode cX7_certain 13 = .ok (.aload_n 0, 1) := by decide +kernel
theorem dX7_certain_14 : decode cX7_certain 14 = .ok (.invokevirtual 131, 3) := by decide +kernel
theorem dX7_certain_17 : decode cX7_certain 17 = .ok (.iload_n 1, 1) := by decide +kernel
theorem dX7_certain_18 : decode cX7_certain 18 = .ok (.invokevirtual 215, 3) := by decide +kernel
theorem dX7_certain_21 : decode cX7_certain 21 = .ok (.ireturn, 1) := by decide +kernel
theorem dX7_world_0 : decode cX7_world 0 = .ok (.aload_n 0, 1) := by decide +kernel
theorem dX7_world_1 : decode cX7_world 1 = .ok (.getfield 10, 3) := by decide +kernel
theorem dX7_world_4 : decode cX7_world 4 = .ok (.iload_n 2, 1) := by decide +kernel
theorem dX7_world_5 : decode cX7_world 5 = .ok (.invokevirtual 58, 3) := by decide +kernel
theorem dX7_world_8 : decode cX7_world 8 = .ok (.ifCond .ne 5, 3) := by decide +kernel
theorem dX7_world_11 : decode cX7_world 11 = .ok (.iconst (-1), 1) := by decide +kernel
theorem dX7_world_12 : decode cX7_world 12 = .ok (.ireturn, 1) := by decide +kernel
theorem dX7_world_13 : decode cX7_world 13 = .ok (.aload_n 0, 1) := by decide +kernel
theorem dX7_world_14 : decode cX7_world 14 = .ok (.getfield 43, 3) := by decide +kernel
theorem dX7_world_17 : decode cX7_world 17 = .ok (.aload_n 0, 1) := by decide +kernel
theorem dX7_world_18 : decode cX7_world 18 = .ok (.getfield 10, 3) := by decide +kernel
theorem dX7_world_21 : decode cX7_world 21 = .ok (.iload_n 1, 1) := by decide +kernel
theorem dX7_world_22 : decode cX7_world 22 = .ok (.iload_n 2, 1) := by decide +kernel
theorem dX7_world_23 : decode cX7_world 23 = .ok (.invokevirtual 218, 3) := by decide +kernel
theorem dX7_world_26 : decode cX7_world 26 = .ok (.ireturn, 1) := by decide +kernel
theorem dX7_ifProved_0 : decode cX7_ifProved 0 = .ok (.aload_n 0, 1) := by decide +kernel
theorem dX7_ifProved_1 : decode cX7_ifProved 1 = .ok (.getfield 10, 3) := by decide +kernel
theorem dX7_ifProved_4 : decode cX7_ifProved 4 = .ok (.iload_n 1, 1) := by decide +kernel
theorem dX7_ifProved_5 : decode cX7_ifProved 5 = .ok (.iload_n 2, 1) := by decide +kernel
theorem dX7_ifProved_6 : decode cX7_ifProved 6 = .ok (.iload_n 3, 1) := by decide +kernel
theorem dX7_ifProved_7 : decode cX7_ifProved 7 = .ok (.invokevirtual 74, 3) := by decide +kernel
theorem dX7_ifProved_10 : decode cX7_ifProved 10 = .ok (.ifCond .ne 6, 3) := by decide +kernel
theorem dX7_ifProved_13 : decode cX7_ifProved 13 = .ok (.bipush (-2), 2) := by decide +kernel
theorem dX7_ifProved_15 : decode cX7_ifProved 15 = .ok (.ireturn, 1) := by decide +kernel
theorem dX7_ifProved_16 : decode cX7_ifProved 16 = .ok (.aload_n 0, 1) := by decide +kernel
theorem dX7_ifProved_17 : decode cX7_ifProved 17 = .ok (.getfield 43, 3) := by decide +kernel
theorem dX7_ifProved_20 : decode cX7_ifProved 20 = .ok (.aload_n 0, 1) := by decide +kernel
theorem dX7_ifProved_21 : decode cX7_ifProved 21 = .ok (.getfield 10, 3) := by decide +kernel
theorem dX7_ifProved_24 : decode cX7_ifProved 24 = .ok (.iload_n 1, 1) := by decide +kernel
theorem dX7_ifProved_25 : decode cX7_ifProved 25 = .ok (.iload_n 2, 1) := by decide +kernel
theorem dX7_ifProved_26 : decode cX7_ifProved 26 = .ok (.iload_n 3, 1) := by decide +kernel
theorem dX7_ifProved_27 : decode cX7_ifProved 27 = .ok (.invokevirtual 222, 3) := by decide +kernel
theorem dX7_ifProved_30 : decode cX7_ifProved 30 = .ok (.ireturn, 1) := by decide +kernel
theorem dX7_sharpest_0 : decode cX7_sharpest 0 = .ok (.iload_n 1, 1) := by decide +kernel
theorem dX7_sharpest_1 : decode cX7_sharpest 1 = .ok (.ifCond .eq 11, 3) := by decide +kernel
theorem dX7_sharpest_4 : decode cX7_sharpest 4 = .ok (.iload_n 1, 1) := by decide +kernel
theorem dX7_sharpest_5 : decode cX7_sharpest 5 = .ok (.iconst 1, 1) := by decide +kernel
theorem dX7_sharpest_6 : decode cX7_sharpest 6 = .ok (.if_icmp .eq 6, 3) := by decide +kernel
theorem dX7_sharpest_9 : decode cX7_sharpest 9 = .ok (.bipush (-2), 2) := by decide +kernel
theorem dX7_sharpest_11 : decode cX7_sharpest 11 = .ok (.ireturn, 1) := by decide +kernel
theorem dX7_sharpest_12 : decode cX7_sharpest 12 = .ok (.aload_n 0, 1) := by decide +kernel
theorem dX7_sharpest_13 : decode cX7_sharpest 13 = .ok (.invokevirtual 131, 3) := by decide +kernel
theorem dX7_sharpest_16 : decode cX7_sharpest 16 = .ok (.aload_n 0, 1) := by decide +kernel
theorem dX7_sharpest_17 : decode cX7_sharpest 17 = .ok (.getfield 10, 3) := by decide +kernel
theorem dX7_sharpest_20 : decode cX7_sharpest 20 = .ok (.invokevirtual 226, 3) := by decide +kernel
theorem dX7_sharpest_23 : decode cX7_sharpest 23 = .ok (.istore_n 2, 1) := by decide +kernel
theorem dX7_sharpest_24 : decode cX7_sharpest 24 = .ok (.iload_n 2, 1) := by decide +kernel
theorem dX7_sharpest_25 : decode cX7_sharpest 25 = .ok (.bipush (-6), 2) := by decide +kernel
theorem dX7_sharpest_27 : decode cX7_sharpest 27 = .ok (.if_icmp .eq 7, 3) := by decide +kernel
theorem dX7_sharpest_30 : decode cX7_sharpest 30 = .ok (.iload_n 1, 1) := by decide +kernel
theorem dX7_sharpest_31 : decode cX7_sharpest 31 = .ok (.ifCond .ne 5, 3) := by decide +kernel
theorem dX7_sharpest_34 : decode cX7_sharpest 34 = .ok (.iload_n 2, 1) := by decide +kernel
theorem dX7_sharpest_35 : decode cX7_sharpest 35 = .ok (.ireturn, 1) := by decide +kernel
theorem dX7_sharpest_36 : decode cX7_sharpest 36 = .ok (.aload_n 0, 1) := by decide +kernel
theorem dX7_sharpest_37 : decode cX7_sharpest 37 = .ok (.getfield 43, 3) := by decide +kernel
theorem dX7_sharpest_40 : decode cX7_sharpest 40 = .ok (.iload_n 2, 1) := by decide +kernel
theorem dX7_sharpest_41 : decode cX7_sharpest 41 = .ok (.invokevirtual 229, 3) := by decide +kernel
theorem dX7_sharpest_44 : decode cX7_sharpest 44 = .ok (.ireturn, 1) := by decide +kernel
theorem dX7_blame_0 : decode cX7_blame 0 = .ok (.iload_n 1, 1) := by decide +kernel
theorem dX7_blame_1 : decode cX7_blame 1 = .ok (.ifCond .eq 11, 3) := by decide +kernel
theorem dX7_blame_4 : decode cX7_blame 4 = .ok (.iload_n 1, 1) := by decide +kernel
theorem dX7_blame_5 : decode cX7_blame 5 = .ok (.iconst 1, 1) := by decide +kernel
theorem dX7_blame_6 : decode cX7_blame 6 = .ok (.if_icmp .eq 6, 3) := by decide +kernel
theorem dX7_blame_9 : decode cX7_blame 9 = .ok (.bipush (-2), 2) := by decide +kernel
theorem dX7_blame_11 : decode cX7_blame 11 = .ok (.ireturn, 1) := by decide +kernel
theorem dX7_blame_12 : decode cX7_blame 12 = .ok (.aload_n 0, 1) := by decide +kernel
theorem dX7_blame_13 : decode cX7_blame 13 = .ok (.invokevirtual 131, 3) := by decide +kernel
theorem dX7_blame_16 : decode cX7_blame 16 = .ok (.getfield 135, 3) := by decide +kernel
theorem dX7_blame_19 : decode cX7_blame 19 = .ok (.ifCond .le 6, 3) := by decide +kernel
theorem dX7_blame_22 : decode cX7_blame 22 = .ok (.bipush (-6), 2) := by decide +kernel
theorem dX7_blame_24 : decode cX7_blame 24 = .ok (.ireturn, 1) := by decide +kernel
theorem dX7_blame_25 : decode cX7_blame 25 = .ok (.aload_n 0, 1) := by decide +kernel
theorem dX7_blame_26 : decode cX7_blame 26 = .ok (.getfield 43, 3) := by decide +kernel
theorem dX7_blame_29 : decode cX7_blame 29 = .ok (.aload_n 0, 1) := by decide +kernel
theorem dX7_blame_30 : decode cX7_blame 30 = .ok (.getfield 10, 3) := by decide +kernel
theorem dX7_blame_33 : decode cX7_blame 33 = .ok (.invokevirtual 232, 3) := by decide +kernel
theorem dX7_blame_36 : decode cX7_blame 36 = .ok (.istore_n 2, 1) := by decide +kernel
theorem dX7_blame_37 : decode cX7_blame 37 = .ok (.iload_n 2, 1) := by decide +kernel
theorem dX7_blame_38 : decode cX7_blame 38 = .ok (.bipush (-6), 2) := by decide +kernel
theorem dX7_blame_40 : decode cX7_blame 40 = .ok (.if_icmp .eq 7, 3) := by decide +kernel
theorem dX7_blame_43 : decode cX7_blame 43 = .ok (.iload_n 1, 1) := by decide +kernel
theorem dX7_blame_44 : decode cX7_blame 44 = .ok (.ifCond .ne 5, 3) := by decide +kernel
theorem dX7_blame_47 : decode cX7_blame 47 = .ok (.iload_n 2, 1) := by decide +kernel
theorem dX7_blame_48 : decode cX7_blame 48 = .ok (.ireturn, 1) := by decide +kernel
theorem dX7_blame_49 : decode cX7_blame 49 = .ok (.aload_n 0, 1) := by decide +kernel
theorem dX7_blame_50 : decode cX7_blame 50 = .ok (.getfield 43, 3) := by decide +kernel
theorem dX7_blame_53 : decode cX7_blame 53 = .ok (.getfield 235, 3) := by decide +kernel
theorem dX7_blame_56 : decode cX7_blame 56 = .ok (.iload_n 2, 1) := by decide +kernel
theorem dX7_blame_57 : decode cX7_blame 57 = .ok (.invokestatic 66, 3) := by decide +kernel
theorem dX7_blame_60 : decode cX7_blame 60 = .ok (.ireturn, 1) := by decide +kernel
theorem dX7_mostWatched_0 : decode cX7_mostWatched 0 = .ok (.iload_n 1, 1) := by decide +kernel
theorem dX7_mostWatched_1 : decode cX7_mostWatched 1 = .ok (.ifCond .eq 11, 3) := by decide +kernel
theorem dX7_mostWatched_4 : decode cX7_mostWatched 4 = .ok (.iload_n 1, 1) := by decide +kernel
theorem dX7_mostWatched_5 : decode cX7_mostWatched 5 = .ok (.iconst 1, 1) := by decide +kernel
theorem dX7_mostWatched_6 : decode cX7_mostWatched 6 = .ok (.if_icmp .eq 6, 3) := by decide +kernel
theorem dX7_mostWatched_9 : decode cX7_mostWatched 9 = .ok (.bipush (-2), 2) := by decide +kernel
theorem dX7_mostWatched_11 : decode cX7_mostWatched 11 = .ok (.ireturn, 1) := by decide +kernel
theorem dX7_mostWatched_12 : decode cX7_mostWatched 12 = .ok (.aload_n 0, 1) := by decide +kernel
theorem dX7_mostWatched_13 : decode cX7_mostWatched 13 = .ok (.getfield 43, 3) := by decide +kernel
theorem dX7_mostWatched_16 : decode cX7_mostWatched 16 = .ok (.aload_n 0, 1) := by decide +kernel
theorem dX7_mostWatched_17 : decode cX7_mostWatched 17 = .ok (.getfield 10, 3) := by decide +kernel
theorem dX7_mostWatched_20 : decode cX7_mostWatched 20 = .ok (.invokevirtual 238, 3) := by decide +kernel
theorem dX7_mostWatched_23 : decode cX7_mostWatched 23 = .ok (.aload_n 0, 1) := by decide +kernel
theorem dX7_mostWatched_24 : decode cX7_mostWatched 24 = .ok (.getfield 43, 3) := by decide +kernel
theorem dX7_mostWatched_27 : decode cX7_mostWatched 27 = .ok (.getfield 242, 3) := by decide +kernel
theorem dX7_mostWatched_30 : decode cX7_mostWatched 30 = .ok (.ifCond .ne 6, 3) := by decide +kernel
theorem dX7_mostWatched_33 : decode cX7_mostWatched 33 = .ok (.bipush (-6), 2) := by decide +kernel
theorem dX7_mostWatched_35 : decode cX7_mostWatched 35 = .ok (.ireturn, 1) := by decide +kernel
theorem dX7_mostWatched_36 : decode cX7_mostWatched 36 = .ok (.iload_n 1, 1) := by decide +kernel
theorem dX7_mostWatched_37 : decode cX7_mostWatched 37 = .ok (.ifCond .ne 13, 3) := by decide +kernel
theorem dX7_mostWatched_40 : decode cX7_mostWatched 40 = .ok (.aload_n 0, 1) := by decide +kernel
theorem dX7_mostWatched_41 : decode cX7_mostWatched 41 = .ok (.getfield 43, 3) := by decide +kernel
theorem dX7_mostWatched_44 : decode cX7_mostWatched 44 = .ok (.getfield 245, 3) := by decide +kernel
theorem dX7_mostWatched_47 : decode cX7_mostWatched 47 = .ok (.goto 10, 3) := by decide +kernel
theorem dX7_mostWatched_50 : decode cX7_mostWatched 50 = .ok (.aload_n 0, 1) := by decide +kernel
theorem dX7_mostWatched_51 : decode cX7_mostWatched 51 = .ok (.getfield 43, 3) := by decide +kernel
theorem dX7_mostWatched_54 : decode cX7_mostWatched 54 = .ok (.getfield 242, 3) := by decide +kernel
theorem dX7_mostWatched_57 : decode cX7_mostWatched 57 = .ok (.ireturn, 1) := by decide +kernel
theorem dX7_beginChange_0 : decode cX7_beginChange 0 = .ok (.aload_n 0, 1) := by decide +kernel
theorem dX7_beginChange_1 : decode cX7_beginChange 1 = .ok (.getfield 19, 3) := by decide +kernel
theorem dX7_beginChange_4 : decode cX7_beginChange 4 = .ok (.aload_n 0, 1) := by decide +kernel
theorem dX7_beginChange_5 : decode cX7_beginChange 5 = .ok (.getfield 10, 3) := by decide +kernel
theorem dX7_beginChange_8 : decode cX7_beginChange 8 = .ok (.invokevirtual 278, 3) := by decide +kernel
theorem dX7_beginChange_11 : decode cX7_beginChange 11 = .ok (.aload_n 0, 1) := by decide +kernel
theorem dX7_beginChange_12 : decode cX7_beginChange 12 = .ok (.iconst 0, 1) := by decide +kernel
theorem dX7_beginChange_13 : decode cX7_beginChange 13 = .ok (.putfield 261, 3) := by decide +kernel
theorem dX7_beginChange_16 : decode cX7_beginChange 16 = .ok (.return_, 1) := by decide +kernel
theorem dX7_surveyNow_0 : decode cX7_surveyNow 0 = .ok (.aload_n 0, 1) := by decide +kernel
theorem dX7_surveyNow_1 : decode cX7_surveyNow 1 = .ok (.getfield 261, 3) := by decide +kernel
theorem dX7_surveyNow_4 : decode cX7_surveyNow 4 = .ok (.ifCond .ne 19, 3) := by decide +kernel
theorem dX7_surveyNow_7 : decode cX7_surveyNow 7 = .ok (.aload_n 0, 1) := by decide +kernel
theorem dX7_surveyNow_8 : decode cX7_surveyNow 8 = .ok (.getfield 43, 3) := by decide +kernel
theorem dX7_surveyNow_11 : decode cX7_surveyNow 11 = .ok (.aload_n 0, 1) := by decide +kernel
theorem dX7_surveyNow_12 : decode cX7_surveyNow 12 = .ok (.getfield 10, 3) := by decide +kernel
theorem dX7_surveyNow_15 : decode cX7_surveyNow 15 = .ok (.invokevirtual 281, 3) := by decide +kernel
theorem dX7_surveyNow_18 : decode cX7_surveyNow 18 = .ok (.aload_n 0, 1) := by decide +kernel
theorem dX7_surveyNow_19 : decode cX7_surveyNow 19 = .ok (.iconst 1, 1) := by decide +kernel
theorem dX7_surveyNow_20 : decode cX7_surveyNow 20 = .ok (.putfield 261, 3) := by decide +kernel
theorem dX7_surveyNow_23 : decode cX7_surveyNow 23 = .ok (.aload_n 0, 1) := by decide +kernel
theorem dX7_surveyNow_24 : decode cX7_surveyNow 24 = .ok (.getfield 43, 3) := by decide +kernel
theorem dX7_surveyNow_27 : decode cX7_surveyNow 27 = .ok (.areturn, 1) := by decide +kernel
theorem dX7_pointsOfGuess_0 : decode cX7_pointsOfGuess 0 = .ok (.aload_n 0, 1) := by decide +kernel
