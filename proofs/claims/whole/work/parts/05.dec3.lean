theorem dX8_holds_56 : decode cX8_holds 56 = .ok (.iload_n 2, 1) := by decide +kernel
theorem dX8_holds_57 : decode cX8_holds 57 = .ok (.iaload, 1) := by decide +kernel
theorem dX8_holds_58 : decode cX8_holds 58 = .ok (.iload_n 3, 1) := by decide +kernel
theorem dX8_holds_59 : decode cX8_holds 59 = .ok (.if_icmp .eq 7, 3) := by decide +kernel
theorem dX8_holds_62 : decode cX8_holds 62 = .ok (.iconst 1, 1) := by decide +kernel
theorem dX8_holds_63 : decode cX8_holds 63 = .ok (.goto 4, 3) := by decide +kernel
theorem dX8_holds_66 : decode cX8_holds 66 = .ok (.iconst 0, 1) := by decide +kernel
theorem dX8_holds_67 : decode cX8_holds 67 = .ok (.ireturn, 1) := by decide +kernel
theorem dX8_holds_68 : decode cX8_holds 68 = .ok (.aload_n 0, 1) := by decide +kernel
theorem dX8_holds_69 : decode cX8_holds 69 = .ok (.getfield 25, 3) := by decide +kernel
theorem dX8_holds_72 : decode cX8_holds 72 = .ok (.iload_n 2, 1) := by decide +kernel
theorem dX8_holds_73 : decode cX8_holds 73 = .ok (.iaload, 1) := by decide +kernel
theorem dX8_holds_74 : decode cX8_holds 74 = .ok (.iload_n 3, 1) := by decide +kernel
theorem dX8_holds_75 : decode cX8_holds 75 = .ok (.if_icmp .ne 17, 3) := by decide +kernel
theorem dX8_holds_78 : decode cX8_holds 78 = .ok (.aload_n 0, 1) := by decide +kernel
theorem dX8_holds_79 : decode cX8_holds 79 = .ok (.getfield 25, 3) := by decide +kernel
theorem dX8_holds_82 : decode cX8_holds 82 = .ok (.iload_n 3, 1) := by decide +kernel
theorem dX8_holds_83 : decode cX8_holds 83 = .ok (.iaload, 1) := by decide +kernel
theorem dX8_holds_84 : decode cX8_holds 84 = .ok (.iload_n 2, 1) := by decide +kernel
theorem dX8_holds_85 : decode cX8_holds 85 = .ok (.if_icmp .ne 7, 3) := by decide +kernel
theorem dX8_holds_88 : decode cX8_holds 88 = .ok (.iconst 1, 1) := by decide +kernel
theorem dX8_holds_89 : decode cX8_holds 89 = .ok (.goto 4, 3) := by decide +kernel
theorem dX8_holds_92 : decode cX8_holds 92 = .ok (.iconst 0, 1) := by decide +kernel
theorem dX8_holds_93 : decode cX8_holds 93 = .ok (.ireturn, 1) := by decide +kernel
theorem dX8_holds_94 : decode cX8_holds 94 = .ok (.aload_n 0, 1) := by decide +kernel
theorem dX8_holds_95 : decode cX8_holds 95 = .ok (.getfield 25, 3) := by decide +kernel
theorem dX8_holds_98 : decode cX8_holds 98 = .ok (.iload_n 2, 1) := by decide +kernel
theorem dX8_holds_99 : decode cX8_holds 99 = .ok (.iaload, 1) := by decide +kernel
theorem dX8_holds_100 : decode cX8_holds 100 = .ok (.aload_n 0, 1) := by decide +kernel
theorem dX8_holds_101 : decode cX8_holds 101 = .ok (.getfield 25, 3) := by decide +kernel
theorem dX8_holds_104 : decode cX8_holds 104 = .ok (.iload_n 3, 1) := by decide +kernel
theorem dX8_holds_105 : decode cX8_holds 105 = .ok (.iaload, 1) := by decide +kernel
theorem dX8_holds_106 : decode cX8_holds 106 = .ok (.if_icmp .ne 7, 3) := by decide +kernel
theorem dX8_holds_109 : decode cX8_holds 109 = .ok (.iconst 1, 1) := by decide +kernel
theorem dX8_holds_110 : decode cX8_holds 110 = .ok (.goto 4, 3) := by decide +kernel
theorem dX8_holds_113 : decode cX8_holds 113 = .ok (.iconst 0, 1) := by decide +kernel
theorem dX8_holds_114 : decode cX8_holds 114 = .ok (.ireturn, 1) := by decide +kernel
theorem dX8_holds_115 : decode cX8_holds 115 = .ok (.aload_n 0, 1) := by decide +kernel
theorem dX8_holds_116 : decode cX8_holds 116 = .ok (.iload_n 2, 1) := by decide +kernel
theorem dX8_holds_117 : decode cX8_holds 117 = .ok (.invokevirtual 61, 3) := by decide +kernel
theorem dX8_holds_120 : decode cX8_holds 120 = .ok (.iload_n 3, 1) := by decide +kernel
theorem dX8_holds_121 : decode cX8_holds 121 = .ok (.if_icmp .ne 7, 3) := by decide +kernel
theorem dX8_holds_124 : decode cX8_holds 124 = .ok (.iconst 1, 1) := by decide +kernel
theorem dX8_holds_125 : decode cX8_holds 125 = .ok (.goto 4, 3) := by decide +kernel
theorem dX8_holds_128 : decode cX8_holds 128 = .ok (.iconst 0, 1) := by decide +kernel
theorem dX8_holds_129 : decode cX8_holds 129 = .ok (.ireturn, 1) := by decide +kernel
theorem dX8_holds_130 : decode cX8_holds 130 = .ok (.aload_n 0, 1) := by decide +kernel
theorem dX8_holds_131 : decode cX8_holds 131 = .ok (.getfield 25, 3) := by decide +kernel
theorem dX8_holds_134 : decode cX8_holds 134 = .ok (.aload_n 0, 1) := by decide +kernel
theorem dX8_holds_135 : decode cX8_holds 135 = .ok (.getfield 25, 3) := by decide +kernel
theorem dX8_holds_138 : decode cX8_holds 138 = .ok (.iload_n 2, 1) := by decide +kernel
theorem dX8_holds_139 : decode cX8_holds 139 = .ok (.iaload, 1) := by decide +kernel
theorem dX8_holds_140 : decode cX8_holds 140 = .ok (.iaload, 1) := by decide +kernel
theorem dX8_holds_141 : decode cX8_holds 141 = .ok (.iload_n 3, 1) := by decide +kernel
theorem dX8_holds_142 : decode cX8_holds 142 = .ok (.if_icmp .ne 7, 3) := by decide +kernel
theorem dX8_holds_145 : decode cX8_holds 145 = .ok (.iconst 1, 1) := by decide +kernel
theorem dX8_holds_146 : decode cX8_holds 146 = .ok (.goto 4, 3) := by decide +kernel
theorem dX8_holds_149 : decode cX8_holds 149 = .ok (.iconst 0, 1) := by decide +kernel
theorem dX8_holds_150 : decode cX8_holds 150 = .ok (.ireturn, 1) := by decide +kernel
theorem dX8_holdsRumour_0 : decode cX8_holdsRumour 0 = .ok (.aload_n 0, 1) := by decide +kernel
theorem dX8_holdsRumour_1 : decode cX8_holdsRumour 1 = .ok (.aload_n 0, 1) := by decide +kernel
theorem dX8_holdsRumour_2 : decode cX8_holdsRumour 2 = .ok (.iload_n 1, 1) := by decide +kernel
theorem dX8_holdsRumour_3 : decode cX8_holdsRumour 3 = .ok (.iconst 1, 1) := by decide +kernel
theorem dX8_holdsRumour_4 : decode cX8_holdsRumour 4 = .ok (.invokevirtual 53, 3) := by decide +kernel
theorem dX8_holdsRumour_7 : decode cX8_holdsRumour 7 = .ok (.aload_n 0, 1) := by decide +kernel
theorem dX8_holdsRumour_8 : decode cX8_holdsRumour 8 = .ok (.iload_n 1, 1) := by decide +kernel
theorem dX8_holdsRumour_9 : decode cX8_holdsRumour 9 = .ok (.iconst 2, 1) := by decide +kernel
theorem dX8_holdsRumour_10 : decode cX8_holdsRumour 10 = .ok (.invokevirtual 53, 3) := by decide +kernel
theorem dX8_holdsRumour_13 : decode cX8_holdsRumour 13 = .ok (.aload_n 0, 1) := by decide +kernel
theorem dX8_holdsRumour_14 : decode cX8_holdsRumour 14 = .ok (.iload_n 1, 1) := by decide +kernel
theorem dX8_holdsRumour_15 : decode cX8_holdsRumour 15 = .ok (.iconst 3, 1) := by decide +kernel
theorem dX8_holdsRumour_16 : decode cX8_holdsRumour 16 = .ok (.invokevirtual 53, 3) := by decide +kernel
theorem dX8_holdsRumour_19 : decode cX8_holdsRumour 19 = .ok (.invokevirtual 65, 3) := by decide +kernel
theorem dX8_holdsRumour_22 : decode cX8_holdsRumour 22 = .ok (.ireturn, 1) := by decide +kernel
theorem dX8_takeTruth_0 : decode cX8_takeTruth 0 = .ok (.iconst 0, 1) := by decide +kernel
theorem dX8_takeTruth_1 : decode cX8_takeTruth 1 = .ok (.istore_n 1, 1) := by decide +kernel
theorem dX8_takeTruth_2 : decode cX8_takeTruth 2 = .ok (.iload_n 1, 1) := by decide +kernel
theorem dX8_takeTruth_3 : decode cX8_takeTruth 3 = .ok (.aload_n 0, 1) := by decide +kernel
theorem dX8_takeTruth_4 : decode cX8_takeTruth 4 = .ok (.getfield 7, 3) := by decide +kernel
theorem dX8_takeTruth_7 : decode cX8_takeTruth 7 = .ok (.iconst 0, 1) := by decide +kernel
theorem dX8_takeTruth_8 : decode cX8_takeTruth 8 = .ok (.iaload, 1) := by decide +kernel
theorem dX8_takeTruth_9 : decode cX8_takeTruth 9 = .ok (.if_icmp .ge 23, 3) := by decide +kernel
theorem dX8_takeTruth_12 : decode cX8_takeTruth 12 = .ok (.aload_n 0, 1) := by decide +kernel
theorem dX8_takeTruth_13 : decode cX8_takeTruth 13 = .ok (.getfield 25, 3) := by decide +kernel
theorem dX8_takeTruth_16 : decode cX8_takeTruth 16 = .ok (.iload_n 1, 1) := by decide +kernel
theorem dX8_takeTruth_17 : decode cX8_takeTruth 17 = .ok (.aload_n 0, 1) := by decide +kernel
theorem dX8_takeTruth_18 : decode cX8_takeTruth 18 = .ok (.getfield 7, 3) := by decide +kernel
theorem dX8_takeTruth_21 : decode cX8_takeTruth 21 = .ok (.iconst 3, 1) := by decide +kernel
theorem dX8_takeTruth_22 : decode cX8_takeTruth 22 = .ok (.iload_n 1, 1) := by decide +kernel
theorem dX8_takeTruth_23 : decode cX8_takeTruth 23 = .ok (.iadd, 1) := by decide +kernel
theorem dX8_takeTruth_24 : decode cX8_takeTruth 24 = .ok (.iaload, 1) := by decide +kernel
theorem dX8_takeTruth_25 : decode cX8_takeTruth 25 = .ok (.iastore, 1) := by decide +kernel
theorem dX8_takeTruth_26 : decode cX8_takeTruth 26 = .ok (.iinc 1 1, 3) := by decide +kernel
theorem dX8_takeTruth_29 : decode cX8_takeTruth 29 = .ok (.goto (-27), 3) := by decide +kernel
theorem dX8_takeTruth_32 : decode cX8_takeTruth 32 = .ok (.return_, 1) := by decide +kernel
theorem dX8_isTrue_0 : decode cX8_isTrue 0 = .ok (.aload_n 0, 1) := by decide +kernel
theorem dX8_isTrue_1 : decode cX8_isTrue 1 = .ok (.invokevirtual 68, 3) := by decide +kernel
theorem dX8_isTrue_4 : decode cX8_isTrue 4 = .ok (.aload_n 0, 1) := by decide +kernel
theorem dX8_isTrue_5 : decode cX8_isTrue 5 = .ok (.iload_n 1, 1) := by decide +kernel
theorem dX8_isTrue_6 : decode cX8_isTrue 6 = .ok (.invokevirtual 71, 3) := by decide +kernel
theorem dX8_isTrue_9 : decode cX8_isTrue 9 = .ok (.ireturn, 1) := by decide +kernel
theorem dX8_worldsInAll_0 : decode cX8_worldsInAll 0 = .ok (.iconst 1, 1) := by decide +kernel
theorem dX8_worldsInAll_1 : decode cX8_worldsInAll 1 = .ok (.istore_n 1, 1) := by decide +kernel
theorem dX8_worldsInAll_2 : decode cX8_worldsInAll 2 = .ok (.iconst 0, 1) := by decide +kernel
theorem dX8_worldsInAll_3 : decode cX8_worldsInAll 3 = .ok (.istore_n 2, 1) := by decide +kernel
theorem dX8_worldsInAll_4 : decode cX8_worldsInAll 4 = .ok (.iload_n 2, 1) := by decide +kernel
theorem dX8_worldsInAll_5 : decode cX8_worldsInAll 5 = .ok (.aload_n 0, 1) := by decide +kernel
theorem dX8_worldsInAll_6 : decode cX8_worldsInAll 6 = .ok (.getfield 7, 3) := by decide +kernel
theorem dX8_worldsInAll_9 : decode cX8_worldsInAll 9 = .ok (.iconst 0, 1) := by decide +kernel
theorem dX8_worldsInAll_10 : decode cX8_worldsInAll 10 = .ok (.iaload, 1) := by decide +kernel
theorem dX8_worldsInAll_11 : decode cX8_worldsInAll 11 = .ok (.if_icmp .ge 20, 3) := by decide +kernel
theorem dX8_worldsInAll_14 : decode cX8_worldsInAll 14 = .ok (.iload_n 1, 1) := by decide +kernel
theorem dX8_worldsInAll_15 : decode cX8_worldsInAll 15 = .ok (.aload_n 0, 1) := by decide +kernel
theorem dX8_worldsInAll_16 : decode cX8_worldsInAll 16 = .ok (.getfield 7, 3) := by decide +kernel
theorem dX8_worldsInAll_19 : decode cX8_worldsInAll 19 = .ok (.iconst 0, 1) := by decide +kernel
theorem dX8_worldsInAll_20 : decode cX8_worldsInAll 20 = .ok (.iaload, 1) := by decide +kernel
theorem dX8_worldsInAll_21 : decode cX8_worldsInAll 21 = .ok (.iconst 1, 1) := by decide +kernel
theorem dX8_worldsInAll_22 : decode cX8_worldsInAll 22 = .ok (.isub, 1) := by decide +kernel
theorem dX8_worldsInAll_23 : decode cX8_worldsInAll 23 = .ok (.imul, 1) := by decide +kernel
theorem dX8_worldsInAll_24 : decode cX8_worldsInAll 24 = .ok (.istore_n 1, 1) := by decide +kernel
theorem dX8_worldsInAll_25 : decode cX8_worldsInAll 25 = .ok (.iinc 2 1, 3) := by decide +kernel
theorem dX8_worldsInAll_28 : decode cX8_worldsInAll 28 = .ok (.goto (-24), 3) := by decide +kernel
theorem dX8_worldsInAll_31 : decode cX8_worldsInAll 31 = .ok (.iload_n 1, 1) := by decide +kernel
theorem dX8_worldsInAll_32 : decode cX8_worldsInAll 32 = .ok (.ireturn, 1) := by decide +kernel
theorem dX8_takeWorld_0 : decode cX8_takeWorld 0 = .ok (.iload_n 1, 1) := by decide +kernel
theorem dX8_takeWorld_1 : decode cX8_takeWorld 1 = .ok (.istore_n 2, 1) := by decide +kernel
theorem dX8_takeWorld_2 : decode cX8_takeWorld 2 = .ok (.aload_n 0, 1) := by decide +kernel
theorem dX8_takeWorld_3 : decode cX8_takeWorld 3 = .ok (.getfield 7, 3) := by decide +kernel
theorem dX8_takeWorld_6 : decode cX8_takeWorld 6 = .ok (.iconst 0, 1) := by decide +kernel
theorem dX8_takeWorld_7 : decode cX8_takeWorld 7 = .ok (.iaload, 1) := by decide +kernel
theorem dX8_takeWorld_8 : decode cX8_takeWorld 8 = .ok (.iconst 1, 1) := by decide +kernel
theorem dX8_takeWorld_9 : decode cX8_takeWorld 9 = .ok (.isub, 1) := by decide +kernel
theorem dX8_takeWorld_10 : decode cX8_takeWorld 10 = .ok (.istore_n 3, 1) := by decide +kernel
theorem dX8_takeWorld_11 : decode cX8_takeWorld 11 = .ok (.iload_n 3, 1) := by decide +kernel
theorem dX8_takeWorld_12 : decode cX8_takeWorld 12 = .ok (.ifCond .lt 53, 3) := by decide +kernel
theorem dX8_takeWorld_15 : decode cX8_takeWorld 15 = .ok (.iload_n 2, 1) := by decide +kernel
theorem dX8_takeWorld_16 : decode cX8_takeWorld 16 = .ok (.aload_n 0, 1) := by decide +kernel
theorem dX8_takeWorld_17 : decode cX8_takeWorld 17 = .ok (.getfield 7, 3) := by decide +kernel
theorem dX8_takeWorld_20 : decode cX8_takeWorld 20 = .ok (.iconst 0, 1) := by decide +kernel
theorem dX8_takeWorld_21 : decode cX8_takeWorld 21 = .ok (.iaload, 1) := by decide +kernel
theorem dX8_takeWorld_22 : decode cX8_takeWorld 22 = .ok (.iconst 1, 1) := by decide +kernel
theorem dX8_takeWorld_23 : decode cX8_takeWorld 23 = .ok (.isub, 1) := by decide +kernel
theorem dX8_takeWorld_24 : decode cX8_takeWorld 24 = .ok (.irem, 1) := by decide +kernel
theorem dX8_takeWorld_25 : decode cX8_takeWorld 25 = .ok (.istore 4, 2) := by decide +kernel
theorem dX8_takeWorld_27 : decode cX8_takeWorld 27 = .ok (.iload_n 2, 1) := by decide +kernel
theorem dX8_takeWorld_28 : decode cX8_takeWorld 28 = .ok (.aload_n 0, 1) := by decide +kernel
theorem dX8_takeWorld_29 : decode cX8_takeWorld 29 = .ok (.getfield 7, 3) := by decide +kernel
theorem dX8_takeWorld_32 : decode cX8_takeWorld 32 = .ok (.iconst 0, 1) := by decide +kernel
theorem dX8_takeWorld_33 : decode cX8_takeWorld 33 = .ok (.iaload, 1) := by decide +kernel
theorem dX8_takeWorld_34 : decode cX8_takeWorld 34 = .ok (.iconst 1, 1) := by decide +kernel
theorem dX8_takeWorld_35 : decode cX8_takeWorld 35 = .ok (.isub, 1) := by decide +kernel
theorem dX8_takeWorld_36 : decode cX8_takeWorld 36 = .ok (.idiv, 1) := by decide +kernel
theorem dX8_takeWorld_37 : decode cX8_takeWorld 37 = .ok (.istore_n 2, 1) := by decide +kernel
theorem dX8_takeWorld_38 : decode cX8_takeWorld 38 = .ok (.aload_n 0, 1) := by decide +kernel
theorem dX8_takeWorld_39 : decode cX8_takeWorld 39 = .ok (.getfield 25, 3) := by decide +kernel
theorem dX8_takeWorld_42 : decode cX8_takeWorld 42 = .ok (.iload_n 3, 1) := by decide +kernel
theorem dX8_takeWorld_43 : decode cX8_takeWorld 43 = .ok (.iload 4, 2) := by decide +kernel
theorem dX8_takeWorld_45 : decode cX8_takeWorld 45 = .ok (.iload_n 3, 1) := by decide +kernel
theorem dX8_takeWorld_46 : decode cX8_takeWorld 46 = .ok (.if_icmp .ge 8, 3) := by decide +kernel
theorem dX8_takeWorld_49 : decode cX8_takeWorld 49 = .ok (.iload 4, 2) := by decide +kernel
theorem dX8_takeWorld_51 : decode cX8_takeWorld 51 = .ok (.goto 7, 3) := by decide +kernel
theorem dX8_takeWorld_54 : decode cX8_takeWorld 54 = .ok (.iload 4, 2) := by decide +kernel
theorem dX8_takeWorld_56 : decode cX8_takeWorld 56 = .ok (.iconst 1, 1) := by decide +kernel
theorem dX8_takeWorld_57 : decode cX8_takeWorld 57 = .ok (.iadd, 1) := by decide +kernel
theorem dX8_takeWorld_58 : decode cX8_takeWorld 58 = .ok (.iastore, 1) := by decide +kernel
theorem dX8_takeWorld_59 : decode cX8_takeWorld 59 = .ok (.iinc 3 (-1), 3) := by decide +kernel
theorem dX8_takeWorld_62 : decode cX8_takeWorld 62 = .ok (.goto (-51), 3) := by decide +kernel
theorem dX8_takeWorld_65 : decode cX8_takeWorld 65 = .ok (.return_, 1) := by decide +kernel
theorem dX8_wrongOne_0 : decode cX8_wrongOne 0 = .ok (.bipush (-6), 2) := by decide +kernel
theorem dX8_wrongOne_2 : decode cX8_wrongOne 2 = .ok (.istore_n 1, 1) := by decide +kernel
theorem dX8_wrongOne_3 : decode cX8_wrongOne 3 = .ok (.iconst 0, 1) := by decide +kernel
theorem dX8_wrongOne_4 : decode cX8_wrongOne 4 = .ok (.istore_n 2, 1) := by decide +kernel
theorem dX8_wrongOne_5 : decode cX8_wrongOne 5 = .ok (.iload_n 2, 1) := by decide +kernel
theorem dX8_wrongOne_6 : decode cX8_wrongOne 6 = .ok (.aload_n 0, 1) := by decide +kernel
theorem dX8_wrongOne_7 : decode cX8_wrongOne 7 = .ok (.getfield 7, 3) := by decide +kernel
theorem dX8_wrongOne_10 : decode cX8_wrongOne 10 = .ok (.iconst 1, 1) := by decide +kernel
theorem dX8_wrongOne_11 : decode cX8_wrongOne 11 = .ok (.iaload, 1) := by decide +kernel
theorem dX8_wrongOne_12 : decode cX8_wrongOne 12 = .ok (.if_icmp .ge 67, 3) := by decide +kernel
theorem dX8_wrongOne_15 : decode cX8_wrongOne 15 = .ok (.aload_n 0, 1) := by decide +kernel
theorem dX8_wrongOne_16 : decode cX8_wrongOne 16 = .ok (.iload_n 2, 1) := by decide +kernel
theorem dX8_wrongOne_17 : decode cX8_wrongOne 17 = .ok (.invokevirtual 74, 3) := by decide +kernel
theorem dX8_wrongOne_20 : decode cX8_wrongOne 20 = .ok (.ifCond .ne 30, 3) := by decide +kernel
theorem dX8_wrongOne_23 : decode cX8_wrongOne 23 = .ok (.aload_n 0, 1) := by decide +kernel
theorem dX8_wrongOne_24 : decode cX8_wrongOne 24 = .ok (.iload_n 2, 1) := by decide +kernel
theorem dX8_wrongOne_25 : decode cX8_wrongOne 25 = .ok (.invokevirtual 71, 3) := by decide +kernel
theorem dX8_wrongOne_28 : decode cX8_wrongOne 28 = .ok (.aload_n 0, 1) := by decide +kernel
theorem dX8_wrongOne_29 : decode cX8_wrongOne 29 = .ok (.iload_n 2, 1) := by decide +kernel
theorem dX8_wrongOne_30 : decode cX8_wrongOne 30 = .ok (.iconst 4, 1) := by decide +kernel
theorem dX8_wrongOne_31 : decode cX8_wrongOne 31 = .ok (.invokevirtual 53, 3) := by decide +kernel
theorem dX8_wrongOne_34 : decode cX8_wrongOne 34 = .ok (.iconst 1, 1) := by decide +kernel
theorem dX8_wrongOne_35 : decode cX8_wrongOne 35 = .ok (.if_icmp .ne 7, 3) := by decide +kernel
theorem dX8_wrongOne_38 : decode cX8_wrongOne 38 = .ok (.iconst 1, 1) := by decide +kernel
theorem dX8_wrongOne_39 : decode cX8_wrongOne 39 = .ok (.goto 4, 3) := by decide +kernel
theorem dX8_wrongOne_42 : decode cX8_wrongOne 42 = .ok (.iconst 0, 1) := by decide +kernel
theorem dX8_wrongOne_43 : decode cX8_wrongOne 43 = .ok (.if_icmp .eq 7, 3) := by decide +kernel
theorem dX8_wrongOne_46 : decode cX8_wrongOne 46 = .ok (.iconst 1, 1) := by decide +kernel
theorem dX8_wrongOne_47 : decode cX8_wrongOne 47 = .ok (.goto 4, 3) := by decide +kernel
theorem dX8_wrongOne_50 : decode cX8_wrongOne 50 = .ok (.iconst 0, 1) := by decide +kernel
theorem dX8_wrongOne_51 : decode cX8_wrongOne 51 = .ok (.istore_n 3, 1) := by decide +kernel
theorem dX8_wrongOne_52 : decode cX8_wrongOne 52 = .ok (.iload_n 3, 1) := by decide +kernel
theorem dX8_wrongOne_53 : decode cX8_wrongOne 53 = .ok (.ifCond .ne 7, 3) := by decide +kernel
theorem dX8_wrongOne_56 : decode cX8_wrongOne 56 = .ok (.iload_n 1, 1) := by decide +kernel
theorem dX8_wrongOne_57 : decode cX8_wrongOne 57 = .ok (.goto 15, 3) := by decide +kernel
theorem dX8_wrongOne_60 : decode cX8_wrongOne 60 = .ok (.iload_n 1, 1) := by decide +kernel
theorem dX8_wrongOne_61 : decode cX8_wrongOne 61 = .ok (.bipush (-6), 2) := by decide +kernel
theorem dX8_wrongOne_63 : decode cX8_wrongOne 63 = .ok (.if_icmp .ne 7, 3) := by decide +kernel
theorem dX8_wrongOne_66 : decode cX8_wrongOne 66 = .ok (.iload_n 2, 1) := by decide +kernel
theorem dX8_wrongOne_67 : decode cX8_wrongOne 67 = .ok (.goto 5, 3) := by decide +kernel
theorem dX8_wrongOne_70 : decode cX8_wrongOne 70 = .ok (.bipush 20, 2) := by decide +kernel
theorem dX8_wrongOne_72 : decode cX8_wrongOne 72 = .ok (.istore_n 1, 1) := by decide +kernel
theorem dX8_wrongOne_73 : decode cX8_wrongOne 73 = .ok (.iinc 2 1, 3) := by decide +kernel
theorem dX8_wrongOne_76 : decode cX8_wrongOne 76 = .ok (.goto (-71), 3) := by decide +kernel
theorem dX8_wrongOne_79 : decode cX8_wrongOne 79 = .ok (.iload_n 1, 1) := by decide +kernel
theorem dX8_wrongOne_80 : decode cX8_wrongOne 80 = .ok (.ireturn, 1) := by decide +kernel
theorem dX8_clear_0 : decode cX8_clear 0 = .ok (.aload_n 0, 1) := by decide +kernel
theorem dX8_clear_1 : decode cX8_clear 1 = .ok (.iconst 0, 1) := by decide +kernel
theorem dX8_clear_2 : decode cX8_clear 2 = .ok (.putfield 77, 3) := by decide +kernel
theorem dX8_clear_5 : decode cX8_clear 5 = .ok (.aload_n 0, 1) := by decide +kernel
theorem dX8_clear_6 : decode cX8_clear 6 = .ok (.bipush (-6), 2) := by decide +kernel
theorem dX8_clear_8 : decode cX8_clear 8 = .ok (.putfield 80, 3) := by decide +kernel
theorem dX8_clear_11 : decode cX8_clear 11 = .ok (.aload_n 0, 1) := by decide +kernel
theorem dX8_clear_12 : decode cX8_clear 12 = .ok (.iconst 0, 1) := by decide +kernel
theorem dX8_clear_13 : decode cX8_clear 13 = .ok (.putfield 83, 3) := by decide +kernel
theorem dX8_clear_16 : decode cX8_clear 16 = .ok (.iconst 0, 1) := by decide +kernel
theorem dX8_clear_17 : decode cX8_clear 17 = .ok (.istore_n 1, 1) := by decide +kernel
theorem dX8_clear_18 : decode cX8_clear 18 = .ok (.iload_n 1, 1) := by decide +kernel
theorem dX8_clear_19 : decode cX8_clear 19 = .ok (.bipush 36, 2) := by decide +kernel
theorem dX8_clear_21 : decode cX8_clear 21 = .ok (.if_icmp .ge 16, 3) := by decide +kernel
theorem dX8_clear_24 : decode cX8_clear 24 = .ok (.aload_n 0, 1) := by decide +kernel
theorem dX8_clear_25 : decode cX8_clear 25 = .ok (.getfield 28, 3) := by decide +kernel
theorem dX8_clear_28 : decode cX8_clear 28 = .ok (.iload_n 1, 1) := by decide +kernel
theorem dX8_clear_29 : decode cX8_clear 29 = .ok (.iconst 0, 1) := by decide +kernel
theorem dX8_clear_30 : decode cX8_clear 30 = .ok (.iastore, 1) := by decide +kernel
theorem dX8_clear_31 : decode cX8_clear 31 = .ok (.iinc 1 1, 3) := by decide +kernel
theorem dX8_clear_34 : decode cX8_clear 34 = .ok (.goto (-16), 3) := by decide +kernel
theorem dX8_clear_37 : decode cX8_clear 37 = .ok (.iconst 0, 1) := by decide +kernel
theorem dX8_clear_38 : decode cX8_clear 38 = .ok (.istore_n 1, 1) := by decide +kernel
theorem dX8_clear_39 : decode cX8_clear 39 = .ok (.iload_n 1, 1) := by decide +kernel
theorem dX8_clear_40 : decode cX8_clear 40 = .ok (.bipush 20, 2) := by decide +kernel
theorem dX8_clear_42 : decode cX8_clear 42 = .ok (.if_icmp .ge 23, 3) := by decide +kernel
theorem dX8_clear_45 : decode cX8_clear 45 = .ok (.aload_n 0, 1) := by decide +kernel
theorem dX8_clear_46 : decode cX8_clear 46 = .ok (.getfield 31, 3) := by decide +kernel
theorem dX8_clear_49 : decode cX8_clear 49 = .ok (.iload_n 1, 1) := by decide +kernel
theorem dX8_clear_50 : decode cX8_clear 50 = .ok (.iconst 0, 1) := by decide +kernel
theorem dX8_clear_51 : decode cX8_clear 51 = .ok (.iastore, 1) := by decide +kernel
theorem dX8_clear_52 : decode cX8_clear 52 = .ok (.aload_n 0, 1) := by decide +kernel
theorem dX8_clear_53 : decode cX8_clear 53 = .ok (.getfield 34, 3) := by decide +kernel
theorem dX8_clear_56 : decode cX8_clear 56 = .ok (.iload_n 1, 1) := by decide +kernel
theorem dX8_clear_57 : decode cX8_clear 57 = .ok (.iconst 0, 1) := by decide +kernel
theorem dX8_clear_58 : decode cX8_clear 58 = .ok (.iastore, 1) := by decide +kernel
theorem dX8_clear_59 : decode cX8_clear 59 = .ok (.iinc 1 1, 3) := by decide +kernel
theorem dX8_clear_62 : decode cX8_clear 62 = .ok (.goto (-23), 3) := by decide +kernel
theorem dX8_clear_65 : decode cX8_clear 65 = .ok (.return_, 1) := by decide +kernel
theorem dX8_takesIn_0 : decode cX8_takesIn 0 = .ok (.aload_n 0, 1) := by decide +kernel
theorem dX8_takesIn_1 : decode cX8_takesIn 1 = .ok (.dup, 1) := by decide +kernel
theorem dX8_takesIn_2 : decode cX8_takesIn 2 = .ok (.getfield 77, 3) := by decide +kernel
theorem dX8_takesIn_5 : decode cX8_takesIn 5 = .ok (.iconst 1, 1) := by decide +kernel
theorem dX8_takesIn_6 : decode cX8_takesIn 6 = .ok (.iadd, 1) := by decide +kernel
theorem dX8_takesIn_7 : decode cX8_takesIn 7 = .ok (.putfield 77, 3) := by decide +kernel
theorem dX8_takesIn_10 : decode cX8_takesIn 10 = .ok (.iconst 0, 1) := by decide +kernel
theorem dX8_takesIn_11 : decode cX8_takesIn 11 = .ok (.istore_n 1, 1) := by decide +kernel
theorem dX8_takesIn_12 : decode cX8_takesIn 12 = .ok (.iload_n 1, 1) := by decide +kernel
theorem dX8_takesIn_13 : decode cX8_takesIn 13 = .ok (.aload_n 0, 1) := by decide +kernel
theorem dX8_takesIn_14 : decode cX8_takesIn 14 = .ok (.getfield 7, 3) := by decide +kernel
theorem dX8_takesIn_17 : decode cX8_takesIn 17 = .ok (.iconst 0, 1) := by decide +kernel
theorem dX8_takesIn_18 : decode cX8_takesIn 18 = .ok (.iaload, 1) := by decide +kernel
theorem dX8_takesIn_19 : decode cX8_takesIn 19 = .ok (.if_icmp .ge 69, 3) := by decide +kernel
theorem dX8_takesIn_22 : decode cX8_takesIn 22 = .ok (.aload_n 0, 1) := by decide +kernel
theorem dX8_takesIn_23 : decode cX8_takesIn 23 = .ok (.getfield 28, 3) := by decide +kernel
theorem dX8_takesIn_26 : decode cX8_takesIn 26 = .ok (.bipush 6, 2) := by decide +kernel
theorem dX8_takesIn_28 : decode cX8_takesIn 28 = .ok (.iload_n 1, 1) := by decide +kernel
theorem dX8_takesIn_29 : decode cX8_takesIn 29 = .ok (.imul, 1) := by decide +kernel
theorem dX8_takesIn_30 : decode cX8_takesIn 30 = .ok (.aload_n 0, 1) := by decide +kernel
theorem dX8_takesIn_31 : decode cX8_takesIn 31 = .ok (.getfield 25, 3) := by decide +kernel
theorem dX8_takesIn_34 : decode cX8_takesIn 34 = .ok (.iload_n 1, 1) := by decide +kernel
theorem dX8_takesIn_35 : decode cX8_takesIn 35 = .ok (.iaload, 1) := by decide +kernel
theorem dX8_takesIn_36 : decode cX8_takesIn 36 = .ok (.iadd, 1) := by decide +kernel
theorem dX8_takesIn_37 : decode cX8_takesIn 37 = .ok (.dup2, 1) := by decide +kernel
theorem dX8_takesIn_38 : decode cX8_takesIn 38 = .ok (.iaload, 1) := by decide +kernel
theorem dX8_takesIn_39 : decode cX8_takesIn 39 = .ok (.iconst 1, 1) := by decide +kernel
theorem dX8_takesIn_40 : decode cX8_takesIn 40 = .ok (.iadd, 1) := by decide +kernel
theorem dX8_takesIn_41 : decode cX8_takesIn 41 = .ok (.iastore, 1) := by decide +kernel
theorem dX8_takesIn_42 : decode cX8_takesIn 42 = .ok (.aload_n 0, 1) := by decide +kernel
theorem dX8_takesIn_43 : decode cX8_takesIn 43 = .ok (.iload_n 1, 1) := by decide +kernel
theorem dX8_takesIn_44 : decode cX8_takesIn 44 = .ok (.invokevirtual 61, 3) := by decide +kernel
theorem dX8_takesIn_47 : decode cX8_takesIn 47 = .ok (.istore_n 2, 1) := by decide +kernel
theorem dX8_takesIn_48 : decode cX8_takesIn 48 = .ok (.iload_n 2, 1) := by decide +kernel
theorem dX8_takesIn_49 : decode cX8_takesIn 49 = .ok (.aload_n 0, 1) := by decide +kernel
theorem dX8_takesIn_50 : decode cX8_takesIn 50 = .ok (.getfield 83, 3) := by decide +kernel
theorem dX8_takesIn_53 : decode cX8_takesIn 53 = .ok (.if_icmp .gt 19, 3) := by decide +kernel
theorem dX8_takesIn_56 : decode cX8_takesIn 56 = .ok (.iload_n 2, 1) := by decide +kernel
theorem dX8_takesIn_57 : decode cX8_takesIn 57 = .ok (.aload_n 0, 1) := by decide +kernel
theorem dX8_takesIn_58 : decode cX8_takesIn 58 = .ok (.getfield 83, 3) := by decide +kernel
theorem dX8_takesIn_61 : decode cX8_takesIn 61 = .ok (.if_icmp .ne 21, 3) := by decide +kernel
theorem dX8_takesIn_64 : decode cX8_takesIn 64 = .ok (.iload_n 1, 1) := by decide +kernel
theorem dX8_takesIn_65 : decode cX8_takesIn 65 = .ok (.aload_n 0, 1) := by decide +kernel
theorem dX8_takesIn_66 : decode cX8_takesIn 66 = .ok (.getfield 80, 3) := by decide +kernel
theorem dX8_takesIn_69 : decode cX8_takesIn 69 = .ok (.if_icmp .ge 13, 3) := by decide +kernel
theorem dX8_takesIn_72 : decode cX8_takesIn 72 = .ok (.aload_n 0, 1) := by decide +kernel
theorem dX8_takesIn_73 : decode cX8_takesIn 73 = .ok (.iload_n 2, 1) := by decide +kernel
theorem dX8_takesIn_74 : decode cX8_takesIn 74 = .ok (.putfield 83, 3) := by decide +kernel
theorem dX8_takesIn_77 : decode cX8_takesIn 77 = .ok (.aload_n 0, 1) := by decide +kernel
theorem dX8_takesIn_78 : decode cX8_takesIn 78 = .ok (.iload_n 1, 1) := by decide +kernel
theorem dX8_takesIn_79 : decode cX8_takesIn 79 = .ok (.putfield 80, 3) := by decide +kernel
theorem dX8_takesIn_82 : decode cX8_takesIn 82 = .ok (.iinc 1 1, 3) := by decide +kernel
theorem dX8_takesIn_85 : decode cX8_takesIn 85 = .ok (.goto (-73), 3) := by decide +kernel
theorem dX8_takesIn_88 : decode cX8_takesIn 88 = .ok (.iconst 0, 1) := by decide +kernel
theorem dX8_takesIn_89 : decode cX8_takesIn 89 = .ok (.istore_n 1, 1) := by decide +kernel
theorem dX8_takesIn_90 : decode cX8_takesIn 90 = .ok (.iload_n 1, 1) := by decide +kernel
theorem dX8_takesIn_91 : decode cX8_takesIn 91 = .ok (.aload_n 0, 1) := by decide +kernel
theorem dX8_takesIn_92 : decode cX8_takesIn 92 = .ok (.getfield 7, 3) := by decide +kernel
theorem dX8_takesIn_95 : decode cX8_takesIn 95 = .ok (.iconst 1, 1) := by decide +kernel
theorem dX8_takesIn_96 : decode cX8_takesIn 96 = .ok (.iaload, 1) := by decide +kernel
theorem dX8_takesIn_97 : decode cX8_takesIn 97 = .ok (.if_icmp .ge 31, 3) := by decide +kernel
theorem dX8_takesIn_100 : decode cX8_takesIn 100 = .ok (.aload_n 0, 1) := by decide +kernel
theorem dX8_takesIn_101 : decode cX8_takesIn 101 = .ok (.getfield 31, 3) := by decide +kernel
theorem dX8_takesIn_104 : decode cX8_takesIn 104 = .ok (.iload_n 1, 1) := by decide +kernel
theorem dX8_takesIn_105 : decode cX8_takesIn 105 = .ok (.dup2, 1) := by decide +kernel
theorem dX8_takesIn_106 : decode cX8_takesIn 106 = .ok (.iaload, 1) := by decide +kernel
theorem dX8_takesIn_107 : decode cX8_takesIn 107 = .ok (.aload_n 0, 1) := by decide +kernel
theorem dX8_takesIn_108 : decode cX8_takesIn 108 = .ok (.iload_n 1, 1) := by decide +kernel
theorem dX8_takesIn_109 : decode cX8_takesIn 109 = .ok (.invokevirtual 71, 3) := by decide +kernel
theorem dX8_takesIn_112 : decode cX8_takesIn 112 = .ok (.ifCond .eq 7, 3) := by decide +kernel
theorem dX8_takesIn_115 : decode cX8_takesIn 115 = .ok (.iconst 1, 1) := by decide +kernel
theorem dX8_takesIn_116 : decode cX8_takesIn 116 = .ok (.goto 4, 3) := by decide +kernel
theorem dX8_takesIn_119 : decode cX8_takesIn 119 = .ok (.iconst 0, 1) := by decide +kernel
theorem dX8_takesIn_120 : decode cX8_takesIn 120 = .ok (.iadd, 1) := by decide +kernel
theorem dX8_takesIn_121 : decode cX8_takesIn 121 = .ok (.iastore, 1) := by decide +kernel
theorem dX8_takesIn_122 : decode cX8_takesIn 122 = .ok (.iinc 1 1, 3) := by decide +kernel
theorem dX8_takesIn_125 : decode cX8_takesIn 125 = .ok (.goto (-35), 3) := by decide +kernel
theorem dX8_takesIn_128 : decode cX8_takesIn 128 = .ok (.return_, 1) := by decide +kernel
theorem dX8_goThrough_0 : decode cX8_goThrough 0 = .ok (.aload_n 0, 1) := by decide +kernel
theorem dX8_goThrough_1 : decode cX8_goThrough 1 = .ok (.invokevirtual 86, 3) := by decide +kernel
theorem dX8_goThrough_4 : decode cX8_goThrough 4 = .ok (.aload_n 0, 1) := by decide +kernel
theorem dX8_goThrough_5 : decode cX8_goThrough 5 = .ok (.invokevirtual 89, 3) := by decide +kernel
theorem dX8_goThrough_8 : decode cX8_goThrough 8 = .ok (.istore_n 1, 1) := by decide +kernel
theorem dX8_goThrough_9 : decode cX8_goThrough 9 = .ok (.iconst 0, 1) := by decide +kernel
theorem dX8_goThrough_10 : decode cX8_goThrough 10 = .ok (.istore_n 2, 1) := by decide +kernel
theorem dX8_goThrough_11 : decode cX8_goThrough 11 = .ok (.iload_n 2, 1) := by decide +kernel
theorem dX8_goThrough_12 : decode cX8_goThrough 12 = .ok (.iload_n 1, 1) := by decide +kernel
theorem dX8_goThrough_13 : decode cX8_goThrough 13 = .ok (.if_icmp .ge 48, 3) := by decide +kernel
theorem dX8_goThrough_16 : decode cX8_goThrough 16 = .ok (.aload_n 0, 1) := by decide +kernel
theorem dX8_goThrough_17 : decode cX8_goThrough 17 = .ok (.iload_n 2, 1) := by decide +kernel
theorem dX8_goThrough_18 : decode cX8_goThrough 18 = .ok (.invokevirtual 93, 3) := by decide +kernel
theorem dX8_goThrough_21 : decode cX8_goThrough 21 = .ok (.aload_n 0, 1) := by decide +kernel
theorem dX8_goThrough_22 : decode cX8_goThrough 22 = .ok (.invokevirtual 96, 3) := by decide +kernel
theorem dX8_goThrough_25 : decode cX8_goThrough 25 = .ok (.istore_n 3, 1) := by decide +kernel
theorem dX8_goThrough_26 : decode cX8_goThrough 26 = .ok (.iload_n 3, 1) := by decide +kernel
theorem dX8_goThrough_27 : decode cX8_goThrough 27 = .ok (.bipush (-6), 2) := by decide +kernel
theorem dX8_goThrough_29 : decode cX8_goThrough 29 = .ok (.if_icmp .ne 10, 3) := by decide +kernel
theorem dX8_goThrough_32 : decode cX8_goThrough 32 = .ok (.aload_n 0, 1) := by decide +kernel
theorem dX8_goThrough_33 : decode cX8_goThrough 33 = .ok (.invokevirtual 99, 3) := by decide +kernel
theorem dX8_goThrough_36 : decode cX8_goThrough 36 = .ok (.goto 19, 3) := by decide +kernel
theorem dX8_goThrough_39 : decode cX8_goThrough 39 = .ok (.iload_n 3, 1) := by decide +kernel
theorem dX8_goThrough_40 : decode cX8_goThrough 40 = .ok (.bipush 20, 2) := by decide +kernel
theorem dX8_goThrough_42 : decode cX8_goThrough 42 = .ok (.if_icmp .ge 13, 3) := by decide +kernel
theorem dX8_goThrough_45 : decode cX8_goThrough 45 = .ok (.aload_n 0, 1) := by decide +kernel
theorem dX8_goThrough_46 : decode cX8_goThrough 46 = .ok (.getfield 34, 3) := by decide +kernel
theorem dX8_goThrough_49 : decode cX8_goThrough 49 = .ok (.iload_n 3, 1) := by decide +kernel
theorem dX8_goThrough_50 : decode cX8_goThrough 50 = .ok (.dup2, 1) := by decide +kernel
theorem dX8_goThrough_51 : decode cX8_goThrough 51 = .ok (.iaload, 1) := by decide +kernel
theorem dX8_goThrough_52 : decode cX8_goThrough 52 = .ok (.iconst 1, 1) := by decide +kernel
theorem dX8_goThrough_53 : decode cX8_goThrough 53 = .ok (.iadd, 1) := by decide +kernel
theorem dX8_goThrough_54 : decode cX8_goThrough 54 = .ok (.iastore, 1) := by decide +kernel
theorem dX8_goThrough_55 : decode cX8_goThrough 55 = .ok (.iinc 2 1, 3) := by decide +kernel
theorem dX8_goThrough_58 : decode cX8_goThrough 58 = .ok (.goto (-47), 3) := by decide +kernel
theorem dX8_goThrough_61 : decode cX8_goThrough 61 = .ok (.return_, 1) := by decide +kernel
theorem dX8_worldsNow_0 : decode cX8_worldsNow 0 = .ok (.aload_n 0, 1) := by decide +kernel
theorem dX8_worldsNow_1 : decode cX8_worldsNow 1 = .ok (.invokevirtual 102, 3) := by decide +kernel
theorem dX8_worldsNow_4 : decode cX8_worldsNow 4 = .ok (.aload_n 0, 1) := by decide +kernel
theorem dX8_worldsNow_5 : decode cX8_worldsNow 5 = .ok (.getfield 77, 3) := by decide +kernel
theorem dX8_worldsNow_8 : decode cX8_worldsNow 8 = .ok (.ireturn, 1) := by decide +kernel
theorem dX8_isTruthPossible_0 : decode cX8_isTruthPossible 0 = .ok (.aload_n 0, 1) := by decide +kernel
theorem dX8_isTruthPossible_1 : decode cX8_isTruthPossible 1 = .ok (.invokevirtual 68, 3) := by decide +kernel
theorem dX8_isTruthPossible_4 : decode cX8_isTruthPossible 4 = .ok (.aload_n 0, 1) := by decide +kernel
theorem dX8_isTruthPossible_5 : decode cX8_isTruthPossible 5 = .ok (.invokevirtual 96, 3) := by decide +kernel
theorem dX8_isTruthPossible_8 : decode cX8_isTruthPossible 8 = .ok (.bipush (-6), 2) := by decide +kernel
theorem dX8_isTruthPossible_10 : decode cX8_isTruthPossible 10 = .ok (.if_icmp .ne 7, 3) := by decide +kernel
theorem dX8_isTruthPossible_13 : decode cX8_isTruthPossible 13 = .ok (.iconst 1, 1) := by decide +kernel
theorem dX8_isTruthPossible_14 : decode cX8_isTruthPossible 14 = .ok (.goto 4, 3) := by decide +kernel
theorem dX8_isTruthPossible_17 : decode cX8_isTruthPossible 17 = .ok (.iconst 0, 1) := by decide +kernel
theorem dX8_isTruthPossible_18 : decode cX8_isTruthPossible 18 = .ok (.ireturn, 1) := by decide +kernel
theorem dX8_certainBox_0 : decode cX8_certainBox 0 = .ok (.bipush (-6), 2) := by decide +kernel
theorem dX8_certainBox_2 : decode cX8_certainBox 2 = .ok (.istore_n 2, 1) := by decide +kernel
theorem dX8_certainBox_3 : decode cX8_certainBox 3 = .ok (.iconst 0, 1) := by decide +kernel
theorem dX8_certainBox_4 : decode cX8_certainBox 4 = .ok (.istore_n 3, 1) := by decide +kernel
theorem dX8_certainBox_5 : decode cX8_certainBox 5 = .ok (.iload_n 3, 1) := by decide +kernel
theorem dX8_certainBox_6 : decode cX8_certainBox 6 = .ok (.aload_n 0, 1) := by decide +kernel
theorem dX8_certainBox_7 : decode cX8_certainBox 7 = .ok (.getfield 7, 3) := by decide +kernel
theorem dX8_certainBox_10 : decode cX8_certainBox 10 = .ok (.iconst 0, 1) := by decide +kernel
theorem dX8_certainBox_11 : decode cX8_certainBox 11 = .ok (.iaload, 1) := by decide +kernel
theorem dX8_certainBox_12 : decode cX8_certainBox 12 = .ok (.if_icmp .ge 40, 3) := by decide +kernel
theorem dX8_certainBox_15 : decode cX8_certainBox 15 = .ok (.aload_n 0, 1) := by decide +kernel
theorem dX8_certainBox_16 : decode cX8_certainBox 16 = .ok (.getfield 77, 3) := by decide +kernel
theorem dX8_certainBox_19 : decode cX8_certainBox 19 = .ok (.ifCond .le 25, 3) := by decide +kernel
theorem dX8_certainBox_22 : decode cX8_certainBox 22 = .ok (.aload_n 0, 1) := by decide +kernel
theorem dX8_certainBox_23 : decode cX8_certainBox 23 = .ok (.getfield 28, 3) := by decide +kernel
theorem dX8_certainBox_26 : decode cX8_certainBox 26 = .ok (.bipush 6, 2) := by decide +kernel
theorem dX8_certainBox_28 : decode cX8_certainBox 28 = .ok (.iload_n 1, 1) := by decide +kernel
theorem dX8_certainBox_29 : decode cX8_certainBox 29 = .ok (.imul, 1) := by decide +kernel
theorem dX8_certainBox_30 : decode cX8_certainBox 30 = .ok (.iload_n 3, 1) := by decide +kernel
theorem dX8_certainBox_31 : decode cX8_certainBox 31 = .ok (.iadd, 1) := by decide +kernel
theorem dX8_certainBox_32 : decode cX8_certainBox 32 = .ok (.iaload, 1) := by decide +kernel
theorem dX8_certainBox_33 : decode cX8_certainBox 33 = .ok (.aload_n 0, 1) := by decide +kernel
theorem dX8_certainBox_34 : decode cX8_certainBox 34 = .ok (.getfield 77, 3) := by decide +kernel
theorem dX8_certainBox_37 : decode cX8_certainBox 37 = .ok (.if_icmp .ne 7, 3) := by decide +kernel
theorem dX8_certainBox_40 : decode cX8_certainBox 40 = .ok (.iload_n 3, 1) := by decide +kernel
theorem dX8_certainBox_41 : decode cX8_certainBox 41 = .ok (.goto 4, 3) := by decide +kernel
theorem dX8_certainBox_44 : decode cX8_certainBox 44 = .ok (.iload_n 2, 1) := by decide +kernel
theorem dX8_certainBox_45 : decode cX8_certainBox 45 = .ok (.istore_n 2, 1) := by decide +kernel
theorem dX8_certainBox_46 : decode cX8_certainBox 46 = .ok (.iinc 3 1, 3) := by decide +kernel
theorem dX8_certainBox_49 : decode cX8_certainBox 49 = .ok (.goto (-44), 3) := by decide +kernel
theorem dX8_certainBox_52 : decode cX8_certainBox 52 = .ok (.iload_n 2, 1) := by decide +kernel
theorem dX8_certainBox_53 : decode cX8_certainBox 53 = .ok (.ireturn, 1) := by decide +kernel
theorem dX8_open_0 : decode cX8_open 0 = .ok (.iload_n 1, 1) := by decide +kernel
theorem dX8_open_1 : decode cX8_open 1 = .ok (.iconst 3, 1) := by decide +kernel
theorem dX8_open_2 : decode cX8_open 2 = .ok (.bipush 6, 2) := by decide +kernel
theorem dX8_open_4 : decode cX8_open 4 = .ok (.invokestatic 49, 3) := by decide +kernel
theorem dX8_open_7 : decode cX8_open 7 = .ok (.ifCond .ne 6, 3) := by decide +kernel
theorem dX8_open_10 : decode cX8_open 10 = .ok (.bipush (-2), 2) := by decide +kernel
theorem dX8_open_12 : decode cX8_open 12 = .ok (.ireturn, 1) := by decide +kernel
theorem dX8_open_13 : decode cX8_open 13 = .ok (.aload_n 0, 1) := by decide +kernel
theorem dX8_open_14 : decode cX8_open 14 = .ok (.invokevirtual 105, 3) := by decide +kernel
theorem dX8_open_17 : decode cX8_open 17 = .ok (.aload_n 0, 1) := by decide +kernel
theorem dX8_open_18 : decode cX8_open 18 = .ok (.getfield 7, 3) := by decide +kernel
theorem dX8_open_21 : decode cX8_open 21 = .ok (.iconst 0, 1) := by decide +kernel
theorem dX8_open_22 : decode cX8_open 22 = .ok (.iaload, 1) := by decide +kernel
theorem dX8_open_23 : decode cX8_open 23 = .ok (.istore_n 2, 1) := by decide +kernel
theorem dX8_open_24 : decode cX8_open 24 = .ok (.aload_n 0, 1) := by decide +kernel
theorem dX8_open_25 : decode cX8_open 25 = .ok (.iload_n 1, 1) := by decide +kernel
theorem dX8_open_26 : decode cX8_open 26 = .ok (.invokevirtual 37, 3) := by decide +kernel
theorem dX8_open_29 : decode cX8_open 29 = .ok (.iload_n 2, 1) := by decide +kernel
theorem dX8_open_30 : decode cX8_open 30 = .ok (.ireturn, 1) := by decide +kernel
theorem dX8_look_0 : decode cX8_look 0 = .ok (.aload_n 0, 1) := by decide +kernel
theorem dX8_look_1 : decode cX8_look 1 = .ok (.iload_n 1, 1) := by decide +kernel
theorem dX8_look_2 : decode cX8_look 2 = .ok (.invokevirtual 57, 3) := by decide +kernel
theorem dX8_look_5 : decode cX8_look 5 = .ok (.ifCond .eq 11, 3) := by decide +kernel
theorem dX8_look_8 : decode cX8_look 8 = .ok (.aload_n 0, 1) := by decide +kernel
theorem dX8_look_9 : decode cX8_look 9 = .ok (.iload_n 2, 1) := by decide +kernel
theorem dX8_look_10 : decode cX8_look 10 = .ok (.invokevirtual 57, 3) := by decide +kernel
theorem dX8_look_13 : decode cX8_look 13 = .ok (.ifCond .ne 5, 3) := by decide +kernel
theorem dX8_look_16 : decode cX8_look 16 = .ok (.iconst (-1), 1) := by decide +kernel
theorem dX8_look_17 : decode cX8_look 17 = .ok (.ireturn, 1) := by decide +kernel
theorem dX8_look_18 : decode cX8_look 18 = .ok (.iload_n 1, 1) := by decide +kernel
theorem dX8_look_19 : decode cX8_look 19 = .ok (.iload_n 2, 1) := by decide +kernel
theorem dX8_look_20 : decode cX8_look 20 = .ok (.if_icmp .ne 6, 3) := by decide +kernel
theorem dX8_look_23 : decode cX8_look 23 = .ok (.bipush (-2), 2) := by decide +kernel
theorem dX8_look_25 : decode cX8_look 25 = .ok (.ireturn, 1) := by decide +kernel
theorem dX8_look_26 : decode cX8_look 26 = .ok (.aload_n 0, 1) := by decide +kernel
theorem dX8_look_27 : decode cX8_look 27 = .ok (.invokevirtual 105, 3) := by decide +kernel
theorem dX8_look_30 : decode cX8_look 30 = .ok (.aload_n 0, 1) := by decide +kernel
theorem dX8_look_31 : decode cX8_look 31 = .ok (.getfield 7, 3) := by decide +kernel
theorem dX8_look_34 : decode cX8_look 34 = .ok (.iconst 3, 1) := by decide +kernel
theorem dX8_look_35 : decode cX8_look 35 = .ok (.iload_n 1, 1) := by decide +kernel
theorem dX8_look_36 : decode cX8_look 36 = .ok (.iadd, 1) := by decide +kernel
theorem dX8_look_37 : decode cX8_look 37 = .ok (.iaload, 1) := by decide +kernel
theorem dX8_look_38 : decode cX8_look 38 = .ok (.istore_n 3, 1) := by decide +kernel
theorem dX8_look_39 : decode cX8_look 39 = .ok (.aload_n 0, 1) := by decide +kernel
theorem dX8_look_40 : decode cX8_look 40 = .ok (.getfield 7, 3) := by decide +kernel
theorem dX8_look_43 : decode cX8_look 43 = .ok (.iconst 3, 1) := by decide +kernel
theorem dX8_look_44 : decode cX8_look 44 = .ok (.iload_n 1, 1) := by decide +kernel
theorem dX8_look_45 : decode cX8_look 45 = .ok (.iadd, 1) := by decide +kernel
theorem dX8_look_46 : decode cX8_look 46 = .ok (.iload_n 2, 1) := by decide +kernel
theorem dX8_look_47 : decode cX8_look 47 = .ok (.iastore, 1) := by decide +kernel
theorem dX8_look_48 : decode cX8_look 48 = .ok (.iload_n 3, 1) := by decide +kernel
theorem dX8_look_49 : decode cX8_look 49 = .ok (.ireturn, 1) := by decide +kernel
theorem dX8_tells_0 : decode cX8_tells 0 = .ok (.bipush 21, 2) := by decide +kernel
theorem dX8_tells_2 : decode cX8_tells 2 = .ok (.iconst 5, 1) := by decide +kernel
theorem dX8_tells_3 : decode cX8_tells 3 = .ok (.aload_n 0, 1) := by decide +kernel
theorem dX8_tells_4 : decode cX8_tells 4 = .ok (.getfield 7, 3) := by decide +kernel
theorem dX8_tells_7 : decode cX8_tells 7 = .ok (.iconst 1, 1) := by decide +kernel
theorem dX8_tells_8 : decode cX8_tells 8 = .ok (.iaload, 1) := by decide +kernel
theorem dX8_tells_9 : decode cX8_tells 9 = .ok (.imul, 1) := by decide +kernel
theorem dX8_tells_10 : decode cX8_tells 10 = .ok (.iadd, 1) := by decide +kernel
theorem dX8_tells_11 : decode cX8_tells 11 = .ok (.istore 5, 2) := by decide +kernel
theorem dX8_tells_13 : decode cX8_tells 13 = .ok (.aload_n 0, 1) := by decide +kernel
theorem dX8_tells_14 : decode cX8_tells 14 = .ok (.getfield 7, 3) := by decide +kernel
theorem dX8_tells_17 : decode cX8_tells 17 = .ok (.iload 5, 2) := by decide +kernel
theorem dX8_tells_19 : decode cX8_tells 19 = .ok (.iconst 0, 1) := by decide +kernel
theorem dX8_tells_20 : decode cX8_tells 20 = .ok (.iadd, 1) := by decide +kernel
theorem dX8_tells_21 : decode cX8_tells 21 = .ok (.iload_n 1, 1) := by decide +kernel
theorem dX8_tells_22 : decode cX8_tells 22 = .ok (.iastore, 1) := by decide +kernel
theorem dX8_tells_23 : decode cX8_tells 23 = .ok (.aload_n 0, 1) := by decide +kernel
theorem dX8_tells_24 : decode cX8_tells 24 = .ok (.getfield 7, 3) := by decide +kernel
theorem dX8_tells_27 : decode cX8_tells 27 = .ok (.iload 5, 2) := by decide +kernel
theorem dX8_tells_29 : decode cX8_tells 29 = .ok (.iconst 1, 1) := by decide +kernel
theorem dX8_tells_30 : decode cX8_tells 30 = .ok (.iadd, 1) := by decide +kernel
theorem dX8_tells_31 : decode cX8_tells 31 = .ok (.iload_n 2, 1) := by decide +kernel
theorem dX8_tells_32 : decode cX8_tells 32 = .ok (.iastore, 1) := by decide +kernel
theorem dX8_tells_33 : decode cX8_tells 33 = .ok (.aload_n 0, 1) := by decide +kernel
theorem dX8_tells_34 : decode cX8_tells 34 = .ok (.getfield 7, 3) := by decide +kernel
theorem dX8_tells_37 : decode cX8_tells 37 = .ok (.iload 5, 2) := by decide +kernel
theorem dX8_tells_39 : decode cX8_tells 39 = .ok (.iconst 2, 1) := by decide +kernel
theorem dX8_tells_40 : decode cX8_tells 40 = .ok (.iadd, 1) := by decide +kernel
theorem dX8_tells_41 : decode cX8_tells 41 = .ok (.iload_n 3, 1) := by decide +kernel
theorem dX8_tells_42 : decode cX8_tells 42 = .ok (.iastore, 1) := by decide +kernel
theorem dX8_tells_43 : decode cX8_tells 43 = .ok (.aload_n 0, 1) := by decide +kernel
theorem dX8_tells_44 : decode cX8_tells 44 = .ok (.getfield 7, 3) := by decide +kernel
theorem dX8_tells_47 : decode cX8_tells 47 = .ok (.iload 5, 2) := by decide +kernel
theorem dX8_tells_49 : decode cX8_tells 49 = .ok (.iconst 3, 1) := by decide +kernel
theorem dX8_tells_50 : decode cX8_tells 50 = .ok (.iadd, 1) := by decide +kernel
theorem dX8_tells_51 : decode cX8_tells 51 = .ok (.iload 4, 2) := by decide +kernel
theorem dX8_tells_53 : decode cX8_tells 53 = .ok (.iastore, 1) := by decide +kernel
theorem dX8_tells_54 : decode cX8_tells 54 = .ok (.aload_n 0, 1) := by decide +kernel
theorem dX8_tells_55 : decode cX8_tells 55 = .ok (.getfield 7, 3) := by decide +kernel
theorem dX8_tells_58 : decode cX8_tells 58 = .ok (.iload 5, 2) := by decide +kernel
theorem dX8_tells_60 : decode cX8_tells 60 = .ok (.iconst 4, 1) := by decide +kernel
theorem dX8_tells_61 : decode cX8_tells 61 = .ok (.iadd, 1) := by decide +kernel
theorem dX8_tells_62 : decode cX8_tells 62 = .ok (.iconst 0, 1) := by decide +kernel
theorem dX8_tells_63 : decode cX8_tells 63 = .ok (.iastore, 1) := by decide +kernel
theorem dX8_tells_64 : decode cX8_tells 64 = .ok (.aload_n 0, 1) := by decide +kernel
theorem dX8_tells_65 : decode cX8_tells 65 = .ok (.getfield 7, 3) := by decide +kernel
theorem dX8_tells_68 : decode cX8_tells 68 = .ok (.iconst 1, 1) := by decide +kernel
theorem dX8_tells_69 : decode cX8_tells 69 = .ok (.dup2, 1) := by decide +kernel
theorem dX8_tells_70 : decode cX8_tells 70 = .ok (.iaload, 1) := by decide +kernel
theorem dX8_tells_71 : decode cX8_tells 71 = .ok (.iconst 1, 1) := by decide +kernel
theorem dX8_tells_72 : decode cX8_tells 72 = .ok (.iadd, 1) := by decide +kernel
theorem dX8_tells_73 : decode cX8_tells 73 = .ok (.iastore, 1) := by decide +kernel
theorem dX8_tells_74 : decode cX8_tells 74 = .ok (.aload_n 0, 1) := by decide +kernel
theorem dX8_tells_75 : decode cX8_tells 75 = .ok (.getfield 7, 3) := by decide +kernel
theorem dX8_tells_78 : decode cX8_tells 78 = .ok (.iconst 1, 1) := by decide +kernel
theorem dX8_tells_79 : decode cX8_tells 79 = .ok (.iaload, 1) := by decide +kernel
theorem dX8_tells_80 : decode cX8_tells 80 = .ok (.iconst 1, 1) := by decide +kernel
theorem dX8_tells_81 : decode cX8_tells 81 = .ok (.isub, 1) := by decide +kernel
theorem dX8_tells_82 : decode cX8_tells 82 = .ok (.ireturn, 1) := by decide +kernel
theorem dX8_tell_0 : decode cX8_tell 0 = .ok (.aload_n 0, 1) := by decide +kernel
theorem dX8_tell_1 : decode cX8_tell 1 = .ok (.iload_n 1, 1) := by decide +kernel
theorem dX8_tell_2 : decode cX8_tell 2 = .ok (.invokevirtual 57, 3) := by decide +kernel
theorem dX8_tell_5 : decode cX8_tell 5 = .ok (.ifCond .ne 5, 3) := by decide +kernel
theorem dX8_tell_8 : decode cX8_tell 8 = .ok (.iconst (-1), 1) := by decide +kernel
theorem dX8_tell_9 : decode cX8_tell 9 = .ok (.ireturn, 1) := by decide +kernel
theorem dX8_tell_10 : decode cX8_tell 10 = .ok (.aload_n 0, 1) := by decide +kernel
theorem dX8_tell_11 : decode cX8_tell 11 = .ok (.iload_n 2, 1) := by decide +kernel
theorem dX8_tell_12 : decode cX8_tell 12 = .ok (.iload_n 3, 1) := by decide +kernel
theorem dX8_tell_13 : decode cX8_tell 13 = .ok (.iload 4, 2) := by decide +kernel
theorem dX8_tell_15 : decode cX8_tell 15 = .ok (.invokevirtual 108, 3) := by decide +kernel
theorem dX8_tell_18 : decode cX8_tell 18 = .ok (.ifCond .ne 6, 3) := by decide +kernel
theorem dX8_tell_21 : decode cX8_tell 21 = .ok (.bipush (-2), 2) := by decide +kernel
theorem dX8_tell_23 : decode cX8_tell 23 = .ok (.ireturn, 1) := by decide +kernel
theorem dX8_tell_24 : decode cX8_tell 24 = .ok (.aload_n 0, 1) := by decide +kernel
theorem dX8_tell_25 : decode cX8_tell 25 = .ok (.getfield 7, 3) := by decide +kernel
theorem dX8_tell_28 : decode cX8_tell 28 = .ok (.iconst 1, 1) := by decide +kernel
theorem dX8_tell_29 : decode cX8_tell 29 = .ok (.iaload, 1) := by decide +kernel
theorem dX8_tell_30 : decode cX8_tell 30 = .ok (.bipush 20, 2) := by decide +kernel
theorem dX8_tell_32 : decode cX8_tell 32 = .ok (.if_icmp .ne 6, 3) := by decide +kernel
theorem dX8_tell_35 : decode cX8_tell 35 = .ok (.bipush (-4), 2) := by decide +kernel
theorem dX8_tell_37 : decode cX8_tell 37 = .ok (.ireturn, 1) := by decide +kernel
theorem dX8_tell_38 : decode cX8_tell 38 = .ok (.aload_n 0, 1) := by decide +kernel
theorem dX8_tell_39 : decode cX8_tell 39 = .ok (.invokevirtual 105, 3) := by decide +kernel
theorem dX8_tell_42 : decode cX8_tell 42 = .ok (.aload_n 0, 1) := by decide +kernel
theorem dX8_tell_43 : decode cX8_tell 43 = .ok (.iload_n 1, 1) := by decide +kernel
theorem dX8_tell_44 : decode cX8_tell 44 = .ok (.iload_n 2, 1) := by decide +kernel
theorem dX8_tell_45 : decode cX8_tell 45 = .ok (.iload_n 3, 1) := by decide +kernel
theorem dX8_tell_46 : decode cX8_tell 46 = .ok (.iload 4, 2) := by decide +kernel
theorem dX8_tell_48 : decode cX8_tell 48 = .ok (.invokevirtual 111, 3) := by decide +kernel
theorem dX8_tell_51 : decode cX8_tell 51 = .ok (.ireturn, 1) := by decide +kernel
theorem dX8_lookThrough_0 : decode cX8_lookThrough 0 = .ok (.iconst 1, 1) := by decide +kernel
theorem dX8_lookThrough_1 : decode cX8_lookThrough 1 = .ok (.istore_n 1, 1) := by decide +kernel
theorem dX8_lookThrough_2 : decode cX8_lookThrough 2 = .ok (.iconst 1, 1) := by decide +kernel
theorem dX8_lookThrough_3 : decode cX8_lookThrough 3 = .ok (.istore_n 2, 1) := by decide +kernel
theorem dX8_lookThrough_4 : decode cX8_lookThrough 4 = .ok (.iconst 0, 1) := by decide +kernel
theorem dX8_lookThrough_5 : decode cX8_lookThrough 5 = .ok (.istore_n 3, 1) := by decide +kernel
theorem dX8_lookThrough_6 : decode cX8_lookThrough 6 = .ok (.aload_n 0, 1) := by decide +kernel
theorem dX8_lookThrough_7 : decode cX8_lookThrough 7 = .ok (.iconst 0, 1) := by decide +kernel
theorem dX8_lookThrough_8 : decode cX8_lookThrough 8 = .ok (.putfield 115, 3) := by decide +kernel
theorem dX8_lookThrough_11 : decode cX8_lookThrough 11 = .ok (.aload_n 0, 1) := by decide +kernel
theorem dX8_lookThrough_12 : decode cX8_lookThrough 12 = .ok (.getfield 115, 3) := by decide +kernel
theorem dX8_lookThrough_15 : decode cX8_lookThrough 15 = .ok (.aload_n 0, 1) := by decide +kernel
theorem dX8_lookThrough_16 : decode cX8_lookThrough 16 = .ok (.getfield 118, 3) := by decide +kernel
theorem dX8_lookThrough_19 : decode cX8_lookThrough 19 = .ok (.if_icmp .ge 71, 3) := by decide +kernel
theorem dX8_lookThrough_22 : decode cX8_lookThrough 22 = .ok (.aload_n 0, 1) := by decide +kernel
theorem dX8_lookThrough_23 : decode cX8_lookThrough 23 = .ok (.invokevirtual 121, 3) := by decide +kernel
theorem dX8_lookThrough_26 : decode cX8_lookThrough 26 = .ok (.pop, 1) := by decide +kernel
theorem dX8_lookThrough_27 : decode cX8_lookThrough 27 = .ok (.aload_n 0, 1) := by decide +kernel
theorem dX8_lookThrough_28 : decode cX8_lookThrough 28 = .ok (.bipush 44, 2) := by decide +kernel
theorem dX8_lookThrough_30 : decode cX8_lookThrough 30 = .ok (.invokevirtual 125, 3) := by decide +kernel
theorem dX8_lookThrough_33 : decode cX8_lookThrough 33 = .ok (.pop, 1) := by decide +kernel
theorem dX8_lookThrough_34 : decode cX8_lookThrough 34 = .ok (.iload_n 1, 1) := by decide +kernel
theorem dX8_lookThrough_35 : decode cX8_lookThrough 35 = .ok (.ifCond .eq 18, 3) := by decide +kernel
theorem dX8_lookThrough_38 : decode cX8_lookThrough 38 = .ok (.aload_n 0, 1) := by decide +kernel
theorem dX8_lookThrough_39 : decode cX8_lookThrough 39 = .ok (.aload_n 0, 1) := by decide +kernel
theorem dX8_lookThrough_40 : decode cX8_lookThrough 40 = .ok (.getfield 128, 3) := by decide +kernel
theorem dX8_lookThrough_43 : decode cX8_lookThrough 43 = .ok (.invokevirtual 57, 3) := by decide +kernel
theorem dX8_lookThrough_46 : decode cX8_lookThrough 46 = .ok (.ifCond .eq 7, 3) := by decide +kernel
theorem dX8_lookThrough_49 : decode cX8_lookThrough 49 = .ok (.iconst 1, 1) := by decide +kernel
theorem dX8_lookThrough_50 : decode cX8_lookThrough 50 = .ok (.goto 4, 3) := by decide +kernel
theorem dX8_lookThrough_53 : decode cX8_lookThrough 53 = .ok (.iconst 0, 1) := by decide +kernel
theorem dX8_lookThrough_54 : decode cX8_lookThrough 54 = .ok (.istore_n 1, 1) := by decide +kernel
theorem dX8_lookThrough_55 : decode cX8_lookThrough 55 = .ok (.iload_n 2, 1) := by decide +kernel
theorem dX8_lookThrough_56 : decode cX8_lookThrough 56 = .ok (.ifCond .eq 26, 3) := by decide +kernel
theorem dX8_lookThrough_59 : decode cX8_lookThrough 59 = .ok (.aload_n 0, 1) := by decide +kernel
theorem dX8_lookThrough_60 : decode cX8_lookThrough 60 = .ok (.aload_n 0, 1) := by decide +kernel
theorem dX8_lookThrough_61 : decode cX8_lookThrough 61 = .ok (.getfield 131, 3) := by decide +kernel
theorem dX8_lookThrough_64 : decode cX8_lookThrough 64 = .ok (.aload_n 0, 1) := by decide +kernel
theorem dX8_lookThrough_65 : decode cX8_lookThrough 65 = .ok (.getfield 134, 3) := by decide +kernel
theorem dX8_lookThrough_68 : decode cX8_lookThrough 68 = .ok (.aload_n 0, 1) := by decide +kernel
theorem dX8_lookThrough_69 : decode cX8_lookThrough 69 = .ok (.getfield 137, 3) := by decide +kernel
theorem dX8_lookThrough_72 : decode cX8_lookThrough 72 = .ok (.invokevirtual 108, 3) := by decide +kernel
theorem dX8_lookThrough_75 : decode cX8_lookThrough 75 = .ok (.ifCond .eq 7, 3) := by decide +kernel
theorem dX8_lookThrough_78 : decode cX8_lookThrough 78 = .ok (.iconst 1, 1) := by decide +kernel
theorem dX8_lookThrough_79 : decode cX8_lookThrough 79 = .ok (.goto 4, 3) := by decide +kernel
theorem dX8_lookThrough_82 : decode cX8_lookThrough 82 = .ok (.iconst 0, 1) := by decide +kernel
theorem dX8_lookThrough_83 : decode cX8_lookThrough 83 = .ok (.istore_n 2, 1) := by decide +kernel
theorem dX8_lookThrough_84 : decode cX8_lookThrough 84 = .ok (.iinc 3 1, 3) := by decide +kernel
theorem dX8_lookThrough_87 : decode cX8_lookThrough 87 = .ok (.goto (-76), 3) := by decide +kernel
theorem dX8_lookThrough_90 : decode cX8_lookThrough 90 = .ok (.iload_n 1, 1) := by decide +kernel
theorem dX8_lookThrough_91 : decode cX8_lookThrough 91 = .ok (.ifCond .ne 7, 3) := by decide +kernel
theorem dX8_lookThrough_94 : decode cX8_lookThrough 94 = .ok (.iconst (-1), 1) := by decide +kernel
theorem dX8_lookThrough_95 : decode cX8_lookThrough 95 = .ok (.goto 13, 3) := by decide +kernel
theorem dX8_lookThrough_98 : decode cX8_lookThrough 98 = .ok (.iload_n 2, 1) := by decide +kernel
theorem dX8_lookThrough_99 : decode cX8_lookThrough 99 = .ok (.ifCond .eq 7, 3) := by decide +kernel
theorem dX8_lookThrough_102 : decode cX8_lookThrough 102 = .ok (.iload_n 3, 1) := by decide +kernel
theorem dX8_lookThrough_103 : decode cX8_lookThrough 103 = .ok (.goto 5, 3) := by decide +kernel
theorem dX8_lookThrough_106 : decode cX8_lookThrough 106 = .ok (.bipush (-2), 2) := by decide +kernel
theorem dX8_lookThrough_108 : decode cX8_lookThrough 108 = .ok (.ireturn, 1) := by decide +kernel
theorem dX8_tellAll_0 : decode cX8_tellAll 0 = .ok (.aload_n 0, 1) := by decide +kernel
theorem dX8_tellAll_1 : decode cX8_tellAll 1 = .ok (.invokevirtual 140, 3) := by decide +kernel
theorem dX8_tellAll_4 : decode cX8_tellAll 4 = .ok (.bipush (-6), 2) := by decide +kernel
theorem dX8_tellAll_6 : decode cX8_tellAll 6 = .ok (.if_icmp .eq 6, 3) := by decide +kernel
theorem dX8_tellAll_9 : decode cX8_tellAll 9 = .ok (.bipush (-3), 2) := by decide +kernel
theorem dX8_tellAll_11 : decode cX8_tellAll 11 = .ok (.ireturn, 1) := by decide +kernel
theorem dX8_tellAll_12 : decode cX8_tellAll 12 = .ok (.aload_n 0, 1) := by decide +kernel
theorem dX8_tellAll_13 : decode cX8_tellAll 13 = .ok (.invokevirtual 143, 3) := by decide +kernel
theorem dX8_tellAll_16 : decode cX8_tellAll 16 = .ok (.istore_n 1, 1) := by decide +kernel
theorem dX8_tellAll_17 : decode cX8_tellAll 17 = .ok (.iload_n 1, 1) := by decide +kernel
theorem dX8_tellAll_18 : decode cX8_tellAll 18 = .ok (.ifCond .ge 5, 3) := by decide +kernel
theorem dX8_tellAll_21 : decode cX8_tellAll 21 = .ok (.iload_n 1, 1) := by decide +kernel
theorem dX8_tellAll_22 : decode cX8_tellAll 22 = .ok (.ireturn, 1) := by decide +kernel
theorem dX8_tellAll_23 : decode cX8_tellAll 23 = .ok (.aload_n 0, 1) := by decide +kernel
theorem dX8_tellAll_24 : decode cX8_tellAll 24 = .ok (.getfield 7, 3) := by decide +kernel
theorem dX8_tellAll_27 : decode cX8_tellAll 27 = .ok (.iconst 1, 1) := by decide +kernel
theorem dX8_tellAll_28 : decode cX8_tellAll 28 = .ok (.iaload, 1) := by decide +kernel
theorem dX8_tellAll_29 : decode cX8_tellAll 29 = .ok (.iload_n 1, 1) := by decide +kernel
theorem dX8_tellAll_30 : decode cX8_tellAll 30 = .ok (.iadd, 1) := by decide +kernel
theorem dX8_tellAll_31 : decode cX8_tellAll 31 = .ok (.bipush 20, 2) := by decide +kernel
theorem dX8_tellAll_33 : decode cX8_tellAll 33 = .ok (.if_icmp .le 6, 3) := by decide +kernel
theorem dX8_tellAll_36 : decode cX8_tellAll 36 = .ok (.bipush (-4), 2) := by decide +kernel
theorem dX8_tellAll_38 : decode cX8_tellAll 38 = .ok (.ireturn, 1) := by decide +kernel
theorem dX8_tellAll_39 : decode cX8_tellAll 39 = .ok (.aload_n 0, 1) := by decide +kernel
theorem dX8_tellAll_40 : decode cX8_tellAll 40 = .ok (.invokevirtual 105, 3) := by decide +kernel
theorem dX8_tellAll_43 : decode cX8_tellAll 43 = .ok (.aload_n 0, 1) := by decide +kernel
theorem dX8_tellAll_44 : decode cX8_tellAll 44 = .ok (.iconst 0, 1) := by decide +kernel
theorem dX8_tellAll_45 : decode cX8_tellAll 45 = .ok (.putfield 115, 3) := by decide +kernel
theorem dX8_tellAll_48 : decode cX8_tellAll 48 = .ok (.aload_n 0, 1) := by decide +kernel
theorem dX8_tellAll_49 : decode cX8_tellAll 49 = .ok (.getfield 115, 3) := by decide +kernel
theorem dX8_tellAll_52 : decode cX8_tellAll 52 = .ok (.aload_n 0, 1) := by decide +kernel
theorem dX8_tellAll_53 : decode cX8_tellAll 53 = .ok (.getfield 118, 3) := by decide +kernel
theorem dX8_tellAll_56 : decode cX8_tellAll 56 = .ok (.if_icmp .ge 39, 3) := by decide +kernel
theorem dX8_tellAll_59 : decode cX8_tellAll 59 = .ok (.aload_n 0, 1) := by decide +kernel
theorem dX8_tellAll_60 : decode cX8_tellAll 60 = .ok (.invokevirtual 121, 3) := by decide +kernel
theorem dX8_tellAll_63 : decode cX8_tellAll 63 = .ok (.pop, 1) := by decide +kernel
theorem dX8_tellAll_64 : decode cX8_tellAll 64 = .ok (.aload_n 0, 1) := by decide +kernel
theorem dX8_tellAll_65 : decode cX8_tellAll 65 = .ok (.bipush 44, 2) := by decide +kernel
theorem dX8_tellAll_67 : decode cX8_tellAll 67 = .ok (.invokevirtual 125, 3) := by decide +kernel
theorem dX8_tellAll_70 : decode cX8_tellAll 70 = .ok (.pop, 1) := by decide +kernel
theorem dX8_tellAll_71 : decode cX8_tellAll 71 = .ok (.aload_n 0, 1) := by decide +kernel
theorem dX8_tellAll_72 : decode cX8_tellAll 72 = .ok (.aload_n 0, 1) := by decide +kernel
theorem dX8_tellAll_73 : decode cX8_tellAll 73 = .ok (.getfield 128, 3) := by decide +kernel
theorem dX8_tellAll_76 : decode cX8_tellAll 76 = .ok (.aload_n 0, 1) := by decide +kernel
theorem dX8_tellAll_77 : decode cX8_tellAll 77 = .ok (.getfield 131, 3) := by decide +kernel
theorem dX8_tellAll_80 : decode cX8_tellAll 80 = .ok (.aload_n 0, 1) := by decide +kernel
theorem dX8_tellAll_81 : decode cX8_tellAll 81 = .ok (.getfield 134, 3) := by decide +kernel
theorem dX8_tellAll_84 : decode cX8_tellAll 84 = .ok (.aload_n 0, 1) := by decide +kernel
theorem dX8_tellAll_85 : decode cX8_tellAll 85 = .ok (.getfield 137, 3) := by decide +kernel
theorem dX8_tellAll_88 : decode cX8_tellAll 88 = .ok (.invokevirtual 111, 3) := by decide +kernel
theorem dX8_tellAll_91 : decode cX8_tellAll 91 = .ok (.pop, 1) := by decide +kernel
theorem dX8_tellAll_92 : decode cX8_tellAll 92 = .ok (.goto (-44), 3) := by decide +kernel
theorem dX8_tellAll_95 : decode cX8_tellAll 95 = .ok (.aload_n 0, 1) := by decide +kernel
theorem dX8_tellAll_96 : decode cX8_tellAll 96 = .ok (.iconst 0, 1) := by decide +kernel
theorem dX8_tellAll_97 : decode cX8_tellAll 97 = .ok (.putfield 118, 3) := by decide +kernel
theorem dX8_tellAll_100 : decode cX8_tellAll 100 = .ok (.iload_n 1, 1) := by decide +kernel
theorem dX8_tellAll_101 : decode cX8_tellAll 101 = .ok (.ireturn, 1) := by decide +kernel
theorem dX8_prove_0 : decode cX8_prove 0 = .ok (.aload_n 0, 1) := by decide +kernel
theorem dX8_prove_1 : decode cX8_prove 1 = .ok (.iload_n 1, 1) := by decide +kernel
theorem dX8_prove_2 : decode cX8_prove 2 = .ok (.invokevirtual 146, 3) := by decide +kernel
theorem dX8_prove_5 : decode cX8_prove 5 = .ok (.ifCond .ne 5, 3) := by decide +kernel
theorem dX8_prove_8 : decode cX8_prove 8 = .ok (.iconst (-1), 1) := by decide +kernel
theorem dX8_prove_9 : decode cX8_prove 9 = .ok (.ireturn, 1) := by decide +kernel
theorem dX8_prove_10 : decode cX8_prove 10 = .ok (.aload_n 0, 1) := by decide +kernel
theorem dX8_prove_11 : decode cX8_prove 11 = .ok (.iload_n 1, 1) := by decide +kernel
theorem dX8_prove_12 : decode cX8_prove 12 = .ok (.invokevirtual 74, 3) := by decide +kernel
theorem dX8_prove_15 : decode cX8_prove 15 = .ok (.ifCond .ne 6, 3) := by decide +kernel
theorem dX8_prove_18 : decode cX8_prove 18 = .ok (.bipush (-5), 2) := by decide +kernel
theorem dX8_prove_20 : decode cX8_prove 20 = .ok (.ireturn, 1) := by decide +kernel
theorem dX8_prove_21 : decode cX8_prove 21 = .ok (.aload_n 0, 1) := by decide +kernel
theorem dX8_prove_22 : decode cX8_prove 22 = .ok (.invokevirtual 105, 3) := by decide +kernel
theorem dX8_prove_25 : decode cX8_prove 25 = .ok (.aload_n 0, 1) := by decide +kernel
theorem dX8_prove_26 : decode cX8_prove 26 = .ok (.iload_n 1, 1) := by decide +kernel
theorem dX8_prove_27 : decode cX8_prove 27 = .ok (.iload_n 2, 1) := by decide +kernel
theorem dX8_prove_28 : decode cX8_prove 28 = .ok (.ifCond .eq 7, 3) := by decide +kernel
theorem dX8_prove_31 : decode cX8_prove 31 = .ok (.iconst 1, 1) := by decide +kernel
theorem dX8_prove_32 : decode cX8_prove 32 = .ok (.goto 4, 3) := by decide +kernel
theorem dX8_prove_35 : decode cX8_prove 35 = .ok (.iconst 2, 1) := by decide +kernel
theorem dX8_prove_36 : decode cX8_prove 36 = .ok (.invokevirtual 149, 3) := by decide +kernel
theorem dX8_prove_39 : decode cX8_prove 39 = .ok (.aload_n 0, 1) := by decide +kernel
theorem dX8_prove_40 : decode cX8_prove 40 = .ok (.invokevirtual 153, 3) := by decide +kernel
theorem dX8_prove_43 : decode cX8_prove 43 = .ok (.ireturn, 1) := by decide +kernel
theorem dX8_reveal_0 : decode cX8_reveal 0 = .ok (.aload_n 0, 1) := by decide +kernel
theorem dX8_reveal_1 : decode cX8_reveal 1 = .ok (.invokevirtual 105, 3) := by decide +kernel
theorem dX8_reveal_4 : decode cX8_reveal 4 = .ok (.iconst 0, 1) := by decide +kernel
theorem dX8_reveal_5 : decode cX8_reveal 5 = .ok (.istore_n 1, 1) := by decide +kernel
theorem dX8_reveal_6 : decode cX8_reveal 6 = .ok (.iconst 0, 1) := by decide +kernel
theorem dX8_reveal_7 : decode cX8_reveal 7 = .ok (.istore_n 2, 1) := by decide +kernel
theorem dX8_reveal_8 : decode cX8_reveal 8 = .ok (.iload_n 2, 1) := by decide +kernel
theorem dX8_reveal_9 : decode cX8_reveal 9 = .ok (.aload_n 0, 1) := by decide +kernel
theorem dX8_reveal_10 : decode cX8_reveal 10 = .ok (.getfield 7, 3) := by decide +kernel
theorem dX8_reveal_13 : decode cX8_reveal 13 = .ok (.iconst 1, 1) := by decide +kernel
theorem dX8_reveal_14 : decode cX8_reveal 14 = .ok (.iaload, 1) := by decide +kernel
theorem dX8_reveal_15 : decode cX8_reveal 15 = .ok (.if_icmp .ge 38, 3) := by decide +kernel
theorem dX8_reveal_18 : decode cX8_reveal 18 = .ok (.aload_n 0, 1) := by decide +kernel
theorem dX8_reveal_19 : decode cX8_reveal 19 = .ok (.iload_n 2, 1) := by decide +kernel
theorem dX8_reveal_20 : decode cX8_reveal 20 = .ok (.invokevirtual 74, 3) := by decide +kernel
theorem dX8_reveal_23 : decode cX8_reveal 23 = .ok (.ifCond .eq 24, 3) := by decide +kernel
theorem dX8_reveal_26 : decode cX8_reveal 26 = .ok (.aload_n 0, 1) := by decide +kernel
theorem dX8_reveal_27 : decode cX8_reveal 27 = .ok (.iload_n 2, 1) := by decide +kernel
theorem dX8_reveal_28 : decode cX8_reveal 28 = .ok (.aload_n 0, 1) := by decide +kernel
theorem dX8_reveal_29 : decode cX8_reveal 29 = .ok (.iload_n 2, 1) := by decide +kernel
theorem dX8_reveal_30 : decode cX8_reveal 30 = .ok (.invokevirtual 156, 3) := by decide +kernel
theorem dX8_reveal_33 : decode cX8_reveal 33 = .ok (.ifCond .eq 7, 3) := by decide +kernel
theorem dX8_reveal_36 : decode cX8_reveal 36 = .ok (.iconst 1, 1) := by decide +kernel
theorem dX8_reveal_37 : decode cX8_reveal 37 = .ok (.goto 4, 3) := by decide +kernel
theorem dX8_reveal_40 : decode cX8_reveal 40 = .ok (.iconst 2, 1) := by decide +kernel
theorem dX8_reveal_41 : decode cX8_reveal 41 = .ok (.invokevirtual 149, 3) := by decide +kernel
theorem dX8_reveal_44 : decode cX8_reveal 44 = .ok (.iinc 1 1, 3) := by decide +kernel
theorem dX8_reveal_47 : decode cX8_reveal 47 = .ok (.iinc 2 1, 3) := by decide +kernel
theorem dX8_reveal_50 : decode cX8_reveal 50 = .ok (.goto (-42), 3) := by decide +kernel
theorem dX8_reveal_53 : decode cX8_reveal 53 = .ok (.iload_n 1, 1) := by decide +kernel
theorem dX8_reveal_54 : decode cX8_reveal 54 = .ok (.ireturn, 1) := by decide +kernel
theorem dX8_doubt_0 : decode cX8_doubt 0 = .ok (.aload_n 0, 1) := by decide +kernel
theorem dX8_doubt_1 : decode cX8_doubt 1 = .ok (.iload_n 1, 1) := by decide +kernel
theorem dX8_doubt_2 : decode cX8_doubt 2 = .ok (.invokevirtual 146, 3) := by decide +kernel
theorem dX8_doubt_5 : decode cX8_doubt 5 = .ok (.ifCond .ne 5, 3) := by decide +kernel
theorem dX8_doubt_8 : decode cX8_doubt 8 = .ok (.iconst (-1), 1) := by decide +kernel
theorem dX8_doubt_9 : decode cX8_doubt 9 = .ok (.ireturn, 1) := by decide +kernel
theorem dX8_doubt_10 : decode cX8_doubt 10 = .ok (.aload_n 0, 1) := by decide +kernel
theorem dX8_doubt_11 : decode cX8_doubt 11 = .ok (.iload_n 1, 1) := by decide +kernel
theorem dX8_doubt_12 : decode cX8_doubt 12 = .ok (.invokevirtual 74, 3) := by decide +kernel
theorem dX8_doubt_15 : decode cX8_doubt 15 = .ok (.ifCond .eq 6, 3) := by decide +kernel
theorem dX8_doubt_18 : decode cX8_doubt 18 = .ok (.bipush (-5), 2) := by decide +kernel
theorem dX8_doubt_20 : decode cX8_doubt 20 = .ok (.ireturn, 1) := by decide +kernel
theorem dX8_doubt_21 : decode cX8_doubt 21 = .ok (.aload_n 0, 1) := by decide +kernel
theorem dX8_doubt_22 : decode cX8_doubt 22 = .ok (.invokevirtual 105, 3) := by decide +kernel
theorem dX8_doubt_25 : decode cX8_doubt 25 = .ok (.aload_n 0, 1) := by decide +kernel
theorem dX8_doubt_26 : decode cX8_doubt 26 = .ok (.iload_n 1, 1) := by decide +kernel
theorem dX8_doubt_27 : decode cX8_doubt 27 = .ok (.iconst 0, 1) := by decide +kernel
theorem dX8_doubt_28 : decode cX8_doubt 28 = .ok (.invokevirtual 149, 3) := by decide +kernel
theorem dX8_doubt_31 : decode cX8_doubt 31 = .ok (.aload_n 0, 1) := by decide +kernel
theorem dX8_doubt_32 : decode cX8_doubt 32 = .ok (.invokevirtual 153, 3) := by decide +kernel
theorem dX8_doubt_35 : decode cX8_doubt 35 = .ok (.ireturn, 1) := by decide +kernel
theorem dX8_guess_0 : decode cX8_guess 0 = .ok (.aload_n 0, 1) := by decide +kernel
theorem dX8_guess_1 : decode cX8_guess 1 = .ok (.iload_n 1, 1) := by decide +kernel
theorem dX8_guess_2 : decode cX8_guess 2 = .ok (.invokevirtual 57, 3) := by decide +kernel
theorem dX8_guess_5 : decode cX8_guess 5 = .ok (.ifCond .eq 19, 3) := by decide +kernel
theorem dX8_guess_8 : decode cX8_guess 8 = .ok (.aload_n 0, 1) := by decide +kernel
theorem dX8_guess_9 : decode cX8_guess 9 = .ok (.iload_n 2, 1) := by decide +kernel
theorem dX8_guess_10 : decode cX8_guess 10 = .ok (.invokevirtual 57, 3) := by decide +kernel
theorem dX8_guess_13 : decode cX8_guess 13 = .ok (.ifCond .eq 11, 3) := by decide +kernel
theorem dX8_guess_16 : decode cX8_guess 16 = .ok (.aload_n 0, 1) := by decide +kernel
theorem dX8_guess_17 : decode cX8_guess 17 = .ok (.iload_n 3, 1) := by decide +kernel
theorem dX8_guess_18 : decode cX8_guess 18 = .ok (.invokevirtual 57, 3) := by decide +kernel
theorem dX8_guess_21 : decode cX8_guess 21 = .ok (.ifCond .ne 5, 3) := by decide +kernel
theorem dX8_guess_24 : decode cX8_guess 24 = .ok (.iconst (-1), 1) := by decide +kernel
theorem dX8_guess_25 : decode cX8_guess 25 = .ok (.ireturn, 1) := by decide +kernel
theorem dX8_guess_26 : decode cX8_guess 26 = .ok (.iload_n 1, 1) := by decide +kernel
theorem dX8_guess_27 : decode cX8_guess 27 = .ok (.iload_n 2, 1) := by decide +kernel
theorem dX8_guess_28 : decode cX8_guess 28 = .ok (.if_icmp .eq 8, 3) := by decide +kernel
theorem dX8_guess_31 : decode cX8_guess 31 = .ok (.iload_n 2, 1) := by decide +kernel
theorem dX8_guess_32 : decode cX8_guess 32 = .ok (.iload_n 3, 1) := by decide +kernel
theorem dX8_guess_33 : decode cX8_guess 33 = .ok (.if_icmp .ne 6, 3) := by decide +kernel
theorem dX8_guess_36 : decode cX8_guess 36 = .ok (.bipush (-2), 2) := by decide +kernel
theorem dX8_guess_38 : decode cX8_guess 38 = .ok (.ireturn, 1) := by decide +kernel
theorem dX8_guess_39 : decode cX8_guess 39 = .ok (.aload_n 0, 1) := by decide +kernel
theorem dX8_guess_40 : decode cX8_guess 40 = .ok (.getfield 7, 3) := by decide +kernel
theorem dX8_guess_43 : decode cX8_guess 43 = .ok (.bipush 15, 2) := by decide +kernel
theorem dX8_guess_45 : decode cX8_guess 45 = .ok (.iload_n 1, 1) := by decide +kernel
theorem dX8_guess_46 : decode cX8_guess 46 = .ok (.iadd, 1) := by decide +kernel
theorem dX8_guess_47 : decode cX8_guess 47 = .ok (.iaload, 1) := by decide +kernel
theorem dX8_guess_48 : decode cX8_guess 48 = .ok (.iconst 1, 1) := by decide +kernel
theorem dX8_guess_49 : decode cX8_guess 49 = .ok (.if_icmp .ne 6, 3) := by decide +kernel
theorem dX8_guess_52 : decode cX8_guess 52 = .ok (.bipush (-5), 2) := by decide +kernel
theorem dX8_guess_54 : decode cX8_guess 54 = .ok (.ireturn, 1) := by decide +kernel
theorem dX8_guess_55 : decode cX8_guess 55 = .ok (.aload_n 0, 1) := by decide +kernel
theorem dX8_guess_56 : decode cX8_guess 56 = .ok (.invokevirtual 105, 3) := by decide +kernel
theorem dX8_guess_59 : decode cX8_guess 59 = .ok (.aload_n 0, 1) := by decide +kernel
theorem dX8_guess_60 : decode cX8_guess 60 = .ok (.invokevirtual 102, 3) := by decide +kernel
theorem dX8_guess_63 : decode cX8_guess 63 = .ok (.aload_n 0, 1) := by decide +kernel
theorem dX8_guess_64 : decode cX8_guess 64 = .ok (.getfield 7, 3) := by decide +kernel
theorem dX8_guess_67 : decode cX8_guess 67 = .ok (.iconst 3, 1) := by decide +kernel
theorem dX8_guess_68 : decode cX8_guess 68 = .ok (.iload_n 2, 1) := by decide +kernel
theorem dX8_guess_69 : decode cX8_guess 69 = .ok (.iadd, 1) := by decide +kernel
theorem dX8_guess_70 : decode cX8_guess 70 = .ok (.iaload, 1) := by decide +kernel
theorem dX8_guess_71 : decode cX8_guess 71 = .ok (.iload_n 3, 1) := by decide +kernel
theorem dX8_guess_72 : decode cX8_guess 72 = .ok (.if_icmp .ne 7, 3) := by decide +kernel
theorem dX8_guess_75 : decode cX8_guess 75 = .ok (.iconst 1, 1) := by decide +kernel
theorem dX8_guess_76 : decode cX8_guess 76 = .ok (.goto 4, 3) := by decide +kernel
theorem dX8_guess_79 : decode cX8_guess 79 = .ok (.iconst 0, 1) := by decide +kernel
theorem dX8_guess_80 : decode cX8_guess 80 = .ok (.istore 4, 2) := by decide +kernel
theorem dX8_guess_82 : decode cX8_guess 82 = .ok (.aload_n 0, 1) := by decide +kernel
theorem dX8_guess_83 : decode cX8_guess 83 = .ok (.iload_n 2, 1) := by decide +kernel
theorem dX8_guess_84 : decode cX8_guess 84 = .ok (.invokevirtual 159, 3) := by decide +kernel
theorem dX8_guess_87 : decode cX8_guess 87 = .ok (.iload_n 3, 1) := by decide +kernel
theorem dX8_guess_88 : decode cX8_guess 88 = .ok (.if_icmp .ne 7, 3) := by decide +kernel
theorem dX8_guess_91 : decode cX8_guess 91 = .ok (.iconst 1, 1) := by decide +kernel
theorem dX8_guess_92 : decode cX8_guess 92 = .ok (.goto 4, 3) := by decide +kernel
theorem dX8_guess_95 : decode cX8_guess 95 = .ok (.iconst 0, 1) := by decide +kernel
theorem dX8_guess_96 : decode cX8_guess 96 = .ok (.istore 5, 2) := by decide +kernel
theorem dX8_guess_98 : decode cX8_guess 98 = .ok (.aload_n 0, 1) := by decide +kernel
theorem dX8_guess_99 : decode cX8_guess 99 = .ok (.getfield 77, 3) := by decide +kernel
theorem dX8_guess_102 : decode cX8_guess 102 = .ok (.ifCond .le 21, 3) := by decide +kernel
theorem dX8_guess_105 : decode cX8_guess 105 = .ok (.aload_n 0, 1) := by decide +kernel
theorem dX8_guess_106 : decode cX8_guess 106 = .ok (.getfield 28, 3) := by decide +kernel
theorem dX8_guess_109 : decode cX8_guess 109 = .ok (.bipush 6, 2) := by decide +kernel
theorem dX8_guess_111 : decode cX8_guess 111 = .ok (.iload_n 2, 1) := by decide +kernel
theorem dX8_guess_112 : decode cX8_guess 112 = .ok (.imul, 1) := by decide +kernel
theorem dX8_guess_113 : decode cX8_guess 113 = .ok (.iload_n 3, 1) := by decide +kernel
theorem dX8_guess_114 : decode cX8_guess 114 = .ok (.iadd, 1) := by decide +kernel
theorem dX8_guess_115 : decode cX8_guess 115 = .ok (.iaload, 1) := by decide +kernel
theorem dX8_guess_116 : decode cX8_guess 116 = .ok (.ifCond .ne 7, 3) := by decide +kernel
theorem dX8_guess_119 : decode cX8_guess 119 = .ok (.iconst 1, 1) := by decide +kernel
theorem dX8_guess_120 : decode cX8_guess 120 = .ok (.goto 4, 3) := by decide +kernel
theorem dX8_guess_123 : decode cX8_guess 123 = .ok (.iconst 0, 1) := by decide +kernel
theorem dX8_guess_124 : decode cX8_guess 124 = .ok (.istore 6, 2) := by decide +kernel
theorem dX8_guess_126 : decode cX8_guess 126 = .ok (.aload_n 0, 1) := by decide +kernel
theorem dX8_guess_127 : decode cX8_guess 127 = .ok (.getfield 7, 3) := by decide +kernel
theorem dX8_guess_130 : decode cX8_guess 130 = .ok (.bipush 9, 2) := by decide +kernel
theorem dX8_guess_132 : decode cX8_guess 132 = .ok (.iload_n 1, 1) := by decide +kernel
theorem dX8_guess_133 : decode cX8_guess 133 = .ok (.iadd, 1) := by decide +kernel
theorem dX8_guess_134 : decode cX8_guess 134 = .ok (.dup2, 1) := by decide +kernel
theorem dX8_guess_135 : decode cX8_guess 135 = .ok (.iaload, 1) := by decide +kernel
theorem dX8_guess_136 : decode cX8_guess 136 = .ok (.iload 4, 2) := by decide +kernel
theorem dX8_guess_138 : decode cX8_guess 138 = .ok (.ifCond .eq 16, 3) := by decide +kernel
theorem dX8_guess_141 : decode cX8_guess 141 = .ok (.iload 5, 2) := by decide +kernel
theorem dX8_guess_143 : decode cX8_guess 143 = .ok (.ifCond .eq 7, 3) := by decide +kernel
theorem dX8_guess_146 : decode cX8_guess 146 = .ok (.iconst 3, 1) := by decide +kernel
theorem dX8_guess_147 : decode cX8_guess 147 = .ok (.goto 19, 3) := by decide +kernel
theorem dX8_guess_150 : decode cX8_guess 150 = .ok (.iconst 5, 1) := by decide +kernel
theorem dX8_guess_151 : decode cX8_guess 151 = .ok (.goto 15, 3) := by decide +kernel
theorem dX8_guess_154 : decode cX8_guess 154 = .ok (.iload 6, 2) := by decide +kernel
theorem dX8_guess_156 : decode cX8_guess 156 = .ok (.ifCond .eq 8, 3) := by decide +kernel
theorem dX8_guess_159 : decode cX8_guess 159 = .ok (.bipush (-4), 2) := by decide +kernel
theorem dX8_guess_161 : decode cX8_guess 161 = .ok (.goto 5, 3) := by decide +kernel
theorem dX8_guess_164 : decode cX8_guess 164 = .ok (.bipush (-2), 2) := by decide +kernel
theorem dX8_guess_166 : decode cX8_guess 166 = .ok (.iadd, 1) := by decide +kernel
theorem dX8_guess_167 : decode cX8_guess 167 = .ok (.iastore, 1) := by decide +kernel
theorem dX8_guess_168 : decode cX8_guess 168 = .ok (.aload_n 0, 1) := by decide +kernel
theorem dX8_guess_169 : decode cX8_guess 169 = .ok (.getfield 7, 3) := by decide +kernel
theorem dX8_guess_172 : decode cX8_guess 172 = .ok (.bipush 15, 2) := by decide +kernel
theorem dX8_guess_174 : decode cX8_guess 174 = .ok (.iload_n 1, 1) := by decide +kernel
theorem dX8_guess_175 : decode cX8_guess 175 = .ok (.iadd, 1) := by decide +kernel
theorem dX8_guess_176 : decode cX8_guess 176 = .ok (.iconst 1, 1) := by decide +kernel
theorem dX8_guess_177 : decode cX8_guess 177 = .ok (.iastore, 1) := by decide +kernel
theorem dX8_guess_178 : decode cX8_guess 178 = .ok (.aload_n 0, 1) := by decide +kernel
theorem dX8_guess_179 : decode cX8_guess 179 = .ok (.getfield 7, 3) := by decide +kernel
theorem dX8_guess_182 : decode cX8_guess 182 = .ok (.bipush 9, 2) := by decide +kernel
theorem dX8_guess_184 : decode cX8_guess 184 = .ok (.iload_n 1, 1) := by decide +kernel
theorem dX8_guess_185 : decode cX8_guess 185 = .ok (.iadd, 1) := by decide +kernel
theorem dX8_guess_186 : decode cX8_guess 186 = .ok (.iaload, 1) := by decide +kernel
theorem dX8_guess_187 : decode cX8_guess 187 = .ok (.sipush 1000, 3) := by decide +kernel
theorem dX8_guess_190 : decode cX8_guess 190 = .ok (.iadd, 1) := by decide +kernel
theorem dX8_guess_191 : decode cX8_guess 191 = .ok (.ireturn, 1) := by decide +kernel
theorem dX8_endAct_0 : decode cX8_endAct 0 = .ok (.aload_n 0, 1) := by decide +kernel
theorem dX8_endAct_1 : decode cX8_endAct 1 = .ok (.invokevirtual 105, 3) := by decide +kernel
theorem dX8_endAct_4 : decode cX8_endAct 4 = .ok (.iconst 0, 1) := by decide +kernel
theorem dX8_endAct_5 : decode cX8_endAct 5 = .ok (.istore_n 1, 1) := by decide +kernel
theorem dX8_endAct_6 : decode cX8_endAct 6 = .ok (.iload_n 1, 1) := by decide +kernel
theorem dX8_endAct_7 : decode cX8_endAct 7 = .ok (.aload_n 0, 1) := by decide +kernel
theorem dX8_endAct_8 : decode cX8_endAct 8 = .ok (.getfield 7, 3) := by decide +kernel
theorem dX8_endAct_11 : decode cX8_endAct 11 = .ok (.iconst 1, 1) := by decide +kernel
theorem dX8_endAct_12 : decode cX8_endAct 12 = .ok (.iaload, 1) := by decide +kernel
theorem dX8_endAct_13 : decode cX8_endAct 13 = .ok (.if_icmp .ge 39, 3) := by decide +kernel
theorem dX8_endAct_16 : decode cX8_endAct 16 = .ok (.aload_n 0, 1) := by decide +kernel
theorem dX8_endAct_17 : decode cX8_endAct 17 = .ok (.getfield 7, 3) := by decide +kernel
theorem dX8_endAct_20 : decode cX8_endAct 20 = .ok (.bipush 9, 2) := by decide +kernel
theorem dX8_endAct_22 : decode cX8_endAct 22 = .ok (.aload_n 0, 1) := by decide +kernel
theorem dX8_endAct_23 : decode cX8_endAct 23 = .ok (.iload_n 1, 1) := by decide +kernel
theorem dX8_endAct_24 : decode cX8_endAct 24 = .ok (.iconst 0, 1) := by decide +kernel
theorem dX8_endAct_25 : decode cX8_endAct 25 = .ok (.invokevirtual 53, 3) := by decide +kernel
theorem dX8_endAct_28 : decode cX8_endAct 28 = .ok (.iadd, 1) := by decide +kernel
theorem dX8_endAct_29 : decode cX8_endAct 29 = .ok (.dup2, 1) := by decide +kernel
theorem dX8_endAct_30 : decode cX8_endAct 30 = .ok (.iaload, 1) := by decide +kernel
theorem dX8_endAct_31 : decode cX8_endAct 31 = .ok (.aload_n 0, 1) := by decide +kernel
theorem dX8_endAct_32 : decode cX8_endAct 32 = .ok (.iload_n 1, 1) := by decide +kernel
theorem dX8_endAct_33 : decode cX8_endAct 33 = .ok (.invokevirtual 156, 3) := by decide +kernel
theorem dX8_endAct_36 : decode cX8_endAct 36 = .ok (.ifCond .eq 7, 3) := by decide +kernel
theorem dX8_endAct_39 : decode cX8_endAct 39 = .ok (.iconst 1, 1) := by decide +kernel
theorem dX8_endAct_40 : decode cX8_endAct 40 = .ok (.goto 4, 3) := by decide +kernel
theorem dX8_endAct_43 : decode cX8_endAct 43 = .ok (.iconst (-1), 1) := by decide +kernel
theorem dX8_endAct_44 : decode cX8_endAct 44 = .ok (.iadd, 1) := by decide +kernel
theorem dX8_endAct_45 : decode cX8_endAct 45 = .ok (.iastore, 1) := by decide +kernel
theorem dX8_endAct_46 : decode cX8_endAct 46 = .ok (.iinc 1 1, 3) := by decide +kernel
theorem dX8_endAct_49 : decode cX8_endAct 49 = .ok (.goto (-43), 3) := by decide +kernel
theorem dX8_endAct_52 : decode cX8_endAct 52 = .ok (.iconst 0, 1) := by decide +kernel
theorem dX8_endAct_53 : decode cX8_endAct 53 = .ok (.istore_n 1, 1) := by decide +kernel
theorem dX8_endAct_54 : decode cX8_endAct 54 = .ok (.iload_n 1, 1) := by decide +kernel
theorem dX8_endAct_55 : decode cX8_endAct 55 = .ok (.bipush 6, 2) := by decide +kernel
theorem dX8_endAct_57 : decode cX8_endAct 57 = .ok (.if_icmp .ge 19, 3) := by decide +kernel
theorem dX8_endAct_60 : decode cX8_endAct 60 = .ok (.aload_n 0, 1) := by decide +kernel
theorem dX8_endAct_61 : decode cX8_endAct 61 = .ok (.getfield 7, 3) := by decide +kernel
theorem dX8_endAct_64 : decode cX8_endAct 64 = .ok (.bipush 15, 2) := by decide +kernel
theorem dX8_endAct_66 : decode cX8_endAct 66 = .ok (.iload_n 1, 1) := by decide +kernel
theorem dX8_endAct_67 : decode cX8_endAct 67 = .ok (.iadd, 1) := by decide +kernel
theorem dX8_endAct_68 : decode cX8_endAct 68 = .ok (.iconst 0, 1) := by decide +kernel
theorem dX8_endAct_69 : decode cX8_endAct 69 = .ok (.iastore, 1) := by decide +kernel
theorem dX8_endAct_70 : decode cX8_endAct 70 = .ok (.iinc 1 1, 3) := by decide +kernel
theorem dX8_endAct_73 : decode cX8_endAct 73 = .ok (.goto (-19), 3) := by decide +kernel
theorem dX8_endAct_76 : decode cX8_endAct 76 = .ok (.aload_n 0, 1) := by decide +kernel
theorem dX8_endAct_77 : decode cX8_endAct 77 = .ok (.getfield 7, 3) := by decide +kernel
theorem dX8_endAct_80 : decode cX8_endAct 80 = .ok (.iconst 1, 1) := by decide +kernel
theorem dX8_endAct_81 : decode cX8_endAct 81 = .ok (.iconst 0, 1) := by decide +kernel
theorem dX8_endAct_82 : decode cX8_endAct 82 = .ok (.iastore, 1) := by decide +kernel
theorem dX8_endAct_83 : decode cX8_endAct 83 = .ok (.aload_n 0, 1) := by decide +kernel
theorem dX8_endAct_84 : decode cX8_endAct 84 = .ok (.getfield 7, 3) := by decide +kernel
theorem dX8_endAct_87 : decode cX8_endAct 87 = .ok (.iconst 2, 1) := by decide +kernel
theorem dX8_endAct_88 : decode cX8_endAct 88 = .ok (.dup2, 1) := by decide +kernel
theorem dX8_endAct_89 : decode cX8_endAct 89 = .ok (.iaload, 1) := by decide +kernel
theorem dX8_endAct_90 : decode cX8_endAct 90 = .ok (.iconst 1, 1) := by decide +kernel
theorem dX8_endAct_91 : decode cX8_endAct 91 = .ok (.iadd, 1) := by decide +kernel
theorem dX8_endAct_92 : decode cX8_endAct 92 = .ok (.iastore, 1) := by decide +kernel
theorem dX8_endAct_93 : decode cX8_endAct 93 = .ok (.aload_n 0, 1) := by decide +kernel
theorem dX8_endAct_94 : decode cX8_endAct 94 = .ok (.getfield 7, 3) := by decide +kernel
theorem dX8_endAct_97 : decode cX8_endAct 97 = .ok (.iconst 2, 1) := by decide +kernel
theorem dX8_endAct_98 : decode cX8_endAct 98 = .ok (.iaload, 1) := by decide +kernel
theorem dX8_endAct_99 : decode cX8_endAct 99 = .ok (.ireturn, 1) := by decide +kernel
theorem dX8_told_0 : decode cX8_told 0 = .ok (.iconst 0, 1) := by decide +kernel
theorem dX8_told_1 : decode cX8_told 1 = .ok (.istore_n 3, 1) := by decide +kernel
theorem dX8_told_2 : decode cX8_told 2 = .ok (.iconst 0, 1) := by decide +kernel
theorem dX8_told_3 : decode cX8_told 3 = .ok (.istore 4, 2) := by decide +kernel
theorem dX8_told_5 : decode cX8_told 5 = .ok (.iload 4, 2) := by decide +kernel
theorem dX8_told_7 : decode cX8_told 7 = .ok (.aload_n 0, 1) := by decide +kernel
theorem dX8_told_8 : decode cX8_told 8 = .ok (.getfield 7, 3) := by decide +kernel
theorem dX8_told_11 : decode cX8_told 11 = .ok (.iconst 1, 1) := by decide +kernel
theorem dX8_told_12 : decode cX8_told 12 = .ok (.iaload, 1) := by decide +kernel
theorem dX8_told_13 : decode cX8_told 13 = .ok (.if_icmp .ge 41, 3) := by decide +kernel
theorem dX8_told_16 : decode cX8_told 16 = .ok (.iload_n 3, 1) := by decide +kernel
theorem dX8_told_17 : decode cX8_told 17 = .ok (.aload_n 0, 1) := by decide +kernel
theorem dX8_told_18 : decode cX8_told 18 = .ok (.iload 4, 2) := by decide +kernel
theorem dX8_told_20 : decode cX8_told 20 = .ok (.iconst 0, 1) := by decide +kernel
theorem dX8_told_21 : decode cX8_told 21 = .ok (.invokevirtual 53, 3) := by decide +kernel
theorem dX8_told_24 : decode cX8_told 24 = .ok (.iload_n 1, 1) := by decide +kernel
theorem dX8_told_25 : decode cX8_told 25 = .ok (.if_icmp .ne 20, 3) := by decide +kernel
theorem dX8_told_28 : decode cX8_told 28 = .ok (.iload_n 2, 1) := by decide +kernel
theorem dX8_told_29 : decode cX8_told 29 = .ok (.ifCond .eq 12, 3) := by decide +kernel
theorem dX8_told_32 : decode cX8_told 32 = .ok (.aload_n 0, 1) := by decide +kernel
theorem dX8_told_33 : decode cX8_told 33 = .ok (.iload 4, 2) := by decide +kernel
theorem dX8_told_35 : decode cX8_told 35 = .ok (.invokevirtual 156, 3) := by decide +kernel
theorem dX8_told_38 : decode cX8_told 38 = .ok (.ifCond .eq 7, 3) := by decide +kernel
theorem dX8_told_41 : decode cX8_told 41 = .ok (.iconst 1, 1) := by decide +kernel
theorem dX8_told_42 : decode cX8_told 42 = .ok (.goto 4, 3) := by decide +kernel
theorem dX8_told_45 : decode cX8_told 45 = .ok (.iconst 0, 1) := by decide +kernel
theorem dX8_told_46 : decode cX8_told 46 = .ok (.iadd, 1) := by decide +kernel
theorem dX8_told_47 : decode cX8_told 47 = .ok (.istore_n 3, 1) := by decide +kernel
theorem dX8_told_48 : decode cX8_told 48 = .ok (.iinc 4 1, 3) := by decide +kernel
theorem dX8_told_51 : decode cX8_told 51 = .ok (.goto (-46), 3) := by decide +kernel
theorem dX8_told_54 : decode cX8_told 54 = .ok (.iload_n 3, 1) := by decide +kernel
theorem dX8_told_55 : decode cX8_told 55 = .ok (.ireturn, 1) := by decide +kernel
theorem dX8_person_0 : decode cX8_person 0 = .ok (.aload_n 0, 1) := by decide +kernel
theorem dX8_person_1 : decode cX8_person 1 = .ok (.iload_n 1, 1) := by decide +kernel
theorem dX8_person_2 : decode cX8_person 2 = .ok (.invokevirtual 57, 3) := by decide +kernel
theorem dX8_person_5 : decode cX8_person 5 = .ok (.ifCond .ne 5, 3) := by decide +kernel
theorem dX8_person_8 : decode cX8_person 8 = .ok (.iconst (-1), 1) := by decide +kernel
theorem dX8_person_9 : decode cX8_person 9 = .ok (.ireturn, 1) := by decide +kernel
theorem dX8_person_10 : decode cX8_person 10 = .ok (.iload_n 2, 1) := by decide +kernel
theorem dX8_person_11 : decode cX8_person 11 = .ok (.tableswitch 94 0 5 #[37, 46, 60, 70, 77, 84], 37) := by decide +kernel
theorem dX8_person_48 : decode cX8_person 48 = .ok (.aload_n 0, 1) := by decide +kernel
theorem dX8_person_49 : decode cX8_person 49 = .ok (.getfield 7, 3) := by decide +kernel
theorem dX8_person_52 : decode cX8_person 52 = .ok (.iconst 3, 1) := by decide +kernel
theorem dX8_person_53 : decode cX8_person 53 = .ok (.iload_n 1, 1) := by decide +kernel
theorem dX8_person_54 : decode cX8_person 54 = .ok (.iadd, 1) := by decide +kernel
theorem dX8_person_55 : decode cX8_person 55 = .ok (.iaload, 1) := by decide +kernel
theorem dX8_person_56 : decode cX8_person 56 = .ok (.ireturn, 1) := by decide +kernel
theorem dX8_person_57 : decode cX8_person 57 = .ok (.aload_n 0, 1) := by decide +kernel
theorem dX8_person_58 : decode cX8_person 58 = .ok (.getfield 7, 3) := by decide +kernel
theorem dX8_person_61 : decode cX8_person 61 = .ok (.bipush 9, 2) := by decide +kernel
theorem dX8_person_63 : decode cX8_person 63 = .ok (.iload_n 1, 1) := by decide +kernel
theorem dX8_person_64 : decode cX8_person 64 = .ok (.iadd, 1) := by decide +kernel
theorem dX8_person_65 : decode cX8_person 65 = .ok (.iaload, 1) := by decide +kernel
theorem dX8_person_66 : decode cX8_person 66 = .ok (.sipush 1000, 3) := by decide +kernel
theorem dX8_person_69 : decode cX8_person 69 = .ok (.iadd, 1) := by decide +kernel
theorem dX8_person_70 : decode cX8_person 70 = .ok (.ireturn, 1) := by decide +kernel
theorem dX8_person_71 : decode cX8_person 71 = .ok (.aload_n 0, 1) := by decide +kernel
theorem dX8_person_72 : decode cX8_person 72 = .ok (.getfield 7, 3) := by decide +kernel
theorem dX8_person_75 : decode cX8_person 75 = .ok (.bipush 15, 2) := by decide +kernel
theorem dX8_person_77 : decode cX8_person 77 = .ok (.iload_n 1, 1) := by decide +kernel
theorem dX8_person_78 : decode cX8_person 78 = .ok (.iadd, 1) := by decide +kernel
theorem dX8_person_79 : decode cX8_person 79 = .ok (.iaload, 1) := by decide +kernel
theorem dX8_person_80 : decode cX8_person 80 = .ok (.ireturn, 1) := by decide +kernel
theorem dX8_person_81 : decode cX8_person 81 = .ok (.aload_n 0, 1) := by decide +kernel
theorem dX8_person_82 : decode cX8_person 82 = .ok (.iload_n 1, 1) := by decide +kernel
theorem dX8_person_83 : decode cX8_person 83 = .ok (.iconst 0, 1) := by decide +kernel
theorem dX8_person_84 : decode cX8_person 84 = .ok (.invokevirtual 162, 3) := by decide +kernel
theorem dX8_person_87 : decode cX8_person 87 = .ok (.ireturn, 1) := by decide +kernel
theorem dX8_person_88 : decode cX8_person 88 = .ok (.aload_n 0, 1) := by decide +kernel
theorem dX8_person_89 : decode cX8_person 89 = .ok (.iload_n 1, 1) := by decide +kernel
theorem dX8_person_90 : decode cX8_person 90 = .ok (.iconst 1, 1) := by decide +kernel
theorem dX8_person_91 : decode cX8_person 91 = .ok (.invokevirtual 162, 3) := by decide +kernel
theorem dX8_person_94 : decode cX8_person 94 = .ok (.ireturn, 1) := by decide +kernel
theorem dX8_person_95 : decode cX8_person 95 = .ok (.aload_n 0, 1) := by decide +kernel
theorem dX8_person_96 : decode cX8_person 96 = .ok (.invokevirtual 68, 3) := by decide +kernel
theorem dX8_person_99 : decode cX8_person 99 = .ok (.aload_n 0, 1) := by decide +kernel
theorem dX8_person_100 : decode cX8_person 100 = .ok (.iload_n 1, 1) := by decide +kernel
theorem dX8_person_101 : decode cX8_person 101 = .ok (.invokevirtual 61, 3) := by decide +kernel
theorem dX8_person_104 : decode cX8_person 104 = .ok (.ireturn, 1) := by decide +kernel
theorem dX8_person_105 : decode cX8_person 105 = .ok (.bipush (-2), 2) := by decide +kernel
theorem dX8_person_107 : decode cX8_person 107 = .ok (.ireturn, 1) := by decide +kernel
theorem dX8_rumour_0 : decode cX8_rumour 0 = .ok (.aload_n 0, 1) := by decide +kernel
theorem dX8_rumour_1 : decode cX8_rumour 1 = .ok (.iload_n 1, 1) := by decide +kernel
theorem dX8_rumour_2 : decode cX8_rumour 2 = .ok (.invokevirtual 146, 3) := by decide +kernel
theorem dX8_rumour_5 : decode cX8_rumour 5 = .ok (.ifCond .ne 5, 3) := by decide +kernel
theorem dX8_rumour_8 : decode cX8_rumour 8 = .ok (.iconst (-1), 1) := by decide +kernel
theorem dX8_rumour_9 : decode cX8_rumour 9 = .ok (.ireturn, 1) := by decide +kernel
theorem dX8_rumour_10 : decode cX8_rumour 10 = .ok (.iload_n 2, 1) := by decide +kernel
theorem dX8_rumour_11 : decode cX8_rumour 11 = .ok (.tableswitch 73 0 6 #[41, 41, 41, 41, 41, 48, 62], 41) := by decide +kernel
theorem dX8_rumour_52 : decode cX8_rumour 52 = .ok (.aload_n 0, 1) := by decide +kernel
theorem dX8_rumour_53 : decode cX8_rumour 53 = .ok (.iload_n 1, 1) := by decide +kernel
theorem dX8_rumour_54 : decode cX8_rumour 54 = .ok (.iload_n 2, 1) := by decide +kernel
theorem dX8_rumour_55 : decode cX8_rumour 55 = .ok (.invokevirtual 53, 3) := by decide +kernel
theorem dX8_rumour_58 : decode cX8_rumour 58 = .ok (.ireturn, 1) := by decide +kernel
theorem dX8_rumour_59 : decode cX8_rumour 59 = .ok (.aload_n 0, 1) := by decide +kernel
theorem dX8_rumour_60 : decode cX8_rumour 60 = .ok (.iload_n 1, 1) := by decide +kernel
theorem dX8_rumour_61 : decode cX8_rumour 61 = .ok (.invokevirtual 156, 3) := by decide +kernel
theorem dX8_rumour_64 : decode cX8_rumour 64 = .ok (.ifCond .eq 7, 3) := by decide +kernel
theorem dX8_rumour_67 : decode cX8_rumour 67 = .ok (.iconst 1, 1) := by decide +kernel
theorem dX8_rumour_68 : decode cX8_rumour 68 = .ok (.goto 4, 3) := by decide +kernel
theorem dX8_rumour_71 : decode cX8_rumour 71 = .ok (.iconst 0, 1) := by decide +kernel
theorem dX8_rumour_72 : decode cX8_rumour 72 = .ok (.ireturn, 1) := by decide +kernel
theorem dX8_rumour_73 : decode cX8_rumour 73 = .ok (.aload_n 0, 1) := by decide +kernel
theorem dX8_rumour_74 : decode cX8_rumour 74 = .ok (.invokevirtual 102, 3) := by decide +kernel
theorem dX8_rumour_77 : decode cX8_rumour 77 = .ok (.aload_n 0, 1) := by decide +kernel
theorem dX8_rumour_78 : decode cX8_rumour 78 = .ok (.getfield 31, 3) := by decide +kernel
theorem dX8_rumour_81 : decode cX8_rumour 81 = .ok (.iload_n 1, 1) := by decide +kernel
theorem dX8_rumour_82 : decode cX8_rumour 82 = .ok (.iaload, 1) := by decide +kernel
theorem dX8_rumour_83 : decode cX8_rumour 83 = .ok (.ireturn, 1) := by decide +kernel
theorem dX8_rumour_84 : decode cX8_rumour 84 = .ok (.bipush (-2), 2) := by decide +kernel
theorem dX8_rumour_86 : decode cX8_rumour 86 = .ok (.ireturn, 1) := by decide +kernel
theorem dX8_openMany_0 : decode cX8_openMany 0 = .ok (.iconst 0, 1) := by decide +kernel
theorem dX8_openMany_1 : decode cX8_openMany 1 = .ok (.istore_n 1, 1) := by decide +kernel
theorem dX8_openMany_2 : decode cX8_openMany 2 = .ok (.iconst 0, 1) := by decide +kernel
theorem dX8_openMany_3 : decode cX8_openMany 3 = .ok (.istore_n 2, 1) := by decide +kernel
theorem dX8_openMany_4 : decode cX8_openMany 4 = .ok (.iload_n 2, 1) := by decide +kernel
theorem dX8_openMany_5 : decode cX8_openMany 5 = .ok (.aload_n 0, 1) := by decide +kernel
theorem dX8_openMany_6 : decode cX8_openMany 6 = .ok (.getfield 7, 3) := by decide +kernel
theorem dX8_openMany_9 : decode cX8_openMany 9 = .ok (.iconst 1, 1) := by decide +kernel
theorem dX8_openMany_10 : decode cX8_openMany 10 = .ok (.iaload, 1) := by decide +kernel
theorem dX8_openMany_11 : decode cX8_openMany 11 = .ok (.if_icmp .ge 25, 3) := by decide +kernel
theorem dX8_openMany_14 : decode cX8_openMany 14 = .ok (.iload_n 1, 1) := by decide +kernel
theorem dX8_openMany_15 : decode cX8_openMany 15 = .ok (.aload_n 0, 1) := by decide +kernel
theorem dX8_openMany_16 : decode cX8_openMany 16 = .ok (.iload_n 2, 1) := by decide +kernel
theorem dX8_openMany_17 : decode cX8_openMany 17 = .ok (.invokevirtual 74, 3) := by decide +kernel
theorem dX8_openMany_20 : decode cX8_openMany 20 = .ok (.ifCond .eq 7, 3) := by decide +kernel
theorem dX8_openMany_23 : decode cX8_openMany 23 = .ok (.iconst 1, 1) := by decide +kernel
theorem dX8_openMany_24 : decode cX8_openMany 24 = .ok (.goto 4, 3) := by decide +kernel
theorem dX8_openMany_27 : decode cX8_openMany 27 = .ok (.iconst 0, 1) := by decide +kernel
theorem dX8_openMany_28 : decode cX8_openMany 28 = .ok (.iadd, 1) := by decide +kernel
theorem dX8_openMany_29 : decode cX8_openMany 29 = .ok (.istore_n 1, 1) := by decide +kernel
theorem dX8_openMany_30 : decode cX8_openMany 30 = .ok (.iinc 2 1, 3) := by decide +kernel
theorem dX8_openMany_33 : decode cX8_openMany 33 = .ok (.goto (-29), 3) := by decide +kernel
theorem dX8_openMany_36 : decode cX8_openMany 36 = .ok (.iload_n 1, 1) := by decide +kernel
theorem dX8_openMany_37 : decode cX8_openMany 37 = .ok (.ireturn, 1) := by decide +kernel
theorem dX8_certainPersons_0 : decode cX8_certainPersons 0 = .ok (.aload_n 0, 1) := by decide +kernel
theorem dX8_certainPersons_1 : decode cX8_certainPersons 1 = .ok (.invokevirtual 102, 3) := by decide +kernel
theorem dX8_certainPersons_4 : decode cX8_certainPersons 4 = .ok (.iconst 0, 1) := by decide +kernel
theorem dX8_certainPersons_5 : decode cX8_certainPersons 5 = .ok (.istore_n 1, 1) := by decide +kernel
theorem dX8_certainPersons_6 : decode cX8_certainPersons 6 = .ok (.iconst 0, 1) := by decide +kernel
theorem dX8_certainPersons_7 : decode cX8_certainPersons 7 = .ok (.istore_n 2, 1) := by decide +kernel
theorem dX8_certainPersons_8 : decode cX8_certainPersons 8 = .ok (.iload_n 2, 1) := by decide +kernel
theorem dX8_certainPersons_9 : decode cX8_certainPersons 9 = .ok (.aload_n 0, 1) := by decide +kernel
theorem dX8_certainPersons_10 : decode cX8_certainPersons 10 = .ok (.getfield 7, 3) := by decide +kernel
theorem dX8_certainPersons_13 : decode cX8_certainPersons 13 = .ok (.iconst 0, 1) := by decide +kernel
theorem dX8_certainPersons_14 : decode cX8_certainPersons 14 = .ok (.iaload, 1) := by decide +kernel
theorem dX8_certainPersons_15 : decode cX8_certainPersons 15 = .ok (.if_icmp .ge 27, 3) := by decide +kernel
theorem dX8_certainPersons_18 : decode cX8_certainPersons 18 = .ok (.iload_n 1, 1) := by decide +kernel
theorem dX8_certainPersons_19 : decode cX8_certainPersons 19 = .ok (.aload_n 0, 1) := by decide +kernel
theorem dX8_certainPersons_20 : decode cX8_certainPersons 20 = .ok (.iload_n 2, 1) := by decide +kernel
theorem dX8_certainPersons_21 : decode cX8_certainPersons 21 = .ok (.invokevirtual 159, 3) := by decide +kernel
theorem dX8_certainPersons_24 : decode cX8_certainPersons 24 = .ok (.bipush (-6), 2) := by decide +kernel
theorem dX8_certainPersons_26 : decode cX8_certainPersons 26 = .ok (.if_icmp .ne 7, 3) := by decide +kernel
theorem dX8_certainPersons_29 : decode cX8_certainPersons 29 = .ok (.iconst 0, 1) := by decide +kernel
theorem dX8_certainPersons_30 : decode cX8_certainPersons 30 = .ok (.goto 4, 3) := by decide +kernel
theorem dX8_certainPersons_33 : decode cX8_certainPersons 33 = .ok (.iconst 1, 1) := by decide +kernel
theorem dX8_certainPersons_34 : decode cX8_certainPersons 34 = .ok (.iadd, 1) := by decide +kernel
theorem dX8_certainPersons_35 : decode cX8_certainPersons 35 = .ok (.istore_n 1, 1) := by decide +kernel
theorem dX8_certainPersons_36 : decode cX8_certainPersons 36 = .ok (.iinc 2 1, 3) := by decide +kernel
theorem dX8_certainPersons_39 : decode cX8_certainPersons 39 = .ok (.goto (-31), 3) := by decide +kernel
theorem dX8_certainPersons_42 : decode cX8_certainPersons 42 = .ok (.iload_n 1, 1) := by decide +kernel
theorem dX8_certainPersons_43 : decode cX8_certainPersons 43 = .ok (.ireturn, 1) := by decide +kernel
theorem dX8_certainRumours_0 : decode cX8_certainRumours 0 = .ok (.aload_n 0, 1) := by decide +kernel
theorem dX8_certainRumours_1 : decode cX8_certainRumours 1 = .ok (.invokevirtual 102, 3) := by decide +kernel
theorem dX8_certainRumours_4 : decode cX8_certainRumours 4 = .ok (.iconst 0, 1) := by decide +kernel
theorem dX8_certainRumours_5 : decode cX8_certainRumours 5 = .ok (.istore_n 2, 1) := by decide +kernel
theorem dX8_certainRumours_6 : decode cX8_certainRumours 6 = .ok (.iconst 0, 1) := by decide +kernel
theorem dX8_certainRumours_7 : decode cX8_certainRumours 7 = .ok (.istore_n 3, 1) := by decide +kernel
theorem dX8_certainRumours_8 : decode cX8_certainRumours 8 = .ok (.iload_n 3, 1) := by decide +kernel
theorem dX8_certainRumours_9 : decode cX8_certainRumours 9 = .ok (.aload_n 0, 1) := by decide +kernel
theorem dX8_certainRumours_10 : decode cX8_certainRumours 10 = .ok (.getfield 7, 3) := by decide +kernel
theorem dX8_certainRumours_13 : decode cX8_certainRumours 13 = .ok (.iconst 1, 1) := by decide +kernel
theorem dX8_certainRumours_14 : decode cX8_certainRumours 14 = .ok (.iaload, 1) := by decide +kernel
theorem dX8_certainRumours_15 : decode cX8_certainRumours 15 = .ok (.if_icmp .ge 53, 3) := by decide +kernel
theorem dX8_certainRumours_18 : decode cX8_certainRumours 18 = .ok (.iload_n 2, 1) := by decide +kernel
theorem dX8_certainRumours_19 : decode cX8_certainRumours 19 = .ok (.aload_n 0, 1) := by decide +kernel
theorem dX8_certainRumours_20 : decode cX8_certainRumours 20 = .ok (.iload_n 3, 1) := by decide +kernel
theorem dX8_certainRumours_21 : decode cX8_certainRumours 21 = .ok (.invokevirtual 74, 3) := by decide +kernel
theorem dX8_certainRumours_24 : decode cX8_certainRumours 24 = .ok (.ifCond .eq 35, 3) := by decide +kernel
theorem dX8_certainRumours_27 : decode cX8_certainRumours 27 = .ok (.aload_n 0, 1) := by decide +kernel
theorem dX8_certainRumours_28 : decode cX8_certainRumours 28 = .ok (.getfield 77, 3) := by decide +kernel
theorem dX8_certainRumours_31 : decode cX8_certainRumours 31 = .ok (.ifCond .le 28, 3) := by decide +kernel
theorem dX8_certainRumours_34 : decode cX8_certainRumours 34 = .ok (.aload_n 0, 1) := by decide +kernel
theorem dX8_certainRumours_35 : decode cX8_certainRumours 35 = .ok (.getfield 31, 3) := by decide +kernel
theorem dX8_certainRumours_38 : decode cX8_certainRumours 38 = .ok (.iload_n 3, 1) := by decide +kernel
theorem dX8_certainRumours_39 : decode cX8_certainRumours 39 = .ok (.iaload, 1) := by decide +kernel
theorem dX8_certainRumours_40 : decode cX8_certainRumours 40 = .ok (.iload_n 1, 1) := by decide +kernel
theorem dX8_certainRumours_41 : decode cX8_certainRumours 41 = .ok (.ifCond .eq 7, 3) := by decide +kernel
theorem dX8_certainRumours_44 : decode cX8_certainRumours 44 = .ok (.iconst 0, 1) := by decide +kernel
theorem dX8_certainRumours_45 : decode cX8_certainRumours 45 = .ok (.goto 7, 3) := by decide +kernel
theorem dX8_certainRumours_48 : decode cX8_certainRumours 48 = .ok (.aload_n 0, 1) := by decide +kernel
theorem dX8_certainRumours_49 : decode cX8_certainRumours 49 = .ok (.getfield 77, 3) := by decide +kernel
theorem dX8_certainRumours_52 : decode cX8_certainRumours 52 = .ok (.if_icmp .ne 7, 3) := by decide +kernel
theorem dX8_certainRumours_55 : decode cX8_certainRumours 55 = .ok (.iconst 1, 1) := by decide +kernel
theorem dX8_certainRumours_56 : decode cX8_certainRumours 56 = .ok (.goto 4, 3) := by decide +kernel
theorem dX8_certainRumours_59 : decode cX8_certainRumours 59 = .ok (.iconst 0, 1) := by decide +kernel
theorem dX8_certainRumours_60 : decode cX8_certainRumours 60 = .ok (.iadd, 1) := by decide +kernel
theorem dX8_certainRumours_61 : decode cX8_certainRumours 61 = .ok (.istore_n 2, 1) := by decide +kernel
theorem dX8_certainRumours_62 : decode cX8_certainRumours 62 = .ok (.iinc 3 1, 3) := by decide +kernel
theorem dX8_certainRumours_65 : decode cX8_certainRumours 65 = .ok (.goto (-57), 3) := by decide +kernel
theorem dX8_certainRumours_68 : decode cX8_certainRumours 68 = .ok (.iload_n 2, 1) := by decide +kernel
theorem dX8_certainRumours_69 : decode cX8_certainRumours 69 = .ok (.ireturn, 1) := by decide +kernel
theorem dX8_count_0 : decode cX8_count 0 = .ok (.iload_n 1, 1) := by decide +kernel
theorem dX8_count_1 : decode cX8_count 1 = .ok (.tableswitch 123 0 10 #[59, 59, 66, 71, 76, 89, 96, 101, 107, 113, 118], 59) := by decide +kernel
theorem dX8_count_60 : decode cX8_count 60 = .ok (.aload_n 0, 1) := by decide +kernel
theorem dX8_count_61 : decode cX8_count 61 = .ok (.getfield 7, 3) := by decide +kernel
theorem dX8_count_64 : decode cX8_count 64 = .ok (.iload_n 1, 1) := by decide +kernel
theorem dX8_count_65 : decode cX8_count 65 = .ok (.iaload, 1) := by decide +kernel
theorem dX8_count_66 : decode cX8_count 66 = .ok (.ireturn, 1) := by decide +kernel
theorem dX8_count_67 : decode cX8_count 67 = .ok (.aload_n 0, 1) := by decide +kernel
theorem dX8_count_68 : decode cX8_count 68 = .ok (.invokevirtual 166, 3) := by decide +kernel
theorem dX8_count_71 : decode cX8_count 71 = .ok (.ireturn, 1) := by decide +kernel
theorem dX8_count_72 : decode cX8_count 72 = .ok (.aload_n 0, 1) := by decide +kernel
theorem dX8_count_73 : decode cX8_count 73 = .ok (.invokevirtual 153, 3) := by decide +kernel
theorem dX8_count_76 : decode cX8_count 76 = .ok (.ireturn, 1) := by decide +kernel
theorem dX8_count_77 : decode cX8_count 77 = .ok (.aload_n 0, 1) := by decide +kernel
theorem dX8_count_78 : decode cX8_count 78 = .ok (.invokevirtual 169, 3) := by decide +kernel
theorem dX8_count_81 : decode cX8_count 81 = .ok (.ifCond .eq 7, 3) := by decide +kernel
theorem dX8_count_84 : decode cX8_count 84 = .ok (.iconst 1, 1) := by decide +kernel
theorem dX8_count_85 : decode cX8_count 85 = .ok (.goto 4, 3) := by decide +kernel
theorem dX8_count_88 : decode cX8_count 88 = .ok (.iconst 0, 1) := by decide +kernel
theorem dX8_count_89 : decode cX8_count 89 = .ok (.ireturn, 1) := by decide +kernel
theorem dX8_count_90 : decode cX8_count 90 = .ok (.aload_n 0, 1) := by decide +kernel
theorem dX8_count_91 : decode cX8_count 91 = .ok (.getfield 7, 3) := by decide +kernel
theorem dX8_count_94 : decode cX8_count 94 = .ok (.iconst 2, 1) := by decide +kernel
theorem dX8_count_95 : decode cX8_count 95 = .ok (.iaload, 1) := by decide +kernel
theorem dX8_count_96 : decode cX8_count 96 = .ok (.ireturn, 1) := by decide +kernel
theorem dX8_count_97 : decode cX8_count 97 = .ok (.aload_n 0, 1) := by decide +kernel
theorem dX8_count_98 : decode cX8_count 98 = .ok (.invokevirtual 172, 3) := by decide +kernel
theorem dX8_count_101 : decode cX8_count 101 = .ok (.ireturn, 1) := by decide +kernel
theorem dX8_count_102 : decode cX8_count 102 = .ok (.aload_n 0, 1) := by decide +kernel
theorem dX8_count_103 : decode cX8_count 103 = .ok (.iconst 0, 1) := by decide +kernel
theorem dX8_count_104 : decode cX8_count 104 = .ok (.invokevirtual 175, 3) := by decide +kernel
theorem dX8_count_107 : decode cX8_count 107 = .ok (.ireturn, 1) := by decide +kernel
theorem dX8_count_108 : decode cX8_count 108 = .ok (.aload_n 0, 1) := by decide +kernel
theorem dX8_count_109 : decode cX8_count 109 = .ok (.iconst 1, 1) := by decide +kernel
theorem dX8_count_110 : decode cX8_count 110 = .ok (.invokevirtual 175, 3) := by decide +kernel
theorem dX8_count_113 : decode cX8_count 113 = .ok (.ireturn, 1) := by decide +kernel
theorem dX8_count_114 : decode cX8_count 114 = .ok (.aload_n 0, 1) := by decide +kernel
theorem dX8_count_115 : decode cX8_count 115 = .ok (.getfield 118, 3) := by decide +kernel
theorem dX8_count_118 : decode cX8_count 118 = .ok (.ireturn, 1) := by decide +kernel
theorem dX8_count_119 : decode cX8_count 119 = .ok (.aload_n 0, 1) := by decide +kernel
theorem dX8_count_120 : decode cX8_count 120 = .ok (.getfield 41, 3) := by decide +kernel
theorem dX8_count_123 : decode cX8_count 123 = .ok (.ireturn, 1) := by decide +kernel
theorem dX8_count_124 : decode cX8_count 124 = .ok (.bipush (-2), 2) := by decide +kernel
theorem dX8_count_126 : decode cX8_count 126 = .ok (.ireturn, 1) := by decide +kernel
theorem dX8_possible_0 : decode cX8_possible 0 = .ok (.aload_n 0, 1) := by decide +kernel
theorem dX8_possible_1 : decode cX8_possible 1 = .ok (.iload_n 1, 1) := by decide +kernel
theorem dX8_possible_2 : decode cX8_possible 2 = .ok (.invokevirtual 57, 3) := by decide +kernel
theorem dX8_possible_5 : decode cX8_possible 5 = .ok (.ifCond .eq 11, 3) := by decide +kernel
theorem dX8_possible_8 : decode cX8_possible 8 = .ok (.aload_n 0, 1) := by decide +kernel
theorem dX8_possible_9 : decode cX8_possible 9 = .ok (.iload_n 2, 1) := by decide +kernel
theorem dX8_possible_10 : decode cX8_possible 10 = .ok (.invokevirtual 57, 3) := by decide +kernel
theorem dX8_possible_13 : decode cX8_possible 13 = .ok (.ifCond .ne 5, 3) := by decide +kernel
theorem dX8_possible_16 : decode cX8_possible 16 = .ok (.iconst (-1), 1) := by decide +kernel
theorem dX8_possible_17 : decode cX8_possible 17 = .ok (.ireturn, 1) := by decide +kernel
theorem dX8_possible_18 : decode cX8_possible 18 = .ok (.aload_n 0, 1) := by decide +kernel
theorem dX8_possible_19 : decode cX8_possible 19 = .ok (.invokevirtual 102, 3) := by decide +kernel
theorem dX8_possible_22 : decode cX8_possible 22 = .ok (.aload_n 0, 1) := by decide +kernel
theorem dX8_possible_23 : decode cX8_possible 23 = .ok (.getfield 28, 3) := by decide +kernel
theorem dX8_possible_26 : decode cX8_possible 26 = .ok (.bipush 6, 2) := by decide +kernel
theorem dX8_possible_28 : decode cX8_possible 28 = .ok (.iload_n 1, 1) := by decide +kernel
theorem dX8_possible_29 : decode cX8_possible 29 = .ok (.imul, 1) := by decide +kernel
theorem dX8_possible_30 : decode cX8_possible 30 = .ok (.iload_n 2, 1) := by decide +kernel
theorem dX8_possible_31 : decode cX8_possible 31 = .ok (.iadd, 1) := by decide +kernel
theorem dX8_possible_32 : decode cX8_possible 32 = .ok (.iaload, 1) := by decide +kernel
theorem dX8_possible_33 : decode cX8_possible 33 = .ok (.ireturn, 1) := by decide +kernel
theorem dX8_certain_0 : decode cX8_certain 0 = .ok (.aload_n 0, 1) := by decide +kernel
theorem dX8_certain_1 : decode cX8_certain 1 = .ok (.iload_n 1, 1) := by decide +kernel
theorem dX8_certain_2 : decode cX8_certain 2 = .ok (.invokevirtual 57, 3) := by decide +kernel
theorem dX8_certain_5 : decode cX8_certain 5 = .ok (.ifCond .ne 5, 3) := by decide +kernel
theorem dX8_certain_8 : decode cX8_certain 8 = .ok (.iconst (-1), 1) := by decide +kernel
theorem dX8_certain_9 : decode cX8_certain 9 = .ok (.ireturn, 1) := by decide +kernel
theorem dX8_certain_10 : decode cX8_certain 10 = .ok (.aload_n 0, 1) := by decide +kernel
theorem dX8_certain_11 : decode cX8_certain 11 = .ok (.invokevirtual 102, 3) := by decide +kernel
theorem dX8_certain_14 : decode cX8_certain 14 = .ok (.aload_n 0, 1) := by decide +kernel
theorem dX8_certain_15 : decode cX8_certain 15 = .ok (.iload_n 1, 1) := by decide +kernel
theorem dX8_certain_16 : decode cX8_certain 16 = .ok (.invokevirtual 159, 3) := by decide +kernel
theorem dX8_certain_19 : decode cX8_certain 19 = .ok (.ireturn, 1) := by decide +kernel
theorem dX8_world_0 : decode cX8_world 0 = .ok (.iload_n 1, 1) := by decide +kernel
theorem dX8_world_1 : decode cX8_world 1 = .ok (.ifCond .lt 11, 3) := by decide +kernel
theorem dX8_world_4 : decode cX8_world 4 = .ok (.aload_n 0, 1) := by decide +kernel
theorem dX8_world_5 : decode cX8_world 5 = .ok (.iload_n 2, 1) := by decide +kernel
theorem dX8_world_6 : decode cX8_world 6 = .ok (.invokevirtual 57, 3) := by decide +kernel
theorem dX8_world_9 : decode cX8_world 9 = .ok (.ifCond .ne 5, 3) := by decide +kernel
theorem dX8_world_12 : decode cX8_world 12 = .ok (.iconst (-1), 1) := by decide +kernel
theorem dX8_world_13 : decode cX8_world 13 = .ok (.ireturn, 1) := by decide +kernel
theorem dX8_world_14 : decode cX8_world 14 = .ok (.aload_n 0, 1) := by decide +kernel
theorem dX8_world_15 : decode cX8_world 15 = .ok (.invokevirtual 89, 3) := by decide +kernel
theorem dX8_world_18 : decode cX8_world 18 = .ok (.istore_n 3, 1) := by decide +kernel
theorem dX8_world_19 : decode cX8_world 19 = .ok (.iload_n 1, 1) := by decide +kernel
theorem dX8_world_20 : decode cX8_world 20 = .ok (.istore 4, 2) := by decide +kernel
theorem dX8_world_22 : decode cX8_world 22 = .ok (.iconst 0, 1) := by decide +kernel
theorem dX8_world_23 : decode cX8_world 23 = .ok (.istore 5, 2) := by decide +kernel
theorem dX8_world_25 : decode cX8_world 25 = .ok (.iload 5, 2) := by decide +kernel
theorem dX8_world_27 : decode cX8_world 27 = .ok (.iload_n 3, 1) := by decide +kernel
theorem dX8_world_28 : decode cX8_world 28 = .ok (.if_icmp .ge 63, 3) := by decide +kernel
theorem dX8_world_31 : decode cX8_world 31 = .ok (.aload_n 0, 1) := by decide +kernel
theorem dX8_world_32 : decode cX8_world 32 = .ok (.iload 5, 2) := by decide +kernel
theorem dX8_world_34 : decode cX8_world 34 = .ok (.invokevirtual 93, 3) := by decide +kernel
theorem dX8_world_37 : decode cX8_world 37 = .ok (.aload_n 0, 1) := by decide +kernel
theorem dX8_world_38 : decode cX8_world 38 = .ok (.invokevirtual 96, 3) := by decide +kernel
theorem dX8_world_41 : decode cX8_world 41 = .ok (.bipush (-6), 2) := by decide +kernel
theorem dX8_world_43 : decode cX8_world 43 = .ok (.if_icmp .ne 7, 3) := by decide +kernel
theorem dX8_world_46 : decode cX8_world 46 = .ok (.iconst 1, 1) := by decide +kernel
theorem dX8_world_47 : decode cX8_world 47 = .ok (.goto 4, 3) := by decide +kernel
theorem dX8_world_50 : decode cX8_world 50 = .ok (.iconst 0, 1) := by decide +kernel
theorem dX8_world_51 : decode cX8_world 51 = .ok (.istore 6, 2) := by decide +kernel
theorem dX8_world_53 : decode cX8_world 53 = .ok (.iload 6, 2) := by decide +kernel
theorem dX8_world_55 : decode cX8_world 55 = .ok (.ifCond .eq 15, 3) := by decide +kernel
theorem dX8_world_58 : decode cX8_world 58 = .ok (.iload 4, 2) := by decide +kernel
theorem dX8_world_60 : decode cX8_world 60 = .ok (.ifCond .ne 10, 3) := by decide +kernel
theorem dX8_world_63 : decode cX8_world 63 = .ok (.aload_n 0, 1) := by decide +kernel
theorem dX8_world_64 : decode cX8_world 64 = .ok (.getfield 25, 3) := by decide +kernel
theorem dX8_world_67 : decode cX8_world 67 = .ok (.iload_n 2, 1) := by decide +kernel
theorem dX8_world_68 : decode cX8_world 68 = .ok (.iaload, 1) := by decide +kernel
theorem dX8_world_69 : decode cX8_world 69 = .ok (.ireturn, 1) := by decide +kernel
theorem dX8_world_70 : decode cX8_world 70 = .ok (.iload 4, 2) := by decide +kernel
theorem dX8_world_72 : decode cX8_world 72 = .ok (.iload 6, 2) := by decide +kernel
theorem dX8_world_74 : decode cX8_world 74 = .ok (.ifCond .eq 7, 3) := by decide +kernel
theorem dX8_world_77 : decode cX8_world 77 = .ok (.iconst 1, 1) := by decide +kernel
theorem dX8_world_78 : decode cX8_world 78 = .ok (.goto 4, 3) := by decide +kernel
theorem dX8_world_81 : decode cX8_world 81 = .ok (.iconst 0, 1) := by decide +kernel
theorem dX8_world_82 : decode cX8_world 82 = .ok (.isub, 1) := by decide +kernel
theorem dX8_world_83 : decode cX8_world 83 = .ok (.istore 4, 2) := by decide +kernel
theorem dX8_world_85 : decode cX8_world 85 = .ok (.iinc 5 1, 3) := by decide +kernel
theorem dX8_world_88 : decode cX8_world 88 = .ok (.goto (-63), 3) := by decide +kernel
theorem dX8_world_91 : decode cX8_world 91 = .ok (.iconst (-1), 1) := by decide +kernel
theorem dX8_world_92 : decode cX8_world 92 = .ok (.ireturn, 1) := by decide +kernel
theorem dX8_ifProved_0 : decode cX8_ifProved 0 = .ok (.aload_n 0, 1) := by decide +kernel
theorem dX8_ifProved_1 : decode cX8_ifProved 1 = .ok (.iload_n 1, 1) := by decide +kernel
theorem dX8_ifProved_2 : decode cX8_ifProved 2 = .ok (.iload_n 2, 1) := by decide +kernel
theorem dX8_ifProved_3 : decode cX8_ifProved 3 = .ok (.iload_n 3, 1) := by decide +kernel
theorem dX8_ifProved_4 : decode cX8_ifProved 4 = .ok (.invokevirtual 108, 3) := by decide +kernel
theorem dX8_ifProved_7 : decode cX8_ifProved 7 = .ok (.ifCond .ne 6, 3) := by decide +kernel
theorem dX8_ifProved_10 : decode cX8_ifProved 10 = .ok (.bipush (-2), 2) := by decide +kernel
theorem dX8_ifProved_12 : decode cX8_ifProved 12 = .ok (.ireturn, 1) := by decide +kernel
theorem dX8_ifProved_13 : decode cX8_ifProved 13 = .ok (.aload_n 0, 1) := by decide +kernel
theorem dX8_ifProved_14 : decode cX8_ifProved 14 = .ok (.invokevirtual 89, 3) := by decide +kernel
theorem dX8_ifProved_17 : decode cX8_ifProved 17 = .ok (.istore 4, 2) := by decide +kernel
theorem dX8_ifProved_19 : decode cX8_ifProved 19 = .ok (.iconst 0, 1) := by decide +kernel
theorem dX8_ifProved_20 : decode cX8_ifProved 20 = .ok (.istore 5, 2) := by decide +kernel
theorem dX8_ifProved_22 : decode cX8_ifProved 22 = .ok (.iconst 0, 1) := by decide +kernel
theorem dX8_ifProved_23 : decode cX8_ifProved 23 = .ok (.istore 6, 2) := by decide +kernel
theorem dX8_ifProved_25 : decode cX8_ifProved 25 = .ok (.iload 6, 2) := by decide +kernel
theorem dX8_ifProved_27 : decode cX8_ifProved 27 = .ok (.iload 4, 2) := by decide +kernel
theorem dX8_ifProved_29 : decode cX8_ifProved 29 = .ok (.if_icmp .ge 44, 3) := by decide +kernel
theorem dX8_ifProved_32 : decode cX8_ifProved 32 = .ok (.aload_n 0, 1) := by decide +kernel
theorem dX8_ifProved_33 : decode cX8_ifProved 33 = .ok (.iload 6, 2) := by decide +kernel
theorem dX8_ifProved_35 : decode cX8_ifProved 35 = .ok (.invokevirtual 93, 3) := by decide +kernel
theorem dX8_ifProved_38 : decode cX8_ifProved 38 = .ok (.iload 5, 2) := by decide +kernel
theorem dX8_ifProved_40 : decode cX8_ifProved 40 = .ok (.aload_n 0, 1) := by decide +kernel
theorem dX8_ifProved_41 : decode cX8_ifProved 41 = .ok (.iload_n 1, 1) := by decide +kernel
theorem dX8_ifProved_42 : decode cX8_ifProved 42 = .ok (.iload_n 2, 1) := by decide +kernel
theorem dX8_ifProved_43 : decode cX8_ifProved 43 = .ok (.iload_n 3, 1) := by decide +kernel
theorem dX8_ifProved_44 : decode cX8_ifProved 44 = .ok (.invokevirtual 65, 3) := by decide +kernel
theorem dX8_ifProved_47 : decode cX8_ifProved 47 = .ok (.ifCond .eq 16, 3) := by decide +kernel
theorem dX8_ifProved_50 : decode cX8_ifProved 50 = .ok (.aload_n 0, 1) := by decide +kernel
theorem dX8_ifProved_51 : decode cX8_ifProved 51 = .ok (.invokevirtual 96, 3) := by decide +kernel
theorem dX8_ifProved_54 : decode cX8_ifProved 54 = .ok (.bipush (-6), 2) := by decide +kernel
theorem dX8_ifProved_56 : decode cX8_ifProved 56 = .ok (.if_icmp .ne 7, 3) := by decide +kernel
theorem dX8_ifProved_59 : decode cX8_ifProved 59 = .ok (.iconst 1, 1) := by decide +kernel
theorem dX8_ifProved_60 : decode cX8_ifProved 60 = .ok (.goto 4, 3) := by decide +kernel
theorem dX8_ifProved_63 : decode cX8_ifProved 63 = .ok (.iconst 0, 1) := by decide +kernel
theorem dX8_ifProved_64 : decode cX8_ifProved 64 = .ok (.iadd, 1) := by decide +kernel
theorem dX8_ifProved_65 : decode cX8_ifProved 65 = .ok (.istore 5, 2) := by decide +kernel
theorem dX8_ifProved_67 : decode cX8_ifProved 67 = .ok (.iinc 6 1, 3) := by decide +kernel
theorem dX8_ifProved_70 : decode cX8_ifProved 70 = .ok (.goto (-45), 3) := by decide +kernel
theorem dX8_ifProved_73 : decode cX8_ifProved 73 = .ok (.iload 5, 2) := by decide +kernel
theorem dX8_ifProved_75 : decode cX8_ifProved 75 = .ok (.ireturn, 1) := by decide +kernel
theorem dX8_sharpest_0 : decode cX8_sharpest 0 = .ok (.iload_n 1, 1) := by decide +kernel
theorem dX8_sharpest_1 : decode cX8_sharpest 1 = .ok (.iconst 0, 1) := by decide +kernel
theorem dX8_sharpest_2 : decode cX8_sharpest 2 = .ok (.iconst 1, 1) := by decide +kernel
theorem dX8_sharpest_3 : decode cX8_sharpest 3 = .ok (.invokestatic 49, 3) := by decide +kernel
theorem dX8_sharpest_6 : decode cX8_sharpest 6 = .ok (.ifCond .ne 6, 3) := by decide +kernel
theorem dX8_sharpest_9 : decode cX8_sharpest 9 = .ok (.bipush (-2), 2) := by decide +kernel
theorem dX8_sharpest_11 : decode cX8_sharpest 11 = .ok (.ireturn, 1) := by decide +kernel
theorem dX8_sharpest_12 : decode cX8_sharpest 12 = .ok (.aload_n 0, 1) := by decide +kernel
theorem dX8_sharpest_13 : decode cX8_sharpest 13 = .ok (.invokevirtual 102, 3) := by decide +kernel
theorem dX8_sharpest_16 : decode cX8_sharpest 16 = .ok (.bipush (-6), 2) := by decide +kernel
theorem dX8_sharpest_18 : decode cX8_sharpest 18 = .ok (.istore_n 2, 1) := by decide +kernel
theorem dX8_sharpest_19 : decode cX8_sharpest 19 = .ok (.iconst 0, 1) := by decide +kernel
theorem dX8_sharpest_20 : decode cX8_sharpest 20 = .ok (.istore_n 3, 1) := by decide +kernel
theorem dX8_sharpest_21 : decode cX8_sharpest 21 = .ok (.iconst 0, 1) := by decide +kernel
theorem dX8_sharpest_22 : decode cX8_sharpest 22 = .ok (.istore 4, 2) := by decide +kernel
theorem dX8_sharpest_24 : decode cX8_sharpest 24 = .ok (.iload 4, 2) := by decide +kernel
theorem dX8_sharpest_26 : decode cX8_sharpest 26 = .ok (.aload_n 0, 1) := by decide +kernel
theorem dX8_sharpest_27 : decode cX8_sharpest 27 = .ok (.getfield 7, 3) := by decide +kernel
theorem dX8_sharpest_30 : decode cX8_sharpest 30 = .ok (.iconst 1, 1) := by decide +kernel
theorem dX8_sharpest_31 : decode cX8_sharpest 31 = .ok (.iaload, 1) := by decide +kernel
theorem dX8_sharpest_32 : decode cX8_sharpest 32 = .ok (.if_icmp .ge 107, 3) := by decide +kernel
theorem dX8_sharpest_35 : decode cX8_sharpest 35 = .ok (.aload_n 0, 1) := by decide +kernel
theorem dX8_sharpest_36 : decode cX8_sharpest 36 = .ok (.getfield 31, 3) := by decide +kernel
theorem dX8_sharpest_39 : decode cX8_sharpest 39 = .ok (.iload 4, 2) := by decide +kernel
theorem dX8_sharpest_41 : decode cX8_sharpest 41 = .ok (.iaload, 1) := by decide +kernel
theorem dX8_sharpest_42 : decode cX8_sharpest 42 = .ok (.aload_n 0, 1) := by decide +kernel
theorem dX8_sharpest_43 : decode cX8_sharpest 43 = .ok (.getfield 77, 3) := by decide +kernel
theorem dX8_sharpest_46 : decode cX8_sharpest 46 = .ok (.aload_n 0, 1) := by decide +kernel
theorem dX8_sharpest_47 : decode cX8_sharpest 47 = .ok (.getfield 31, 3) := by decide +kernel
theorem dX8_sharpest_50 : decode cX8_sharpest 50 = .ok (.iload 4, 2) := by decide +kernel
theorem dX8_sharpest_52 : decode cX8_sharpest 52 = .ok (.iaload, 1) := by decide +kernel
theorem dX8_sharpest_53 : decode cX8_sharpest 53 = .ok (.isub, 1) := by decide +kernel
theorem dX8_sharpest_54 : decode cX8_sharpest 54 = .ok (.if_icmp .le 13, 3) := by decide +kernel
theorem dX8_sharpest_57 : decode cX8_sharpest 57 = .ok (.aload_n 0, 1) := by decide +kernel
theorem dX8_sharpest_58 : decode cX8_sharpest 58 = .ok (.getfield 31, 3) := by decide +kernel
theorem dX8_sharpest_61 : decode cX8_sharpest 61 = .ok (.iload 4, 2) := by decide +kernel
theorem dX8_sharpest_63 : decode cX8_sharpest 63 = .ok (.iaload, 1) := by decide +kernel
theorem dX8_sharpest_64 : decode cX8_sharpest 64 = .ok (.goto 15, 3) := by decide +kernel
theorem dX8_sharpest_67 : decode cX8_sharpest 67 = .ok (.aload_n 0, 1) := by decide +kernel
theorem dX8_sharpest_68 : decode cX8_sharpest 68 = .ok (.getfield 77, 3) := by decide +kernel
theorem dX8_sharpest_71 : decode cX8_sharpest 71 = .ok (.aload_n 0, 1) := by decide +kernel
theorem dX8_sharpest_72 : decode cX8_sharpest 72 = .ok (.getfield 31, 3) := by decide +kernel
theorem dX8_sharpest_75 : decode cX8_sharpest 75 = .ok (.iload 4, 2) := by decide +kernel
theorem dX8_sharpest_77 : decode cX8_sharpest 77 = .ok (.iaload, 1) := by decide +kernel
theorem dX8_sharpest_78 : decode cX8_sharpest 78 = .ok (.isub, 1) := by decide +kernel
theorem dX8_sharpest_79 : decode cX8_sharpest 79 = .ok (.istore 5, 2) := by decide +kernel
theorem dX8_sharpest_81 : decode cX8_sharpest 81 = .ok (.aload_n 0, 1) := by decide +kernel
theorem dX8_sharpest_82 : decode cX8_sharpest 82 = .ok (.iload 4, 2) := by decide +kernel
theorem dX8_sharpest_84 : decode cX8_sharpest 84 = .ok (.invokevirtual 74, 3) := by decide +kernel
