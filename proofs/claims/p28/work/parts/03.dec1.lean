theorem dX0_init_0 : decode cX0_init 0 = .ok (.aload_n 0, 1) := by decide +kernel
theorem dX0_init_1 : decode cX0_init 1 = .ok (.invokespecial 3, 3) := by decide +kernel
theorem dX0_init_4 : decode cX0_init 4 = .ok (.aload_n 0, 1) := by decide +kernel
theorem dX0_init_5 : decode cX0_init 5 = .ok (.bipush 6, 2) := by decide +kernel
theorem dX0_init_7 : decode cX0_init 7 = .ok (.anewarray 9, 3) := by decide +kernel
theorem dX0_init_10 : decode cX0_init 10 = .ok (.putfield 11, 3) := by decide +kernel
theorem dX0_init_13 : decode cX0_init 13 = .ok (.iconst 0, 1) := by decide +kernel
theorem dX0_init_14 : decode cX0_init 14 = .ok (.istore_n 1, 1) := by decide +kernel
theorem dX0_init_15 : decode cX0_init 15 = .ok (.iload_n 1, 1) := by decide +kernel
theorem dX0_init_16 : decode cX0_init 16 = .ok (.aload_n 0, 1) := by decide +kernel
theorem dX0_init_17 : decode cX0_init 17 = .ok (.getfield 11, 3) := by decide +kernel
theorem dX0_init_20 : decode cX0_init 20 = .ok (.arraylength, 1) := by decide +kernel
theorem dX0_init_21 : decode cX0_init 21 = .ok (.if_icmp .ge 22, 3) := by decide +kernel
theorem dX0_init_24 : decode cX0_init 24 = .ok (.aload_n 0, 1) := by decide +kernel
theorem dX0_init_25 : decode cX0_init 25 = .ok (.getfield 11, 3) := by decide +kernel
theorem dX0_init_28 : decode cX0_init 28 = .ok (.iload_n 1, 1) := by decide +kernel
theorem dX0_init_29 : decode cX0_init 29 = .ok (.new 9, 3) := by decide +kernel
theorem dX0_init_32 : decode cX0_init 32 = .ok (.dup, 1) := by decide +kernel
theorem dX0_init_33 : decode cX0_init 33 = .ok (.invokespecial 17, 3) := by decide +kernel
theorem dX0_init_36 : decode cX0_init 36 = .ok (.aastore, 1) := by decide +kernel
theorem dX0_init_37 : decode cX0_init 37 = .ok (.iinc 1 1, 3) := by decide +kernel
theorem dX0_init_40 : decode cX0_init 40 = .ok (.goto (-25), 3) := by decide +kernel
theorem dX0_init_43 : decode cX0_init 43 = .ok (.return_, 1) := by decide +kernel
theorem dX0_stateAt_0 : decode cX0_stateAt 0 = .ok (.iload_n 1, 1) := by decide +kernel
theorem dX0_stateAt_1 : decode cX0_stateAt 1 = .ok (.ifCond .lt 21, 3) := by decide +kernel
theorem dX0_stateAt_4 : decode cX0_stateAt 4 = .ok (.iload_n 1, 1) := by decide +kernel
theorem dX0_stateAt_5 : decode cX0_stateAt 5 = .ok (.aload_n 0, 1) := by decide +kernel
theorem dX0_stateAt_6 : decode cX0_stateAt 6 = .ok (.getfield 11, 3) := by decide +kernel
theorem dX0_stateAt_9 : decode cX0_stateAt 9 = .ok (.arraylength, 1) := by decide +kernel
theorem dX0_stateAt_10 : decode cX0_stateAt 10 = .ok (.if_icmp .ge 12, 3) := by decide +kernel
theorem dX0_stateAt_13 : decode cX0_stateAt 13 = .ok (.aload_n 0, 1) := by decide +kernel
theorem dX0_stateAt_14 : decode cX0_stateAt 14 = .ok (.getfield 11, 3) := by decide +kernel
theorem dX0_stateAt_17 : decode cX0_stateAt 17 = .ok (.iload_n 1, 1) := by decide +kernel
theorem dX0_stateAt_18 : decode cX0_stateAt 18 = .ok (.aaload, 1) := by decide +kernel
theorem dX0_stateAt_19 : decode cX0_stateAt 19 = .ok (.goto 4, 3) := by decide +kernel
theorem dX0_stateAt_22 : decode cX0_stateAt 22 = .ok (.aconst_null, 1) := by decide +kernel
theorem dX0_stateAt_23 : decode cX0_stateAt 23 = .ok (.areturn, 1) := by decide +kernel
theorem dX0_record_0 : decode cX0_record 0 = .ok (.aload_n 0, 1) := by decide +kernel
theorem dX0_record_1 : decode cX0_record 1 = .ok (.aload_n 0, 1) := by decide +kernel
theorem dX0_record_2 : decode cX0_record 2 = .ok (.getfield 18, 3) := by decide +kernel
theorem dX0_record_5 : decode cX0_record 5 = .ok (.invokevirtual 22, 3) := by decide +kernel
theorem dX0_record_8 : decode cX0_record 8 = .ok (.astore_n 2, 1) := by decide +kernel
theorem dX0_record_9 : decode cX0_record 9 = .ok (.aload_n 2, 1) := by decide +kernel
theorem dX0_record_10 : decode cX0_record 10 = .ok (.ifnonnull 4, 3) := by decide +kernel
theorem dX0_record_13 : decode cX0_record 13 = .ok (.return_, 1) := by decide +kernel
theorem dX0_record_14 : decode cX0_record 14 = .ok (.aload_n 2, 1) := by decide +kernel
theorem dX0_record_15 : decode cX0_record 15 = .ok (.aload_n 1, 1) := by decide +kernel
theorem dX0_record_16 : decode cX0_record 16 = .ok (.invokevirtual 26, 3) := by decide +kernel
theorem dX0_record_19 : decode cX0_record 19 = .ok (.aload_n 0, 1) := by decide +kernel
theorem dX0_record_20 : decode cX0_record 20 = .ok (.aload_n 0, 1) := by decide +kernel
theorem dX0_record_21 : decode cX0_record 21 = .ok (.getfield 18, 3) := by decide +kernel
theorem dX0_record_24 : decode cX0_record 24 = .ok (.iconst 1, 1) := by decide +kernel
theorem dX0_record_25 : decode cX0_record 25 = .ok (.iadd, 1) := by decide +kernel
theorem dX0_record_26 : decode cX0_record 26 = .ok (.aload_n 0, 1) := by decide +kernel
theorem dX0_record_27 : decode cX0_record 27 = .ok (.getfield 11, 3) := by decide +kernel
theorem dX0_record_30 : decode cX0_record 30 = .ok (.arraylength, 1) := by decide +kernel
theorem dX0_record_31 : decode cX0_record 31 = .ok (.if_icmp .ge 12, 3) := by decide +kernel
theorem dX0_record_34 : decode cX0_record 34 = .ok (.aload_n 0, 1) := by decide +kernel
theorem dX0_record_35 : decode cX0_record 35 = .ok (.getfield 18, 3) := by decide +kernel
theorem dX0_record_38 : decode cX0_record 38 = .ok (.iconst 1, 1) := by decide +kernel
theorem dX0_record_39 : decode cX0_record 39 = .ok (.iadd, 1) := by decide +kernel
theorem dX0_record_40 : decode cX0_record 40 = .ok (.goto 4, 3) := by decide +kernel
theorem dX0_record_43 : decode cX0_record 43 = .ok (.iconst 0, 1) := by decide +kernel
theorem dX0_record_44 : decode cX0_record 44 = .ok (.putfield 18, 3) := by decide +kernel
theorem dX0_record_47 : decode cX0_record 47 = .ok (.aload_n 0, 1) := by decide +kernel
theorem dX0_record_48 : decode cX0_record 48 = .ok (.aload_n 0, 1) := by decide +kernel
theorem dX0_record_49 : decode cX0_record 49 = .ok (.getfield 30, 3) := by decide +kernel
theorem dX0_record_52 : decode cX0_record 52 = .ok (.iconst 1, 1) := by decide +kernel
theorem dX0_record_53 : decode cX0_record 53 = .ok (.iadd, 1) := by decide +kernel
theorem dX0_record_54 : decode cX0_record 54 = .ok (.aload_n 0, 1) := by decide +kernel
theorem dX0_record_55 : decode cX0_record 55 = .ok (.getfield 11, 3) := by decide +kernel
theorem dX0_record_58 : decode cX0_record 58 = .ok (.arraylength, 1) := by decide +kernel
theorem dX0_record_59 : decode cX0_record 59 = .ok (.invokestatic 33, 3) := by decide +kernel
theorem dX0_record_62 : decode cX0_record 62 = .ok (.putfield 30, 3) := by decide +kernel
theorem dX0_record_65 : decode cX0_record 65 = .ok (.return_, 1) := by decide +kernel
theorem dX1_init_0 : decode cX1_init 0 = .ok (.aload_n 0, 1) := by decide +kernel
theorem dX1_init_1 : decode cX1_init 1 = .ok (.invokespecial 3, 3) := by decide +kernel
theorem dX1_init_4 : decode cX1_init 4 = .ok (.aload_n 0, 1) := by decide +kernel
theorem dX1_init_5 : decode cX1_init 5 = .ok (.bipush 6, 2) := by decide +kernel
theorem dX1_init_7 : decode cX1_init 7 = .ok (.newarray .int, 2) := by decide +kernel
theorem dX1_init_9 : decode cX1_init 9 = .ok (.putfield 9, 3) := by decide +kernel
theorem dX1_init_12 : decode cX1_init 12 = .ok (.aload_n 0, 1) := by decide +kernel
theorem dX1_init_13 : decode cX1_init 13 = .ok (.bipush 6, 2) := by decide +kernel
theorem dX1_init_15 : decode cX1_init 15 = .ok (.newarray .int, 2) := by decide +kernel
theorem dX1_init_17 : decode cX1_init 17 = .ok (.putfield 15, 3) := by decide +kernel
theorem dX1_init_20 : decode cX1_init 20 = .ok (.aload_n 0, 1) := by decide +kernel
theorem dX1_init_21 : decode cX1_init 21 = .ok (.bipush 6, 2) := by decide +kernel
theorem dX1_init_23 : decode cX1_init 23 = .ok (.newarray .int, 2) := by decide +kernel
theorem dX1_init_25 : decode cX1_init 25 = .ok (.putfield 18, 3) := by decide +kernel
theorem dX1_init_28 : decode cX1_init 28 = .ok (.aload_n 0, 1) := by decide +kernel
theorem dX1_init_29 : decode cX1_init 29 = .ok (.bipush 20, 2) := by decide +kernel
theorem dX1_init_31 : decode cX1_init 31 = .ok (.anewarray 21, 3) := by decide +kernel
theorem dX1_init_34 : decode cX1_init 34 = .ok (.putfield 23, 3) := by decide +kernel
theorem dX1_init_37 : decode cX1_init 37 = .ok (.iconst 0, 1) := by decide +kernel
theorem dX1_init_38 : decode cX1_init 38 = .ok (.istore_n 1, 1) := by decide +kernel
theorem dX1_init_39 : decode cX1_init 39 = .ok (.iload_n 1, 1) := by decide +kernel
theorem dX1_init_40 : decode cX1_init 40 = .ok (.aload_n 0, 1) := by decide +kernel
theorem dX1_init_41 : decode cX1_init 41 = .ok (.getfield 23, 3) := by decide +kernel
theorem dX1_init_44 : decode cX1_init 44 = .ok (.arraylength, 1) := by decide +kernel
theorem dX1_init_45 : decode cX1_init 45 = .ok (.if_icmp .ge 22, 3) := by decide +kernel
theorem dX1_init_48 : decode cX1_init 48 = .ok (.aload_n 0, 1) := by decide +kernel
theorem dX1_init_49 : decode cX1_init 49 = .ok (.getfield 23, 3) := by decide +kernel
theorem dX1_init_52 : decode cX1_init 52 = .ok (.iload_n 1, 1) := by decide +kernel
theorem dX1_init_53 : decode cX1_init 53 = .ok (.new 21, 3) := by decide +kernel
theorem dX1_init_56 : decode cX1_init 56 = .ok (.dup, 1) := by decide +kernel
theorem dX1_init_57 : decode cX1_init 57 = .ok (.invokespecial 27, 3) := by decide +kernel
theorem dX1_init_60 : decode cX1_init 60 = .ok (.aastore, 1) := by decide +kernel
theorem dX1_init_61 : decode cX1_init 61 = .ok (.iinc 1 1, 3) := by decide +kernel
theorem dX1_init_64 : decode cX1_init 64 = .ok (.goto (-25), 3) := by decide +kernel
theorem dX1_init_67 : decode cX1_init 67 = .ok (.return_, 1) := by decide +kernel
theorem dX1_arrange_0 : decode cX1_arrange 0 = .ok (.aload_n 0, 1) := by decide +kernel
theorem dX1_arrange_1 : decode cX1_arrange 1 = .ok (.iload_n 1, 1) := by decide +kernel
theorem dX1_arrange_2 : decode cX1_arrange 2 = .ok (.putfield 28, 3) := by decide +kernel
theorem dX1_arrange_5 : decode cX1_arrange 5 = .ok (.aload_n 0, 1) := by decide +kernel
theorem dX1_arrange_6 : decode cX1_arrange 6 = .ok (.iconst 0, 1) := by decide +kernel
theorem dX1_arrange_7 : decode cX1_arrange 7 = .ok (.putfield 32, 3) := by decide +kernel
theorem dX1_arrange_10 : decode cX1_arrange 10 = .ok (.aload_n 0, 1) := by decide +kernel
theorem dX1_arrange_11 : decode cX1_arrange 11 = .ok (.iconst 0, 1) := by decide +kernel
theorem dX1_arrange_12 : decode cX1_arrange 12 = .ok (.putfield 35, 3) := by decide +kernel
theorem dX1_arrange_15 : decode cX1_arrange 15 = .ok (.aload_n 0, 1) := by decide +kernel
theorem dX1_arrange_16 : decode cX1_arrange 16 = .ok (.getfield 15, 3) := by decide +kernel
theorem dX1_arrange_19 : decode cX1_arrange 19 = .ok (.iconst 0, 1) := by decide +kernel
theorem dX1_arrange_20 : decode cX1_arrange 20 = .ok (.invokestatic 38, 3) := by decide +kernel
theorem dX1_arrange_23 : decode cX1_arrange 23 = .ok (.aload_n 0, 1) := by decide +kernel
theorem dX1_arrange_24 : decode cX1_arrange 24 = .ok (.getfield 18, 3) := by decide +kernel
theorem dX1_arrange_27 : decode cX1_arrange 27 = .ok (.iconst 0, 1) := by decide +kernel
theorem dX1_arrange_28 : decode cX1_arrange 28 = .ok (.invokestatic 38, 3) := by decide +kernel
theorem dX1_arrange_31 : decode cX1_arrange 31 = .ok (.iconst 0, 1) := by decide +kernel
theorem dX1_arrange_32 : decode cX1_arrange 32 = .ok (.istore_n 2, 1) := by decide +kernel
theorem dX1_arrange_33 : decode cX1_arrange 33 = .ok (.iload_n 2, 1) := by decide +kernel
theorem dX1_arrange_34 : decode cX1_arrange 34 = .ok (.aload_n 0, 1) := by decide +kernel
theorem dX1_arrange_35 : decode cX1_arrange 35 = .ok (.getfield 9, 3) := by decide +kernel
theorem dX1_arrange_38 : decode cX1_arrange 38 = .ok (.arraylength, 1) := by decide +kernel
theorem dX1_arrange_39 : decode cX1_arrange 39 = .ok (.if_icmp .ge 44, 3) := by decide +kernel
theorem dX1_arrange_42 : decode cX1_arrange 42 = .ok (.aload_n 0, 1) := by decide +kernel
theorem dX1_arrange_43 : decode cX1_arrange 43 = .ok (.getfield 9, 3) := by decide +kernel
theorem dX1_arrange_46 : decode cX1_arrange 46 = .ok (.iload_n 2, 1) := by decide +kernel
theorem dX1_arrange_47 : decode cX1_arrange 47 = .ok (.iload_n 2, 1) := by decide +kernel
theorem dX1_arrange_48 : decode cX1_arrange 48 = .ok (.iconst 1, 1) := by decide +kernel
theorem dX1_arrange_49 : decode cX1_arrange 49 = .ok (.iadd, 1) := by decide +kernel
theorem dX1_arrange_50 : decode cX1_arrange 50 = .ok (.aload_n 0, 1) := by decide +kernel
theorem dX1_arrange_51 : decode cX1_arrange 51 = .ok (.getfield 28, 3) := by decide +kernel
theorem dX1_arrange_54 : decode cX1_arrange 54 = .ok (.if_icmp .ge 9, 3) := by decide +kernel
theorem dX1_arrange_57 : decode cX1_arrange 57 = .ok (.iload_n 2, 1) := by decide +kernel
theorem dX1_arrange_58 : decode cX1_arrange 58 = .ok (.iconst 1, 1) := by decide +kernel
theorem dX1_arrange_59 : decode cX1_arrange 59 = .ok (.iadd, 1) := by decide +kernel
theorem dX1_arrange_60 : decode cX1_arrange 60 = .ok (.goto 16, 3) := by decide +kernel
theorem dX1_arrange_63 : decode cX1_arrange 63 = .ok (.iload_n 2, 1) := by decide +kernel
theorem dX1_arrange_64 : decode cX1_arrange 64 = .ok (.aload_n 0, 1) := by decide +kernel
theorem dX1_arrange_65 : decode cX1_arrange 65 = .ok (.getfield 28, 3) := by decide +kernel
theorem dX1_arrange_68 : decode cX1_arrange 68 = .ok (.if_icmp .ge 7, 3) := by decide +kernel
theorem dX1_arrange_71 : decode cX1_arrange 71 = .ok (.iconst 0, 1) := by decide +kernel
theorem dX1_arrange_72 : decode cX1_arrange 72 = .ok (.goto 4, 3) := by decide +kernel
theorem dX1_arrange_75 : decode cX1_arrange 75 = .ok (.iconst (-1), 1) := by decide +kernel
theorem dX1_arrange_76 : decode cX1_arrange 76 = .ok (.iastore, 1) := by decide +kernel
theorem dX1_arrange_77 : decode cX1_arrange 77 = .ok (.iinc 2 1, 3) := by decide +kernel
theorem dX1_arrange_80 : decode cX1_arrange 80 = .ok (.goto (-47), 3) := by decide +kernel
theorem dX1_arrange_83 : decode cX1_arrange 83 = .ok (.return_, 1) := by decide +kernel
theorem dX1_copyFrom_0 : decode cX1_copyFrom 0 = .ok (.aload_n 0, 1) := by decide +kernel
theorem dX1_copyFrom_1 : decode cX1_copyFrom 1 = .ok (.aload_n 1, 1) := by decide +kernel
theorem dX1_copyFrom_2 : decode cX1_copyFrom 2 = .ok (.getfield 28, 3) := by decide +kernel
theorem dX1_copyFrom_5 : decode cX1_copyFrom 5 = .ok (.putfield 28, 3) := by decide +kernel
theorem dX1_copyFrom_8 : decode cX1_copyFrom 8 = .ok (.aload_n 0, 1) := by decide +kernel
theorem dX1_copyFrom_9 : decode cX1_copyFrom 9 = .ok (.aload_n 1, 1) := by decide +kernel
theorem dX1_copyFrom_10 : decode cX1_copyFrom 10 = .ok (.getfield 32, 3) := by decide +kernel
theorem dX1_copyFrom_13 : decode cX1_copyFrom 13 = .ok (.putfield 32, 3) := by decide +kernel
theorem dX1_copyFrom_16 : decode cX1_copyFrom 16 = .ok (.aload_n 0, 1) := by decide +kernel
theorem dX1_copyFrom_17 : decode cX1_copyFrom 17 = .ok (.aload_n 1, 1) := by decide +kernel
theorem dX1_copyFrom_18 : decode cX1_copyFrom 18 = .ok (.getfield 35, 3) := by decide +kernel
theorem dX1_copyFrom_21 : decode cX1_copyFrom 21 = .ok (.putfield 35, 3) := by decide +kernel
theorem dX1_copyFrom_24 : decode cX1_copyFrom 24 = .ok (.aload_n 1, 1) := by decide +kernel
theorem dX1_copyFrom_25 : decode cX1_copyFrom 25 = .ok (.getfield 9, 3) := by decide +kernel
theorem dX1_copyFrom_28 : decode cX1_copyFrom 28 = .ok (.aload_n 0, 1) := by decide +kernel
theorem dX1_copyFrom_29 : decode cX1_copyFrom 29 = .ok (.getfield 9, 3) := by decide +kernel
theorem dX1_copyFrom_32 : decode cX1_copyFrom 32 = .ok (.invokestatic 42, 3) := by decide +kernel
theorem dX1_copyFrom_35 : decode cX1_copyFrom 35 = .ok (.aload_n 1, 1) := by decide +kernel
theorem dX1_copyFrom_36 : decode cX1_copyFrom 36 = .ok (.getfield 15, 3) := by decide +kernel
theorem dX1_copyFrom_39 : decode cX1_copyFrom 39 = .ok (.aload_n 0, 1) := by decide +kernel
theorem dX1_copyFrom_40 : decode cX1_copyFrom 40 = .ok (.getfield 15, 3) := by decide +kernel
theorem dX1_copyFrom_43 : decode cX1_copyFrom 43 = .ok (.invokestatic 42, 3) := by decide +kernel
theorem dX1_copyFrom_46 : decode cX1_copyFrom 46 = .ok (.aload_n 1, 1) := by decide +kernel
theorem dX1_copyFrom_47 : decode cX1_copyFrom 47 = .ok (.getfield 18, 3) := by decide +kernel
theorem dX1_copyFrom_50 : decode cX1_copyFrom 50 = .ok (.aload_n 0, 1) := by decide +kernel
theorem dX1_copyFrom_51 : decode cX1_copyFrom 51 = .ok (.getfield 18, 3) := by decide +kernel
theorem dX1_copyFrom_54 : decode cX1_copyFrom 54 = .ok (.invokestatic 42, 3) := by decide +kernel
theorem dX1_copyFrom_57 : decode cX1_copyFrom 57 = .ok (.iconst 0, 1) := by decide +kernel
theorem dX1_copyFrom_58 : decode cX1_copyFrom 58 = .ok (.istore_n 2, 1) := by decide +kernel
theorem dX1_copyFrom_59 : decode cX1_copyFrom 59 = .ok (.iload_n 2, 1) := by decide +kernel
theorem dX1_copyFrom_60 : decode cX1_copyFrom 60 = .ok (.aload_n 0, 1) := by decide +kernel
theorem dX1_copyFrom_61 : decode cX1_copyFrom 61 = .ok (.getfield 35, 3) := by decide +kernel
theorem dX1_copyFrom_64 : decode cX1_copyFrom 64 = .ok (.if_icmp .ge 37, 3) := by decide +kernel
theorem dX1_copyFrom_67 : decode cX1_copyFrom 67 = .ok (.aload_n 0, 1) := by decide +kernel
theorem dX1_copyFrom_68 : decode cX1_copyFrom 68 = .ok (.iload_n 2, 1) := by decide +kernel
theorem dX1_copyFrom_69 : decode cX1_copyFrom 69 = .ok (.invokevirtual 46, 3) := by decide +kernel
theorem dX1_copyFrom_72 : decode cX1_copyFrom 72 = .ok (.astore_n 3, 1) := by decide +kernel
theorem dX1_copyFrom_73 : decode cX1_copyFrom 73 = .ok (.aload_n 1, 1) := by decide +kernel
theorem dX1_copyFrom_74 : decode cX1_copyFrom 74 = .ok (.iload_n 2, 1) := by decide +kernel
theorem dX1_copyFrom_75 : decode cX1_copyFrom 75 = .ok (.invokevirtual 46, 3) := by decide +kernel
theorem dX1_copyFrom_78 : decode cX1_copyFrom 78 = .ok (.astore 4, 2) := by decide +kernel
theorem dX1_copyFrom_80 : decode cX1_copyFrom 80 = .ok (.aload_n 3, 1) := by decide +kernel
theorem dX1_copyFrom_81 : decode cX1_copyFrom 81 = .ok (.ifnull 14, 3) := by decide +kernel
theorem dX1_copyFrom_84 : decode cX1_copyFrom 84 = .ok (.aload 4, 2) := by decide +kernel
theorem dX1_copyFrom_86 : decode cX1_copyFrom 86 = .ok (.ifnull 9, 3) := by decide +kernel
theorem dX1_copyFrom_89 : decode cX1_copyFrom 89 = .ok (.aload_n 3, 1) := by decide +kernel
theorem dX1_copyFrom_90 : decode cX1_copyFrom 90 = .ok (.aload 4, 2) := by decide +kernel
theorem dX1_copyFrom_92 : decode cX1_copyFrom 92 = .ok (.invokevirtual 50, 3) := by decide +kernel
theorem dX1_copyFrom_95 : decode cX1_copyFrom 95 = .ok (.iinc 2 1, 3) := by decide +kernel
theorem dX1_copyFrom_98 : decode cX1_copyFrom 98 = .ok (.goto (-39), 3) := by decide +kernel
theorem dX1_copyFrom_101 : decode cX1_copyFrom 101 = .ok (.return_, 1) := by decide +kernel
theorem dX1_hasBox_0 : decode cX1_hasBox 0 = .ok (.iload_n 1, 1) := by decide +kernel
theorem dX1_hasBox_1 : decode cX1_hasBox 1 = .ok (.ifCond .lt 15, 3) := by decide +kernel
theorem dX1_hasBox_4 : decode cX1_hasBox 4 = .ok (.iload_n 1, 1) := by decide +kernel
theorem dX1_hasBox_5 : decode cX1_hasBox 5 = .ok (.aload_n 0, 1) := by decide +kernel
theorem dX1_hasBox_6 : decode cX1_hasBox 6 = .ok (.getfield 28, 3) := by decide +kernel
theorem dX1_hasBox_9 : decode cX1_hasBox 9 = .ok (.if_icmp .ge 7, 3) := by decide +kernel
theorem dX1_hasBox_12 : decode cX1_hasBox 12 = .ok (.iconst 1, 1) := by decide +kernel
theorem dX1_hasBox_13 : decode cX1_hasBox 13 = .ok (.goto 4, 3) := by decide +kernel
theorem dX1_hasBox_16 : decode cX1_hasBox 16 = .ok (.iconst 0, 1) := by decide +kernel
theorem dX1_hasBox_17 : decode cX1_hasBox 17 = .ok (.ireturn, 1) := by decide +kernel
theorem dX1_suits_0 : decode cX1_suits 0 = .ok (.iload_n 1, 1) := by decide +kernel
theorem dX1_suits_1 : decode cX1_suits 1 = .ok (.ifCond .lt 16, 3) := by decide +kernel
theorem dX1_suits_4 : decode cX1_suits 4 = .ok (.iload_n 1, 1) := by decide +kernel
theorem dX1_suits_5 : decode cX1_suits 5 = .ok (.iconst 5, 1) := by decide +kernel
theorem dX1_suits_6 : decode cX1_suits 6 = .ok (.if_icmp .gt 11, 3) := by decide +kernel
theorem dX1_suits_9 : decode cX1_suits 9 = .ok (.aload_n 0, 1) := by decide +kernel
theorem dX1_suits_10 : decode cX1_suits 10 = .ok (.iload_n 2, 1) := by decide +kernel
theorem dX1_suits_11 : decode cX1_suits 11 = .ok (.invokevirtual 54, 3) := by decide +kernel
theorem dX1_suits_14 : decode cX1_suits 14 = .ok (.ifCond .ne 5, 3) := by decide +kernel
theorem dX1_suits_17 : decode cX1_suits 17 = .ok (.iconst 0, 1) := by decide +kernel
theorem dX1_suits_18 : decode cX1_suits 18 = .ok (.ireturn, 1) := by decide +kernel
theorem dX1_suits_19 : decode cX1_suits 19 = .ok (.iload_n 1, 1) := by decide +kernel
theorem dX1_suits_20 : decode cX1_suits 20 = .ok (.iconst 4, 1) := by decide +kernel
theorem dX1_suits_21 : decode cX1_suits 21 = .ok (.if_icmp .ne 19, 3) := by decide +kernel
theorem dX1_suits_24 : decode cX1_suits 24 = .ok (.iload_n 3, 1) := by decide +kernel
theorem dX1_suits_25 : decode cX1_suits 25 = .ok (.ifCond .lt 13, 3) := by decide +kernel
theorem dX1_suits_28 : decode cX1_suits 28 = .ok (.iload_n 3, 1) := by decide +kernel
theorem dX1_suits_29 : decode cX1_suits 29 = .ok (.bipush 6, 2) := by decide +kernel
theorem dX1_suits_31 : decode cX1_suits 31 = .ok (.if_icmp .gt 7, 3) := by decide +kernel
theorem dX1_suits_34 : decode cX1_suits 34 = .ok (.iconst 1, 1) := by decide +kernel
theorem dX1_suits_35 : decode cX1_suits 35 = .ok (.goto 4, 3) := by decide +kernel
theorem dX1_suits_38 : decode cX1_suits 38 = .ok (.iconst 0, 1) := by decide +kernel
theorem dX1_suits_39 : decode cX1_suits 39 = .ok (.ireturn, 1) := by decide +kernel
theorem dX1_suits_40 : decode cX1_suits 40 = .ok (.aload_n 0, 1) := by decide +kernel
theorem dX1_suits_41 : decode cX1_suits 41 = .ok (.iload_n 3, 1) := by decide +kernel
theorem dX1_suits_42 : decode cX1_suits 42 = .ok (.invokevirtual 54, 3) := by decide +kernel
theorem dX1_suits_45 : decode cX1_suits 45 = .ok (.ifCond .eq 17, 3) := by decide +kernel
theorem dX1_suits_48 : decode cX1_suits 48 = .ok (.iload_n 1, 1) := by decide +kernel
theorem dX1_suits_49 : decode cX1_suits 49 = .ok (.iconst 5, 1) := by decide +kernel
theorem dX1_suits_50 : decode cX1_suits 50 = .ok (.if_icmp .eq 8, 3) := by decide +kernel
theorem dX1_suits_53 : decode cX1_suits 53 = .ok (.iload_n 2, 1) := by decide +kernel
theorem dX1_suits_54 : decode cX1_suits 54 = .ok (.iload_n 3, 1) := by decide +kernel
theorem dX1_suits_55 : decode cX1_suits 55 = .ok (.if_icmp .eq 7, 3) := by decide +kernel
theorem dX1_suits_58 : decode cX1_suits 58 = .ok (.iconst 1, 1) := by decide +kernel
theorem dX1_suits_59 : decode cX1_suits 59 = .ok (.goto 4, 3) := by decide +kernel
theorem dX1_suits_62 : decode cX1_suits 62 = .ok (.iconst 0, 1) := by decide +kernel
theorem dX1_suits_63 : decode cX1_suits 63 = .ok (.ireturn, 1) := by decide +kernel
theorem dX1_hasRoomFor_0 : decode cX1_hasRoomFor 0 = .ok (.aload_n 0, 1) := by decide +kernel
theorem dX1_hasRoomFor_1 : decode cX1_hasRoomFor 1 = .ok (.getfield 35, 3) := by decide +kernel
theorem dX1_hasRoomFor_4 : decode cX1_hasRoomFor 4 = .ok (.iload_n 1, 1) := by decide +kernel
theorem dX1_hasRoomFor_5 : decode cX1_hasRoomFor 5 = .ok (.iadd, 1) := by decide +kernel
theorem dX1_hasRoomFor_6 : decode cX1_hasRoomFor 6 = .ok (.bipush 20, 2) := by decide +kernel
theorem dX1_hasRoomFor_8 : decode cX1_hasRoomFor 8 = .ok (.if_icmp .gt 7, 3) := by decide +kernel
theorem dX1_hasRoomFor_11 : decode cX1_hasRoomFor 11 = .ok (.iconst 1, 1) := by decide +kernel
theorem dX1_hasRoomFor_12 : decode cX1_hasRoomFor 12 = .ok (.goto 4, 3) := by decide +kernel
theorem dX1_hasRoomFor_15 : decode cX1_hasRoomFor 15 = .ok (.iconst 0, 1) := by decide +kernel
theorem dX1_hasRoomFor_16 : decode cX1_hasRoomFor 16 = .ok (.ireturn, 1) := by decide +kernel
theorem dX1_rumourAt_0 : decode cX1_rumourAt 0 = .ok (.iload_n 1, 1) := by decide +kernel
theorem dX1_rumourAt_1 : decode cX1_rumourAt 1 = .ok (.ifCond .lt 29, 3) := by decide +kernel
theorem dX1_rumourAt_4 : decode cX1_rumourAt 4 = .ok (.iload_n 1, 1) := by decide +kernel
theorem dX1_rumourAt_5 : decode cX1_rumourAt 5 = .ok (.aload_n 0, 1) := by decide +kernel
theorem dX1_rumourAt_6 : decode cX1_rumourAt 6 = .ok (.getfield 35, 3) := by decide +kernel
theorem dX1_rumourAt_9 : decode cX1_rumourAt 9 = .ok (.if_icmp .ge 21, 3) := by decide +kernel
theorem dX1_rumourAt_12 : decode cX1_rumourAt 12 = .ok (.iload_n 1, 1) := by decide +kernel
theorem dX1_rumourAt_13 : decode cX1_rumourAt 13 = .ok (.aload_n 0, 1) := by decide +kernel
theorem dX1_rumourAt_14 : decode cX1_rumourAt 14 = .ok (.getfield 23, 3) := by decide +kernel
theorem dX1_rumourAt_17 : decode cX1_rumourAt 17 = .ok (.arraylength, 1) := by decide +kernel
theorem dX1_rumourAt_18 : decode cX1_rumourAt 18 = .ok (.if_icmp .ge 12, 3) := by decide +kernel
theorem dX1_rumourAt_21 : decode cX1_rumourAt 21 = .ok (.aload_n 0, 1) := by decide +kernel
theorem dX1_rumourAt_22 : decode cX1_rumourAt 22 = .ok (.getfield 23, 3) := by decide +kernel
theorem dX1_rumourAt_25 : decode cX1_rumourAt 25 = .ok (.iload_n 1, 1) := by decide +kernel
theorem dX1_rumourAt_26 : decode cX1_rumourAt 26 = .ok (.aaload, 1) := by decide +kernel
theorem dX1_rumourAt_27 : decode cX1_rumourAt 27 = .ok (.goto 4, 3) := by decide +kernel
theorem dX1_rumourAt_30 : decode cX1_rumourAt 30 = .ok (.aconst_null, 1) := by decide +kernel
theorem dX1_rumourAt_31 : decode cX1_rumourAt 31 = .ok (.areturn, 1) := by decide +kernel
theorem dX1_addRumour_0 : decode cX1_addRumour 0 = .ok (.aload_n 0, 1) := by decide +kernel
theorem dX1_addRumour_1 : decode cX1_addRumour 1 = .ok (.iconst 1, 1) := by decide +kernel
theorem dX1_addRumour_2 : decode cX1_addRumour 2 = .ok (.invokevirtual 58, 3) := by decide +kernel
theorem dX1_addRumour_5 : decode cX1_addRumour 5 = .ok (.ifCond .ne 4, 3) := by decide +kernel
theorem dX1_addRumour_8 : decode cX1_addRumour 8 = .ok (.return_, 1) := by decide +kernel
theorem dX1_addRumour_9 : decode cX1_addRumour 9 = .ok (.aload_n 0, 1) := by decide +kernel
theorem dX1_addRumour_10 : decode cX1_addRumour 10 = .ok (.dup, 1) := by decide +kernel
theorem dX1_addRumour_11 : decode cX1_addRumour 11 = .ok (.getfield 35, 3) := by decide +kernel
theorem dX1_addRumour_14 : decode cX1_addRumour 14 = .ok (.iconst 1, 1) := by decide +kernel
theorem dX1_addRumour_15 : decode cX1_addRumour 15 = .ok (.iadd, 1) := by decide +kernel
theorem dX1_addRumour_16 : decode cX1_addRumour 16 = .ok (.putfield 35, 3) := by decide +kernel
theorem dX1_addRumour_19 : decode cX1_addRumour 19 = .ok (.aload_n 0, 1) := by decide +kernel
theorem dX1_addRumour_20 : decode cX1_addRumour 20 = .ok (.aload_n 0, 1) := by decide +kernel
theorem dX1_addRumour_21 : decode cX1_addRumour 21 = .ok (.getfield 35, 3) := by decide +kernel
theorem dX1_addRumour_24 : decode cX1_addRumour 24 = .ok (.iconst 1, 1) := by decide +kernel
theorem dX1_addRumour_25 : decode cX1_addRumour 25 = .ok (.isub, 1) := by decide +kernel
theorem dX1_addRumour_26 : decode cX1_addRumour 26 = .ok (.invokevirtual 46, 3) := by decide +kernel
theorem dX1_addRumour_29 : decode cX1_addRumour 29 = .ok (.astore 5, 2) := by decide +kernel
theorem dX1_addRumour_31 : decode cX1_addRumour 31 = .ok (.aload 5, 2) := by decide +kernel
theorem dX1_addRumour_33 : decode cX1_addRumour 33 = .ok (.ifnull 13, 3) := by decide +kernel
theorem dX1_addRumour_36 : decode cX1_addRumour 36 = .ok (.aload 5, 2) := by decide +kernel
theorem dX1_addRumour_38 : decode cX1_addRumour 38 = .ok (.iload_n 1, 1) := by decide +kernel
theorem dX1_addRumour_39 : decode cX1_addRumour 39 = .ok (.iload_n 2, 1) := by decide +kernel
theorem dX1_addRumour_40 : decode cX1_addRumour 40 = .ok (.iload_n 3, 1) := by decide +kernel
theorem dX1_addRumour_41 : decode cX1_addRumour 41 = .ok (.iload 4, 2) := by decide +kernel
theorem dX1_addRumour_43 : decode cX1_addRumour 43 = .ok (.invokevirtual 61, 3) := by decide +kernel
theorem dX1_addRumour_46 : decode cX1_addRumour 46 = .ok (.return_, 1) := by decide +kernel
theorem dX1_openRumours_0 : decode cX1_openRumours 0 = .ok (.iconst 0, 1) := by decide +kernel
theorem dX1_openRumours_1 : decode cX1_openRumours 1 = .ok (.istore_n 1, 1) := by decide +kernel
theorem dX1_openRumours_2 : decode cX1_openRumours 2 = .ok (.iconst 0, 1) := by decide +kernel
theorem dX1_openRumours_3 : decode cX1_openRumours 3 = .ok (.istore_n 2, 1) := by decide +kernel
theorem dX1_openRumours_4 : decode cX1_openRumours 4 = .ok (.iload_n 2, 1) := by decide +kernel
theorem dX1_openRumours_5 : decode cX1_openRumours 5 = .ok (.aload_n 0, 1) := by decide +kernel
theorem dX1_openRumours_6 : decode cX1_openRumours 6 = .ok (.getfield 35, 3) := by decide +kernel
theorem dX1_openRumours_9 : decode cX1_openRumours 9 = .ok (.if_icmp .ge 20, 3) := by decide +kernel
theorem dX1_openRumours_12 : decode cX1_openRumours 12 = .ok (.aload_n 0, 1) := by decide +kernel
theorem dX1_openRumours_13 : decode cX1_openRumours 13 = .ok (.iload_n 2, 1) := by decide +kernel
theorem dX1_openRumours_14 : decode cX1_openRumours 14 = .ok (.invokevirtual 65, 3) := by decide +kernel
theorem dX1_openRumours_17 : decode cX1_openRumours 17 = .ok (.ifCond .eq 6, 3) := by decide +kernel
theorem dX1_openRumours_20 : decode cX1_openRumours 20 = .ok (.iinc 1 1, 3) := by decide +kernel
theorem dX1_openRumours_23 : decode cX1_openRumours 23 = .ok (.iinc 2 1, 3) := by decide +kernel
theorem dX1_openRumours_26 : decode cX1_openRumours 26 = .ok (.goto (-22), 3) := by decide +kernel
theorem dX1_openRumours_29 : decode cX1_openRumours 29 = .ok (.iload_n 1, 1) := by decide +kernel
theorem dX1_openRumours_30 : decode cX1_openRumours 30 = .ok (.ireturn, 1) := by decide +kernel
theorem dX1_isOpen_0 : decode cX1_isOpen 0 = .ok (.aload_n 0, 1) := by decide +kernel
theorem dX1_isOpen_1 : decode cX1_isOpen 1 = .ok (.iload_n 1, 1) := by decide +kernel
theorem dX1_isOpen_2 : decode cX1_isOpen 2 = .ok (.invokevirtual 46, 3) := by decide +kernel
theorem dX1_isOpen_5 : decode cX1_isOpen 5 = .ok (.astore_n 2, 1) := by decide +kernel
theorem dX1_isOpen_6 : decode cX1_isOpen 6 = .ok (.aload_n 2, 1) := by decide +kernel
theorem dX1_isOpen_7 : decode cX1_isOpen 7 = .ok (.ifnull 14, 3) := by decide +kernel
theorem dX1_isOpen_10 : decode cX1_isOpen 10 = .ok (.aload_n 2, 1) := by decide +kernel
theorem dX1_isOpen_11 : decode cX1_isOpen 11 = .ok (.getfield 68, 3) := by decide +kernel
theorem dX1_isOpen_14 : decode cX1_isOpen 14 = .ok (.ifCond .ne 7, 3) := by decide +kernel
theorem dX1_isOpen_17 : decode cX1_isOpen 17 = .ok (.iconst 1, 1) := by decide +kernel
theorem dX1_isOpen_18 : decode cX1_isOpen 18 = .ok (.goto 4, 3) := by decide +kernel
theorem dX1_isOpen_21 : decode cX1_isOpen 21 = .ok (.iconst 0, 1) := by decide +kernel
theorem dX1_isOpen_22 : decode cX1_isOpen 22 = .ok (.ireturn, 1) := by decide +kernel
theorem dX1_isTrue_0 : decode cX1_isTrue 0 = .ok (.aload_n 0, 1) := by decide +kernel
theorem dX1_isTrue_1 : decode cX1_isTrue 1 = .ok (.iload_n 1, 1) := by decide +kernel
theorem dX1_isTrue_2 : decode cX1_isTrue 2 = .ok (.invokevirtual 46, 3) := by decide +kernel
theorem dX1_isTrue_5 : decode cX1_isTrue 5 = .ok (.astore_n 2, 1) := by decide +kernel
theorem dX1_isTrue_6 : decode cX1_isTrue 6 = .ok (.aload_n 2, 1) := by decide +kernel
theorem dX1_isTrue_7 : decode cX1_isTrue 7 = .ok (.ifnull 18, 3) := by decide +kernel
theorem dX1_isTrue_10 : decode cX1_isTrue 10 = .ok (.aload_n 2, 1) := by decide +kernel
theorem dX1_isTrue_11 : decode cX1_isTrue 11 = .ok (.aload_n 0, 1) := by decide +kernel
theorem dX1_isTrue_12 : decode cX1_isTrue 12 = .ok (.getfield 9, 3) := by decide +kernel
theorem dX1_isTrue_15 : decode cX1_isTrue 15 = .ok (.invokevirtual 71, 3) := by decide +kernel
theorem dX1_isTrue_18 : decode cX1_isTrue 18 = .ok (.ifCond .eq 7, 3) := by decide +kernel
theorem dX1_isTrue_21 : decode cX1_isTrue 21 = .ok (.iconst 1, 1) := by decide +kernel
theorem dX1_isTrue_22 : decode cX1_isTrue 22 = .ok (.goto 4, 3) := by decide +kernel
theorem dX1_isTrue_25 : decode cX1_isTrue 25 = .ok (.iconst 0, 1) := by decide +kernel
theorem dX1_isTrue_26 : decode cX1_isTrue 26 = .ok (.ireturn, 1) := by decide +kernel
theorem dX1_revealOpen_0 : decode cX1_revealOpen 0 = .ok (.iconst 0, 1) := by decide +kernel
theorem dX1_revealOpen_1 : decode cX1_revealOpen 1 = .ok (.istore_n 1, 1) := by decide +kernel
theorem dX1_revealOpen_2 : decode cX1_revealOpen 2 = .ok (.iconst 0, 1) := by decide +kernel
theorem dX1_revealOpen_3 : decode cX1_revealOpen 3 = .ok (.istore_n 2, 1) := by decide +kernel
theorem dX1_revealOpen_4 : decode cX1_revealOpen 4 = .ok (.iload_n 2, 1) := by decide +kernel
theorem dX1_revealOpen_5 : decode cX1_revealOpen 5 = .ok (.aload_n 0, 1) := by decide +kernel
theorem dX1_revealOpen_6 : decode cX1_revealOpen 6 = .ok (.getfield 35, 3) := by decide +kernel
theorem dX1_revealOpen_9 : decode cX1_revealOpen 9 = .ok (.if_icmp .ge 41, 3) := by decide +kernel
theorem dX1_revealOpen_12 : decode cX1_revealOpen 12 = .ok (.aload_n 0, 1) := by decide +kernel
theorem dX1_revealOpen_13 : decode cX1_revealOpen 13 = .ok (.iload_n 2, 1) := by decide +kernel
theorem dX1_revealOpen_14 : decode cX1_revealOpen 14 = .ok (.invokevirtual 46, 3) := by decide +kernel
theorem dX1_revealOpen_17 : decode cX1_revealOpen 17 = .ok (.astore_n 3, 1) := by decide +kernel
theorem dX1_revealOpen_18 : decode cX1_revealOpen 18 = .ok (.aload_n 3, 1) := by decide +kernel
theorem dX1_revealOpen_19 : decode cX1_revealOpen 19 = .ok (.ifnull 25, 3) := by decide +kernel
theorem dX1_revealOpen_22 : decode cX1_revealOpen 22 = .ok (.aload_n 3, 1) := by decide +kernel
theorem dX1_revealOpen_23 : decode cX1_revealOpen 23 = .ok (.getfield 68, 3) := by decide +kernel
theorem dX1_revealOpen_26 : decode cX1_revealOpen 26 = .ok (.ifCond .ne 18, 3) := by decide +kernel
theorem dX1_revealOpen_29 : decode cX1_revealOpen 29 = .ok (.aload_n 3, 1) := by decide +kernel
theorem dX1_revealOpen_30 : decode cX1_revealOpen 30 = .ok (.aload_n 3, 1) := by decide +kernel
theorem dX1_revealOpen_31 : decode cX1_revealOpen 31 = .ok (.aload_n 0, 1) := by decide +kernel
theorem dX1_revealOpen_32 : decode cX1_revealOpen 32 = .ok (.getfield 9, 3) := by decide +kernel
theorem dX1_revealOpen_35 : decode cX1_revealOpen 35 = .ok (.invokevirtual 71, 3) := by decide +kernel
theorem dX1_revealOpen_38 : decode cX1_revealOpen 38 = .ok (.invokevirtual 75, 3) := by decide +kernel
theorem dX1_revealOpen_41 : decode cX1_revealOpen 41 = .ok (.iinc 1 1, 3) := by decide +kernel
theorem dX1_revealOpen_44 : decode cX1_revealOpen 44 = .ok (.iinc 2 1, 3) := by decide +kernel
theorem dX1_revealOpen_47 : decode cX1_revealOpen 47 = .ok (.goto (-43), 3) := by decide +kernel
theorem dX1_revealOpen_50 : decode cX1_revealOpen 50 = .ok (.iload_n 1, 1) := by decide +kernel
theorem dX1_revealOpen_51 : decode cX1_revealOpen 51 = .ok (.ireturn, 1) := by decide +kernel
theorem dX1_finishAct_0 : decode cX1_finishAct 0 = .ok (.iconst 0, 1) := by decide +kernel
theorem dX1_finishAct_1 : decode cX1_finishAct 1 = .ok (.istore_n 1, 1) := by decide +kernel
theorem dX1_finishAct_2 : decode cX1_finishAct 2 = .ok (.iload_n 1, 1) := by decide +kernel
theorem dX1_finishAct_3 : decode cX1_finishAct 3 = .ok (.aload_n 0, 1) := by decide +kernel
theorem dX1_finishAct_4 : decode cX1_finishAct 4 = .ok (.getfield 35, 3) := by decide +kernel
theorem dX1_finishAct_7 : decode cX1_finishAct 7 = .ok (.if_icmp .ge 34, 3) := by decide +kernel
theorem dX1_finishAct_10 : decode cX1_finishAct 10 = .ok (.aload_n 0, 1) := by decide +kernel
theorem dX1_finishAct_11 : decode cX1_finishAct 11 = .ok (.getfield 15, 3) := by decide +kernel
theorem dX1_finishAct_14 : decode cX1_finishAct 14 = .ok (.aload_n 0, 1) := by decide +kernel
theorem dX1_finishAct_15 : decode cX1_finishAct 15 = .ok (.iload_n 1, 1) := by decide +kernel
theorem dX1_finishAct_16 : decode cX1_finishAct 16 = .ok (.invokevirtual 79, 3) := by decide +kernel
theorem dX1_finishAct_19 : decode cX1_finishAct 19 = .ok (.aload_n 0, 1) := by decide +kernel
theorem dX1_finishAct_20 : decode cX1_finishAct 20 = .ok (.iload_n 1, 1) := by decide +kernel
theorem dX1_finishAct_21 : decode cX1_finishAct 21 = .ok (.invokevirtual 83, 3) := by decide +kernel
theorem dX1_finishAct_24 : decode cX1_finishAct 24 = .ok (.ifCond .eq 7, 3) := by decide +kernel
theorem dX1_finishAct_27 : decode cX1_finishAct 27 = .ok (.iconst 1, 1) := by decide +kernel
theorem dX1_finishAct_28 : decode cX1_finishAct 28 = .ok (.goto 4, 3) := by decide +kernel
theorem dX1_finishAct_31 : decode cX1_finishAct 31 = .ok (.iconst (-1), 1) := by decide +kernel
theorem dX1_finishAct_32 : decode cX1_finishAct 32 = .ok (.invokestatic 86, 3) := by decide +kernel
theorem dX1_finishAct_35 : decode cX1_finishAct 35 = .ok (.iinc 1 1, 3) := by decide +kernel
theorem dX1_finishAct_38 : decode cX1_finishAct 38 = .ok (.goto (-36), 3) := by decide +kernel
theorem dX1_finishAct_41 : decode cX1_finishAct 41 = .ok (.aload_n 0, 1) := by decide +kernel
theorem dX1_finishAct_42 : decode cX1_finishAct 42 = .ok (.iconst 0, 1) := by decide +kernel
theorem dX1_finishAct_43 : decode cX1_finishAct 43 = .ok (.putfield 35, 3) := by decide +kernel
theorem dX1_finishAct_46 : decode cX1_finishAct 46 = .ok (.aload_n 0, 1) := by decide +kernel
theorem dX1_finishAct_47 : decode cX1_finishAct 47 = .ok (.getfield 18, 3) := by decide +kernel
theorem dX1_finishAct_50 : decode cX1_finishAct 50 = .ok (.iconst 0, 1) := by decide +kernel
theorem dX1_finishAct_51 : decode cX1_finishAct 51 = .ok (.invokestatic 38, 3) := by decide +kernel
theorem dX1_finishAct_54 : decode cX1_finishAct 54 = .ok (.aload_n 0, 1) := by decide +kernel
theorem dX1_finishAct_55 : decode cX1_finishAct 55 = .ok (.dup, 1) := by decide +kernel
theorem dX1_finishAct_56 : decode cX1_finishAct 56 = .ok (.getfield 32, 3) := by decide +kernel
theorem dX1_finishAct_59 : decode cX1_finishAct 59 = .ok (.iconst 1, 1) := by decide +kernel
theorem dX1_finishAct_60 : decode cX1_finishAct 60 = .ok (.iadd, 1) := by decide +kernel
theorem dX1_finishAct_61 : decode cX1_finishAct 61 = .ok (.putfield 32, 3) := by decide +kernel
theorem dX1_finishAct_64 : decode cX1_finishAct 64 = .ok (.return_, 1) := by decide +kernel
theorem dX1_tellerOf_0 : decode cX1_tellerOf 0 = .ok (.aload_n 0, 1) := by decide +kernel
theorem dX1_tellerOf_1 : decode cX1_tellerOf 1 = .ok (.iload_n 1, 1) := by decide +kernel
theorem dX1_tellerOf_2 : decode cX1_tellerOf 2 = .ok (.invokevirtual 46, 3) := by decide +kernel
theorem dX1_tellerOf_5 : decode cX1_tellerOf 5 = .ok (.astore_n 2, 1) := by decide +kernel
theorem dX1_tellerOf_6 : decode cX1_tellerOf 6 = .ok (.aload_n 2, 1) := by decide +kernel
theorem dX1_tellerOf_7 : decode cX1_tellerOf 7 = .ok (.ifnull 10, 3) := by decide +kernel
theorem dX1_tellerOf_10 : decode cX1_tellerOf 10 = .ok (.aload_n 2, 1) := by decide +kernel
theorem dX1_tellerOf_11 : decode cX1_tellerOf 11 = .ok (.getfield 90, 3) := by decide +kernel
theorem dX1_tellerOf_14 : decode cX1_tellerOf 14 = .ok (.goto 4, 3) := by decide +kernel
theorem dX1_tellerOf_17 : decode cX1_tellerOf 17 = .ok (.iconst (-1), 1) := by decide +kernel
theorem dX1_tellerOf_18 : decode cX1_tellerOf 18 = .ok (.ireturn, 1) := by decide +kernel
theorem dX1_toldBy_0 : decode cX1_toldBy 0 = .ok (.iconst 0, 1) := by decide +kernel
theorem dX1_toldBy_1 : decode cX1_toldBy 1 = .ok (.istore_n 2, 1) := by decide +kernel
theorem dX1_toldBy_2 : decode cX1_toldBy 2 = .ok (.iconst 0, 1) := by decide +kernel
theorem dX1_toldBy_3 : decode cX1_toldBy 3 = .ok (.istore_n 3, 1) := by decide +kernel
theorem dX1_toldBy_4 : decode cX1_toldBy 4 = .ok (.iload_n 3, 1) := by decide +kernel
theorem dX1_toldBy_5 : decode cX1_toldBy 5 = .ok (.aload_n 0, 1) := by decide +kernel
theorem dX1_toldBy_6 : decode cX1_toldBy 6 = .ok (.getfield 35, 3) := by decide +kernel
theorem dX1_toldBy_9 : decode cX1_toldBy 9 = .ok (.if_icmp .ge 21, 3) := by decide +kernel
theorem dX1_toldBy_12 : decode cX1_toldBy 12 = .ok (.aload_n 0, 1) := by decide +kernel
theorem dX1_toldBy_13 : decode cX1_toldBy 13 = .ok (.iload_n 3, 1) := by decide +kernel
theorem dX1_toldBy_14 : decode cX1_toldBy 14 = .ok (.invokevirtual 79, 3) := by decide +kernel
theorem dX1_toldBy_17 : decode cX1_toldBy 17 = .ok (.iload_n 1, 1) := by decide +kernel
theorem dX1_toldBy_18 : decode cX1_toldBy 18 = .ok (.if_icmp .ne 6, 3) := by decide +kernel
theorem dX1_toldBy_21 : decode cX1_toldBy 21 = .ok (.iinc 2 1, 3) := by decide +kernel
theorem dX1_toldBy_24 : decode cX1_toldBy 24 = .ok (.iinc 3 1, 3) := by decide +kernel
theorem dX1_toldBy_27 : decode cX1_toldBy 27 = .ok (.goto (-23), 3) := by decide +kernel
theorem dX1_toldBy_30 : decode cX1_toldBy 30 = .ok (.iload_n 2, 1) := by decide +kernel
theorem dX1_toldBy_31 : decode cX1_toldBy 31 = .ok (.ireturn, 1) := by decide +kernel
theorem dX1_toldTrulyBy_0 : decode cX1_toldTrulyBy 0 = .ok (.iconst 0, 1) := by decide +kernel
theorem dX1_toldTrulyBy_1 : decode cX1_toldTrulyBy 1 = .ok (.istore_n 2, 1) := by decide +kernel
theorem dX1_toldTrulyBy_2 : decode cX1_toldTrulyBy 2 = .ok (.iconst 0, 1) := by decide +kernel
theorem dX1_toldTrulyBy_3 : decode cX1_toldTrulyBy 3 = .ok (.istore_n 3, 1) := by decide +kernel
theorem dX1_toldTrulyBy_4 : decode cX1_toldTrulyBy 4 = .ok (.iload_n 3, 1) := by decide +kernel
theorem dX1_toldTrulyBy_5 : decode cX1_toldTrulyBy 5 = .ok (.aload_n 0, 1) := by decide +kernel
theorem dX1_toldTrulyBy_6 : decode cX1_toldTrulyBy 6 = .ok (.getfield 35, 3) := by decide +kernel
theorem dX1_toldTrulyBy_9 : decode cX1_toldTrulyBy 9 = .ok (.if_icmp .ge 29, 3) := by decide +kernel
theorem dX1_toldTrulyBy_12 : decode cX1_toldTrulyBy 12 = .ok (.aload_n 0, 1) := by decide +kernel
theorem dX1_toldTrulyBy_13 : decode cX1_toldTrulyBy 13 = .ok (.iload_n 3, 1) := by decide +kernel
theorem dX1_toldTrulyBy_14 : decode cX1_toldTrulyBy 14 = .ok (.invokevirtual 79, 3) := by decide +kernel
theorem dX1_toldTrulyBy_17 : decode cX1_toldTrulyBy 17 = .ok (.iload_n 1, 1) := by decide +kernel
theorem dX1_toldTrulyBy_18 : decode cX1_toldTrulyBy 18 = .ok (.if_icmp .ne 14, 3) := by decide +kernel
theorem dX1_toldTrulyBy_21 : decode cX1_toldTrulyBy 21 = .ok (.aload_n 0, 1) := by decide +kernel
theorem dX1_toldTrulyBy_22 : decode cX1_toldTrulyBy 22 = .ok (.iload_n 3, 1) := by decide +kernel
theorem dX1_toldTrulyBy_23 : decode cX1_toldTrulyBy 23 = .ok (.invokevirtual 83, 3) := by decide +kernel
theorem dX1_toldTrulyBy_26 : decode cX1_toldTrulyBy 26 = .ok (.ifCond .eq 6, 3) := by decide +kernel
theorem dX1_toldTrulyBy_29 : decode cX1_toldTrulyBy 29 = .ok (.iinc 2 1, 3) := by decide +kernel
theorem dX1_toldTrulyBy_32 : decode cX1_toldTrulyBy 32 = .ok (.iinc 3 1, 3) := by decide +kernel
theorem dX1_toldTrulyBy_35 : decode cX1_toldTrulyBy 35 = .ok (.goto (-31), 3) := by decide +kernel
theorem dX1_toldTrulyBy_38 : decode cX1_toldTrulyBy 38 = .ok (.iload_n 2, 1) := by decide +kernel
theorem dX1_toldTrulyBy_39 : decode cX1_toldTrulyBy 39 = .ok (.ireturn, 1) := by decide +kernel
theorem dX1_firstBroken_0 : decode cX1_firstBroken 0 = .ok (.iload_n 1, 1) := by decide +kernel
theorem dX1_firstBroken_1 : decode cX1_firstBroken 1 = .ok (.iconst 0, 1) := by decide +kernel
theorem dX1_firstBroken_2 : decode cX1_firstBroken 2 = .ok (.invokestatic 93, 3) := by decide +kernel
theorem dX1_firstBroken_5 : decode cX1_firstBroken 5 = .ok (.istore_n 3, 1) := by decide +kernel
theorem dX1_firstBroken_6 : decode cX1_firstBroken 6 = .ok (.iload_n 3, 1) := by decide +kernel
theorem dX1_firstBroken_7 : decode cX1_firstBroken 7 = .ok (.aload_n 0, 1) := by decide +kernel
theorem dX1_firstBroken_8 : decode cX1_firstBroken 8 = .ok (.getfield 35, 3) := by decide +kernel
theorem dX1_firstBroken_11 : decode cX1_firstBroken 11 = .ok (.if_icmp .ge 50, 3) := by decide +kernel
theorem dX1_firstBroken_14 : decode cX1_firstBroken 14 = .ok (.iload_n 3, 1) := by decide +kernel
theorem dX1_firstBroken_15 : decode cX1_firstBroken 15 = .ok (.aload_n 0, 1) := by decide +kernel
theorem dX1_firstBroken_16 : decode cX1_firstBroken 16 = .ok (.getfield 23, 3) := by decide +kernel
theorem dX1_firstBroken_19 : decode cX1_firstBroken 19 = .ok (.arraylength, 1) := by decide +kernel
theorem dX1_firstBroken_20 : decode cX1_firstBroken 20 = .ok (.if_icmp .ge 41, 3) := by decide +kernel
theorem dX1_firstBroken_23 : decode cX1_firstBroken 23 = .ok (.aload_n 0, 1) := by decide +kernel
theorem dX1_firstBroken_24 : decode cX1_firstBroken 24 = .ok (.getfield 23, 3) := by decide +kernel
theorem dX1_firstBroken_27 : decode cX1_firstBroken 27 = .ok (.iload_n 3, 1) := by decide +kernel
theorem dX1_firstBroken_28 : decode cX1_firstBroken 28 = .ok (.aaload, 1) := by decide +kernel
theorem dX1_firstBroken_29 : decode cX1_firstBroken 29 = .ok (.astore 4, 2) := by decide +kernel
theorem dX1_firstBroken_31 : decode cX1_firstBroken 31 = .ok (.aload 4, 2) := by decide +kernel
theorem dX1_firstBroken_33 : decode cX1_firstBroken 33 = .ok (.ifnull 22, 3) := by decide +kernel
theorem dX1_firstBroken_36 : decode cX1_firstBroken 36 = .ok (.aload 4, 2) := by decide +kernel
theorem dX1_firstBroken_38 : decode cX1_firstBroken 38 = .ok (.getfield 68, 3) := by decide +kernel
theorem dX1_firstBroken_41 : decode cX1_firstBroken 41 = .ok (.ifCond .eq 14, 3) := by decide +kernel
theorem dX1_firstBroken_44 : decode cX1_firstBroken 44 = .ok (.aload 4, 2) := by decide +kernel
theorem dX1_firstBroken_46 : decode cX1_firstBroken 46 = .ok (.aload_n 2, 1) := by decide +kernel
theorem dX1_firstBroken_47 : decode cX1_firstBroken 47 = .ok (.invokevirtual 99, 3) := by decide +kernel
theorem dX1_firstBroken_50 : decode cX1_firstBroken 50 = .ok (.ifCond .eq 5, 3) := by decide +kernel
theorem dX1_firstBroken_53 : decode cX1_firstBroken 53 = .ok (.iload_n 3, 1) := by decide +kernel
theorem dX1_firstBroken_54 : decode cX1_firstBroken 54 = .ok (.ireturn, 1) := by decide +kernel
theorem dX1_firstBroken_55 : decode cX1_firstBroken 55 = .ok (.iinc 3 1, 3) := by decide +kernel
theorem dX1_firstBroken_58 : decode cX1_firstBroken 58 = .ok (.goto (-52), 3) := by decide +kernel
theorem dX1_firstBroken_61 : decode cX1_firstBroken 61 = .ok (.bipush (-6), 2) := by decide +kernel
theorem dX1_firstBroken_63 : decode cX1_firstBroken 63 = .ok (.ireturn, 1) := by decide +kernel
theorem dX2_init_0 : decode cX2_init 0 = .ok (.aload_n 0, 1) := by decide +kernel
theorem dX2_init_1 : decode cX2_init 1 = .ok (.invokespecial 3, 3) := by decide +kernel
theorem dX2_init_4 : decode cX2_init 4 = .ok (.aload_n 0, 1) := by decide +kernel
theorem dX2_init_5 : decode cX2_init 5 = .ok (.bipush 60, 2) := by decide +kernel
theorem dX2_init_7 : decode cX2_init 7 = .ok (.newarray .char, 2) := by decide +kernel
theorem dX2_init_9 : decode cX2_init 9 = .ok (.putfield 9, 3) := by decide +kernel
theorem dX2_init_12 : decode cX2_init 12 = .ok (.return_, 1) := by decide +kernel
theorem dX3_init_0 : decode cX3_init 0 = .ok (.aload_n 0, 1) := by decide +kernel
theorem dX3_init_1 : decode cX3_init 1 = .ok (.invokespecial 3, 3) := by decide +kernel
theorem dX3_init_4 : decode cX3_init 4 = .ok (.return_, 1) := by decide +kernel
theorem dX3_become_0 : decode cX3_become 0 = .ok (.aload_n 0, 1) := by decide +kernel
theorem dX3_become_1 : decode cX3_become 1 = .ok (.iload_n 1, 1) := by decide +kernel
theorem dX3_become_2 : decode cX3_become 2 = .ok (.putfield 9, 3) := by decide +kernel
theorem dX3_become_5 : decode cX3_become 5 = .ok (.aload_n 0, 1) := by decide +kernel
theorem dX3_become_6 : decode cX3_become 6 = .ok (.iload_n 2, 1) := by decide +kernel
theorem dX3_become_7 : decode cX3_become 7 = .ok (.putfield 15, 3) := by decide +kernel
theorem dX3_become_10 : decode cX3_become 10 = .ok (.aload_n 0, 1) := by decide +kernel
theorem dX3_become_11 : decode cX3_become 11 = .ok (.iload_n 3, 1) := by decide +kernel
theorem dX3_become_12 : decode cX3_become 12 = .ok (.putfield 18, 3) := by decide +kernel
theorem dX3_become_15 : decode cX3_become 15 = .ok (.aload_n 0, 1) := by decide +kernel
theorem dX3_become_16 : decode cX3_become 16 = .ok (.iload 4, 2) := by decide +kernel
theorem dX3_become_18 : decode cX3_become 18 = .ok (.putfield 21, 3) := by decide +kernel
theorem dX3_become_21 : decode cX3_become 21 = .ok (.aload_n 0, 1) := by decide +kernel
theorem dX3_become_22 : decode cX3_become 22 = .ok (.iconst 0, 1) := by decide +kernel
theorem dX3_become_23 : decode cX3_become 23 = .ok (.putfield 24, 3) := by decide +kernel
theorem dX3_become_26 : decode cX3_become 26 = .ok (.return_, 1) := by decide +kernel
theorem dX3_copyFrom_0 : decode cX3_copyFrom 0 = .ok (.aload_n 0, 1) := by decide +kernel
theorem dX3_copyFrom_1 : decode cX3_copyFrom 1 = .ok (.aload_n 1, 1) := by decide +kernel
theorem dX3_copyFrom_2 : decode cX3_copyFrom 2 = .ok (.getfield 9, 3) := by decide +kernel
theorem dX3_copyFrom_5 : decode cX3_copyFrom 5 = .ok (.aload_n 1, 1) := by decide +kernel
theorem dX3_copyFrom_6 : decode cX3_copyFrom 6 = .ok (.getfield 15, 3) := by decide +kernel
theorem dX3_copyFrom_9 : decode cX3_copyFrom 9 = .ok (.aload_n 1, 1) := by decide +kernel
theorem dX3_copyFrom_10 : decode cX3_copyFrom 10 = .ok (.getfield 18, 3) := by decide +kernel
theorem dX3_copyFrom_13 : decode cX3_copyFrom 13 = .ok (.aload_n 1, 1) := by decide +kernel
theorem dX3_copyFrom_14 : decode cX3_copyFrom 14 = .ok (.getfield 21, 3) := by decide +kernel
theorem dX3_copyFrom_17 : decode cX3_copyFrom 17 = .ok (.invokevirtual 27, 3) := by decide +kernel
theorem dX3_copyFrom_20 : decode cX3_copyFrom 20 = .ok (.aload_n 0, 1) := by decide +kernel
theorem dX3_copyFrom_21 : decode cX3_copyFrom 21 = .ok (.aload_n 1, 1) := by decide +kernel
theorem dX3_copyFrom_22 : decode cX3_copyFrom 22 = .ok (.getfield 24, 3) := by decide +kernel
theorem dX3_copyFrom_25 : decode cX3_copyFrom 25 = .ok (.putfield 24, 3) := by decide +kernel
theorem dX3_copyFrom_28 : decode cX3_copyFrom 28 = .ok (.return_, 1) := by decide +kernel
theorem dX3_decide_0 : decode cX3_decide 0 = .ok (.aload_n 0, 1) := by decide +kernel
theorem dX3_decide_1 : decode cX3_decide 1 = .ok (.iload_n 1, 1) := by decide +kernel
theorem dX3_decide_2 : decode cX3_decide 2 = .ok (.ifCond .eq 7, 3) := by decide +kernel
theorem dX3_decide_5 : decode cX3_decide 5 = .ok (.iconst 1, 1) := by decide +kernel
theorem dX3_decide_6 : decode cX3_decide 6 = .ok (.goto 4, 3) := by decide +kernel
theorem dX3_decide_9 : decode cX3_decide 9 = .ok (.iconst 2, 1) := by decide +kernel
theorem dX3_decide_10 : decode cX3_decide 10 = .ok (.putfield 24, 3) := by decide +kernel
theorem dX3_decide_13 : decode cX3_decide 13 = .ok (.return_, 1) := by decide +kernel
theorem dX3_holdsIn_0 : decode cX3_holdsIn 0 = .ok (.aload_n 1, 1) := by decide +kernel
theorem dX3_holdsIn_1 : decode cX3_holdsIn 1 = .ok (.aload_n 0, 1) := by decide +kernel
theorem dX3_holdsIn_2 : decode cX3_holdsIn 2 = .ok (.getfield 18, 3) := by decide +kernel
theorem dX3_holdsIn_5 : decode cX3_holdsIn 5 = .ok (.invokestatic 31, 3) := by decide +kernel
theorem dX3_holdsIn_8 : decode cX3_holdsIn 8 = .ok (.istore_n 2, 1) := by decide +kernel
theorem dX3_holdsIn_9 : decode cX3_holdsIn 9 = .ok (.aload_n 0, 1) := by decide +kernel
theorem dX3_holdsIn_10 : decode cX3_holdsIn 10 = .ok (.getfield 15, 3) := by decide +kernel
theorem dX3_holdsIn_13 : decode cX3_holdsIn 13 = .ok (.tableswitch 131 0 4 #[35, 49, 63, 92, 110], 35) := by decide +kernel
theorem dX3_holdsIn_48 : decode cX3_holdsIn 48 = .ok (.iload_n 2, 1) := by decide +kernel
theorem dX3_holdsIn_49 : decode cX3_holdsIn 49 = .ok (.aload_n 0, 1) := by decide +kernel
theorem dX3_holdsIn_50 : decode cX3_holdsIn 50 = .ok (.getfield 21, 3) := by decide +kernel
theorem dX3_holdsIn_53 : decode cX3_holdsIn 53 = .ok (.if_icmp .ne 7, 3) := by decide +kernel
theorem dX3_holdsIn_56 : decode cX3_holdsIn 56 = .ok (.iconst 1, 1) := by decide +kernel
theorem dX3_holdsIn_57 : decode cX3_holdsIn 57 = .ok (.goto 4, 3) := by decide +kernel
theorem dX3_holdsIn_60 : decode cX3_holdsIn 60 = .ok (.iconst 0, 1) := by decide +kernel
theorem dX3_holdsIn_61 : decode cX3_holdsIn 61 = .ok (.ireturn, 1) := by decide +kernel
theorem dX3_holdsIn_62 : decode cX3_holdsIn 62 = .ok (.iload_n 2, 1) := by decide +kernel
theorem dX3_holdsIn_63 : decode cX3_holdsIn 63 = .ok (.aload_n 0, 1) := by decide +kernel
theorem dX3_holdsIn_64 : decode cX3_holdsIn 64 = .ok (.getfield 21, 3) := by decide +kernel
theorem dX3_holdsIn_67 : decode cX3_holdsIn 67 = .ok (.if_icmp .eq 7, 3) := by decide +kernel
theorem dX3_holdsIn_70 : decode cX3_holdsIn 70 = .ok (.iconst 1, 1) := by decide +kernel
theorem dX3_holdsIn_71 : decode cX3_holdsIn 71 = .ok (.goto 4, 3) := by decide +kernel
theorem dX3_holdsIn_74 : decode cX3_holdsIn 74 = .ok (.iconst 0, 1) := by decide +kernel
theorem dX3_holdsIn_75 : decode cX3_holdsIn 75 = .ok (.ireturn, 1) := by decide +kernel
theorem dX3_holdsIn_76 : decode cX3_holdsIn 76 = .ok (.iload_n 2, 1) := by decide +kernel
theorem dX3_holdsIn_77 : decode cX3_holdsIn 77 = .ok (.aload_n 0, 1) := by decide +kernel
theorem dX3_holdsIn_78 : decode cX3_holdsIn 78 = .ok (.getfield 21, 3) := by decide +kernel
theorem dX3_holdsIn_81 : decode cX3_holdsIn 81 = .ok (.if_icmp .ne 22, 3) := by decide +kernel
theorem dX3_holdsIn_84 : decode cX3_holdsIn 84 = .ok (.aload_n 1, 1) := by decide +kernel
theorem dX3_holdsIn_85 : decode cX3_holdsIn 85 = .ok (.aload_n 0, 1) := by decide +kernel
theorem dX3_holdsIn_86 : decode cX3_holdsIn 86 = .ok (.getfield 21, 3) := by decide +kernel
theorem dX3_holdsIn_89 : decode cX3_holdsIn 89 = .ok (.invokestatic 31, 3) := by decide +kernel
theorem dX3_holdsIn_92 : decode cX3_holdsIn 92 = .ok (.aload_n 0, 1) := by decide +kernel
theorem dX3_holdsIn_93 : decode cX3_holdsIn 93 = .ok (.getfield 18, 3) := by decide +kernel
theorem dX3_holdsIn_96 : decode cX3_holdsIn 96 = .ok (.if_icmp .ne 7, 3) := by decide +kernel
theorem dX3_holdsIn_99 : decode cX3_holdsIn 99 = .ok (.iconst 1, 1) := by decide +kernel
theorem dX3_holdsIn_100 : decode cX3_holdsIn 100 = .ok (.goto 4, 3) := by decide +kernel
theorem dX3_holdsIn_103 : decode cX3_holdsIn 103 = .ok (.iconst 0, 1) := by decide +kernel
theorem dX3_holdsIn_104 : decode cX3_holdsIn 104 = .ok (.ireturn, 1) := by decide +kernel
theorem dX3_holdsIn_105 : decode cX3_holdsIn 105 = .ok (.iload_n 2, 1) := by decide +kernel
theorem dX3_holdsIn_106 : decode cX3_holdsIn 106 = .ok (.aload_n 1, 1) := by decide +kernel
theorem dX3_holdsIn_107 : decode cX3_holdsIn 107 = .ok (.aload_n 0, 1) := by decide +kernel
theorem dX3_holdsIn_108 : decode cX3_holdsIn 108 = .ok (.getfield 21, 3) := by decide +kernel
theorem dX3_holdsIn_111 : decode cX3_holdsIn 111 = .ok (.invokestatic 31, 3) := by decide +kernel
theorem dX3_holdsIn_114 : decode cX3_holdsIn 114 = .ok (.if_icmp .ne 7, 3) := by decide +kernel
theorem dX3_holdsIn_117 : decode cX3_holdsIn 117 = .ok (.iconst 1, 1) := by decide +kernel
theorem dX3_holdsIn_118 : decode cX3_holdsIn 118 = .ok (.goto 4, 3) := by decide +kernel
theorem dX3_holdsIn_121 : decode cX3_holdsIn 121 = .ok (.iconst 0, 1) := by decide +kernel
theorem dX3_holdsIn_122 : decode cX3_holdsIn 122 = .ok (.ireturn, 1) := by decide +kernel
theorem dX3_holdsIn_123 : decode cX3_holdsIn 123 = .ok (.aload_n 1, 1) := by decide +kernel
theorem dX3_holdsIn_124 : decode cX3_holdsIn 124 = .ok (.aload_n 0, 1) := by decide +kernel
theorem dX3_holdsIn_125 : decode cX3_holdsIn 125 = .ok (.getfield 18, 3) := by decide +kernel
theorem dX3_holdsIn_128 : decode cX3_holdsIn 128 = .ok (.invokestatic 35, 3) := by decide +kernel
theorem dX3_holdsIn_131 : decode cX3_holdsIn 131 = .ok (.aload_n 0, 1) := by decide +kernel
theorem dX3_holdsIn_132 : decode cX3_holdsIn 132 = .ok (.getfield 21, 3) := by decide +kernel
theorem dX3_holdsIn_135 : decode cX3_holdsIn 135 = .ok (.if_icmp .ne 7, 3) := by decide +kernel
theorem dX3_holdsIn_138 : decode cX3_holdsIn 138 = .ok (.iconst 1, 1) := by decide +kernel
theorem dX3_holdsIn_139 : decode cX3_holdsIn 139 = .ok (.goto 4, 3) := by decide +kernel
theorem dX3_holdsIn_142 : decode cX3_holdsIn 142 = .ok (.iconst 0, 1) := by decide +kernel
theorem dX3_holdsIn_143 : decode cX3_holdsIn 143 = .ok (.ireturn, 1) := by decide +kernel
theorem dX3_holdsIn_144 : decode cX3_holdsIn 144 = .ok (.aload_n 1, 1) := by decide +kernel
theorem dX3_holdsIn_145 : decode cX3_holdsIn 145 = .ok (.iload_n 2, 1) := by decide +kernel
theorem dX3_holdsIn_146 : decode cX3_holdsIn 146 = .ok (.invokestatic 31, 3) := by decide +kernel
theorem dX3_holdsIn_149 : decode cX3_holdsIn 149 = .ok (.aload_n 0, 1) := by decide +kernel
theorem dX3_holdsIn_150 : decode cX3_holdsIn 150 = .ok (.getfield 21, 3) := by decide +kernel
theorem dX3_holdsIn_153 : decode cX3_holdsIn 153 = .ok (.if_icmp .ne 7, 3) := by decide +kernel
theorem dX3_holdsIn_156 : decode cX3_holdsIn 156 = .ok (.iconst 1, 1) := by decide +kernel
theorem dX3_holdsIn_157 : decode cX3_holdsIn 157 = .ok (.goto 4, 3) := by decide +kernel
theorem dX3_holdsIn_160 : decode cX3_holdsIn 160 = .ok (.iconst 0, 1) := by decide +kernel
theorem dX3_holdsIn_161 : decode cX3_holdsIn 161 = .ok (.ireturn, 1) := by decide +kernel
theorem dX3_isBrokenIn_0 : decode cX3_isBrokenIn 0 = .ok (.aload_n 0, 1) := by decide +kernel
theorem dX3_isBrokenIn_1 : decode cX3_isBrokenIn 1 = .ok (.aload_n 1, 1) := by decide +kernel
theorem dX3_isBrokenIn_2 : decode cX3_isBrokenIn 2 = .ok (.invokevirtual 38, 3) := by decide +kernel
theorem dX3_isBrokenIn_5 : decode cX3_isBrokenIn 5 = .ok (.ifCond .eq 19, 3) := by decide +kernel
theorem dX3_isBrokenIn_8 : decode cX3_isBrokenIn 8 = .ok (.aload_n 0, 1) := by decide +kernel
theorem dX3_isBrokenIn_9 : decode cX3_isBrokenIn 9 = .ok (.getfield 24, 3) := by decide +kernel
theorem dX3_isBrokenIn_12 : decode cX3_isBrokenIn 12 = .ok (.iconst 2, 1) := by decide +kernel
theorem dX3_isBrokenIn_13 : decode cX3_isBrokenIn 13 = .ok (.if_icmp .ne 7, 3) := by decide +kernel
theorem dX3_isBrokenIn_16 : decode cX3_isBrokenIn 16 = .ok (.iconst 1, 1) := by decide +kernel
theorem dX3_isBrokenIn_17 : decode cX3_isBrokenIn 17 = .ok (.goto 20, 3) := by decide +kernel
theorem dX3_isBrokenIn_20 : decode cX3_isBrokenIn 20 = .ok (.iconst 0, 1) := by decide +kernel
theorem dX3_isBrokenIn_21 : decode cX3_isBrokenIn 21 = .ok (.goto 16, 3) := by decide +kernel
theorem dX3_isBrokenIn_24 : decode cX3_isBrokenIn 24 = .ok (.aload_n 0, 1) := by decide +kernel
theorem dX3_isBrokenIn_25 : decode cX3_isBrokenIn 25 = .ok (.getfield 24, 3) := by decide +kernel
theorem dX3_isBrokenIn_28 : decode cX3_isBrokenIn 28 = .ok (.iconst 1, 1) := by decide +kernel
theorem dX3_isBrokenIn_29 : decode cX3_isBrokenIn 29 = .ok (.if_icmp .ne 7, 3) := by decide +kernel
theorem dX3_isBrokenIn_32 : decode cX3_isBrokenIn 32 = .ok (.iconst 1, 1) := by decide +kernel
theorem dX3_isBrokenIn_33 : decode cX3_isBrokenIn 33 = .ok (.goto 4, 3) := by decide +kernel
theorem dX3_isBrokenIn_36 : decode cX3_isBrokenIn 36 = .ok (.iconst 0, 1) := by decide +kernel
theorem dX3_isBrokenIn_37 : decode cX3_isBrokenIn 37 = .ok (.ireturn, 1) := by decide +kernel
theorem dX4_init_0 : decode cX4_init 0 = .ok (.aload_n 0, 1) := by decide +kernel
theorem dX4_init_1 : decode cX4_init 1 = .ok (.invokespecial 1, 3) := by decide +kernel
theorem dX4_init_4 : decode cX4_init 4 = .ok (.aload_n 0, 1) := by decide +kernel
theorem dX4_init_5 : decode cX4_init 5 = .ok (.new 7, 3) := by decide +kernel
theorem dX4_init_8 : decode cX4_init 8 = .ok (.dup, 1) := by decide +kernel
theorem dX4_init_9 : decode cX4_init 9 = .ok (.invokespecial 9, 3) := by decide +kernel
theorem dX4_init_12 : decode cX4_init 12 = .ok (.putfield 10, 3) := by decide +kernel
theorem dX4_init_15 : decode cX4_init 15 = .ok (.return_, 1) := by decide +kernel
theorem dX5_init_0 : decode cX5_init 0 = .ok (.aload_n 0, 1) := by decide +kernel
theorem dX5_init_1 : decode cX5_init 1 = .ok (.invokespecial 3, 3) := by decide +kernel
theorem dX5_init_4 : decode cX5_init 4 = .ok (.aload_n 0, 1) := by decide +kernel
theorem dX5_init_5 : decode cX5_init 5 = .ok (.new 9, 3) := by decide +kernel
theorem dX5_init_8 : decode cX5_init 8 = .ok (.dup, 1) := by decide +kernel
theorem dX5_init_9 : decode cX5_init 9 = .ok (.invokespecial 11, 3) := by decide +kernel
theorem dX5_init_12 : decode cX5_init 12 = .ok (.putfield 12, 3) := by decide +kernel
theorem dX5_init_15 : decode cX5_init 15 = .ok (.aload_n 0, 1) := by decide +kernel
theorem dX5_init_16 : decode cX5_init 16 = .ok (.bipush 36, 2) := by decide +kernel
theorem dX5_init_18 : decode cX5_init 18 = .ok (.newarray .int, 2) := by decide +kernel
theorem dX5_init_20 : decode cX5_init 20 = .ok (.putfield 18, 3) := by decide +kernel
theorem dX5_init_23 : decode cX5_init 23 = .ok (.aload_n 0, 1) := by decide +kernel
theorem dX5_init_24 : decode cX5_init 24 = .ok (.bipush 20, 2) := by decide +kernel
theorem dX5_init_26 : decode cX5_init 26 = .ok (.newarray .int, 2) := by decide +kernel
theorem dX5_init_28 : decode cX5_init 28 = .ok (.putfield 22, 3) := by decide +kernel
theorem dX5_init_31 : decode cX5_init 31 = .ok (.aload_n 0, 1) := by decide +kernel
theorem dX5_init_32 : decode cX5_init 32 = .ok (.bipush 20, 2) := by decide +kernel
theorem dX5_init_34 : decode cX5_init 34 = .ok (.newarray .int, 2) := by decide +kernel
theorem dX5_init_36 : decode cX5_init 36 = .ok (.putfield 25, 3) := by decide +kernel
theorem dX5_init_39 : decode cX5_init 39 = .ok (.aload_n 0, 1) := by decide +kernel
theorem dX5_init_40 : decode cX5_init 40 = .ok (.new 28, 3) := by decide +kernel
theorem dX5_init_43 : decode cX5_init 43 = .ok (.dup, 1) := by decide +kernel
theorem dX5_init_44 : decode cX5_init 44 = .ok (.invokespecial 30, 3) := by decide +kernel
theorem dX5_init_47 : decode cX5_init 47 = .ok (.putfield 31, 3) := by decide +kernel
theorem dX5_init_50 : decode cX5_init 50 = .ok (.return_, 1) := by decide +kernel
theorem dX5_take_0 : decode cX5_take 0 = .ok (.aload_n 0, 1) := by decide +kernel
theorem dX5_take_1 : decode cX5_take 1 = .ok (.invokevirtual 35, 3) := by decide +kernel
theorem dX5_take_4 : decode cX5_take 4 = .ok (.aload_n 0, 1) := by decide +kernel
theorem dX5_take_5 : decode cX5_take 5 = .ok (.getfield 12, 3) := by decide +kernel
theorem dX5_take_8 : decode cX5_take 8 = .ok (.aload_n 1, 1) := by decide +kernel
theorem dX5_take_9 : decode cX5_take 9 = .ok (.getfield 38, 3) := by decide +kernel
theorem dX5_take_12 : decode cX5_take 12 = .ok (.invokevirtual 44, 3) := by decide +kernel
theorem dX5_take_15 : decode cX5_take 15 = .ok (.istore_n 2, 1) := by decide +kernel
theorem dX5_take_16 : decode cX5_take 16 = .ok (.iload_n 2, 1) := by decide +kernel
theorem dX5_take_17 : decode cX5_take 17 = .ok (.ifCond .le 71, 3) := by decide +kernel
theorem dX5_take_20 : decode cX5_take 20 = .ok (.aload_n 1, 1) := by decide +kernel
theorem dX5_take_21 : decode cX5_take 21 = .ok (.iconst 0, 1) := by decide +kernel
theorem dX5_take_22 : decode cX5_take 22 = .ok (.aload_n 0, 1) := by decide +kernel
theorem dX5_take_23 : decode cX5_take 23 = .ok (.getfield 12, 3) := by decide +kernel
theorem dX5_take_26 : decode cX5_take 26 = .ok (.getfield 48, 3) := by decide +kernel
theorem dX5_take_29 : decode cX5_take 29 = .ok (.invokevirtual 51, 3) := by decide +kernel
theorem dX5_take_32 : decode cX5_take 32 = .ok (.istore_n 3, 1) := by decide +kernel
theorem dX5_take_33 : decode cX5_take 33 = .ok (.iload_n 3, 1) := by decide +kernel
theorem dX5_take_34 : decode cX5_take 34 = .ok (.bipush (-6), 2) := by decide +kernel
theorem dX5_take_36 : decode cX5_take 36 = .ok (.if_icmp .ne 11, 3) := by decide +kernel
theorem dX5_take_39 : decode cX5_take 39 = .ok (.aload_n 0, 1) := by decide +kernel
theorem dX5_take_40 : decode cX5_take 40 = .ok (.aload_n 1, 1) := by decide +kernel
theorem dX5_take_41 : decode cX5_take 41 = .ok (.invokevirtual 55, 3) := by decide +kernel
theorem dX5_take_44 : decode cX5_take 44 = .ok (.goto 31, 3) := by decide +kernel
theorem dX5_take_47 : decode cX5_take 47 = .ok (.aload_n 1, 1) := by decide +kernel
theorem dX5_take_48 : decode cX5_take 48 = .ok (.iload_n 3, 1) := by decide +kernel
theorem dX5_take_49 : decode cX5_take 49 = .ok (.iconst 1, 1) := by decide +kernel
theorem dX5_take_50 : decode cX5_take 50 = .ok (.iadd, 1) := by decide +kernel
theorem dX5_take_51 : decode cX5_take 51 = .ok (.aload_n 0, 1) := by decide +kernel
theorem dX5_take_52 : decode cX5_take 52 = .ok (.getfield 12, 3) := by decide +kernel
theorem dX5_take_55 : decode cX5_take 55 = .ok (.getfield 48, 3) := by decide +kernel
theorem dX5_take_58 : decode cX5_take 58 = .ok (.invokevirtual 51, 3) := by decide +kernel
theorem dX5_take_61 : decode cX5_take 61 = .ok (.bipush (-6), 2) := by decide +kernel
theorem dX5_take_63 : decode cX5_take 63 = .ok (.if_icmp .ne 12, 3) := by decide +kernel
theorem dX5_take_66 : decode cX5_take 66 = .ok (.aload_n 0, 1) := by decide +kernel
theorem dX5_take_67 : decode cX5_take 67 = .ok (.getfield 25, 3) := by decide +kernel
theorem dX5_take_70 : decode cX5_take 70 = .ok (.iload_n 3, 1) := by decide +kernel
theorem dX5_take_71 : decode cX5_take 71 = .ok (.iconst 1, 1) := by decide +kernel
theorem dX5_take_72 : decode cX5_take 72 = .ok (.invokestatic 59, 3) := by decide +kernel
theorem dX5_take_75 : decode cX5_take 75 = .ok (.aload_n 0, 1) := by decide +kernel
theorem dX5_take_76 : decode cX5_take 76 = .ok (.getfield 12, 3) := by decide +kernel
theorem dX5_take_79 : decode cX5_take 79 = .ok (.invokevirtual 63, 3) := by decide +kernel
theorem dX5_take_82 : decode cX5_take 82 = .ok (.iinc 2 (-1), 3) := by decide +kernel
theorem dX5_take_85 : decode cX5_take 85 = .ok (.goto (-69), 3) := by decide +kernel
theorem dX5_take_88 : decode cX5_take 88 = .ok (.return_, 1) := by decide +kernel
theorem dX5_forget_0 : decode cX5_forget 0 = .ok (.aload_n 0, 1) := by decide +kernel
theorem dX5_forget_1 : decode cX5_forget 1 = .ok (.iconst 0, 1) := by decide +kernel
theorem dX5_forget_2 : decode cX5_forget 2 = .ok (.putfield 66, 3) := by decide +kernel
theorem dX5_forget_5 : decode cX5_forget 5 = .ok (.aload_n 0, 1) := by decide +kernel
theorem dX5_forget_6 : decode cX5_forget 6 = .ok (.getfield 18, 3) := by decide +kernel
theorem dX5_forget_9 : decode cX5_forget 9 = .ok (.iconst 0, 1) := by decide +kernel
theorem dX5_forget_10 : decode cX5_forget 10 = .ok (.invokestatic 69, 3) := by decide +kernel
theorem dX5_forget_13 : decode cX5_forget 13 = .ok (.aload_n 0, 1) := by decide +kernel
theorem dX5_forget_14 : decode cX5_forget 14 = .ok (.getfield 22, 3) := by decide +kernel
theorem dX5_forget_17 : decode cX5_forget 17 = .ok (.iconst 0, 1) := by decide +kernel
theorem dX5_forget_18 : decode cX5_forget 18 = .ok (.invokestatic 69, 3) := by decide +kernel
theorem dX5_forget_21 : decode cX5_forget 21 = .ok (.aload_n 0, 1) := by decide +kernel
theorem dX5_forget_22 : decode cX5_forget 22 = .ok (.getfield 25, 3) := by decide +kernel
theorem dX5_forget_25 : decode cX5_forget 25 = .ok (.iconst 0, 1) := by decide +kernel
theorem dX5_forget_26 : decode cX5_forget 26 = .ok (.invokestatic 69, 3) := by decide +kernel
theorem dX5_forget_29 : decode cX5_forget 29 = .ok (.return_, 1) := by decide +kernel
theorem dX5_tally_0 : decode cX5_tally 0 = .ok (.aload_n 0, 1) := by decide +kernel
theorem dX5_tally_1 : decode cX5_tally 1 = .ok (.dup, 1) := by decide +kernel
theorem dX5_tally_2 : decode cX5_tally 2 = .ok (.getfield 66, 3) := by decide +kernel
theorem dX5_tally_5 : decode cX5_tally 5 = .ok (.iconst 1, 1) := by decide +kernel
theorem dX5_tally_6 : decode cX5_tally 6 = .ok (.iadd, 1) := by decide +kernel
theorem dX5_tally_7 : decode cX5_tally 7 = .ok (.putfield 66, 3) := by decide +kernel
theorem dX5_tally_10 : decode cX5_tally 10 = .ok (.iconst 0, 1) := by decide +kernel
theorem dX5_tally_11 : decode cX5_tally 11 = .ok (.istore_n 2, 1) := by decide +kernel
theorem dX5_tally_12 : decode cX5_tally 12 = .ok (.iload_n 2, 1) := by decide +kernel
theorem dX5_tally_13 : decode cX5_tally 13 = .ok (.aload_n 1, 1) := by decide +kernel
theorem dX5_tally_14 : decode cX5_tally 14 = .ok (.getfield 38, 3) := by decide +kernel
theorem dX5_tally_17 : decode cX5_tally 17 = .ok (.if_icmp .ge 33, 3) := by decide +kernel
theorem dX5_tally_20 : decode cX5_tally 20 = .ok (.aload_n 0, 1) := by decide +kernel
theorem dX5_tally_21 : decode cX5_tally 21 = .ok (.getfield 18, 3) := by decide +kernel
theorem dX5_tally_24 : decode cX5_tally 24 = .ok (.iload_n 2, 1) := by decide +kernel
theorem dX5_tally_25 : decode cX5_tally 25 = .ok (.bipush 6, 2) := by decide +kernel
theorem dX5_tally_27 : decode cX5_tally 27 = .ok (.imul, 1) := by decide +kernel
theorem dX5_tally_28 : decode cX5_tally 28 = .ok (.aload_n 0, 1) := by decide +kernel
theorem dX5_tally_29 : decode cX5_tally 29 = .ok (.getfield 12, 3) := by decide +kernel
theorem dX5_tally_32 : decode cX5_tally 32 = .ok (.getfield 48, 3) := by decide +kernel
theorem dX5_tally_35 : decode cX5_tally 35 = .ok (.iload_n 2, 1) := by decide +kernel
theorem dX5_tally_36 : decode cX5_tally 36 = .ok (.invokestatic 73, 3) := by decide +kernel
theorem dX5_tally_39 : decode cX5_tally 39 = .ok (.iadd, 1) := by decide +kernel
theorem dX5_tally_40 : decode cX5_tally 40 = .ok (.iconst 1, 1) := by decide +kernel
theorem dX5_tally_41 : decode cX5_tally 41 = .ok (.invokestatic 59, 3) := by decide +kernel
theorem dX5_tally_44 : decode cX5_tally 44 = .ok (.iinc 2 1, 3) := by decide +kernel
theorem dX5_tally_47 : decode cX5_tally 47 = .ok (.goto (-35), 3) := by decide +kernel
theorem dX5_tally_50 : decode cX5_tally 50 = .ok (.iconst 0, 1) := by decide +kernel
theorem dX5_tally_51 : decode cX5_tally 51 = .ok (.istore_n 2, 1) := by decide +kernel
theorem dX5_tally_52 : decode cX5_tally 52 = .ok (.iload_n 2, 1) := by decide +kernel
theorem dX5_tally_53 : decode cX5_tally 53 = .ok (.aload_n 1, 1) := by decide +kernel
theorem dX5_tally_54 : decode cX5_tally 54 = .ok (.getfield 77, 3) := by decide +kernel
theorem dX5_tally_57 : decode cX5_tally 57 = .ok (.if_icmp .ge 42, 3) := by decide +kernel
theorem dX5_tally_60 : decode cX5_tally 60 = .ok (.aload_n 1, 1) := by decide +kernel
theorem dX5_tally_61 : decode cX5_tally 61 = .ok (.iload_n 2, 1) := by decide +kernel
theorem dX5_tally_62 : decode cX5_tally 62 = .ok (.invokevirtual 80, 3) := by decide +kernel
theorem dX5_tally_65 : decode cX5_tally 65 = .ok (.astore_n 3, 1) := by decide +kernel
theorem dX5_tally_66 : decode cX5_tally 66 = .ok (.aload_n 3, 1) := by decide +kernel
theorem dX5_tally_67 : decode cX5_tally 67 = .ok (.ifnull 26, 3) := by decide +kernel
theorem dX5_tally_70 : decode cX5_tally 70 = .ok (.aload_n 3, 1) := by decide +kernel
theorem dX5_tally_71 : decode cX5_tally 71 = .ok (.aload_n 0, 1) := by decide +kernel
theorem dX5_tally_72 : decode cX5_tally 72 = .ok (.getfield 12, 3) := by decide +kernel
theorem dX5_tally_75 : decode cX5_tally 75 = .ok (.getfield 48, 3) := by decide +kernel
theorem dX5_tally_78 : decode cX5_tally 78 = .ok (.invokevirtual 84, 3) := by decide +kernel
theorem dX5_tally_81 : decode cX5_tally 81 = .ok (.ifCond .eq 12, 3) := by decide +kernel
theorem dX5_tally_84 : decode cX5_tally 84 = .ok (.aload_n 0, 1) := by decide +kernel
theorem dX5_tally_85 : decode cX5_tally 85 = .ok (.getfield 22, 3) := by decide +kernel
theorem dX5_tally_88 : decode cX5_tally 88 = .ok (.iload_n 2, 1) := by decide +kernel
theorem dX5_tally_89 : decode cX5_tally 89 = .ok (.iconst 1, 1) := by decide +kernel
theorem dX5_tally_90 : decode cX5_tally 90 = .ok (.invokestatic 59, 3) := by decide +kernel
theorem dX5_tally_93 : decode cX5_tally 93 = .ok (.iinc 2 1, 3) := by decide +kernel
theorem dX5_tally_96 : decode cX5_tally 96 = .ok (.goto (-44), 3) := by decide +kernel
theorem dX5_tally_99 : decode cX5_tally 99 = .ok (.return_, 1) := by decide +kernel
theorem dX5_lookingAt_0 : decode cX5_lookingAt 0 = .ok (.aload_n 0, 1) := by decide +kernel
theorem dX5_lookingAt_1 : decode cX5_lookingAt 1 = .ok (.getfield 18, 3) := by decide +kernel
theorem dX5_lookingAt_4 : decode cX5_lookingAt 4 = .ok (.iload_n 1, 1) := by decide +kernel
theorem dX5_lookingAt_5 : decode cX5_lookingAt 5 = .ok (.bipush 6, 2) := by decide +kernel
theorem dX5_lookingAt_7 : decode cX5_lookingAt 7 = .ok (.imul, 1) := by decide +kernel
theorem dX5_lookingAt_8 : decode cX5_lookingAt 8 = .ok (.iload_n 2, 1) := by decide +kernel
theorem dX5_lookingAt_9 : decode cX5_lookingAt 9 = .ok (.iadd, 1) := by decide +kernel
theorem dX5_lookingAt_10 : decode cX5_lookingAt 10 = .ok (.invokestatic 73, 3) := by decide +kernel
theorem dX5_lookingAt_13 : decode cX5_lookingAt 13 = .ok (.ireturn, 1) := by decide +kernel
theorem dX5_isCertain_0 : decode cX5_isCertain 0 = .ok (.aload_n 0, 1) := by decide +kernel
theorem dX5_isCertain_1 : decode cX5_isCertain 1 = .ok (.getfield 66, 3) := by decide +kernel
theorem dX5_isCertain_4 : decode cX5_isCertain 4 = .ok (.ifCond .le 15, 3) := by decide +kernel
theorem dX5_isCertain_7 : decode cX5_isCertain 7 = .ok (.iload_n 1, 1) := by decide +kernel
theorem dX5_isCertain_8 : decode cX5_isCertain 8 = .ok (.aload_n 0, 1) := by decide +kernel
theorem dX5_isCertain_9 : decode cX5_isCertain 9 = .ok (.getfield 66, 3) := by decide +kernel
theorem dX5_isCertain_12 : decode cX5_isCertain 12 = .ok (.if_icmp .ne 7, 3) := by decide +kernel
theorem dX5_isCertain_15 : decode cX5_isCertain 15 = .ok (.iconst 1, 1) := by decide +kernel
theorem dX5_isCertain_16 : decode cX5_isCertain 16 = .ok (.goto 4, 3) := by decide +kernel
theorem dX5_isCertain_19 : decode cX5_isCertain 19 = .ok (.iconst 0, 1) := by decide +kernel
theorem dX5_isCertain_20 : decode cX5_isCertain 20 = .ok (.ireturn, 1) := by decide +kernel
theorem dX5_isRuledOut_0 : decode cX5_isRuledOut 0 = .ok (.aload_n 0, 1) := by decide +kernel
theorem dX5_isRuledOut_1 : decode cX5_isRuledOut 1 = .ok (.getfield 66, 3) := by decide +kernel
theorem dX5_isRuledOut_4 : decode cX5_isRuledOut 4 = .ok (.ifCond .le 11, 3) := by decide +kernel
theorem dX5_isRuledOut_7 : decode cX5_isRuledOut 7 = .ok (.iload_n 1, 1) := by decide +kernel
theorem dX5_isRuledOut_8 : decode cX5_isRuledOut 8 = .ok (.ifCond .ne 7, 3) := by decide +kernel
theorem dX5_isRuledOut_11 : decode cX5_isRuledOut 11 = .ok (.iconst 1, 1) := by decide +kernel
theorem dX5_isRuledOut_12 : decode cX5_isRuledOut 12 = .ok (.goto 4, 3) := by decide +kernel
theorem dX5_isRuledOut_15 : decode cX5_isRuledOut 15 = .ok (.iconst 0, 1) := by decide +kernel
theorem dX5_isRuledOut_16 : decode cX5_isRuledOut 16 = .ok (.ireturn, 1) := by decide +kernel
theorem dX5_certainBox_0 : decode cX5_certainBox 0 = .ok (.iconst 0, 1) := by decide +kernel
theorem dX5_certainBox_1 : decode cX5_certainBox 1 = .ok (.istore_n 2, 1) := by decide +kernel
theorem dX5_certainBox_2 : decode cX5_certainBox 2 = .ok (.iload_n 2, 1) := by decide +kernel
theorem dX5_certainBox_3 : decode cX5_certainBox 3 = .ok (.bipush 6, 2) := by decide +kernel
theorem dX5_certainBox_5 : decode cX5_certainBox 5 = .ok (.if_icmp .ge 24, 3) := by decide +kernel
theorem dX5_certainBox_8 : decode cX5_certainBox 8 = .ok (.aload_n 0, 1) := by decide +kernel
theorem dX5_certainBox_9 : decode cX5_certainBox 9 = .ok (.aload_n 0, 1) := by decide +kernel
theorem dX5_certainBox_10 : decode cX5_certainBox 10 = .ok (.iload_n 1, 1) := by decide +kernel
theorem dX5_certainBox_11 : decode cX5_certainBox 11 = .ok (.iload_n 2, 1) := by decide +kernel
theorem dX5_certainBox_12 : decode cX5_certainBox 12 = .ok (.invokevirtual 88, 3) := by decide +kernel
theorem dX5_certainBox_15 : decode cX5_certainBox 15 = .ok (.invokevirtual 92, 3) := by decide +kernel
theorem dX5_certainBox_18 : decode cX5_certainBox 18 = .ok (.ifCond .eq 5, 3) := by decide +kernel
theorem dX5_certainBox_21 : decode cX5_certainBox 21 = .ok (.iload_n 2, 1) := by decide +kernel
theorem dX5_certainBox_22 : decode cX5_certainBox 22 = .ok (.ireturn, 1) := by decide +kernel
theorem dX5_certainBox_23 : decode cX5_certainBox 23 = .ok (.iinc 2 1, 3) := by decide +kernel
theorem dX5_certainBox_26 : decode cX5_certainBox 26 = .ok (.goto (-24), 3) := by decide +kernel
theorem dX5_certainBox_29 : decode cX5_certainBox 29 = .ok (.bipush (-6), 2) := by decide +kernel
theorem dX5_certainBox_31 : decode cX5_certainBox 31 = .ok (.ireturn, 1) := by decide +kernel
theorem dX5_certainPersons_0 : decode cX5_certainPersons 0 = .ok (.iconst 0, 1) := by decide +kernel
theorem dX5_certainPersons_1 : decode cX5_certainPersons 1 = .ok (.istore_n 2, 1) := by decide +kernel
theorem dX5_certainPersons_2 : decode cX5_certainPersons 2 = .ok (.iconst 0, 1) := by decide +kernel
theorem dX5_certainPersons_3 : decode cX5_certainPersons 3 = .ok (.istore_n 3, 1) := by decide +kernel
theorem dX5_certainPersons_4 : decode cX5_certainPersons 4 = .ok (.iload_n 3, 1) := by decide +kernel
theorem dX5_certainPersons_5 : decode cX5_certainPersons 5 = .ok (.iload_n 1, 1) := by decide +kernel
theorem dX5_certainPersons_6 : decode cX5_certainPersons 6 = .ok (.if_icmp .ge 22, 3) := by decide +kernel
theorem dX5_certainPersons_9 : decode cX5_certainPersons 9 = .ok (.aload_n 0, 1) := by decide +kernel
theorem dX5_certainPersons_10 : decode cX5_certainPersons 10 = .ok (.iload_n 3, 1) := by decide +kernel
theorem dX5_certainPersons_11 : decode cX5_certainPersons 11 = .ok (.invokevirtual 96, 3) := by decide +kernel
theorem dX5_certainPersons_14 : decode cX5_certainPersons 14 = .ok (.bipush (-6), 2) := by decide +kernel
theorem dX5_certainPersons_16 : decode cX5_certainPersons 16 = .ok (.if_icmp .eq 6, 3) := by decide +kernel
theorem dX5_certainPersons_19 : decode cX5_certainPersons 19 = .ok (.iinc 2 1, 3) := by decide +kernel
theorem dX5_certainPersons_22 : decode cX5_certainPersons 22 = .ok (.iinc 3 1, 3) := by decide +kernel
theorem dX5_certainPersons_25 : decode cX5_certainPersons 25 = .ok (.goto (-21), 3) := by decide +kernel
theorem dX5_certainPersons_28 : decode cX5_certainPersons 28 = .ok (.iload_n 2, 1) := by decide +kernel
theorem dX5_certainPersons_29 : decode cX5_certainPersons 29 = .ok (.ireturn, 1) := by decide +kernel
theorem dX5_openCertain_0 : decode cX5_openCertain 0 = .ok (.iconst 0, 1) := by decide +kernel
theorem dX5_openCertain_1 : decode cX5_openCertain 1 = .ok (.istore_n 2, 1) := by decide +kernel
theorem dX5_openCertain_2 : decode cX5_openCertain 2 = .ok (.iconst 0, 1) := by decide +kernel
theorem dX5_openCertain_3 : decode cX5_openCertain 3 = .ok (.istore_n 3, 1) := by decide +kernel
theorem dX5_openCertain_4 : decode cX5_openCertain 4 = .ok (.iload_n 3, 1) := by decide +kernel
theorem dX5_openCertain_5 : decode cX5_openCertain 5 = .ok (.aload_n 1, 1) := by decide +kernel
theorem dX5_openCertain_6 : decode cX5_openCertain 6 = .ok (.getfield 77, 3) := by decide +kernel
theorem dX5_openCertain_9 : decode cX5_openCertain 9 = .ok (.if_icmp .ge 35, 3) := by decide +kernel
theorem dX5_openCertain_12 : decode cX5_openCertain 12 = .ok (.aload_n 1, 1) := by decide +kernel
theorem dX5_openCertain_13 : decode cX5_openCertain 13 = .ok (.iload_n 3, 1) := by decide +kernel
theorem dX5_openCertain_14 : decode cX5_openCertain 14 = .ok (.invokevirtual 99, 3) := by decide +kernel
theorem dX5_openCertain_17 : decode cX5_openCertain 17 = .ok (.ifCond .eq 21, 3) := by decide +kernel
theorem dX5_openCertain_20 : decode cX5_openCertain 20 = .ok (.aload_n 0, 1) := by decide +kernel
theorem dX5_openCertain_21 : decode cX5_openCertain 21 = .ok (.aload_n 0, 1) := by decide +kernel
theorem dX5_openCertain_22 : decode cX5_openCertain 22 = .ok (.getfield 22, 3) := by decide +kernel
theorem dX5_openCertain_25 : decode cX5_openCertain 25 = .ok (.iload_n 3, 1) := by decide +kernel
theorem dX5_openCertain_26 : decode cX5_openCertain 26 = .ok (.invokestatic 73, 3) := by decide +kernel
theorem dX5_openCertain_29 : decode cX5_openCertain 29 = .ok (.invokevirtual 92, 3) := by decide +kernel
theorem dX5_openCertain_32 : decode cX5_openCertain 32 = .ok (.ifCond .eq 6, 3) := by decide +kernel
theorem dX5_openCertain_35 : decode cX5_openCertain 35 = .ok (.iinc 2 1, 3) := by decide +kernel
theorem dX5_openCertain_38 : decode cX5_openCertain 38 = .ok (.iinc 3 1, 3) := by decide +kernel
theorem dX5_openCertain_41 : decode cX5_openCertain 41 = .ok (.goto (-37), 3) := by decide +kernel
theorem dX5_openCertain_44 : decode cX5_openCertain 44 = .ok (.iload_n 2, 1) := by decide +kernel
theorem dX5_openCertain_45 : decode cX5_openCertain 45 = .ok (.ireturn, 1) := by decide +kernel
theorem dX5_openRuledOut_0 : decode cX5_openRuledOut 0 = .ok (.iconst 0, 1) := by decide +kernel
theorem dX5_openRuledOut_1 : decode cX5_openRuledOut 1 = .ok (.istore_n 2, 1) := by decide +kernel
theorem dX5_openRuledOut_2 : decode cX5_openRuledOut 2 = .ok (.iconst 0, 1) := by decide +kernel
theorem dX5_openRuledOut_3 : decode cX5_openRuledOut 3 = .ok (.istore_n 3, 1) := by decide +kernel
theorem dX5_openRuledOut_4 : decode cX5_openRuledOut 4 = .ok (.iload_n 3, 1) := by decide +kernel
theorem dX5_openRuledOut_5 : decode cX5_openRuledOut 5 = .ok (.aload_n 1, 1) := by decide +kernel
theorem dX5_openRuledOut_6 : decode cX5_openRuledOut 6 = .ok (.getfield 77, 3) := by decide +kernel
theorem dX5_openRuledOut_9 : decode cX5_openRuledOut 9 = .ok (.if_icmp .ge 35, 3) := by decide +kernel
theorem dX5_openRuledOut_12 : decode cX5_openRuledOut 12 = .ok (.aload_n 1, 1) := by decide +kernel
theorem dX5_openRuledOut_13 : decode cX5_openRuledOut 13 = .ok (.iload_n 3, 1) := by decide +kernel
theorem dX5_openRuledOut_14 : decode cX5_openRuledOut 14 = .ok (.invokevirtual 99, 3) := by decide +kernel
theorem dX5_openRuledOut_17 : decode cX5_openRuledOut 17 = .ok (.ifCond .eq 21, 3) := by decide +kernel
