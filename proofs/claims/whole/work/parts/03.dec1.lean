theorem dX0_init_0 : decode cX0_init 0 = .ok (.aload_n 0, 1) := by decide +kernel
theorem dX0_init_1 : decode cX0_init 1 = .ok (.invokespecial 3, 3) := by decide +kernel
theorem dX0_init_4 : decode cX0_init 4 = .ok (.aload_n 0, 1) := by decide +kernel
theorem dX0_init_5 : decode cX0_init 5 = .ok (.bipush 6, 2) := by decide +kernel
theorem dX0_init_7 : decode cX0_init 7 = .ok (.anewarray 9, 3) := by decide +kernel
theorem dX0_init_10 : decode cX0_init 10 = .ok (.putfield 11, 3) := by decide +kernel
theorem dX0_init_13 : decode cX0_init 13 = .ok (.iconst 0, 1) := by decide +kernel
theorem dX0_init_14 : decode cX0_init 14 = .ok (.istore_n 1, 1) := by decide +kernel
theorem dX0_init_15 : decode cX0_init 15 = .ok (.iload_n 1, 1) := by decide +kernel
theorem dX0_init_16 : decode cX0_init 16 = .ok (.aload_n 0, 1) := by decide +kernel
theorem dX0_init_17 : decode cX0_init 17 = .ok (.getfield 11, 3) := by decide +kernel
theorem dX0_init_20 : decode cX0_init 20 = .ok (.arraylength, 1) := by decide +kernel
theorem dX0_init_21 : decode cX0_init 21 = .ok (.if_icmp .ge 22, 3) := by decide +kernel
theorem dX0_init_24 : decode cX0_init 24 = .ok (.aload_n 0, 1) := by decide +kernel
theorem dX0_init_25 : decode cX0_init 25 = .ok (.getfield 11, 3) := by decide +kernel
theorem dX0_init_28 : decode cX0_init 28 = .ok (.iload_n 1, 1) := by decide +kernel
theorem dX0_init_29 : decode cX0_init 29 = .ok (.new 9, 3) := by decide +kernel
theorem dX0_init_32 : decode cX0_init 32 = .ok (.dup, 1) := by decide +kernel
theorem dX0_init_33 : decode cX0_init 33 = .ok (.invokespecial 17, 3) := by decide +kernel
theorem dX0_init_36 : decode cX0_init 36 = .ok (.aastore, 1) := by decide +kernel
theorem dX0_init_37 : decode cX0_init 37 = .ok (.iinc 1 1, 3) := by decide +kernel
theorem dX0_init_40 : decode cX0_init 40 = .ok (.goto (-25), 3) := by decide +kernel
theorem dX0_init_43 : decode cX0_init 43 = .ok (.return_, 1) := by decide +kernel
theorem dX0_stateAt_0 : decode cX0_stateAt 0 = .ok (.iload_n 1, 1) := by decide +kernel
theorem dX0_stateAt_1 : decode cX0_stateAt 1 = .ok (.ifCond .lt 21, 3) := by decide +kernel
theorem dX0_stateAt_4 : decode cX0_stateAt 4 = .ok (.iload_n 1, 1) := by decide +kernel
theorem dX0_stateAt_5 : decode cX0_stateAt 5 = .ok (.aload_n 0, 1) := by decide +kernel
theorem dX0_stateAt_6 : decode cX0_stateAt 6 = .ok (.getfield 11, 3) := by decide +kernel
theorem dX0_stateAt_9 : decode cX0_stateAt 9 = .ok (.arraylength, 1) := by decide +kernel
theorem dX0_stateAt_10 : decode cX0_stateAt 10 = .ok (.if_icmp .ge 12, 3) := by decide +kernel
theorem dX0_stateAt_13 : decode cX0_stateAt 13 = .ok (.aload_n 0, 1) := by decide +kernel
theorem dX0_stateAt_14 : decode cX0_stateAt 14 = .ok (.getfield 11, 3) := by decide +kernel
theorem dX0_stateAt_17 : decode cX0_stateAt 17 = .ok (.iload_n 1, 1) := by decide +kernel
theorem dX0_stateAt_18 : decode cX0_stateAt 18 = .ok (.aaload, 1) := by decide +kernel
theorem dX0_stateAt_19 : decode cX0_stateAt 19 = .ok (.goto 4, 3) := by decide +kernel
theorem dX0_stateAt_22 : decode cX0_stateAt 22 = .ok (.aconst_null, 1) := by decide +kernel
theorem dX0_stateAt_23 : decode cX0_stateAt 23 = .ok (.areturn, 1) := by decide +kernel
theorem dX0_record_0 : decode cX0_record 0 = .ok (.aload_n 0, 1) := by decide +kernel
theorem dX0_record_1 : decode cX0_record 1 = .ok (.aload_n 0, 1) := by decide +kernel
theorem dX0_record_2 : decode cX0_record 2 = .ok (.getfield 18, 3) := by decide +kernel
theorem dX0_record_5 : decode cX0_record 5 = .ok (.invokevirtual 22, 3) := by decide +kernel
theorem dX0_record_8 : decode cX0_record 8 = .ok (.astore_n 2, 1) := by decide +kernel
theorem dX0_record_9 : decode cX0_record 9 = .ok (.aload_n 2, 1) := by decide +kernel
theorem dX0_record_10 : decode cX0_record 10 = .ok (.ifnonnull 4, 3) := by decide +kernel
theorem dX0_record_13 : decode cX0_record 13 = .ok (.return_, 1) := by decide +kernel
theorem dX0_record_14 : decode cX0_record 14 = .ok (.aload_n 2, 1) := by decide +kernel
theorem dX0_record_15 : decode cX0_record 15 = .ok (.aload_n 1, 1) := by decide +kernel
theorem dX0_record_16 : decode cX0_record 16 = .ok (.invokevirtual 26, 3) := by decide +kernel
theorem dX0_record_19 : decode cX0_record 19 = .ok (.aload_n 0, 1) := by decide +kernel
theorem dX0_record_20 : decode cX0_record 20 = .ok (.aload_n 0, 1) := by decide +kernel
theorem dX0_record_21 : decode cX0_record 21 = .ok (.getfield 18, 3) := by decide +kernel
theorem dX0_record_24 : decode cX0_record 24 = .ok (.iconst 1, 1) := by decide +kernel
theorem dX0_record_25 : decode cX0_record 25 = .ok (.iadd, 1) := by decide +kernel
theorem dX0_record_26 : decode cX0_record 26 = .ok (.aload_n 0, 1) := by decide +kernel
theorem dX0_record_27 : decode cX0_record 27 = .ok (.getfield 11, 3) := by decide +kernel
theorem dX0_record_30 : decode cX0_record 30 = .ok (.arraylength, 1) := by decide +kernel
theorem dX0_record_31 : decode cX0_record 31 = .ok (.if_icmp .ge 12, 3) := by decide +kernel
theorem dX0_record_34 : decode cX0_record 34 = .ok (.aload_n 0, 1) := by decide +kernel
theorem dX0_record_35 : decode cX0_record 35 = .ok (.getfield 18, 3) := by decide +kernel
theorem dX0_record_38 : decode cX0_record 38 = .ok (.iconst 1, 1) := by decide +kernel
theorem dX0_record_39 : decode cX0_record 39 = .ok (.iadd, 1) := by decide +kernel
theorem dX0_record_40 : decode cX0_record 40 = .ok (.goto 4, 3) := by decide +kernel
theorem dX0_record_43 : decode cX0_record 43 = .ok (.iconst 0, 1) := by decide +kernel
theorem dX0_record_44 : decode cX0_record 44 = .ok (.putfield 18, 3) := by decide +kernel
theorem dX0_record_47 : decode cX0_record 47 = .ok (.aload_n 0, 1) := by decide +kernel
theorem dX0_record_48 : decode cX0_record 48 = .ok (.aload_n 0, 1) := by decide +kernel
theorem dX0_record_49 : decode cX0_record 49 = .ok (.getfield 30, 3) := by decide +kernel
theorem dX0_record_52 : decode cX0_record 52 = .ok (.iconst 1, 1) := by decide +kernel
theorem dX0_record_53 : decode cX0_record 53 = .ok (.iadd, 1) := by decide +kernel
theorem dX0_record_54 : decode cX0_record 54 = .ok (.aload_n 0, 1) := by decide +kernel
theorem dX0_record_55 : decode cX0_record 55 = .ok (.getfield 11, 3) := by decide +kernel
theorem dX0_record_58 : decode cX0_record 58 = .ok (.arraylength, 1) := by decide +kernel
theorem dX0_record_59 : decode cX0_record 59 = .ok (.invokestatic 33, 3) := by decide +kernel
theorem dX0_record_62 : decode cX0_record 62 = .ok (.putfield 30, 3) := by decide +kernel
theorem dX0_record_65 : decode cX0_record 65 = .ok (.return_, 1) := by decide +kernel
theorem dX0_takeBack_0 : decode cX0_takeBack 0 = .ok (.aload_n 0, 1) := by decide +kernel
theorem dX0_takeBack_1 : decode cX0_takeBack 1 = .ok (.getfield 18, 3) := by decide +kernel
theorem dX0_takeBack_4 : decode cX0_takeBack 4 = .ok (.ifCond .le 12, 3) := by decide +kernel
theorem dX0_takeBack_7 : decode cX0_takeBack 7 = .ok (.aload_n 0, 1) := by decide +kernel
theorem dX0_takeBack_8 : decode cX0_takeBack 8 = .ok (.getfield 18, 3) := by decide +kernel
theorem dX0_takeBack_11 : decode cX0_takeBack 11 = .ok (.iconst 1, 1) := by decide +kernel
theorem dX0_takeBack_12 : decode cX0_takeBack 12 = .ok (.isub, 1) := by decide +kernel
theorem dX0_takeBack_13 : decode cX0_takeBack 13 = .ok (.goto 10, 3) := by decide +kernel
theorem dX0_takeBack_16 : decode cX0_takeBack 16 = .ok (.aload_n 0, 1) := by decide +kernel
theorem dX0_takeBack_17 : decode cX0_takeBack 17 = .ok (.getfield 11, 3) := by decide +kernel
theorem dX0_takeBack_20 : decode cX0_takeBack 20 = .ok (.arraylength, 1) := by decide +kernel
theorem dX0_takeBack_21 : decode cX0_takeBack 21 = .ok (.iconst 1, 1) := by decide +kernel
theorem dX0_takeBack_22 : decode cX0_takeBack 22 = .ok (.isub, 1) := by decide +kernel
theorem dX0_takeBack_23 : decode cX0_takeBack 23 = .ok (.istore_n 2, 1) := by decide +kernel
theorem dX0_takeBack_24 : decode cX0_takeBack 24 = .ok (.aload_n 0, 1) := by decide +kernel
theorem dX0_takeBack_25 : decode cX0_takeBack 25 = .ok (.iload_n 2, 1) := by decide +kernel
theorem dX0_takeBack_26 : decode cX0_takeBack 26 = .ok (.invokevirtual 22, 3) := by decide +kernel
theorem dX0_takeBack_29 : decode cX0_takeBack 29 = .ok (.astore_n 3, 1) := by decide +kernel
theorem dX0_takeBack_30 : decode cX0_takeBack 30 = .ok (.aload_n 0, 1) := by decide +kernel
theorem dX0_takeBack_31 : decode cX0_takeBack 31 = .ok (.getfield 30, 3) := by decide +kernel
theorem dX0_takeBack_34 : decode cX0_takeBack 34 = .ok (.ifCond .eq 7, 3) := by decide +kernel
theorem dX0_takeBack_37 : decode cX0_takeBack 37 = .ok (.aload_n 3, 1) := by decide +kernel
theorem dX0_takeBack_38 : decode cX0_takeBack 38 = .ok (.ifnonnull 4, 3) := by decide +kernel
theorem dX0_takeBack_41 : decode cX0_takeBack 41 = .ok (.return_, 1) := by decide +kernel
theorem dX0_takeBack_42 : decode cX0_takeBack 42 = .ok (.aload_n 1, 1) := by decide +kernel
theorem dX0_takeBack_43 : decode cX0_takeBack 43 = .ok (.aload_n 3, 1) := by decide +kernel
theorem dX0_takeBack_44 : decode cX0_takeBack 44 = .ok (.invokevirtual 26, 3) := by decide +kernel
theorem dX0_takeBack_47 : decode cX0_takeBack 47 = .ok (.aload_n 0, 1) := by decide +kernel
theorem dX0_takeBack_48 : decode cX0_takeBack 48 = .ok (.iload_n 2, 1) := by decide +kernel
theorem dX0_takeBack_49 : decode cX0_takeBack 49 = .ok (.putfield 18, 3) := by decide +kernel
theorem dX0_takeBack_52 : decode cX0_takeBack 52 = .ok (.aload_n 0, 1) := by decide +kernel
theorem dX0_takeBack_53 : decode cX0_takeBack 53 = .ok (.dup, 1) := by decide +kernel
theorem dX0_takeBack_54 : decode cX0_takeBack 54 = .ok (.getfield 30, 3) := by decide +kernel
theorem dX0_takeBack_57 : decode cX0_takeBack 57 = .ok (.iconst 1, 1) := by decide +kernel
theorem dX0_takeBack_58 : decode cX0_takeBack 58 = .ok (.isub, 1) := by decide +kernel
theorem dX0_takeBack_59 : decode cX0_takeBack 59 = .ok (.putfield 30, 3) := by decide +kernel
theorem dX0_takeBack_62 : decode cX0_takeBack 62 = .ok (.return_, 1) := by decide +kernel
theorem dX1_init_0 : decode cX1_init 0 = .ok (.aload_n 0, 1) := by decide +kernel
theorem dX1_init_1 : decode cX1_init 1 = .ok (.invokespecial 3, 3) := by decide +kernel
theorem dX1_init_4 : decode cX1_init 4 = .ok (.aload_n 0, 1) := by decide +kernel
theorem dX1_init_5 : decode cX1_init 5 = .ok (.bipush 6, 2) := by decide +kernel
theorem dX1_init_7 : decode cX1_init 7 = .ok (.newarray .int, 2) := by decide +kernel
theorem dX1_init_9 : decode cX1_init 9 = .ok (.putfield 9, 3) := by decide +kernel
theorem dX1_init_12 : decode cX1_init 12 = .ok (.aload_n 0, 1) := by decide +kernel
theorem dX1_init_13 : decode cX1_init 13 = .ok (.bipush 6, 2) := by decide +kernel
theorem dX1_init_15 : decode cX1_init 15 = .ok (.newarray .int, 2) := by decide +kernel
theorem dX1_init_17 : decode cX1_init 17 = .ok (.putfield 15, 3) := by decide +kernel
theorem dX1_init_20 : decode cX1_init 20 = .ok (.aload_n 0, 1) := by decide +kernel
theorem dX1_init_21 : decode cX1_init 21 = .ok (.bipush 6, 2) := by decide +kernel
theorem dX1_init_23 : decode cX1_init 23 = .ok (.newarray .int, 2) := by decide +kernel
theorem dX1_init_25 : decode cX1_init 25 = .ok (.putfield 18, 3) := by decide +kernel
theorem dX1_init_28 : decode cX1_init 28 = .ok (.aload_n 0, 1) := by decide +kernel
theorem dX1_init_29 : decode cX1_init 29 = .ok (.bipush 20, 2) := by decide +kernel
theorem dX1_init_31 : decode cX1_init 31 = .ok (.anewarray 21, 3) := by decide +kernel
theorem dX1_init_34 : decode cX1_init 34 = .ok (.putfield 23, 3) := by decide +kernel
theorem dX1_init_37 : decode cX1_init 37 = .ok (.iconst 0, 1) := by decide +kernel
theorem dX1_init_38 : decode cX1_init 38 = .ok (.istore_n 1, 1) := by decide +kernel
theorem dX1_init_39 : decode cX1_init 39 = .ok (.iload_n 1, 1) := by decide +kernel
theorem dX1_init_40 : decode cX1_init 40 = .ok (.aload_n 0, 1) := by decide +kernel
theorem dX1_init_41 : decode cX1_init 41 = .ok (.getfield 23, 3) := by decide +kernel
theorem dX1_init_44 : decode cX1_init 44 = .ok (.arraylength, 1) := by decide +kernel
theorem dX1_init_45 : decode cX1_init 45 = .ok (.if_icmp .ge 22, 3) := by decide +kernel
theorem dX1_init_48 : decode cX1_init 48 = .ok (.aload_n 0, 1) := by decide +kernel
theorem dX1_init_49 : decode cX1_init 49 = .ok (.getfield 23, 3) := by decide +kernel
theorem dX1_init_52 : decode cX1_init 52 = .ok (.iload_n 1, 1) := by decide +kernel
theorem dX1_init_53 : decode cX1_init 53 = .ok (.new 21, 3) := by decide +kernel
theorem dX1_init_56 : decode cX1_init 56 = .ok (.dup, 1) := by decide +kernel
theorem dX1_init_57 : decode cX1_init 57 = .ok (.invokespecial 27, 3) := by decide +kernel
theorem dX1_init_60 : decode cX1_init 60 = .ok (.aastore, 1) := by decide +kernel
theorem dX1_init_61 : decode cX1_init 61 = .ok (.iinc 1 1, 3) := by decide +kernel
theorem dX1_init_64 : decode cX1_init 64 = .ok (.goto (-25), 3) := by decide +kernel
theorem dX1_init_67 : decode cX1_init 67 = .ok (.return_, 1) := by decide +kernel
theorem dX1_arrange_0 : decode cX1_arrange 0 = .ok (.aload_n 0, 1) := by decide +kernel
theorem dX1_arrange_1 : decode cX1_arrange 1 = .ok (.iload_n 1, 1) := by decide +kernel
theorem dX1_arrange_2 : decode cX1_arrange 2 = .ok (.putfield 28, 3) := by decide +kernel
theorem dX1_arrange_5 : decode cX1_arrange 5 = .ok (.aload_n 0, 1) := by decide +kernel
theorem dX1_arrange_6 : decode cX1_arrange 6 = .ok (.iconst 0, 1) := by decide +kernel
theorem dX1_arrange_7 : decode cX1_arrange 7 = .ok (.putfield 32, 3) := by decide +kernel
theorem dX1_arrange_10 : decode cX1_arrange 10 = .ok (.aload_n 0, 1) := by decide +kernel
theorem dX1_arrange_11 : decode cX1_arrange 11 = .ok (.iconst 0, 1) := by decide +kernel
theorem dX1_arrange_12 : decode cX1_arrange 12 = .ok (.putfield 35, 3) := by decide +kernel
theorem dX1_arrange_15 : decode cX1_arrange 15 = .ok (.aload_n 0, 1) := by decide +kernel
theorem dX1_arrange_16 : decode cX1_arrange 16 = .ok (.getfield 15, 3) := by decide +kernel
theorem dX1_arrange_19 : decode cX1_arrange 19 = .ok (.iconst 0, 1) := by decide +kernel
theorem dX1_arrange_20 : decode cX1_arrange 20 = .ok (.invokestatic 38, 3) := by decide +kernel
theorem dX1_arrange_23 : decode cX1_arrange 23 = .ok (.aload_n 0, 1) := by decide +kernel
theorem dX1_arrange_24 : decode cX1_arrange 24 = .ok (.getfield 18, 3) := by decide +kernel
theorem dX1_arrange_27 : decode cX1_arrange 27 = .ok (.iconst 0, 1) := by decide +kernel
theorem dX1_arrange_28 : decode cX1_arrange 28 = .ok (.invokestatic 38, 3) := by decide +kernel
theorem dX1_arrange_31 : decode cX1_arrange 31 = .ok (.iconst 0, 1) := by decide +kernel
theorem dX1_arrange_32 : decode cX1_arrange 32 = .ok (.istore_n 2, 1) := by decide +kernel
theorem dX1_arrange_33 : decode cX1_arrange 33 = .ok (.iload_n 2, 1) := by decide +kernel
theorem dX1_arrange_34 : decode cX1_arrange 34 = .ok (.aload_n 0, 1) := by decide +kernel
theorem dX1_arrange_35 : decode cX1_arrange 35 = .ok (.getfield 9, 3) := by decide +kernel
theorem dX1_arrange_38 : decode cX1_arrange 38 = .ok (.arraylength, 1) := by decide +kernel
theorem dX1_arrange_39 : decode cX1_arrange 39 = .ok (.if_icmp .ge 44, 3) := by decide +kernel
theorem dX1_arrange_42 : decode cX1_arrange 42 = .ok (.aload_n 0, 1) := by decide +kernel
theorem dX1_arrange_43 : decode cX1_arrange 43 = .ok (.getfield 9, 3) := by decide +kernel
theorem dX1_arrange_46 : decode cX1_arrange 46 = .ok (.iload_n 2, 1) := by decide +kernel
theorem dX1_arrange_47 : decode cX1_arrange 47 = .ok (.iload_n 2, 1) := by decide +kernel
theorem dX1_arrange_48 : decode cX1_arrange 48 = .ok (.iconst 1, 1) := by decide +kernel
theorem dX1_arrange_49 : decode cX1_arrange 49 = .ok (.iadd, 1) := by decide +kernel
theorem dX1_arrange_50 : decode cX1_arrange 50 = .ok (.aload_n 0, 1) := by decide +kernel
theorem dX1_arrange_51 : decode cX1_arrange 51 = .ok (.getfield 28, 3) := by decide +kernel
theorem dX1_arrange_54 : decode cX1_arrange 54 = .ok (.if_icmp .ge 9, 3) := by decide +kernel
theorem dX1_arrange_57 : decode cX1_arrange 57 = .ok (.iload_n 2, 1) := by decide +kernel
theorem dX1_arrange_58 : decode cX1_arrange 58 = .ok (.iconst 1, 1) := by decide +kernel
theorem dX1_arrange_59 : decode cX1_arrange 59 = .ok (.iadd, 1) := by decide +kernel
theorem dX1_arrange_60 : decode cX1_arrange 60 = .ok (.goto 16, 3) := by decide +kernel
theorem dX1_arrange_63 : decode cX1_arrange 63 = .ok (.iload_n 2, 1) := by decide +kernel
theorem dX1_arrange_64 : decode cX1_arrange 64 = .ok (.aload_n 0, 1) := by decide +kernel
theorem dX1_arrange_65 : decode cX1_arrange 65 = .ok (.getfield 28, 3) := by decide +kernel
theorem dX1_arrange_68 : decode cX1_arrange 68 = .ok (.if_icmp .ge 7, 3) := by decide +kernel
theorem dX1_arrange_71 : decode cX1_arrange 71 = .ok (.iconst 0, 1) := by decide +kernel
theorem dX1_arrange_72 : decode cX1_arrange 72 = .ok (.goto 4, 3) := by decide +kernel
theorem dX1_arrange_75 : decode cX1_arrange 75 = .ok (.iconst (-1), 1) := by decide +kernel
theorem dX1_arrange_76 : decode cX1_arrange 76 = .ok (.iastore, 1) := by decide +kernel
theorem dX1_arrange_77 : decode cX1_arrange 77 = .ok (.iinc 2 1, 3) := by decide +kernel
theorem dX1_arrange_80 : decode cX1_arrange 80 = .ok (.goto (-47), 3) := by decide +kernel
theorem dX1_arrange_83 : decode cX1_arrange 83 = .ok (.return_, 1) := by decide +kernel
theorem dX1_copyFrom_0 : decode cX1_copyFrom 0 = .ok (.aload_n 0, 1) := by decide +kernel
theorem dX1_copyFrom_1 : decode cX1_copyFrom 1 = .ok (.aload_n 1, 1) := by decide +kernel
theorem dX1_copyFrom_2 : decode cX1_copyFrom 2 = .ok (.getfield 28, 3) := by decide +kernel
theorem dX1_copyFrom_5 : decode cX1_copyFrom 5 = .ok (.putfield 28, 3) := by decide +kernel
theorem dX1_copyFrom_8 : decode cX1_copyFrom 8 = .ok (.aload_n 0, 1) := by decide +kernel
theorem dX1_copyFrom_9 : decode cX1_copyFrom 9 = .ok (.aload_n 1, 1) := by decide +kernel
theorem dX1_copyFrom_10 : decode cX1_copyFrom 10 = .ok (.getfield 32, 3) := by decide +kernel
theorem dX1_copyFrom_13 : decode cX1_copyFrom 13 = .ok (.putfield 32, 3) := by decide +kernel
theorem dX1_copyFrom_16 : decode cX1_copyFrom 16 = .ok (.aload_n 0, 1) := by decide +kernel
theorem dX1_copyFrom_17 : decode cX1_copyFrom 17 = .ok (.aload_n 1, 1) := by decide +kernel
theorem dX1_copyFrom_18 : decode cX1_copyFrom 18 = .ok (.getfield 35, 3) := by decide +kernel
theorem dX1_copyFrom_21 : decode cX1_copyFrom 21 = .ok (.putfield 35, 3) := by decide +kernel
theorem dX1_copyFrom_24 : decode cX1_copyFrom 24 = .ok (.aload_n 1, 1) := by decide +kernel
theorem dX1_copyFrom_25 : decode cX1_copyFrom 25 = .ok (.getfield 9, 3) := by decide +kernel
theorem dX1_copyFrom_28 : decode cX1_copyFrom 28 = .ok (.aload_n 0, 1) := by decide +kernel
theorem dX1_copyFrom_29 : decode cX1_copyFrom 29 = .ok (.getfield 9, 3) := by decide +kernel
theorem dX1_copyFrom_32 : decode cX1_copyFrom 32 = .ok (.invokestatic 42, 3) := by decide +kernel
theorem dX1_copyFrom_35 : decode cX1_copyFrom 35 = .ok (.aload_n 1, 1) := by decide +kernel
theorem dX1_copyFrom_36 : decode cX1_copyFrom 36 = .ok (.getfield 15, 3) := by decide +kernel
theorem dX1_copyFrom_39 : decode cX1_copyFrom 39 = .ok (.aload_n 0, 1) := by decide +kernel
theorem dX1_copyFrom_40 : decode cX1_copyFrom 40 = .ok (.getfield 15, 3) := by decide +kernel
theorem dX1_copyFrom_43 : decode cX1_copyFrom 43 = .ok (.invokestatic 42, 3) := by decide +kernel
theorem dX1_copyFrom_46 : decode cX1_copyFrom 46 = .ok (.aload_n 1, 1) := by decide +kernel
theorem dX1_copyFrom_47 : decode cX1_copyFrom 47 = .ok (.getfield 18, 3) := by decide +kernel
theorem dX1_copyFrom_50 : decode cX1_copyFrom 50 = .ok (.aload_n 0, 1) := by decide +kernel
theorem dX1_copyFrom_51 : decode cX1_copyFrom 51 = .ok (.getfield 18, 3) := by decide +kernel
theorem dX1_copyFrom_54 : decode cX1_copyFrom 54 = .ok (.invokestatic 42, 3) := by decide +kernel
theorem dX1_copyFrom_57 : decode cX1_copyFrom 57 = .ok (.iconst 0, 1) := by decide +kernel
theorem dX1_copyFrom_58 : decode cX1_copyFrom 58 = .ok (.istore_n 2, 1) := by decide +kernel
theorem dX1_copyFrom_59 : decode cX1_copyFrom 59 = .ok (.iload_n 2, 1) := by decide +kernel
theorem dX1_copyFrom_60 : decode cX1_copyFrom 60 = .ok (.aload_n 0, 1) := by decide +kernel
theorem dX1_copyFrom_61 : decode cX1_copyFrom 61 = .ok (.getfield 35, 3) := by decide +kernel
theorem dX1_copyFrom_64 : decode cX1_copyFrom 64 = .ok (.if_icmp .ge 37, 3) := by decide +kernel
theorem dX1_copyFrom_67 : decode cX1_copyFrom 67 = .ok (.aload_n 0, 1) := by decide +kernel
theorem dX1_copyFrom_68 : decode cX1_copyFrom 68 = .ok (.iload_n 2, 1) := by decide +kernel
theorem dX1_copyFrom_69 : decode cX1_copyFrom 69 = .ok (.invokevirtual 46, 3) := by decide +kernel
theorem dX1_copyFrom_72 : decode cX1_copyFrom 72 = .ok (.astore_n 3, 1) := by decide +kernel
theorem dX1_copyFrom_73 : decode cX1_copyFrom 73 = .ok (.aload_n 1, 1) := by decide +kernel
theorem dX1_copyFrom_74 : decode cX1_copyFrom 74 = .ok (.iload_n 2, 1) := by decide +kernel
theorem dX1_copyFrom_75 : decode cX1_copyFrom 75 = .ok (.invokevirtual 46, 3) := by decide +kernel
theorem dX1_copyFrom_78 : decode cX1_copyFrom 78 = .ok (.astore 4, 2) := by decide +kernel
theorem dX1_copyFrom_80 : decode cX1_copyFrom 80 = .ok (.aload_n 3, 1) := by decide +kernel
theorem dX1_copyFrom_81 : decode cX1_copyFrom 81 = .ok (.ifnull 14, 3) := by decide +kernel
theorem dX1_copyFrom_84 : decode cX1_copyFrom 84 = .ok (.aload 4, 2) := by decide +kernel
theorem dX1_copyFrom_86 : decode cX1_copyFrom 86 = .ok (.ifnull 9, 3) := by decide +kernel
theorem dX1_copyFrom_89 : decode cX1_copyFrom 89 = .ok (.aload_n 3, 1) := by decide +kernel
theorem dX1_copyFrom_90 : decode cX1_copyFrom 90 = .ok (.aload 4, 2) := by decide +kernel
theorem dX1_copyFrom_92 : decode cX1_copyFrom 92 = .ok (.invokevirtual 50, 3) := by decide +kernel
theorem dX1_copyFrom_95 : decode cX1_copyFrom 95 = .ok (.iinc 2 1, 3) := by decide +kernel
theorem dX1_copyFrom_98 : decode cX1_copyFrom 98 = .ok (.goto (-39), 3) := by decide +kernel
theorem dX1_copyFrom_101 : decode cX1_copyFrom 101 = .ok (.return_, 1) := by decide +kernel
theorem dX1_hasBox_0 : decode cX1_hasBox 0 = .ok (.iload_n 1, 1) := by decide +kernel
theorem dX1_hasBox_1 : decode cX1_hasBox 1 = .ok (.ifCond .lt 15, 3) := by decide +kernel
theorem dX1_hasBox_4 : decode cX1_hasBox 4 = .ok (.iload_n 1, 1) := by decide +kernel
theorem dX1_hasBox_5 : decode cX1_hasBox 5 = .ok (.aload_n 0, 1) := by decide +kernel
theorem dX1_hasBox_6 : decode cX1_hasBox 6 = .ok (.getfield 28, 3) := by decide +kernel
theorem dX1_hasBox_9 : decode cX1_hasBox 9 = .ok (.if_icmp .ge 7, 3) := by decide +kernel
theorem dX1_hasBox_12 : decode cX1_hasBox 12 = .ok (.iconst 1, 1) := by decide +kernel
theorem dX1_hasBox_13 : decode cX1_hasBox 13 = .ok (.goto 4, 3) := by decide +kernel
theorem dX1_hasBox_16 : decode cX1_hasBox 16 = .ok (.iconst 0, 1) := by decide +kernel
theorem dX1_hasBox_17 : decode cX1_hasBox 17 = .ok (.ireturn, 1) := by decide +kernel
theorem dX1_suits_0 : decode cX1_suits 0 = .ok (.iload_n 1, 1) := by decide +kernel
theorem dX1_suits_1 : decode cX1_suits 1 = .ok (.ifCond .lt 16, 3) := by decide +kernel
theorem dX1_suits_4 : decode cX1_suits 4 = .ok (.iload_n 1, 1) := by decide +kernel
theorem dX1_suits_5 : decode cX1_suits 5 = .ok (.iconst 5, 1) := by decide +kernel
theorem dX1_suits_6 : decode cX1_suits 6 = .ok (.if_icmp .gt 11, 3) := by decide +kernel
theorem dX1_suits_9 : decode cX1_suits 9 = .ok (.aload_n 0, 1) := by decide +kernel
theorem dX1_suits_10 : decode cX1_suits 10 = .ok (.iload_n 2, 1) := by decide +kernel
theorem dX1_suits_11 : decode cX1_suits 11 = .ok (.invokevirtual 54, 3) := by decide +kernel
theorem dX1_suits_14 : decode cX1_suits 14 = .ok (.ifCond .ne 5, 3) := by decide +kernel
theorem dX1_suits_17 : decode cX1_suits 17 = .ok (.iconst 0, 1) := by decide +kernel
theorem dX1_suits_18 : decode cX1_suits 18 = .ok (.ireturn, 1) := by decide +kernel
theorem dX1_suits_19 : decode cX1_suits 19 = .ok (.iload_n 1, 1) := by decide +kernel
theorem dX1_suits_20 : decode cX1_suits 20 = .ok (.iconst 4, 1) := by decide +kernel
theorem dX1_suits_21 : decode cX1_suits 21 = .ok (.if_icmp .ne 19, 3) := by decide +kernel
theorem dX1_suits_24 : decode cX1_suits 24 = .ok (.iload_n 3, 1) := by decide +kernel
theorem dX1_suits_25 : decode cX1_suits 25 = .ok (.ifCond .lt 13, 3) := by decide +kernel
theorem dX1_suits_28 : decode cX1_suits 28 = .ok (.iload_n 3, 1) := by decide +kernel
theorem dX1_suits_29 : decode cX1_suits 29 = .ok (.bipush 6, 2) := by decide +kernel
theorem dX1_suits_31 : decode cX1_suits 31 = .ok (.if_icmp .gt 7, 3) := by decide +kernel
theorem dX1_suits_34 : decode cX1_suits 34 = .ok (.iconst 1, 1) := by decide +kernel
theorem dX1_suits_35 : decode cX1_suits 35 = .ok (.goto 4, 3) := by decide +kernel
theorem dX1_suits_38 : decode cX1_suits 38 = .ok (.iconst 0, 1) := by decide +kernel
theorem dX1_suits_39 : decode cX1_suits 39 = .ok (.ireturn, 1) := by decide +kernel
theorem dX1_suits_40 : decode cX1_suits 40 = .ok (.aload_n 0, 1) := by decide +kernel
theorem dX1_suits_41 : decode cX1_suits 41 = .ok (.iload_n 3, 1) := by decide +kernel
theorem dX1_suits_42 : decode cX1_suits 42 = .ok (.invokevirtual 54, 3) := by decide +kernel
theorem dX1_suits_45 : decode cX1_suits 45 = .ok (.ifCond .eq 17, 3) := by decide +kernel
theorem dX1_suits_48 : decode cX1_suits 48 = .ok (.iload_n 1, 1) := by decide +kernel
theorem dX1_suits_49 : decode cX1_suits 49 = .ok (.iconst 5, 1) := by decide +kernel
theorem dX1_suits_50 : decode cX1_suits 50 = .ok (.if_icmp .eq 8, 3) := by decide +kernel
theorem dX1_suits_53 : decode cX1_suits 53 = .ok (.iload_n 2, 1) := by decide +kernel
theorem dX1_suits_54 : decode cX1_suits 54 = .ok (.iload_n 3, 1) := by decide +kernel
theorem dX1_suits_55 : decode cX1_suits 55 = .ok (.if_icmp .eq 7, 3) := by decide +kernel
theorem dX1_suits_58 : decode cX1_suits 58 = .ok (.iconst 1, 1) := by decide +kernel
theorem dX1_suits_59 : decode cX1_suits 59 = .ok (.goto 4, 3) := by decide +kernel
theorem dX1_suits_62 : decode cX1_suits 62 = .ok (.iconst 0, 1) := by decide +kernel
theorem dX1_suits_63 : decode cX1_suits 63 = .ok (.ireturn, 1) := by decide +kernel
theorem dX1_hasRoomFor_0 : decode cX1_hasRoomFor 0 = .ok (.aload_n 0, 1) := by decide +kernel
theorem dX1_hasRoomFor_1 : decode cX1_hasRoomFor 1 = .ok (.getfield 35, 3) := by decide +kernel
theorem dX1_hasRoomFor_4 : decode cX1_hasRoomFor 4 = .ok (.iload_n 1, 1) := by decide +kernel
theorem dX1_hasRoomFor_5 : decode cX1_hasRoomFor 5 = .ok (.iadd, 1) := by decide +kernel
theorem dX1_hasRoomFor_6 : decode cX1_hasRoomFor 6 = .ok (.bipush 20, 2) := by decide +kernel
theorem dX1_hasRoomFor_8 : decode cX1_hasRoomFor 8 = .ok (.if_icmp .gt 7, 3) := by decide +kernel
theorem dX1_hasRoomFor_11 : decode cX1_hasRoomFor 11 = .ok (.iconst 1, 1) := by decide +kernel
theorem dX1_hasRoomFor_12 : decode cX1_hasRoomFor 12 = .ok (.goto 4, 3) := by decide +kernel
theorem dX1_hasRoomFor_15 : decode cX1_hasRoomFor 15 = .ok (.iconst 0, 1) := by decide +kernel
theorem dX1_hasRoomFor_16 : decode cX1_hasRoomFor 16 = .ok (.ireturn, 1) := by decide +kernel
theorem dX1_rumourAt_0 : decode cX1_rumourAt 0 = .ok (.iload_n 1, 1) := by decide +kernel
theorem dX1_rumourAt_1 : decode cX1_rumourAt 1 = .ok (.ifCond .lt 29, 3) := by decide +kernel
theorem dX1_rumourAt_4 : decode cX1_rumourAt 4 = .ok (.iload_n 1, 1) := by decide +kernel
theorem dX1_rumourAt_5 : decode cX1_rumourAt 5 = .ok (.aload_n 0, 1) := by decide +kernel
theorem dX1_rumourAt_6 : decode cX1_rumourAt 6 = .ok (.getfield 35, 3) := by decide +kernel
theorem dX1_rumourAt_9 : decode cX1_rumourAt 9 = .ok (.if_icmp .ge 21, 3) := by decide +kernel
theorem dX1_rumourAt_12 : decode cX1_rumourAt 12 = .ok (.iload_n 1, 1) := by decide +kernel
theorem dX1_rumourAt_13 : decode cX1_rumourAt 13 = .ok (.aload_n 0, 1) := by decide +kernel
theorem dX1_rumourAt_14 : decode cX1_rumourAt 14 = .ok (.getfield 23, 3) := by decide +kernel
theorem dX1_rumourAt_17 : decode cX1_rumourAt 17 = .ok (.arraylength, 1) := by decide +kernel
theorem dX1_rumourAt_18 : decode cX1_rumourAt 18 = .ok (.if_icmp .ge 12, 3) := by decide +kernel
theorem dX1_rumourAt_21 : decode cX1_rumourAt 21 = .ok (.aload_n 0, 1) := by decide +kernel
theorem dX1_rumourAt_22 : decode cX1_rumourAt 22 = .ok (.getfield 23, 3) := by decide +kernel
theorem dX1_rumourAt_25 : decode cX1_rumourAt 25 = .ok (.iload_n 1, 1) := by decide +kernel
theorem dX1_rumourAt_26 : decode cX1_rumourAt 26 = .ok (.aaload, 1) := by decide +kernel
theorem dX1_rumourAt_27 : decode cX1_rumourAt 27 = .ok (.goto 4, 3) := by decide +kernel
theorem dX1_rumourAt_30 : decode cX1_rumourAt 30 = .ok (.aconst_null, 1) := by decide +kernel
theorem dX1_rumourAt_31 : decode cX1_rumourAt 31 = .ok (.areturn, 1) := by decide +kernel
theorem dX1_addRumour_0 : decode cX1_addRumour 0 = .ok (.aload_n 0, 1) := by decide +kernel
theorem dX1_addRumour_1 : decode cX1_addRumour 1 = .ok (.iconst 1, 1) := by decide +kernel
theorem dX1_addRumour_2 : decode cX1_addRumour 2 = .ok (.invokevirtual 58, 3) := by decide +kernel
theorem dX1_addRumour_5 : decode cX1_addRumour 5 = .ok (.ifCond .ne 4, 3) := by decide +kernel
theorem dX1_addRumour_8 : decode cX1_addRumour 8 = .ok (.return_, 1) := by decide +kernel
theorem dX1_addRumour_9 : decode cX1_addRumour 9 = .ok (.aload_n 0, 1) := by decide +kernel
theorem dX1_addRumour_10 : decode cX1_addRumour 10 = .ok (.dup, 1) := by decide +kernel
theorem dX1_addRumour_11 : decode cX1_addRumour 11 = .ok (.getfield 35, 3) := by decide +kernel
theorem dX1_addRumour_14 : decode cX1_addRumour 14 = .ok (.iconst 1, 1) := by decide +kernel
theorem dX1_addRumour_15 : decode cX1_addRumour 15 = .ok (.iadd, 1) := by decide +kernel
theorem dX1_addRumour_16 : decode cX1_addRumour 16 = .ok (.putfield 35, 3) := by decide +kernel
theorem dX1_addRumour_19 : decode cX1_addRumour 19 = .ok (.aload_n 0, 1) := by decide +kernel
theorem dX1_addRumour_20 : decode cX1_addRumour 20 = .ok (.aload_n 0, 1) := by decide +kernel
theorem dX1_addRumour_21 : decode cX1_addRumour 21 = .ok (.getfield 35, 3) := by decide +kernel
theorem dX1_addRumour_24 : decode cX1_addRumour 24 = .ok (.iconst 1, 1) := by decide +kernel
theorem dX1_addRumour_25 : decode cX1_addRumour 25 = .ok (.isub, 1) := by decide +kernel
theorem dX1_addRumour_26 : decode cX1_addRumour 26 = .ok (.invokevirtual 46, 3) := by decide +kernel
theorem dX1_addRumour_29 : decode cX1_addRumour 29 = .ok (.astore 5, 2) := by decide +kernel
theorem dX1_addRumour_31 : decode cX1_addRumour 31 = .ok (.aload 5, 2) := by decide +kernel
theorem dX1_addRumour_33 : decode cX1_addRumour 33 = .ok (.ifnull 13, 3) := by decide +kernel
theorem dX1_addRumour_36 : decode cX1_addRumour 36 = .ok (.aload 5, 2) := by decide +kernel
theorem dX1_addRumour_38 : decode cX1_addRumour 38 = .ok (.iload_n 1, 1) := by decide +kernel
theorem dX1_addRumour_39 : decode cX1_addRumour 39 = .ok (.iload_n 2, 1) := by decide +kernel
theorem dX1_addRumour_40 : decode cX1_addRumour 40 = .ok (.iload_n 3, 1) := by decide +kernel
theorem dX1_addRumour_41 : decode cX1_addRumour 41 = .ok (.iload 4, 2) := by decide +kernel
theorem dX1_addRumour_43 : decode cX1_addRumour 43 = .ok (.invokevirtual 61, 3) := by decide +kernel
theorem dX1_addRumour_46 : decode cX1_addRumour 46 = .ok (.return_, 1) := by decide +kernel
theorem dX1_openRumours_0 : decode cX1_openRumours 0 = .ok (.iconst 0, 1) := by decide +kernel
theorem dX1_openRumours_1 : decode cX1_openRumours 1 = .ok (.istore_n 1, 1) := by decide +kernel
theorem dX1_openRumours_2 : decode cX1_openRumours 2 = .ok (.iconst 0, 1) := by decide +kernel
theorem dX1_openRumours_3 : decode cX1_openRumours 3 = .ok (.istore_n 2, 1) := by decide +kernel
theorem dX1_openRumours_4 : decode cX1_openRumours 4 = .ok (.iload_n 2, 1) := by decide +kernel
theorem dX1_openRumours_5 : decode cX1_openRumours 5 = .ok (.aload_n 0, 1) := by decide +kernel
theorem dX1_openRumours_6 : decode cX1_openRumours 6 = .ok (.getfield 35, 3) := by decide +kernel
theorem dX1_openRumours_9 : decode cX1_openRumours 9 = .ok (.if_icmp .ge 20, 3) := by decide +kernel
theorem dX1_openRumours_12 : decode cX1_openRumours 12 = .ok (.aload_n 0, 1) := by decide +kernel
theorem dX1_openRumours_13 : decode cX1_openRumours 13 = .ok (.iload_n 2, 1) := by decide +kernel
theorem dX1_openRumours_14 : decode cX1_openRumours 14 = .ok (.invokevirtual 65, 3) := by decide +kernel
theorem dX1_openRumours_17 : decode cX1_openRumours 17 = .ok (.ifCond .eq 6, 3) := by decide +kernel
theorem dX1_openRumours_20 : decode cX1_openRumours 20 = .ok (.iinc 1 1, 3) := by decide +kernel
theorem dX1_openRumours_23 : decode cX1_openRumours 23 = .ok (.iinc 2 1, 3) := by decide +kernel
theorem dX1_openRumours_26 : decode cX1_openRumours 26 = .ok (.goto (-22), 3) := by decide +kernel
theorem dX1_openRumours_29 : decode cX1_openRumours 29 = .ok (.iload_n 1, 1) := by decide +kernel
theorem dX1_openRumours_30 : decode cX1_openRumours 30 = .ok (.ireturn, 1) := by decide +kernel
theorem dX1_isOpen_0 : decode cX1_isOpen 0 = .ok (.aload_n 0, 1) := by decide +kernel
theorem dX1_isOpen_1 : decode cX1_isOpen 1 = .ok (.iload_n 1, 1) := by decide +kernel
theorem dX1_isOpen_2 : decode cX1_isOpen 2 = .ok (.invokevirtual 46, 3) := by decide +kernel
theorem dX1_isOpen_5 : decode cX1_isOpen 5 = .ok (.astore_n 2, 1) := by decide +kernel
theorem dX1_isOpen_6 : decode cX1_isOpen 6 = .ok (.aload_n 2, 1) := by decide +kernel
theorem dX1_isOpen_7 : decode cX1_isOpen 7 = .ok (.ifnull 14, 3) := by decide +kernel
theorem dX1_isOpen_10 : decode cX1_isOpen 10 = .ok (.aload_n 2, 1) := by decide +kernel
theorem dX1_isOpen_11 : decode cX1_isOpen 11 = .ok (.getfield 68, 3) := by decide +kernel
theorem dX1_isOpen_14 : decode cX1_isOpen 14 = .ok (.ifCond .ne 7, 3) := by decide +kernel
theorem dX1_isOpen_17 : decode cX1_isOpen 17 = .ok (.iconst 1, 1) := by decide +kernel
theorem dX1_isOpen_18 : decode cX1_isOpen 18 = .ok (.goto 4, 3) := by decide +kernel
theorem dX1_isOpen_21 : decode cX1_isOpen 21 = .ok (.iconst 0, 1) := by decide +kernel
theorem dX1_isOpen_22 : decode cX1_isOpen 22 = .ok (.ireturn, 1) := by decide +kernel
theorem dX1_isTrue_0 : decode cX1_isTrue 0 = .ok (.aload_n 0, 1) := by decide +kernel
theorem dX1_isTrue_1 : decode cX1_isTrue 1 = .ok (.iload_n 1, 1) := by decide +kernel
theorem dX1_isTrue_2 : decode cX1_isTrue 2 = .ok (.invokevirtual 46, 3) := by decide +kernel
theorem dX1_isTrue_5 : decode cX1_isTrue 5 = .ok (.astore_n 2, 1) := by decide +kernel
theorem dX1_isTrue_6 : decode cX1_isTrue 6 = .ok (.aload_n 2, 1) := by decide +kernel
theorem dX1_isTrue_7 : decode cX1_isTrue 7 = .ok (.ifnull 18, 3) := by decide +kernel
theorem dX1_isTrue_10 : decode cX1_isTrue 10 = .ok (.aload_n 2, 1) := by decide +kernel
theorem dX1_isTrue_11 : decode cX1_isTrue 11 = .ok (.aload_n 0, 1) := by decide +kernel
theorem dX1_isTrue_12 : decode cX1_isTrue 12 = .ok (.getfield 9, 3) := by decide +kernel
theorem dX1_isTrue_15 : decode cX1_isTrue 15 = .ok (.invokevirtual 71, 3) := by decide +kernel
theorem dX1_isTrue_18 : decode cX1_isTrue 18 = .ok (.ifCond .eq 7, 3) := by decide +kernel
theorem dX1_isTrue_21 : decode cX1_isTrue 21 = .ok (.iconst 1, 1) := by decide +kernel
theorem dX1_isTrue_22 : decode cX1_isTrue 22 = .ok (.goto 4, 3) := by decide +kernel
theorem dX1_isTrue_25 : decode cX1_isTrue 25 = .ok (.iconst 0, 1) := by decide +kernel
theorem dX1_isTrue_26 : decode cX1_isTrue 26 = .ok (.ireturn, 1) := by decide +kernel
theorem dX1_revealOpen_0 : decode cX1_revealOpen 0 = .ok (.iconst 0, 1) := by decide +kernel
theorem dX1_revealOpen_1 : decode cX1_revealOpen 1 = .ok (.istore_n 1, 1) := by decide +kernel
theorem dX1_revealOpen_2 : decode cX1_revealOpen 2 = .ok (.iconst 0, 1) := by decide +kernel
theorem dX1_revealOpen_3 : decode cX1_revealOpen 3 = .ok (.istore_n 2, 1) := by decide +kernel
theorem dX1_revealOpen_4 : decode cX1_revealOpen 4 = .ok (.iload_n 2, 1) := by decide +kernel
theorem dX1_revealOpen_5 : decode cX1_revealOpen 5 = .ok (.aload_n 0, 1) := by decide +kernel
theorem dX1_revealOpen_6 : decode cX1_revealOpen 6 = .ok (.getfield 35, 3) := by decide +kernel
theorem dX1_revealOpen_9 : decode cX1_revealOpen 9 = .ok (.if_icmp .ge 41, 3) := by decide +kernel
theorem dX1_revealOpen_12 : decode cX1_revealOpen 12 = .ok (.aload_n 0, 1) := by decide +kernel
theorem dX1_revealOpen_13 : decode cX1_revealOpen 13 = .ok (.iload_n 2, 1) := by decide +kernel
theorem dX1_revealOpen_14 : decode cX1_revealOpen 14 = .ok (.invokevirtual 46, 3) := by decide +kernel
theorem dX1_revealOpen_17 : decode cX1_revealOpen 17 = .ok (.astore_n 3, 1) := by decide +kernel
theorem dX1_revealOpen_18 : decode cX1_revealOpen 18 = .ok (.aload_n 3, 1) := by decide +kernel
theorem dX1_revealOpen_19 : decode cX1_revealOpen 19 = .ok (.ifnull 25, 3) := by decide +kernel
theorem dX1_revealOpen_22 : decode cX1_revealOpen 22 = .ok (.aload_n 3, 1) := by decide +kernel
theorem dX1_revealOpen_23 : decode cX1_revealOpen 23 = .ok (.getfield 68, 3) := by decide +kernel
theorem dX1_revealOpen_26 : decode cX1_revealOpen 26 = .ok (.ifCond .ne 18, 3) := by decide +kernel
theorem dX1_revealOpen_29 : decode cX1_revealOpen 29 = .ok (.aload_n 3, 1) := by decide +kernel
theorem dX1_revealOpen_30 : decode cX1_revealOpen 30 = .ok (.aload_n 3, 1) := by decide +kernel
theorem dX1_revealOpen_31 : decode cX1_revealOpen 31 = .ok (.aload_n 0, 1) := by decide +kernel
theorem dX1_revealOpen_32 : decode cX1_revealOpen 32 = .ok (.getfield 9, 3) := by decide +kernel
theorem dX1_revealOpen_35 : decode cX1_revealOpen 35 = .ok (.invokevirtual 71, 3) := by decide +kernel
theorem dX1_revealOpen_38 : decode cX1_revealOpen 38 = .ok (.invokevirtual 75, 3) := by decide +kernel
theorem dX1_revealOpen_41 : decode cX1_revealOpen 41 = .ok (.iinc 1 1, 3) := by decide +kernel
theorem dX1_revealOpen_44 : decode cX1_revealOpen 44 = .ok (.iinc 2 1, 3) := by decide +kernel
theorem dX1_revealOpen_47 : decode cX1_revealOpen 47 = .ok (.goto (-43), 3) := by decide +kernel
theorem dX1_revealOpen_50 : decode cX1_revealOpen 50 = .ok (.iload_n 1, 1) := by decide +kernel
theorem dX1_revealOpen_51 : decode cX1_revealOpen 51 = .ok (.ireturn, 1) := by decide +kernel
theorem dX1_finishAct_0 : decode cX1_finishAct 0 = .ok (.iconst 0, 1) := by decide +kernel
theorem dX1_finishAct_1 : decode cX1_finishAct 1 = .ok (.istore_n 1, 1) := by decide +kernel
theorem dX1_finishAct_2 : decode cX1_finishAct 2 = .ok (.iload_n 1, 1) := by decide +kernel
theorem dX1_finishAct_3 : decode cX1_finishAct 3 = .ok (.aload_n 0, 1) := by decide +kernel
theorem dX1_finishAct_4 : decode cX1_finishAct 4 = .ok (.getfield 35, 3) := by decide +kernel
theorem dX1_finishAct_7 : decode cX1_finishAct 7 = .ok (.if_icmp .ge 34, 3) := by decide +kernel
theorem dX1_finishAct_10 : decode cX1_finishAct 10 = .ok (.aload_n 0, 1) := by decide +kernel
theorem dX1_finishAct_11 : decode cX1_finishAct 11 = .ok (.getfield 15, 3) := by decide +kernel
theorem dX1_finishAct_14 : decode cX1_finishAct 14 = .ok (.aload_n 0, 1) := by decide +kernel
theorem dX1_finishAct_15 : decode cX1_finishAct 15 = .ok (.iload_n 1, 1) := by decide +kernel
theorem dX1_finishAct_16 : decode cX1_finishAct 16 = .ok (.invokevirtual 79, 3) := by decide +kernel
theorem dX1_finishAct_19 : decode cX1_finishAct 19 = .ok (.aload_n 0, 1) := by decide +kernel
theorem dX1_finishAct_20 : decode cX1_finishAct 20 = .ok (.iload_n 1, 1) := by decide +kernel
theorem dX1_finishAct_21 : decode cX1_finishAct 21 = .ok (.invokevirtual 83, 3) := by decide +kernel
theorem dX1_finishAct_24 : decode cX1_finishAct 24 = .ok (.ifCond .eq 7, 3) := by decide +kernel
theorem dX1_finishAct_27 : decode cX1_finishAct 27 = .ok (.iconst 1, 1) := by decide +kernel
theorem dX1_finishAct_28 : decode cX1_finishAct 28 = .ok (.goto 4, 3) := by decide +kernel
theorem dX1_finishAct_31 : decode cX1_finishAct 31 = .ok (.iconst (-1), 1) := by decide +kernel
theorem dX1_finishAct_32 : decode cX1_finishAct 32 = .ok (.invokestatic 86, 3) := by decide +kernel
theorem dX1_finishAct_35 : decode cX1_finishAct 35 = .ok (.iinc 1 1, 3) := by decide +kernel
theorem dX1_finishAct_38 : decode cX1_finishAct 38 = .ok (.goto (-36), 3) := by decide +kernel
theorem dX1_finishAct_41 : decode cX1_finishAct 41 = .ok (.aload_n 0, 1) := by decide +kernel
theorem dX1_finishAct_42 : decode cX1_finishAct 42 = .ok (.iconst 0, 1) := by decide +kernel
theorem dX1_finishAct_43 : decode cX1_finishAct 43 = .ok (.putfield 35, 3) := by decide +kernel
theorem dX1_finishAct_46 : decode cX1_finishAct 46 = .ok (.aload_n 0, 1) := by decide +kernel
theorem dX1_finishAct_47 : decode cX1_finishAct 47 = .ok (.getfield 18, 3) := by decide +kernel
theorem dX1_finishAct_50 : decode cX1_finishAct 50 = .ok (.iconst 0, 1) := by decide +kernel
theorem dX1_finishAct_51 : decode cX1_finishAct 51 = .ok (.invokestatic 38, 3) := by decide +kernel
theorem dX1_finishAct_54 : decode cX1_finishAct 54 = .ok (.aload_n 0, 1) := by decide +kernel
theorem dX1_finishAct_55 : decode cX1_finishAct 55 = .ok (.dup, 1) := by decide +kernel
theorem dX1_finishAct_56 : decode cX1_finishAct 56 = .ok (.getfield 32, 3) := by decide +kernel
theorem dX1_finishAct_59 : decode cX1_finishAct 59 = .ok (.iconst 1, 1) := by decide +kernel
theorem dX1_finishAct_60 : decode cX1_finishAct 60 = .ok (.iadd, 1) := by decide +kernel
theorem dX1_finishAct_61 : decode cX1_finishAct 61 = .ok (.putfield 32, 3) := by decide +kernel
theorem dX1_finishAct_64 : decode cX1_finishAct 64 = .ok (.return_, 1) := by decide +kernel
theorem dX1_tellerOf_0 : decode cX1_tellerOf 0 = .ok (.aload_n 0, 1) := by decide +kernel
theorem dX1_tellerOf_1 : decode cX1_tellerOf 1 = .ok (.iload_n 1, 1) := by decide +kernel
theorem dX1_tellerOf_2 : decode cX1_tellerOf 2 = .ok (.invokevirtual 46, 3) := by decide +kernel
theorem dX1_tellerOf_5 : decode cX1_tellerOf 5 = .ok (.astore_n 2, 1) := by decide +kernel
theorem dX1_tellerOf_6 : decode cX1_tellerOf 6 = .ok (.aload_n 2, 1) := by decide +kernel
theorem dX1_tellerOf_7 : decode cX1_tellerOf 7 = .ok (.ifnull 10, 3) := by decide +kernel
theorem dX1_tellerOf_10 : decode cX1_tellerOf 10 = .ok (.aload_n 2, 1) := by decide +kernel
theorem dX1_tellerOf_11 : decode cX1_tellerOf 11 = .ok (.getfield 90, 3) := by decide +kernel
theorem dX1_tellerOf_14 : decode cX1_tellerOf 14 = .ok (.goto 4, 3) := by decide +kernel
theorem dX1_tellerOf_17 : decode cX1_tellerOf 17 = .ok (.iconst (-1), 1) := by decide +kernel
theorem dX1_tellerOf_18 : decode cX1_tellerOf 18 = .ok (.ireturn, 1) := by decide +kernel
theorem dX1_toldBy_0 : decode cX1_toldBy 0 = .ok (.iconst 0, 1) := by decide +kernel
theorem dX1_toldBy_1 : decode cX1_toldBy 1 = .ok (.istore_n 2, 1) := by decide +kernel
theorem dX1_toldBy_2 : decode cX1_toldBy 2 = .ok (.iconst 0, 1) := by decide +kernel
theorem dX1_toldBy_3 : decode cX1_toldBy 3 = .ok (.istore_n 3, 1) := by decide +kernel
theorem dX1_toldBy_4 : decode cX1_toldBy 4 = .ok (.iload_n 3, 1) := by decide +kernel
theorem dX1_toldBy_5 : decode cX1_toldBy 5 = .ok (.aload_n 0, 1) := by decide +kernel
theorem dX1_toldBy_6 : decode cX1_toldBy 6 = .ok (.getfield 35, 3) := by decide +kernel
theorem dX1_toldBy_9 : decode cX1_toldBy 9 = .ok (.if_icmp .ge 21, 3) := by decide +kernel
theorem dX1_toldBy_12 : decode cX1_toldBy 12 = .ok (.aload_n 0, 1) := by decide +kernel
theorem dX1_toldBy_13 : decode cX1_toldBy 13 = .ok (.iload_n 3, 1) := by decide +kernel
theorem dX1_toldBy_14 : decode cX1_toldBy 14 = .ok (.invokevirtual 79, 3) := by decide +kernel
theorem dX1_toldBy_17 : decode cX1_toldBy 17 = .ok (.iload_n 1, 1) := by decide +kernel
theorem dX1_toldBy_18 : decode cX1_toldBy 18 = .ok (.if_icmp .ne 6, 3) := by decide +kernel
theorem dX1_toldBy_21 : decode cX1_toldBy 21 = .ok (.iinc 2 1, 3) := by decide +kernel
theorem dX1_toldBy_24 : decode cX1_toldBy 24 = .ok (.iinc 3 1, 3) := by decide +kernel
theorem dX1_toldBy_27 : decode cX1_toldBy 27 = .ok (.goto (-23), 3) := by decide +kernel
theorem dX1_toldBy_30 : decode cX1_toldBy 30 = .ok (.iload_n 2, 1) := by decide +kernel
theorem dX1_toldBy_31 : decode cX1_toldBy 31 = .ok (.ireturn, 1) := by decide +kernel
theorem dX1_toldTrulyBy_0 : decode cX1_toldTrulyBy 0 = .ok (.iconst 0, 1) := by decide +kernel
theorem dX1_toldTrulyBy_1 : decode cX1_toldTrulyBy 1 = .ok (.istore_n 2, 1) := by decide +kernel
theorem dX1_toldTrulyBy_2 : decode cX1_toldTrulyBy 2 = .ok (.iconst 0, 1) := by decide +kernel
theorem dX1_toldTrulyBy_3 : decode cX1_toldTrulyBy 3 = .ok (.istore_n 3, 1) := by decide +kernel
theorem dX1_toldTrulyBy_4 : decode cX1_toldTrulyBy 4 = .ok (.iload_n 3, 1) := by decide +kernel
theorem dX1_toldTrulyBy_5 : decode cX1_toldTrulyBy 5 = .ok (.aload_n 0, 1) := by decide +kernel
theorem dX1_toldTrulyBy_6 : decode cX1_toldTrulyBy 6 = .ok (.getfield 35, 3) := by decide +kernel
theorem dX1_toldTrulyBy_9 : decode cX1_toldTrulyBy 9 = .ok (.if_icmp .ge 29, 3) := by decide +kernel
theorem dX1_toldTrulyBy_12 : decode cX1_toldTrulyBy 12 = .ok (.aload_n 0, 1) := by decide +kernel
theorem dX1_toldTrulyBy_13 : decode cX1_toldTrulyBy 13 = .ok (.iload_n 3, 1) := by decide +kernel
theorem dX1_toldTrulyBy_14 : decode cX1_toldTrulyBy 14 = .ok (.invokevirtual 79, 3) := by decide +kernel
theorem dX1_toldTrulyBy_17 : decode cX1_toldTrulyBy 17 = .ok (.iload_n 1, 1) := by decide +kernel
theorem dX1_toldTrulyBy_18 : decode cX1_toldTrulyBy 18 = .ok (.if_icmp .ne 14, 3) := by decide +kernel
theorem dX1_toldTrulyBy_21 : decode cX1_toldTrulyBy 21 = .ok (.aload_n 0, 1) := by decide +kernel
theorem dX1_toldTrulyBy_22 : decode cX1_toldTrulyBy 22 = .ok (.iload_n 3, 1) := by decide +kernel
theorem dX1_toldTrulyBy_23 : decode cX1_toldTrulyBy 23 = .ok (.invokevirtual 83, 3) := by decide +kernel
theorem dX1_toldTrulyBy_26 : decode cX1_toldTrulyBy 26 = .ok (.ifCond .eq 6, 3) := by decide +kernel
theorem dX1_toldTrulyBy_29 : decode cX1_toldTrulyBy 29 = .ok (.iinc 2 1, 3) := by decide +kernel
theorem dX1_toldTrulyBy_32 : decode cX1_toldTrulyBy 32 = .ok (.iinc 3 1, 3) := by decide +kernel
theorem dX1_toldTrulyBy_35 : decode cX1_toldTrulyBy 35 = .ok (.goto (-31), 3) := by decide +kernel
theorem dX1_toldTrulyBy_38 : decode cX1_toldTrulyBy 38 = .ok (.iload_n 2, 1) := by decide +kernel
theorem dX1_toldTrulyBy_39 : decode cX1_toldTrulyBy 39 = .ok (.ireturn, 1) := by decide +kernel
theorem dX1_firstBroken_0 : decode cX1_firstBroken 0 = .ok (.iload_n 1, 1) := by decide +kernel
theorem dX1_firstBroken_1 : decode cX1_firstBroken 1 = .ok (.iconst 0, 1) := by decide +kernel
theorem dX1_firstBroken_2 : decode cX1_firstBroken 2 = .ok (.invokestatic 93, 3) := by decide +kernel
theorem dX1_firstBroken_5 : decode cX1_firstBroken 5 = .ok (.istore_n 3, 1) := by decide +kernel
theorem dX1_firstBroken_6 : decode cX1_firstBroken 6 = .ok (.iload_n 3, 1) := by decide +kernel
theorem dX1_firstBroken_7 : decode cX1_firstBroken 7 = .ok (.aload_n 0, 1) := by decide +kernel
theorem dX1_firstBroken_8 : decode cX1_firstBroken 8 = .ok (.getfield 35, 3) := by decide +kernel
theorem dX1_firstBroken_11 : decode cX1_firstBroken 11 = .ok (.if_icmp .ge 50, 3) := by decide +kernel
theorem dX1_firstBroken_14 : decode cX1_firstBroken 14 = .ok (.iload_n 3, 1) := by decide +kernel
theorem dX1_firstBroken_15 : decode cX1_firstBroken 15 = .ok (.aload_n 0, 1) := by decide +kernel
theorem dX1_firstBroken_16 : decode cX1_firstBroken 16 = .ok (.getfield 23, 3) := by decide +kernel
theorem dX1_firstBroken_19 : decode cX1_firstBroken 19 = .ok (.arraylength, 1) := by decide +kernel
theorem dX1_firstBroken_20 : decode cX1_firstBroken 20 = .ok (.if_icmp .ge 41, 3) := by decide +kernel
theorem dX1_firstBroken_23 : decode cX1_firstBroken 23 = .ok (.aload_n 0, 1) := by decide +kernel
theorem dX1_firstBroken_24 : decode cX1_firstBroken 24 = .ok (.getfield 23, 3) := by decide +kernel
theorem dX1_firstBroken_27 : decode cX1_firstBroken 27 = .ok (.iload_n 3, 1) := by decide +kernel
theorem dX1_firstBroken_28 : decode cX1_firstBroken 28 = .ok (.aaload, 1) := by decide +kernel
theorem dX1_firstBroken_29 : decode cX1_firstBroken 29 = .ok (.astore 4, 2) := by decide +kernel
theorem dX1_firstBroken_31 : decode cX1_firstBroken 31 = .ok (.aload 4, 2) := by decide +kernel
theorem dX1_firstBroken_33 : decode cX1_firstBroken 33 = .ok (.ifnull 22, 3) := by decide +kernel
theorem dX1_firstBroken_36 : decode cX1_firstBroken 36 = .ok (.aload 4, 2) := by decide +kernel
theorem dX1_firstBroken_38 : decode cX1_firstBroken 38 = .ok (.getfield 68, 3) := by decide +kernel
theorem dX1_firstBroken_41 : decode cX1_firstBroken 41 = .ok (.ifCond .eq 14, 3) := by decide +kernel
theorem dX1_firstBroken_44 : decode cX1_firstBroken 44 = .ok (.aload 4, 2) := by decide +kernel
theorem dX1_firstBroken_46 : decode cX1_firstBroken 46 = .ok (.aload_n 2, 1) := by decide +kernel
theorem dX1_firstBroken_47 : decode cX1_firstBroken 47 = .ok (.invokevirtual 99, 3) := by decide +kernel
theorem dX1_firstBroken_50 : decode cX1_firstBroken 50 = .ok (.ifCond .eq 5, 3) := by decide +kernel
theorem dX1_firstBroken_53 : decode cX1_firstBroken 53 = .ok (.iload_n 3, 1) := by decide +kernel
theorem dX1_firstBroken_54 : decode cX1_firstBroken 54 = .ok (.ireturn, 1) := by decide +kernel
theorem dX1_firstBroken_55 : decode cX1_firstBroken 55 = .ok (.iinc 3 1, 3) := by decide +kernel
theorem dX1_firstBroken_58 : decode cX1_firstBroken 58 = .ok (.goto (-52), 3) := by decide +kernel
theorem dX1_firstBroken_61 : decode cX1_firstBroken 61 = .ok (.bipush (-6), 2) := by decide +kernel
theorem dX1_firstBroken_63 : decode cX1_firstBroken 63 = .ok (.ireturn, 1) := by decide +kernel
theorem dX2_init_0 : decode cX2_init 0 = .ok (.aload_n 0, 1) := by decide +kernel
theorem dX2_init_1 : decode cX2_init 1 = .ok (.invokespecial 3, 3) := by decide +kernel
theorem dX2_init_4 : decode cX2_init 4 = .ok (.aload_n 0, 1) := by decide +kernel
theorem dX2_init_5 : decode cX2_init 5 = .ok (.bipush 60, 2) := by decide +kernel
theorem dX2_init_7 : decode cX2_init 7 = .ok (.newarray .char, 2) := by decide +kernel
theorem dX2_init_9 : decode cX2_init 9 = .ok (.putfield 9, 3) := by decide +kernel
theorem dX2_init_12 : decode cX2_init 12 = .ok (.return_, 1) := by decide +kernel
theorem dX2_append_0 : decode cX2_append 0 = .ok (.aload_n 0, 1) := by decide +kernel
theorem dX2_append_1 : decode cX2_append 1 = .ok (.getfield 15, 3) := by decide +kernel
theorem dX2_append_4 : decode cX2_append 4 = .ok (.ifCond .lt 35, 3) := by decide +kernel
theorem dX2_append_7 : decode cX2_append 7 = .ok (.aload_n 0, 1) := by decide +kernel
theorem dX2_append_8 : decode cX2_append 8 = .ok (.getfield 15, 3) := by decide +kernel
theorem dX2_append_11 : decode cX2_append 11 = .ok (.aload_n 0, 1) := by decide +kernel
theorem dX2_append_12 : decode cX2_append 12 = .ok (.getfield 9, 3) := by decide +kernel
theorem dX2_append_15 : decode cX2_append 15 = .ok (.arraylength, 1) := by decide +kernel
theorem dX2_append_16 : decode cX2_append 16 = .ok (.if_icmp .ge 23, 3) := by decide +kernel
theorem dX2_append_19 : decode cX2_append 19 = .ok (.aload_n 0, 1) := by decide +kernel
theorem dX2_append_20 : decode cX2_append 20 = .ok (.getfield 9, 3) := by decide +kernel
theorem dX2_append_23 : decode cX2_append 23 = .ok (.aload_n 0, 1) := by decide +kernel
theorem dX2_append_24 : decode cX2_append 24 = .ok (.getfield 15, 3) := by decide +kernel
theorem dX2_append_27 : decode cX2_append 27 = .ok (.iload_n 1, 1) := by decide +kernel
theorem dX2_append_28 : decode cX2_append 28 = .ok (.castore, 1) := by decide +kernel
theorem dX2_append_29 : decode cX2_append 29 = .ok (.aload_n 0, 1) := by decide +kernel
theorem dX2_append_30 : decode cX2_append 30 = .ok (.dup, 1) := by decide +kernel
theorem dX2_append_31 : decode cX2_append 31 = .ok (.getfield 15, 3) := by decide +kernel
theorem dX2_append_34 : decode cX2_append 34 = .ok (.iconst 1, 1) := by decide +kernel
theorem dX2_append_35 : decode cX2_append 35 = .ok (.iadd, 1) := by decide +kernel
theorem dX2_append_36 : decode cX2_append 36 = .ok (.putfield 15, 3) := by decide +kernel
theorem dX2_append_39 : decode cX2_append 39 = .ok (.return_, 1) := by decide +kernel
theorem dX2_empty_0 : decode cX2_empty 0 = .ok (.aload_n 0, 1) := by decide +kernel
theorem dX2_empty_1 : decode cX2_empty 1 = .ok (.iconst 0, 1) := by decide +kernel
theorem dX2_empty_2 : decode cX2_empty 2 = .ok (.putfield 15, 3) := by decide +kernel
theorem dX2_empty_5 : decode cX2_empty 5 = .ok (.return_, 1) := by decide +kernel
theorem dX2_characterAt_0 : decode cX2_characterAt 0 = .ok (.iload_n 1, 1) := by decide +kernel
theorem dX2_characterAt_1 : decode cX2_characterAt 1 = .ok (.ifCond .lt 29, 3) := by decide +kernel
theorem dX2_characterAt_4 : decode cX2_characterAt 4 = .ok (.iload_n 1, 1) := by decide +kernel
theorem dX2_characterAt_5 : decode cX2_characterAt 5 = .ok (.aload_n 0, 1) := by decide +kernel
theorem dX2_characterAt_6 : decode cX2_characterAt 6 = .ok (.getfield 15, 3) := by decide +kernel
theorem dX2_characterAt_9 : decode cX2_characterAt 9 = .ok (.if_icmp .ge 21, 3) := by decide +kernel
theorem dX2_characterAt_12 : decode cX2_characterAt 12 = .ok (.iload_n 1, 1) := by decide +kernel
theorem dX2_characterAt_13 : decode cX2_characterAt 13 = .ok (.aload_n 0, 1) := by decide +kernel
theorem dX2_characterAt_14 : decode cX2_characterAt 14 = .ok (.getfield 9, 3) := by decide +kernel
theorem dX2_characterAt_17 : decode cX2_characterAt 17 = .ok (.arraylength, 1) := by decide +kernel
theorem dX2_characterAt_18 : decode cX2_characterAt 18 = .ok (.if_icmp .ge 12, 3) := by decide +kernel
theorem dX2_characterAt_21 : decode cX2_characterAt 21 = .ok (.aload_n 0, 1) := by decide +kernel
theorem dX2_characterAt_22 : decode cX2_characterAt 22 = .ok (.getfield 9, 3) := by decide +kernel
theorem dX2_characterAt_25 : decode cX2_characterAt 25 = .ok (.iload_n 1, 1) := by decide +kernel
theorem dX2_characterAt_26 : decode cX2_characterAt 26 = .ok (.caload, 1) := by decide +kernel
theorem dX2_characterAt_27 : decode cX2_characterAt 27 = .ok (.goto 4, 3) := by decide +kernel
theorem dX2_characterAt_30 : decode cX2_characterAt 30 = .ok (.iconst 0, 1) := by decide +kernel
theorem dX2_characterAt_31 : decode cX2_characterAt 31 = .ok (.ireturn, 1) := by decide +kernel
theorem dX2_firstFault_0 : decode cX2_firstFault 0 = .ok (.iconst 0, 1) := by decide +kernel
theorem dX2_firstFault_1 : decode cX2_firstFault 1 = .ok (.istore_n 1, 1) := by decide +kernel
theorem dX2_firstFault_2 : decode cX2_firstFault 2 = .ok (.iload_n 1, 1) := by decide +kernel
theorem dX2_firstFault_3 : decode cX2_firstFault 3 = .ok (.aload_n 0, 1) := by decide +kernel
theorem dX2_firstFault_4 : decode cX2_firstFault 4 = .ok (.getfield 15, 3) := by decide +kernel
theorem dX2_firstFault_7 : decode cX2_firstFault 7 = .ok (.if_icmp .ge 19, 3) := by decide +kernel
theorem dX2_firstFault_10 : decode cX2_firstFault 10 = .ok (.aload_n 0, 1) := by decide +kernel
theorem dX2_firstFault_11 : decode cX2_firstFault 11 = .ok (.iload_n 1, 1) := by decide +kernel
theorem dX2_firstFault_12 : decode cX2_firstFault 12 = .ok (.invokevirtual 19, 3) := by decide +kernel
theorem dX2_firstFault_15 : decode cX2_firstFault 15 = .ok (.ifCond .ne 5, 3) := by decide +kernel
theorem dX2_firstFault_18 : decode cX2_firstFault 18 = .ok (.iload_n 1, 1) := by decide +kernel
theorem dX2_firstFault_19 : decode cX2_firstFault 19 = .ok (.ireturn, 1) := by decide +kernel
theorem dX2_firstFault_20 : decode cX2_firstFault 20 = .ok (.iinc 1 1, 3) := by decide +kernel
theorem dX2_firstFault_23 : decode cX2_firstFault 23 = .ok (.goto (-21), 3) := by decide +kernel
theorem dX2_firstFault_26 : decode cX2_firstFault 26 = .ok (.aload_n 0, 1) := by decide +kernel
theorem dX2_firstFault_27 : decode cX2_firstFault 27 = .ok (.getfield 15, 3) := by decide +kernel
theorem dX2_firstFault_30 : decode cX2_firstFault 30 = .ok (.bipush 6, 2) := by decide +kernel
theorem dX2_firstFault_32 : decode cX2_firstFault 32 = .ok (.irem, 1) := by decide +kernel
theorem dX2_firstFault_33 : decode cX2_firstFault 33 = .ok (.iconst 5, 1) := by decide +kernel
theorem dX2_firstFault_34 : decode cX2_firstFault 34 = .ok (.if_icmp .ne 8, 3) := by decide +kernel
theorem dX2_firstFault_37 : decode cX2_firstFault 37 = .ok (.bipush (-6), 2) := by decide +kernel
theorem dX2_firstFault_39 : decode cX2_firstFault 39 = .ok (.goto 7, 3) := by decide +kernel
theorem dX2_firstFault_42 : decode cX2_firstFault 42 = .ok (.aload_n 0, 1) := by decide +kernel
theorem dX2_firstFault_43 : decode cX2_firstFault 43 = .ok (.getfield 15, 3) := by decide +kernel
theorem dX2_firstFault_46 : decode cX2_firstFault 46 = .ok (.ireturn, 1) := by decide +kernel
theorem dX2_canStandAt_0 : decode cX2_canStandAt 0 = .ok (.aload_n 0, 1) := by decide +kernel
theorem dX2_canStandAt_1 : decode cX2_canStandAt 1 = .ok (.iload_n 1, 1) := by decide +kernel
theorem dX2_canStandAt_2 : decode cX2_canStandAt 2 = .ok (.invokevirtual 23, 3) := by decide +kernel
theorem dX2_canStandAt_5 : decode cX2_canStandAt 5 = .ok (.istore_n 2, 1) := by decide +kernel
theorem dX2_canStandAt_6 : decode cX2_canStandAt 6 = .ok (.iload_n 1, 1) := by decide +kernel
theorem dX2_canStandAt_7 : decode cX2_canStandAt 7 = .ok (.bipush 6, 2) := by decide +kernel
theorem dX2_canStandAt_9 : decode cX2_canStandAt 9 = .ok (.irem, 1) := by decide +kernel
theorem dX2_canStandAt_10 : decode cX2_canStandAt 10 = .ok (.tableswitch 97 0 4 #[34, 40, 52, 58, 73], 34) := by decide +kernel
theorem dX2_canStandAt_44 : decode cX2_canStandAt 44 = .ok (.iload_n 2, 1) := by decide +kernel
theorem dX2_canStandAt_45 : decode cX2_canStandAt 45 = .ok (.iconst 5, 1) := by decide +kernel
theorem dX2_canStandAt_46 : decode cX2_canStandAt 46 = .ok (.invokestatic 27, 3) := by decide +kernel
theorem dX2_canStandAt_49 : decode cX2_canStandAt 49 = .ok (.ireturn, 1) := by decide +kernel
theorem dX2_canStandAt_50 : decode cX2_canStandAt 50 = .ok (.iload_n 2, 1) := by decide +kernel
theorem dX2_canStandAt_51 : decode cX2_canStandAt 51 = .ok (.bipush 58, 2) := by decide +kernel
theorem dX2_canStandAt_53 : decode cX2_canStandAt 53 = .ok (.if_icmp .ne 7, 3) := by decide +kernel
theorem dX2_canStandAt_56 : decode cX2_canStandAt 56 = .ok (.iconst 1, 1) := by decide +kernel
theorem dX2_canStandAt_57 : decode cX2_canStandAt 57 = .ok (.goto 4, 3) := by decide +kernel
theorem dX2_canStandAt_60 : decode cX2_canStandAt 60 = .ok (.iconst 0, 1) := by decide +kernel
theorem dX2_canStandAt_61 : decode cX2_canStandAt 61 = .ok (.ireturn, 1) := by decide +kernel
theorem dX2_canStandAt_62 : decode cX2_canStandAt 62 = .ok (.iload_n 2, 1) := by decide +kernel
theorem dX2_canStandAt_63 : decode cX2_canStandAt 63 = .ok (.iconst 5, 1) := by decide +kernel
theorem dX2_canStandAt_64 : decode cX2_canStandAt 64 = .ok (.invokestatic 27, 3) := by decide +kernel
theorem dX2_canStandAt_67 : decode cX2_canStandAt 67 = .ok (.ireturn, 1) := by decide +kernel
theorem dX2_canStandAt_68 : decode cX2_canStandAt 68 = .ok (.ldc 31, 2) := by decide +kernel
theorem dX2_canStandAt_70 : decode cX2_canStandAt 70 = .ok (.iload_n 2, 1) := by decide +kernel
theorem dX2_canStandAt_71 : decode cX2_canStandAt 71 = .ok (.invokevirtual 33, 3) := by decide +kernel
theorem dX2_canStandAt_74 : decode cX2_canStandAt 74 = .ok (.ifCond .lt 7, 3) := by decide +kernel
theorem dX2_canStandAt_77 : decode cX2_canStandAt 77 = .ok (.iconst 1, 1) := by decide +kernel
theorem dX2_canStandAt_78 : decode cX2_canStandAt 78 = .ok (.goto 4, 3) := by decide +kernel
theorem dX2_canStandAt_81 : decode cX2_canStandAt 81 = .ok (.iconst 0, 1) := by decide +kernel
theorem dX2_canStandAt_82 : decode cX2_canStandAt 82 = .ok (.ireturn, 1) := by decide +kernel
theorem dX2_canStandAt_83 : decode cX2_canStandAt 83 = .ok (.iload_n 2, 1) := by decide +kernel
theorem dX2_canStandAt_84 : decode cX2_canStandAt 84 = .ok (.aload_n 0, 1) := by decide +kernel
theorem dX2_canStandAt_85 : decode cX2_canStandAt 85 = .ok (.iload_n 1, 1) := by decide +kernel
theorem dX2_canStandAt_86 : decode cX2_canStandAt 86 = .ok (.iconst 2, 1) := by decide +kernel
theorem dX2_canStandAt_87 : decode cX2_canStandAt 87 = .ok (.isub, 1) := by decide +kernel
theorem dX2_canStandAt_88 : decode cX2_canStandAt 88 = .ok (.invokevirtual 23, 3) := by decide +kernel
theorem dX2_canStandAt_91 : decode cX2_canStandAt 91 = .ok (.ldc 31, 2) := by decide +kernel
theorem dX2_canStandAt_93 : decode cX2_canStandAt 93 = .ok (.aload_n 0, 1) := by decide +kernel
theorem dX2_canStandAt_94 : decode cX2_canStandAt 94 = .ok (.iload_n 1, 1) := by decide +kernel
theorem dX2_canStandAt_95 : decode cX2_canStandAt 95 = .ok (.iconst 1, 1) := by decide +kernel
theorem dX2_canStandAt_96 : decode cX2_canStandAt 96 = .ok (.isub, 1) := by decide +kernel
theorem dX2_canStandAt_97 : decode cX2_canStandAt 97 = .ok (.invokevirtual 23, 3) := by decide +kernel
theorem dX2_canStandAt_100 : decode cX2_canStandAt 100 = .ok (.invokevirtual 33, 3) := by decide +kernel
theorem dX2_canStandAt_103 : decode cX2_canStandAt 103 = .ok (.invokestatic 39, 3) := by decide +kernel
theorem dX2_canStandAt_106 : decode cX2_canStandAt 106 = .ok (.ireturn, 1) := by decide +kernel
theorem dX2_canStandAt_107 : decode cX2_canStandAt 107 = .ok (.iload_n 2, 1) := by decide +kernel
theorem dX2_canStandAt_108 : decode cX2_canStandAt 108 = .ok (.bipush 44, 2) := by decide +kernel
theorem dX2_canStandAt_110 : decode cX2_canStandAt 110 = .ok (.if_icmp .ne 7, 3) := by decide +kernel
theorem dX2_canStandAt_113 : decode cX2_canStandAt 113 = .ok (.iconst 1, 1) := by decide +kernel
theorem dX2_canStandAt_114 : decode cX2_canStandAt 114 = .ok (.goto 4, 3) := by decide +kernel
theorem dX2_canStandAt_117 : decode cX2_canStandAt 117 = .ok (.iconst 0, 1) := by decide +kernel
theorem dX2_canStandAt_118 : decode cX2_canStandAt 118 = .ok (.ireturn, 1) := by decide +kernel
theorem dX2_canBeB_0 : decode cX2_canBeB 0 = .ok (.iload_n 2, 1) := by decide +kernel
theorem dX2_canBeB_1 : decode cX2_canBeB 1 = .ok (.iconst 4, 1) := by decide +kernel
theorem dX2_canBeB_2 : decode cX2_canBeB 2 = .ok (.if_icmp .ne 10, 3) := by decide +kernel
theorem dX2_canBeB_5 : decode cX2_canBeB 5 = .ok (.iload_n 0, 1) := by decide +kernel
theorem dX2_canBeB_6 : decode cX2_canBeB 6 = .ok (.bipush 6, 2) := by decide +kernel
theorem dX2_canBeB_8 : decode cX2_canBeB 8 = .ok (.invokestatic 27, 3) := by decide +kernel
theorem dX2_canBeB_11 : decode cX2_canBeB 11 = .ok (.ireturn, 1) := by decide +kernel
theorem dX2_canBeB_12 : decode cX2_canBeB 12 = .ok (.iload_n 0, 1) := by decide +kernel
theorem dX2_canBeB_13 : decode cX2_canBeB 13 = .ok (.iconst 5, 1) := by decide +kernel
theorem dX2_canBeB_14 : decode cX2_canBeB 14 = .ok (.invokestatic 27, 3) := by decide +kernel
theorem dX2_canBeB_17 : decode cX2_canBeB 17 = .ok (.ifCond .eq 17, 3) := by decide +kernel
theorem dX2_canBeB_20 : decode cX2_canBeB 20 = .ok (.iload_n 2, 1) := by decide +kernel
theorem dX2_canBeB_21 : decode cX2_canBeB 21 = .ok (.iconst 5, 1) := by decide +kernel
theorem dX2_canBeB_22 : decode cX2_canBeB 22 = .ok (.if_icmp .eq 8, 3) := by decide +kernel
theorem dX2_canBeB_25 : decode cX2_canBeB 25 = .ok (.iload_n 0, 1) := by decide +kernel
theorem dX2_canBeB_26 : decode cX2_canBeB 26 = .ok (.iload_n 1, 1) := by decide +kernel
theorem dX2_canBeB_27 : decode cX2_canBeB 27 = .ok (.if_icmp .eq 7, 3) := by decide +kernel
theorem dX2_canBeB_30 : decode cX2_canBeB 30 = .ok (.iconst 1, 1) := by decide +kernel
theorem dX2_canBeB_31 : decode cX2_canBeB 31 = .ok (.goto 4, 3) := by decide +kernel
theorem dX2_canBeB_34 : decode cX2_canBeB 34 = .ok (.iconst 0, 1) := by decide +kernel
theorem dX2_canBeB_35 : decode cX2_canBeB 35 = .ok (.ireturn, 1) := by decide +kernel
theorem dX2_isDigit_0 : decode cX2_isDigit 0 = .ok (.iload_n 0, 1) := by decide +kernel
theorem dX2_isDigit_1 : decode cX2_isDigit 1 = .ok (.bipush 48, 2) := by decide +kernel
theorem dX2_isDigit_3 : decode cX2_isDigit 3 = .ok (.if_icmp .lt 15, 3) := by decide +kernel
theorem dX2_isDigit_6 : decode cX2_isDigit 6 = .ok (.iload_n 0, 1) := by decide +kernel
theorem dX2_isDigit_7 : decode cX2_isDigit 7 = .ok (.bipush 48, 2) := by decide +kernel
theorem dX2_isDigit_9 : decode cX2_isDigit 9 = .ok (.iload_n 1, 1) := by decide +kernel
theorem dX2_isDigit_10 : decode cX2_isDigit 10 = .ok (.iadd, 1) := by decide +kernel
theorem dX2_isDigit_11 : decode cX2_isDigit 11 = .ok (.if_icmp .gt 7, 3) := by decide +kernel
theorem dX2_isDigit_14 : decode cX2_isDigit 14 = .ok (.iconst 1, 1) := by decide +kernel
theorem dX2_isDigit_15 : decode cX2_isDigit 15 = .ok (.goto 4, 3) := by decide +kernel
theorem dX2_isDigit_18 : decode cX2_isDigit 18 = .ok (.iconst 0, 1) := by decide +kernel
theorem dX2_isDigit_19 : decode cX2_isDigit 19 = .ok (.ireturn, 1) := by decide +kernel
theorem dX2_rumours_0 : decode cX2_rumours 0 = .ok (.aload_n 0, 1) := by decide +kernel
theorem dX2_rumours_1 : decode cX2_rumours 1 = .ok (.getfield 15, 3) := by decide +kernel
theorem dX2_rumours_4 : decode cX2_rumours 4 = .ok (.iconst 1, 1) := by decide +kernel
theorem dX2_rumours_5 : decode cX2_rumours 5 = .ok (.iadd, 1) := by decide +kernel
theorem dX2_rumours_6 : decode cX2_rumours 6 = .ok (.bipush 6, 2) := by decide +kernel
theorem dX2_rumours_8 : decode cX2_rumours 8 = .ok (.idiv, 1) := by decide +kernel
theorem dX2_rumours_9 : decode cX2_rumours 9 = .ok (.ireturn, 1) := by decide +kernel
theorem dX2_tellerOf_0 : decode cX2_tellerOf 0 = .ok (.aload_n 0, 1) := by decide +kernel
theorem dX2_tellerOf_1 : decode cX2_tellerOf 1 = .ok (.iload_n 1, 1) := by decide +kernel
theorem dX2_tellerOf_2 : decode cX2_tellerOf 2 = .ok (.bipush 6, 2) := by decide +kernel
theorem dX2_tellerOf_4 : decode cX2_tellerOf 4 = .ok (.imul, 1) := by decide +kernel
theorem dX2_tellerOf_5 : decode cX2_tellerOf 5 = .ok (.iconst 0, 1) := by decide +kernel
theorem dX2_tellerOf_6 : decode cX2_tellerOf 6 = .ok (.iadd, 1) := by decide +kernel
theorem dX2_tellerOf_7 : decode cX2_tellerOf 7 = .ok (.invokevirtual 43, 3) := by decide +kernel
theorem dX2_tellerOf_10 : decode cX2_tellerOf 10 = .ok (.ireturn, 1) := by decide +kernel
theorem dX2_kindOf_0 : decode cX2_kindOf 0 = .ok (.ldc 31, 2) := by decide +kernel
theorem dX2_kindOf_2 : decode cX2_kindOf 2 = .ok (.aload_n 0, 1) := by decide +kernel
theorem dX2_kindOf_3 : decode cX2_kindOf 3 = .ok (.iload_n 1, 1) := by decide +kernel
theorem dX2_kindOf_4 : decode cX2_kindOf 4 = .ok (.bipush 6, 2) := by decide +kernel
theorem dX2_kindOf_6 : decode cX2_kindOf 6 = .ok (.imul, 1) := by decide +kernel
theorem dX2_kindOf_7 : decode cX2_kindOf 7 = .ok (.iconst 3, 1) := by decide +kernel
theorem dX2_kindOf_8 : decode cX2_kindOf 8 = .ok (.iadd, 1) := by decide +kernel
theorem dX2_kindOf_9 : decode cX2_kindOf 9 = .ok (.invokevirtual 23, 3) := by decide +kernel
theorem dX2_kindOf_12 : decode cX2_kindOf 12 = .ok (.invokevirtual 33, 3) := by decide +kernel
theorem dX2_kindOf_15 : decode cX2_kindOf 15 = .ok (.ireturn, 1) := by decide +kernel
theorem dX2_aOf_0 : decode cX2_aOf 0 = .ok (.aload_n 0, 1) := by decide +kernel
theorem dX2_aOf_1 : decode cX2_aOf 1 = .ok (.iload_n 1, 1) := by decide +kernel
theorem dX2_aOf_2 : decode cX2_aOf 2 = .ok (.bipush 6, 2) := by decide +kernel
theorem dX2_aOf_4 : decode cX2_aOf 4 = .ok (.imul, 1) := by decide +kernel
theorem dX2_aOf_5 : decode cX2_aOf 5 = .ok (.iconst 2, 1) := by decide +kernel
theorem dX2_aOf_6 : decode cX2_aOf 6 = .ok (.iadd, 1) := by decide +kernel
theorem dX2_aOf_7 : decode cX2_aOf 7 = .ok (.invokevirtual 43, 3) := by decide +kernel
theorem dX2_aOf_10 : decode cX2_aOf 10 = .ok (.ireturn, 1) := by decide +kernel
theorem dX2_bOf_0 : decode cX2_bOf 0 = .ok (.aload_n 0, 1) := by decide +kernel
theorem dX2_bOf_1 : decode cX2_bOf 1 = .ok (.iload_n 1, 1) := by decide +kernel
theorem dX2_bOf_2 : decode cX2_bOf 2 = .ok (.bipush 6, 2) := by decide +kernel
theorem dX2_bOf_4 : decode cX2_bOf 4 = .ok (.imul, 1) := by decide +kernel
theorem dX2_bOf_5 : decode cX2_bOf 5 = .ok (.iconst 4, 1) := by decide +kernel
theorem dX2_bOf_6 : decode cX2_bOf 6 = .ok (.iadd, 1) := by decide +kernel
theorem dX2_bOf_7 : decode cX2_bOf 7 = .ok (.invokevirtual 43, 3) := by decide +kernel
theorem dX2_bOf_10 : decode cX2_bOf 10 = .ok (.ireturn, 1) := by decide +kernel
theorem dX2_digitAt_0 : decode cX2_digitAt 0 = .ok (.aload_n 0, 1) := by decide +kernel
theorem dX2_digitAt_1 : decode cX2_digitAt 1 = .ok (.iload_n 1, 1) := by decide +kernel
theorem dX2_digitAt_2 : decode cX2_digitAt 2 = .ok (.invokevirtual 23, 3) := by decide +kernel
theorem dX2_digitAt_5 : decode cX2_digitAt 5 = .ok (.bipush 48, 2) := by decide +kernel
theorem dX2_digitAt_7 : decode cX2_digitAt 7 = .ok (.isub, 1) := by decide +kernel
theorem dX2_digitAt_8 : decode cX2_digitAt 8 = .ok (.ireturn, 1) := by decide +kernel
theorem dX3_init_0 : decode cX3_init 0 = .ok (.aload_n 0, 1) := by decide +kernel
theorem dX3_init_1 : decode cX3_init 1 = .ok (.invokespecial 3, 3) := by decide +kernel
theorem dX3_init_4 : decode cX3_init 4 = .ok (.return_, 1) := by decide +kernel
theorem dX3_become_0 : decode cX3_become 0 = .ok (.aload_n 0, 1) := by decide +kernel
theorem dX3_become_1 : decode cX3_become 1 = .ok (.iload_n 1, 1) := by decide +kernel
theorem dX3_become_2 : decode cX3_become 2 = .ok (.putfield 9, 3) := by decide +kernel
theorem dX3_become_5 : decode cX3_become 5 = .ok (.aload_n 0, 1) := by decide +kernel
theorem dX3_become_6 : decode cX3_become 6 = .ok (.iload_n 2, 1) := by decide +kernel
theorem dX3_become_7 : decode cX3_become 7 = .ok (.putfield 15, 3) := by decide +kernel
theorem dX3_become_10 : decode cX3_become 10 = .ok (.aload_n 0, 1) := by decide +kernel
theorem dX3_become_11 : decode cX3_become 11 = .ok (.iload_n 3, 1) := by decide +kernel
theorem dX3_become_12 : decode cX3_become 12 = .ok (.putfield 18, 3) := by decide +kernel
theorem dX3_become_15 : decode cX3_become 15 = .ok (.aload_n 0, 1) := by decide +kernel
theorem dX3_become_16 : decode cX3_become 16 = .ok (.iload 4, 2) := by decide +kernel
theorem dX3_become_18 : decode cX3_become 18 = .ok (.putfield 21, 3) := by decide +kernel
theorem dX3_become_21 : decode cX3_become 21 = .ok (.aload_n 0, 1) := by decide +kernel
theorem dX3_become_22 : decode cX3_become 22 = .ok (.iconst 0, 1) := by decide +kernel
theorem dX3_become_23 : decode cX3_become 23 = .ok (.putfield 24, 3) := by decide +kernel
theorem dX3_become_26 : decode cX3_become 26 = .ok (.return_, 1) := by decide +kernel
theorem dX3_copyFrom_0 : decode cX3_copyFrom 0 = .ok (.aload_n 0, 1) := by decide +kernel
theorem dX3_copyFrom_1 : decode cX3_copyFrom 1 = .ok (.aload_n 1, 1) := by decide +kernel
theorem dX3_copyFrom_2 : decode cX3_copyFrom 2 = .ok (.getfield 9, 3) := by decide +kernel
theorem dX3_copyFrom_5 : decode cX3_copyFrom 5 = .ok (.aload_n 1, 1) := by decide +kernel
theorem dX3_copyFrom_6 : decode cX3_copyFrom 6 = .ok (.getfield 15, 3) := by decide +kernel
theorem dX3_copyFrom_9 : decode cX3_copyFrom 9 = .ok (.aload_n 1, 1) := by decide +kernel
theorem dX3_copyFrom_10 : decode cX3_copyFrom 10 = .ok (.getfield 18, 3) := by decide +kernel
theorem dX3_copyFrom_13 : decode cX3_copyFrom 13 = .ok (.aload_n 1, 1) := by decide +kernel
theorem dX3_copyFrom_14 : decode cX3_copyFrom 14 = .ok (.getfield 21, 3) := by decide +kernel
theorem dX3_copyFrom_17 : decode cX3_copyFrom 17 = .ok (.invokevirtual 27, 3) := by decide +kernel
theorem dX3_copyFrom_20 : decode cX3_copyFrom 20 = .ok (.aload_n 0, 1) := by decide +kernel
theorem dX3_copyFrom_21 : decode cX3_copyFrom 21 = .ok (.aload_n 1, 1) := by decide +kernel
theorem dX3_copyFrom_22 : decode cX3_copyFrom 22 = .ok (.getfield 24, 3) := by decide +kernel
theorem dX3_copyFrom_25 : decode cX3_copyFrom 25 = .ok (.putfield 24, 3) := by decide +kernel
theorem dX3_copyFrom_28 : decode cX3_copyFrom 28 = .ok (.return_, 1) := by decide +kernel
theorem dX3_decide_0 : decode cX3_decide 0 = .ok (.aload_n 0, 1) := by decide +kernel
theorem dX3_decide_1 : decode cX3_decide 1 = .ok (.iload_n 1, 1) := by decide +kernel
theorem dX3_decide_2 : decode cX3_decide 2 = .ok (.ifCond .eq 7, 3) := by decide +kernel
theorem dX3_decide_5 : decode cX3_decide 5 = .ok (.iconst 1, 1) := by decide +kernel
theorem dX3_decide_6 : decode cX3_decide 6 = .ok (.goto 4, 3) := by decide +kernel
theorem dX3_decide_9 : decode cX3_decide 9 = .ok (.iconst 2, 1) := by decide +kernel
theorem dX3_decide_10 : decode cX3_decide 10 = .ok (.putfield 24, 3) := by decide +kernel
theorem dX3_decide_13 : decode cX3_decide 13 = .ok (.return_, 1) := by decide +kernel
theorem dX3_holdsIn_0 : decode cX3_holdsIn 0 = .ok (.aload_n 1, 1) := by decide +kernel
theorem dX3_holdsIn_1 : decode cX3_holdsIn 1 = .ok (.aload_n 0, 1) := by decide +kernel
theorem dX3_holdsIn_2 : decode cX3_holdsIn 2 = .ok (.getfield 18, 3) := by decide +kernel
theorem dX3_holdsIn_5 : decode cX3_holdsIn 5 = .ok (.invokestatic 31, 3) := by decide +kernel
theorem dX3_holdsIn_8 : decode cX3_holdsIn 8 = .ok (.istore_n 2, 1) := by decide +kernel
theorem dX3_holdsIn_9 : decode cX3_holdsIn 9 = .ok (.aload_n 0, 1) := by decide +kernel
theorem dX3_holdsIn_10 : decode cX3_holdsIn 10 = .ok (.getfield 15, 3) := by decide +kernel
theorem dX3_holdsIn_13 : decode cX3_holdsIn 13 = .ok (.tableswitch 131 0 4 #[35, 49, 63, 92, 110], 35) := by decide +kernel
theorem dX3_holdsIn_48 : decode cX3_holdsIn 48 = .ok (.iload_n 2, 1) := by decide +kernel
theorem dX3_holdsIn_49 : decode cX3_holdsIn 49 = .ok (.aload_n 0, 1) := by decide +kernel
theorem dX3_holdsIn_50 : decode cX3_holdsIn 50 = .ok (.getfield 21, 3) := by decide +kernel
theorem dX3_holdsIn_53 : decode cX3_holdsIn 53 = .ok (.if_icmp .ne 7, 3) := by decide +kernel
theorem dX3_holdsIn_56 : decode cX3_holdsIn 56 = .ok (.iconst 1, 1) := by decide +kernel
theorem dX3_holdsIn_57 : decode cX3_holdsIn 57 = .ok (.goto 4, 3) := by decide +kernel
theorem dX3_holdsIn_60 : decode cX3_holdsIn 60 = .ok (.iconst 0, 1) := by decide +kernel
theorem dX3_holdsIn_61 : decode cX3_holdsIn 61 = .ok (.ireturn, 1) := by decide +kernel
theorem dX3_holdsIn_62 : decode cX3_holdsIn 62 = .ok (.iload_n 2, 1) := by decide +kernel
theorem dX3_holdsIn_63 : decode cX3_holdsIn 63 = .ok (.aload_n 0, 1) := by decide +kernel
theorem dX3_holdsIn_64 : decode cX3_holdsIn 64 = .ok (.getfield 21, 3) := by decide +kernel
theorem dX3_holdsIn_67 : decode cX3_holdsIn 67 = .ok (.if_icmp .eq 7, 3) := by decide +kernel
theorem dX3_holdsIn_70 : decode cX3_holdsIn 70 = .ok (.iconst 1, 1) := by decide +kernel
theorem dX3_holdsIn_71 : decode cX3_holdsIn 71 = .ok (.goto 4, 3) := by decide +kernel
theorem dX3_holdsIn_74 : decode cX3_holdsIn 74 = .ok (.iconst 0, 1) := by decide +kernel
theorem dX3_holdsIn_75 : decode cX3_holdsIn 75 = .ok (.ireturn, 1) := by decide +kernel
theorem dX3_holdsIn_76 : decode cX3_holdsIn 76 = .ok (.iload_n 2, 1) := by decide +kernel
theorem dX3_holdsIn_77 : decode cX3_holdsIn 77 = .ok (.aload_n 0, 1) := by decide +kernel
theorem dX3_holdsIn_78 : decode cX3_holdsIn 78 = .ok (.getfield 21, 3) := by decide +kernel
theorem dX3_holdsIn_81 : decode cX3_holdsIn 81 = .ok (.if_icmp .ne 22, 3) := by decide +kernel
theorem dX3_holdsIn_84 : decode cX3_holdsIn 84 = .ok (.aload_n 1, 1) := by decide +kernel
theorem dX3_holdsIn_85 : decode cX3_holdsIn 85 = .ok (.aload_n 0, 1) := by decide +kernel
theorem dX3_holdsIn_86 : decode cX3_holdsIn 86 = .ok (.getfield 21, 3) := by decide +kernel
theorem dX3_holdsIn_89 : decode cX3_holdsIn 89 = .ok (.invokestatic 31, 3) := by decide +kernel
theorem dX3_holdsIn_92 : decode cX3_holdsIn 92 = .ok (.aload_n 0, 1) := by decide +kernel
theorem dX3_holdsIn_93 : decode cX3_holdsIn 93 = .ok (.getfield 18, 3) := by decide +kernel
theorem dX3_holdsIn_96 : decode cX3_holdsIn 96 = .ok (.if_icmp .ne 7, 3) := by decide +kernel
theorem dX3_holdsIn_99 : decode cX3_holdsIn 99 = .ok (.iconst 1, 1) := by decide +kernel
theorem dX3_holdsIn_100 : decode cX3_holdsIn 100 = .ok (.goto 4, 3) := by decide +kernel
theorem dX3_holdsIn_103 : decode cX3_holdsIn 103 = .ok (.iconst 0, 1) := by decide +kernel
theorem dX3_holdsIn_104 : decode cX3_holdsIn 104 = .ok (.ireturn, 1) := by decide +kernel
theorem dX3_holdsIn_105 : decode cX3_holdsIn 105 = .ok (.iload_n 2, 1) := by decide +kernel
theorem dX3_holdsIn_106 : decode cX3_holdsIn 106 = .ok (.aload_n 1, 1) := by decide +kernel
theorem dX3_holdsIn_107 : decode cX3_holdsIn 107 = .ok (.aload_n 0, 1) := by decide +kernel
theorem dX3_holdsIn_108 : decode cX3_holdsIn 108 = .ok (.getfield 21, 3) := by decide +kernel
theorem dX3_holdsIn_111 : decode cX3_holdsIn 111 = .ok (.invokestatic 31, 3) := by decide +kernel
theorem dX3_holdsIn_114 : decode cX3_holdsIn 114 = .ok (.if_icmp .ne 7, 3) := by decide +kernel
theorem dX3_holdsIn_117 : decode cX3_holdsIn 117 = .ok (.iconst 1, 1) := by decide +kernel
theorem dX3_holdsIn_118 : decode cX3_holdsIn 118 = .ok (.goto 4, 3) := by decide +kernel
theorem dX3_holdsIn_121 : decode cX3_holdsIn 121 = .ok (.iconst 0, 1) := by decide +kernel
theorem dX3_holdsIn_122 : decode cX3_holdsIn 122 = .ok (.ireturn, 1) := by decide +kernel
theorem dX3_holdsIn_123 : decode cX3_holdsIn 123 = .ok (.aload_n 1, 1) := by decide +kernel
theorem dX3_holdsIn_124 : decode cX3_holdsIn 124 = .ok (.aload_n 0, 1) := by decide +kernel
theorem dX3_holdsIn_125 : decode cX3_holdsIn 125 = .ok (.getfield 18, 3) := by decide +kernel
theorem dX3_holdsIn_128 : decode cX3_holdsIn 128 = .ok (.invokestatic 35, 3) := by decide +kernel
theorem dX3_holdsIn_131 : decode cX3_holdsIn 131 = .ok (.aload_n 0, 1) := by decide +kernel
theorem dX3_holdsIn_132 : decode cX3_holdsIn 132 = .ok (.getfield 21, 3) := by decide +kernel
theorem dX3_holdsIn_135 : decode cX3_holdsIn 135 = .ok (.if_icmp .ne 7, 3) := by decide +kernel
theorem dX3_holdsIn_138 : decode cX3_holdsIn 138 = .ok (.iconst 1, 1) := by decide +kernel
theorem dX3_holdsIn_139 : decode cX3_holdsIn 139 = .ok (.goto 4, 3) := by decide +kernel
theorem dX3_holdsIn_142 : decode cX3_holdsIn 142 = .ok (.iconst 0, 1) := by decide +kernel
theorem dX3_holdsIn_143 : decode cX3_holdsIn 143 = .ok (.ireturn, 1) := by decide +kernel
theorem dX3_holdsIn_144 : decode cX3_holdsIn 144 = .ok (.aload_n 1, 1) := by decide +kernel
theorem dX3_holdsIn_145 : decode cX3_holdsIn 145 = .ok (.iload_n 2, 1) := by decide +kernel
theorem dX3_holdsIn_146 : decode cX3_holdsIn 146 = .ok (.invokestatic 31, 3) := by decide +kernel
theorem dX3_holdsIn_149 : decode cX3_holdsIn 149 = .ok (.aload_n 0, 1) := by decide +kernel
theorem dX3_holdsIn_150 : decode cX3_holdsIn 150 = .ok (.getfield 21, 3) := by decide +kernel
theorem dX3_holdsIn_153 : decode cX3_holdsIn 153 = .ok (.if_icmp .ne 7, 3) := by decide +kernel
theorem dX3_holdsIn_156 : decode cX3_holdsIn 156 = .ok (.iconst 1, 1) := by decide +kernel
theorem dX3_holdsIn_157 : decode cX3_holdsIn 157 = .ok (.goto 4, 3) := by decide +kernel
theorem dX3_holdsIn_160 : decode cX3_holdsIn 160 = .ok (.iconst 0, 1) := by decide +kernel
theorem dX3_holdsIn_161 : decode cX3_holdsIn 161 = .ok (.ireturn, 1) := by decide +kernel
theorem dX3_isBrokenIn_0 : decode cX3_isBrokenIn 0 = .ok (.aload_n 0, 1) := by decide +kernel
theorem dX3_isBrokenIn_1 : decode cX3_isBrokenIn 1 = .ok (.aload_n 1, 1) := by decide +kernel
theorem dX3_isBrokenIn_2 : decode cX3_isBrokenIn 2 = .ok (.invokevirtual 38, 3) := by decide +kernel
theorem dX3_isBrokenIn_5 : decode cX3_isBrokenIn 5 = .ok (.ifCond .eq 19, 3) := by decide +kernel
theorem dX3_isBrokenIn_8 : decode cX3_isBrokenIn 8 = .ok (.aload_n 0, 1) := by decide +kernel
theorem dX3_isBrokenIn_9 : decode cX3_isBrokenIn 9 = .ok (.getfield 24, 3) := by decide +kernel
theorem dX3_isBrokenIn_12 : decode cX3_isBrokenIn 12 = .ok (.iconst 2, 1) := by decide +kernel
theorem dX3_isBrokenIn_13 : decode cX3_isBrokenIn 13 = .ok (.if_icmp .ne 7, 3) := by decide +kernel
theorem dX3_isBrokenIn_16 : decode cX3_isBrokenIn 16 = .ok (.iconst 1, 1) := by decide +kernel
theorem dX3_isBrokenIn_17 : decode cX3_isBrokenIn 17 = .ok (.goto 20, 3) := by decide +kernel
theorem dX3_isBrokenIn_20 : decode cX3_isBrokenIn 20 = .ok (.iconst 0, 1) := by decide +kernel
theorem dX3_isBrokenIn_21 : decode cX3_isBrokenIn 21 = .ok (.goto 16, 3) := by decide +kernel
theorem dX3_isBrokenIn_24 : decode cX3_isBrokenIn 24 = .ok (.aload_n 0, 1) := by decide +kernel
theorem dX3_isBrokenIn_25 : decode cX3_isBrokenIn 25 = .ok (.getfield 24, 3) := by decide +kernel
theorem dX3_isBrokenIn_28 : decode cX3_isBrokenIn 28 = .ok (.iconst 1, 1) := by decide +kernel
theorem dX3_isBrokenIn_29 : decode cX3_isBrokenIn 29 = .ok (.if_icmp .ne 7, 3) := by decide +kernel
theorem dX3_isBrokenIn_32 : decode cX3_isBrokenIn 32 = .ok (.iconst 1, 1) := by decide +kernel
theorem dX3_isBrokenIn_33 : decode cX3_isBrokenIn 33 = .ok (.goto 4, 3) := by decide +kernel
theorem dX3_isBrokenIn_36 : decode cX3_isBrokenIn 36 = .ok (.iconst 0, 1) := by decide +kernel
theorem dX3_isBrokenIn_37 : decode cX3_isBrokenIn 37 = .ok (.ireturn, 1) := by decide +kernel
theorem dX4_init_0 : decode cX4_init 0 = .ok (.aload_n 0, 1) := by decide +kernel
theorem dX4_init_1 : decode cX4_init 1 = .ok (.invokespecial 1, 3) := by decide +kernel
theorem dX4_init_4 : decode cX4_init 4 = .ok (.aload_n 0, 1) := by decide +kernel
theorem dX4_init_5 : decode cX4_init 5 = .ok (.new 7, 3) := by decide +kernel
theorem dX4_init_8 : decode cX4_init 8 = .ok (.dup, 1) := by decide +kernel
theorem dX4_init_9 : decode cX4_init 9 = .ok (.invokespecial 9, 3) := by decide +kernel
theorem dX4_init_12 : decode cX4_init 12 = .ok (.putfield 10, 3) := by decide +kernel
theorem dX4_init_15 : decode cX4_init 15 = .ok (.return_, 1) := by decide +kernel
theorem dX5_init_0 : decode cX5_init 0 = .ok (.aload_n 0, 1) := by decide +kernel
theorem dX5_init_1 : decode cX5_init 1 = .ok (.invokespecial 3, 3) := by decide +kernel
theorem dX5_init_4 : decode cX5_init 4 = .ok (.aload_n 0, 1) := by decide +kernel
theorem dX5_init_5 : decode cX5_init 5 = .ok (.new 9, 3) := by decide +kernel
theorem dX5_init_8 : decode cX5_init 8 = .ok (.dup, 1) := by decide +kernel
theorem dX5_init_9 : decode cX5_init 9 = .ok (.invokespecial 11, 3) := by decide +kernel
theorem dX5_init_12 : decode cX5_init 12 = .ok (.putfield 12, 3) := by decide +kernel
theorem dX5_init_15 : decode cX5_init 15 = .ok (.aload_n 0, 1) := by decide +kernel
theorem dX5_init_16 : decode cX5_init 16 = .ok (.bipush 36, 2) := by decide +kernel
theorem dX5_init_18 : decode cX5_init 18 = .ok (.newarray .int, 2) := by decide +kernel
theorem dX5_init_20 : decode cX5_init 20 = .ok (.putfield 18, 3) := by decide +kernel
theorem dX5_init_23 : decode cX5_init 23 = .ok (.aload_n 0, 1) := by decide +kernel
theorem dX5_init_24 : decode cX5_init 24 = .ok (.bipush 20, 2) := by decide +kernel
theorem dX5_init_26 : decode cX5_init 26 = .ok (.newarray .int, 2) := by decide +kernel
theorem dX5_init_28 : decode cX5_init 28 = .ok (.putfield 22, 3) := by decide +kernel
theorem dX5_init_31 : decode cX5_init 31 = .ok (.aload_n 0, 1) := by decide +kernel
theorem dX5_init_32 : decode cX5_init 32 = .ok (.bipush 20, 2) := by decide +kernel
theorem dX5_init_34 : decode cX5_init 34 = .ok (.newarray .int, 2) := by decide +kernel
theorem dX5_init_36 : decode cX5_init 36 = .ok (.putfield 25, 3) := by decide +kernel
theorem dX5_init_39 : decode cX5_init 39 = .ok (.aload_n 0, 1) := by decide +kernel
theorem dX5_init_40 : decode cX5_init 40 = .ok (.new 28, 3) := by decide +kernel
theorem dX5_init_43 : decode cX5_init 43 = .ok (.dup, 1) := by decide +kernel
theorem dX5_init_44 : decode cX5_init 44 = .ok (.invokespecial 30, 3) := by decide +kernel
theorem dX5_init_47 : decode cX5_init 47 = .ok (.putfield 31, 3) := by decide +kernel
theorem dX5_init_50 : decode cX5_init 50 = .ok (.return_, 1) := by decide +kernel
theorem dX5_take_0 : decode cX5_take 0 = .ok (.aload_n 0, 1) := by decide +kernel
theorem dX5_take_1 : decode cX5_take 1 = .ok (.invokevirtual 35, 3) := by decide +kernel
theorem dX5_take_4 : decode cX5_take 4 = .ok (.aload_n 0, 1) := by decide +kernel
theorem dX5_take_5 : decode cX5_take 5 = .ok (.getfield 12, 3) := by decide +kernel
theorem dX5_take_8 : decode cX5_take 8 = .ok (.aload_n 1, 1) := by decide +kernel
theorem dX5_take_9 : decode cX5_take 9 = .ok (.getfield 38, 3) := by decide +kernel
theorem dX5_take_12 : decode cX5_take 12 = .ok (.invokevirtual 44, 3) := by decide +kernel
theorem dX5_take_15 : decode cX5_take 15 = .ok (.istore_n 2, 1) := by decide +kernel
theorem dX5_take_16 : decode cX5_take 16 = .ok (.iload_n 2, 1) := by decide +kernel
theorem dX5_take_17 : decode cX5_take 17 = .ok (.ifCond .le 71, 3) := by decide +kernel
theorem dX5_take_20 : decode cX5_take 20 = .ok (.aload_n 1, 1) := by decide +kernel
theorem dX5_take_21 : decode cX5_take 21 = .ok (.iconst 0, 1) := by decide +kernel
theorem dX5_take_22 : decode cX5_take 22 = .ok (.aload_n 0, 1) := by decide +kernel
theorem dX5_take_23 : decode cX5_take 23 = .ok (.getfield 12, 3) := by decide +kernel
theorem dX5_take_26 : decode cX5_take 26 = .ok (.getfield 48, 3) := by decide +kernel
theorem dX5_take_29 : decode cX5_take 29 = .ok (.invokevirtual 51, 3) := by decide +kernel
theorem dX5_take_32 : decode cX5_take 32 = .ok (.istore_n 3, 1) := by decide +kernel
theorem dX5_take_33 : decode cX5_take 33 = .ok (.iload_n 3, 1) := by decide +kernel
theorem dX5_take_34 : decode cX5_take 34 = .ok (.bipush (-6), 2) := by decide +kernel
theorem dX5_take_36 : decode cX5_take 36 = .ok (.if_icmp .ne 11, 3) := by decide +kernel
theorem dX5_take_39 : decode cX5_take 39 = .ok (.aload_n 0, 1) := by decide +kernel
theorem dX5_take_40 : decode cX5_take 40 = .ok (.aload_n 1, 1) := by decide +kernel
theorem dX5_take_41 : decode cX5_take 41 = .ok (.invokevirtual 55, 3) := by decide +kernel
theorem dX5_take_44 : decode cX5_take 44 = .ok (.goto 31, 3) := by decide +kernel
theorem dX5_take_47 : decode cX5_take 47 = .ok (.aload_n 1, 1) := by decide +kernel
theorem dX5_take_48 : decode cX5_take 48 = .ok (.iload_n 3, 1) := by decide +kernel
theorem dX5_take_49 : decode cX5_take 49 = .ok (.iconst 1, 1) := by decide +kernel
theorem dX5_take_50 : decode cX5_take 50 = .ok (.iadd, 1) := by decide +kernel
theorem dX5_take_51 : decode cX5_take 51 = .ok (.aload_n 0, 1) := by decide +kernel
theorem dX5_take_52 : decode cX5_take 52 = .ok (.getfield 12, 3) := by decide +kernel
theorem dX5_take_55 : decode cX5_take 55 = .ok (.getfield 48, 3) := by decide +kernel
theorem dX5_take_58 : decode cX5_take 58 = .ok (.invokevirtual 51, 3) := by decide +kernel
theorem dX5_take_61 : decode cX5_take 61 = .ok (.bipush (-6), 2) := by decide +kernel
theorem dX5_take_63 : decode cX5_take 63 = .ok (.if_icmp .ne 12, 3) := by decide +kernel
theorem dX5_take_66 : decode cX5_take 66 = .ok (.aload_n 0, 1) := by decide +kernel
theorem dX5_take_67 : decode cX5_take 67 = .ok (.getfield 25, 3) := by decide +kernel
theorem dX5_take_70 : decode cX5_take 70 = .ok (.iload_n 3, 1) := by decide +kernel
theorem dX5_take_71 : decode cX5_take 71 = .ok (.iconst 1, 1) := by decide +kernel
theorem dX5_take_72 : decode cX5_take 72 = .ok (.invokestatic 59, 3) := by decide +kernel
theorem dX5_take_75 : decode cX5_take 75 = .ok (.aload_n 0, 1) := by decide +kernel
theorem dX5_take_76 : decode cX5_take 76 = .ok (.getfield 12, 3) := by decide +kernel
theorem dX5_take_79 : decode cX5_take 79 = .ok (.invokevirtual 63, 3) := by decide +kernel
theorem dX5_take_82 : decode cX5_take 82 = .ok (.iinc 2 (-1), 3) := by decide +kernel
theorem dX5_take_85 : decode cX5_take 85 = .ok (.goto (-69), 3) := by decide +kernel
theorem dX5_take_88 : decode cX5_take 88 = .ok (.return_, 1) := by decide +kernel
theorem dX5_forget_0 : decode cX5_forget 0 = .ok (.aload_n 0, 1) := by decide +kernel
theorem dX5_forget_1 : decode cX5_forget 1 = .ok (.iconst 0, 1) := by decide +kernel
theorem dX5_forget_2 : decode cX5_forget 2 = .ok (.putfield 66, 3) := by decide +kernel
theorem dX5_forget_5 : decode cX5_forget 5 = .ok (.aload_n 0, 1) := by decide +kernel
theorem dX5_forget_6 : decode cX5_forget 6 = .ok (.getfield 18, 3) := by decide +kernel
theorem dX5_forget_9 : decode cX5_forget 9 = .ok (.iconst 0, 1) := by decide +kernel
theorem dX5_forget_10 : decode cX5_forget 10 = .ok (.invokestatic 69, 3) := by decide +kernel
theorem dX5_forget_13 : decode cX5_forget 13 = .ok (.aload_n 0, 1) := by decide +kernel
theorem dX5_forget_14 : decode cX5_forget 14 = .ok (.getfield 22, 3) := by decide +kernel
theorem dX5_forget_17 : decode cX5_forget 17 = .ok (.iconst 0, 1) := by decide +kernel
theorem dX5_forget_18 : decode cX5_forget 18 = .ok (.invokestatic 69, 3) := by decide +kernel
theorem dX5_forget_21 : decode cX5_forget 21 = .ok (.aload_n 0, 1) := by decide +kernel
theorem dX5_forget_22 : decode cX5_forget 22 = .ok (.getfield 25, 3) := by decide +kernel
theorem dX5_forget_25 : decode cX5_forget 25 = .ok (.iconst 0, 1) := by decide +kernel
theorem dX5_forget_26 : decode cX5_forget 26 = .ok (.invokestatic 69, 3) := by decide +kernel
theorem dX5_forget_29 : decode cX5_forget 29 = .ok (.return_, 1) := by decide +kernel
theorem dX5_tally_0 : decode cX5_tally 0 = .ok (.aload_n 0, 1) := by decide +kernel
theorem dX5_tally_1 : decode cX5_tally 1 = .ok (.dup, 1) := by decide +kernel
theorem dX5_tally_2 : decode cX5_tally 2 = .ok (.getfield 66, 3) := by decide +kernel
theorem dX5_tally_5 : decode cX5_tally 5 = .ok (.iconst 1, 1) := by decide +kernel
theorem dX5_tally_6 : decode cX5_tally 6 = .ok (.iadd, 1) := by decide +kernel
theorem dX5_tally_7 : decode cX5_tally 7 = .ok (.putfield 66, 3) := by decide +kernel
theorem dX5_tally_10 : decode cX5_tally 10 = .ok (.iconst 0, 1) := by decide +kernel
theorem dX5_tally_11 : decode cX5_tally 11 = .ok (.istore_n 2, 1) := by decide +kernel
theorem dX5_tally_12 : decode cX5_tally 12 = .ok (.iload_n 2, 1) := by decide +kernel
theorem dX5_tally_13 : decode cX5_tally 13 = .ok (.aload_n 1, 1) := by decide +kernel
theorem dX5_tally_14 : decode cX5_tally 14 = .ok (.getfield 38, 3) := by decide +kernel
theorem dX5_tally_17 : decode cX5_tally 17 = .ok (.if_icmp .ge 33, 3) := by decide +kernel
theorem dX5_tally_20 : decode cX5_tally 20 = .ok (.aload_n 0, 1) := by decide +kernel
theorem dX5_tally_21 : decode cX5_tally 21 = .ok (.getfield 18, 3) := by decide +kernel
theorem dX5_tally_24 : decode cX5_tally 24 = .ok (.iload_n 2, 1) := by decide +kernel
theorem dX5_tally_25 : decode cX5_tally 25 = .ok (.bipush 6, 2) := by decide +kernel
theorem dX5_tally_27 : decode cX5_tally 27 = .ok (.imul, 1) := by decide +kernel
theorem dX5_tally_28 : decode cX5_tally 28 = .ok (.aload_n 0, 1) := by decide +kernel
theorem dX5_tally_29 : decode cX5_tally 29 = .ok (.getfield 12, 3) := by decide +kernel
theorem dX5_tally_32 : decode cX5_tally 32 = .ok (.getfield 48, 3) := by decide +kernel
theorem dX5_tally_35 : decode cX5_tally 35 = .ok (.iload_n 2, 1) := by decide +kernel
theorem dX5_tally_36 : decode cX5_tally 36 = .ok (.invokestatic 73, 3) := by decide +kernel
theorem dX5_tally_39 : decode cX5_tally 39 = .ok (.iadd, 1) := by decide +kernel
theorem dX5_tally_40 : decode cX5_tally 40 = .ok (.iconst 1, 1) := by decide +kernel
theorem dX5_tally_41 : decode cX5_tally 41 = .ok (.invokestatic 59, 3) := by decide +kernel
theorem dX5_tally_44 : decode cX5_tally 44 = .ok (.iinc 2 1, 3) := by decide +kernel
theorem dX5_tally_47 : decode cX5_tally 47 = .ok (.goto (-35), 3) := by decide +kernel
theorem dX5_tally_50 : decode cX5_tally 50 = .ok (.iconst 0, 1) := by decide +kernel
theorem dX5_tally_51 : decode cX5_tally 51 = .ok (.istore_n 2, 1) := by decide +kernel
theorem dX5_tally_52 : decode cX5_tally 52 = .ok (.iload_n 2, 1) := by decide +kernel
theorem dX5_tally_53 : decode cX5_tally 53 = .ok (.aload_n 1, 1) := by decide +kernel
theorem dX5_tally_54 : decode cX5_tally 54 = .ok (.getfield 77, 3) := by decide +kernel
theorem dX5_tally_57 : decode cX5_tally 57 = .ok (.if_icmp .ge 42, 3) := by decide +kernel
theorem dX5_tally_60 : decode cX5_tally 60 = .ok (.aload_n 1, 1) := by decide +kernel
theorem dX5_tally_61 : decode cX5_tally 61 = .ok (.iload_n 2, 1) := by decide +kernel
theorem dX5_tally_62 : decode cX5_tally 62 = .ok (.invokevirtual 80, 3) := by decide +kernel
theorem dX5_tally_65 : decode cX5_tally 65 = .ok (.astore_n 3, 1) := by decide +kernel
theorem dX5_tally_66 : decode cX5_tally 66 = .ok (.aload_n 3, 1) := by decide +kernel
theorem dX5_tally_67 : decode cX5_tally 67 = .ok (.ifnull 26, 3) := by decide +kernel
theorem dX5_tally_70 : decode cX5_tally 70 = .ok (.aload_n 3, 1) := by decide +kernel
theorem dX5_tally_71 : decode cX5_tally 71 = .ok (.aload_n 0, 1) := by decide +kernel
theorem dX5_tally_72 : decode cX5_tally 72 = .ok (.getfield 12, 3) := by decide +kernel
theorem dX5_tally_75 : decode cX5_tally 75 = .ok (.getfield 48, 3) := by decide +kernel
theorem dX5_tally_78 : decode cX5_tally 78 = .ok (.invokevirtual 84, 3) := by decide +kernel
theorem dX5_tally_81 : decode cX5_tally 81 = .ok (.ifCond .eq 12, 3) := by decide +kernel
theorem dX5_tally_84 : decode cX5_tally 84 = .ok (.aload_n 0, 1) := by decide +kernel
theorem dX5_tally_85 : decode cX5_tally 85 = .ok (.getfield 22, 3) := by decide +kernel
theorem dX5_tally_88 : decode cX5_tally 88 = .ok (.iload_n 2, 1) := by decide +kernel
theorem dX5_tally_89 : decode cX5_tally 89 = .ok (.iconst 1, 1) := by decide +kernel
theorem dX5_tally_90 : decode cX5_tally 90 = .ok (.invokestatic 59, 3) := by decide +kernel
theorem dX5_tally_93 : decode cX5_tally 93 = .ok (.iinc 2 1, 3) := by decide +kernel
theorem dX5_tally_96 : decode cX5_tally 96 = .ok (.goto (-44), 3) := by decide +kernel
theorem dX5_tally_99 : decode cX5_tally 99 = .ok (.return_, 1) := by decide +kernel
theorem dX5_lookingAt_0 : decode cX5_lookingAt 0 = .ok (.aload_n 0, 1) := by decide +kernel
theorem dX5_lookingAt_1 : decode cX5_lookingAt 1 = .ok (.getfield 18, 3) := by decide +kernel
theorem dX5_lookingAt_4 : decode cX5_lookingAt 4 = .ok (.iload_n 1, 1) := by decide +kernel
theorem dX5_lookingAt_5 : decode cX5_lookingAt 5 = .ok (.bipush 6, 2) := by decide +kernel
theorem dX5_lookingAt_7 : decode cX5_lookingAt 7 = .ok (.imul, 1) := by decide +kernel
theorem dX5_lookingAt_8 : decode cX5_lookingAt 8 = .ok (.iload_n 2, 1) := by decide +kernel
theorem dX5_lookingAt_9 : decode cX5_lookingAt 9 = .ok (.iadd, 1) := by decide +kernel
theorem dX5_lookingAt_10 : decode cX5_lookingAt 10 = .ok (.invokestatic 73, 3) := by decide +kernel
theorem dX5_lookingAt_13 : decode cX5_lookingAt 13 = .ok (.ireturn, 1) := by decide +kernel
theorem dX5_isCertain_0 : decode cX5_isCertain 0 = .ok (.aload_n 0, 1) := by decide +kernel
theorem dX5_isCertain_1 : decode cX5_isCertain 1 = .ok (.getfield 66, 3) := by decide +kernel
theorem dX5_isCertain_4 : decode cX5_isCertain 4 = .ok (.ifCond .le 15, 3) := by decide +kernel
theorem dX5_isCertain_7 : decode cX5_isCertain 7 = .ok (.iload_n 1, 1) := by decide +kernel
theorem dX5_isCertain_8 : decode cX5_isCertain 8 = .ok (.aload_n 0, 1) := by decide +kernel
theorem dX5_isCertain_9 : decode cX5_isCertain 9 = .ok (.getfield 66, 3) := by decide +kernel
theorem dX5_isCertain_12 : decode cX5_isCertain 12 = .ok (.if_icmp .ne 7, 3) := by decide +kernel
theorem dX5_isCertain_15 : decode cX5_isCertain 15 = .ok (.iconst 1, 1) := by decide +kernel
theorem dX5_isCertain_16 : decode cX5_isCertain 16 = .ok (.goto 4, 3) := by decide +kernel
theorem dX5_isCertain_19 : decode cX5_isCertain 19 = .ok (.iconst 0, 1) := by decide +kernel
theorem dX5_isCertain_20 : decode cX5_isCertain 20 = .ok (.ireturn, 1) := by decide +kernel
theorem dX5_isRuledOut_0 : decode cX5_isRuledOut 0 = .ok (.aload_n 0, 1) := by decide +kernel
theorem dX5_isRuledOut_1 : decode cX5_isRuledOut 1 = .ok (.getfield 66, 3) := by decide +kernel
theorem dX5_isRuledOut_4 : decode cX5_isRuledOut 4 = .ok (.ifCond .le 11, 3) := by decide +kernel
theorem dX5_isRuledOut_7 : decode cX5_isRuledOut 7 = .ok (.iload_n 1, 1) := by decide +kernel
theorem dX5_isRuledOut_8 : decode cX5_isRuledOut 8 = .ok (.ifCond .ne 7, 3) := by decide +kernel
theorem dX5_isRuledOut_11 : decode cX5_isRuledOut 11 = .ok (.iconst 1, 1) := by decide +kernel
theorem dX5_isRuledOut_12 : decode cX5_isRuledOut 12 = .ok (.goto 4, 3) := by decide +kernel
theorem dX5_isRuledOut_15 : decode cX5_isRuledOut 15 = .ok (.iconst 0, 1) := by decide +kernel
theorem dX5_isRuledOut_16 : decode cX5_isRuledOut 16 = .ok (.ireturn, 1) := by decide +kernel
theorem dX5_certainBox_0 : decode cX5_certainBox 0 = .ok (.iconst 0, 1) := by decide +kernel
theorem dX5_certainBox_1 : decode cX5_certainBox 1 = .ok (.istore_n 2, 1) := by decide +kernel
theorem dX5_certainBox_2 : decode cX5_certainBox 2 = .ok (.iload_n 2, 1) := by decide +kernel
theorem dX5_certainBox_3 : decode cX5_certainBox 3 = .ok (.bipush 6, 2) := by decide +kernel
theorem dX5_certainBox_5 : decode cX5_certainBox 5 = .ok (.if_icmp .ge 24, 3) := by decide +kernel
theorem dX5_certainBox_8 : decode cX5_certainBox 8 = .ok (.aload_n 0, 1) := by decide +kernel
theorem dX5_certainBox_9 : decode cX5_certainBox 9 = .ok (.aload_n 0, 1) := by decide +kernel
theorem dX5_certainBox_10 : decode cX5_certainBox 10 = .ok (.iload_n 1, 1) := by decide +kernel
theorem dX5_certainBox_11 : decode cX5_certainBox 11 = .ok (.iload_n 2, 1) := by decide +kernel
theorem dX5_certainBox_12 : decode cX5_certainBox 12 = .ok (.invokevirtual 88, 3) := by decide +kernel
theorem dX5_certainBox_15 : decode cX5_certainBox 15 = .ok (.invokevirtual 92, 3) := by decide +kernel
theorem dX5_certainBox_18 : decode cX5_certainBox 18 = .ok (.ifCond .eq 5, 3) := by decide +kernel
theorem dX5_certainBox_21 : decode cX5_certainBox 21 = .ok (.iload_n 2, 1) := by decide +kernel
theorem dX5_certainBox_22 : decode cX5_certainBox 22 = .ok (.ireturn, 1) := by decide +kernel
theorem dX5_certainBox_23 : decode cX5_certainBox 23 = .ok (.iinc 2 1, 3) := by decide +kernel
theorem dX5_certainBox_26 : decode cX5_certainBox 26 = .ok (.goto (-24), 3) := by decide +kernel
theorem dX5_certainBox_29 : decode cX5_certainBox 29 = .ok (.bipush (-6), 2) := by decide +kernel
theorem dX5_certainBox_31 : decode cX5_certainBox 31 = .ok (.ireturn, 1) := by decide +kernel
theorem dX5_certainPersons_0 : decode cX5_certainPersons 0 = .ok (.iconst 0, 1) := by decide +kernel
theorem dX5_certainPersons_1 : decode cX5_certainPersons 1 = .ok (.istore_n 2, 1) := by decide +kernel
theorem dX5_certainPersons_2 : decode cX5_certainPersons 2 = .ok (.iconst 0, 1) := by decide +kernel
theorem dX5_certainPersons_3 : decode cX5_certainPersons 3 = .ok (.istore_n 3, 1) := by decide +kernel
theorem dX5_certainPersons_4 : decode cX5_certainPersons 4 = .ok (.iload_n 3, 1) := by decide +kernel
theorem dX5_certainPersons_5 : decode cX5_certainPersons 5 = .ok (.iload_n 1, 1) := by decide +kernel
theorem dX5_certainPersons_6 : decode cX5_certainPersons 6 = .ok (.if_icmp .ge 22, 3) := by decide +kernel
theorem dX5_certainPersons_9 : decode cX5_certainPersons 9 = .ok (.aload_n 0, 1) := by decide +kernel
theorem dX5_certainPersons_10 : decode cX5_certainPersons 10 = .ok (.iload_n 3, 1) := by decide +kernel
theorem dX5_certainPersons_11 : decode cX5_certainPersons 11 = .ok (.invokevirtual 96, 3) := by decide +kernel
theorem dX5_certainPersons_14 : decode cX5_certainPersons 14 = .ok (.bipush (-6), 2) := by decide +kernel
theorem dX5_certainPersons_16 : decode cX5_certainPersons 16 = .ok (.if_icmp .eq 6, 3) := by decide +kernel
theorem dX5_certainPersons_19 : decode cX5_certainPersons 19 = .ok (.iinc 2 1, 3) := by decide +kernel
theorem dX5_certainPersons_22 : decode cX5_certainPersons 22 = .ok (.iinc 3 1, 3) := by decide +kernel
theorem dX5_certainPersons_25 : decode cX5_certainPersons 25 = .ok (.goto (-21), 3) := by decide +kernel
theorem dX5_certainPersons_28 : decode cX5_certainPersons 28 = .ok (.iload_n 2, 1) := by decide +kernel
theorem dX5_certainPersons_29 : decode cX5_certainPersons 29 = .ok (.ireturn, 1) := by decide +kernel
theorem dX5_openCertain_0 : decode cX5_openCertain 0 = .ok (.iconst 0, 1) := by decide +kernel
theorem dX5_openCertain_1 : decode cX5_openCertain 1 = .ok (.istore_n 2, 1) := by decide +kernel
theorem dX5_openCertain_2 : decode cX5_openCertain 2 = .ok (.iconst 0, 1) := by decide +kernel
theorem dX5_openCertain_3 : decode cX5_openCertain 3 = .ok (.istore_n 3, 1) := by decide +kernel
theorem dX5_openCertain_4 : decode cX5_openCertain 4 = .ok (.iload_n 3, 1) := by decide +kernel
theorem dX5_openCertain_5 : decode cX5_openCertain 5 = .ok (.aload_n 1, 1) := by decide +kernel
theorem dX5_openCertain_6 : decode cX5_openCertain 6 = .ok (.getfield 77, 3) := by decide +kernel
theorem dX5_openCertain_9 : decode cX5_openCertain 9 = .ok (.if_icmp .ge 35, 3) := by decide +kernel
theorem dX5_openCertain_12 : decode cX5_openCertain 12 = .ok (.aload_n 1, 1) := by decide +kernel
theorem dX5_openCertain_13 : decode cX5_openCertain 13 = .ok (.iload_n 3, 1) := by decide +kernel
theorem dX5_openCertain_14 : decode cX5_openCertain 14 = .ok (.invokevirtual 99, 3) := by decide +kernel
theorem dX5_openCertain_17 : decode cX5_openCertain 17 = .ok (.ifCond .eq 21, 3) := by decide +kernel
theorem dX5_openCertain_20 : decode cX5_openCertain 20 = .ok (.aload_n 0, 1) := by decide +kernel
theorem dX5_openCertain_21 : decode cX5_openCertain 21 = .ok (.aload_n 0, 1) := by decide +kernel
theorem dX5_openCertain_22 : decode cX5_openCertain 22 = .ok (.getfield 22, 3) := by decide +kernel
theorem dX5_openCertain_25 : decode cX5_openCertain 25 = .ok (.iload_n 3, 1) := by decide +kernel
theorem dX5_openCertain_26 : decode cX5_openCertain 26 = .ok (.invokestatic 73, 3) := by decide +kernel
theorem dX5_openCertain_29 : decode cX5_openCertain 29 = .ok (.invokevirtual 92, 3) := by decide +kernel
theorem dX5_openCertain_32 : decode cX5_openCertain 32 = .ok (.ifCond .eq 6, 3) := by decide +kernel
theorem dX5_openCertain_35 : decode cX5_openCertain 35 = .ok (.iinc 2 1, 3) := by decide +kernel
theorem dX5_openCertain_38 : decode cX5_openCertain 38 = .ok (.iinc 3 1, 3) := by decide +kernel
theorem dX5_openCertain_41 : decode cX5_openCertain 41 = .ok (.goto (-37), 3) := by decide +kernel
theorem dX5_openCertain_44 : decode cX5_openCertain 44 = .ok (.iload_n 2, 1) := by decide +kernel
theorem dX5_openCertain_45 : decode cX5_openCertain 45 = .ok (.ireturn, 1) := by decide +kernel
theorem dX5_openRuledOut_0 : decode cX5_openRuledOut 0 = .ok (.iconst 0, 1) := by decide +kernel
theorem dX5_openRuledOut_1 : decode cX5_openRuledOut 1 = .ok (.istore_n 2, 1) := by decide +kernel
theorem dX5_openRuledOut_2 : decode cX5_openRuledOut 2 = .ok (.iconst 0, 1) := by decide +kernel
theorem dX5_openRuledOut_3 : decode cX5_openRuledOut 3 = .ok (.istore_n 3, 1) := by decide +kernel
theorem dX5_openRuledOut_4 : decode cX5_openRuledOut 4 = .ok (.iload_n 3, 1) := by decide +kernel
theorem dX5_openRuledOut_5 : decode cX5_openRuledOut 5 = .ok (.aload_n 1, 1) := by decide +kernel
theorem dX5_openRuledOut_6 : decode cX5_openRuledOut 6 = .ok (.getfield 77, 3) := by decide +kernel
theorem dX5_openRuledOut_9 : decode cX5_openRuledOut 9 = .ok (.if_icmp .ge 35, 3) := by decide +kernel
theorem dX5_openRuledOut_12 : decode cX5_openRuledOut 12 = .ok (.aload_n 1, 1) := by decide +kernel
theorem dX5_openRuledOut_13 : decode cX5_openRuledOut 13 = .ok (.iload_n 3, 1) := by decide +kernel
theorem dX5_openRuledOut_14 : decode cX5_openRuledOut 14 = .ok (.invokevirtual 99, 3) := by decide +kernel
theorem dX5_openRuledOut_17 : decode cX5_openRuledOut 17 = .ok (.ifCond .eq 21, 3) := by decide +kernel
theorem dX5_openRuledOut_20 : decode cX5_openRuledOut 20 = .ok (.aload_n 0, 1) := by decide +kernel
theorem dX5_openRuledOut_21 : decode cX5_openRuledOut 21 = .ok (.aload_n 0, 1) := by decide +kernel
theorem dX5_openRuledOut_22 : decode cX5_openRuledOut 22 = .ok (.getfield 22, 3) := by decide +kernel
theorem dX5_openRuledOut_25 : decode cX5_openRuledOut 25 = .ok (.iload_n 3, 1) := by decide +kernel
theorem dX5_openRuledOut_26 : decode cX5_openRuledOut 26 = .ok (.invokestatic 73, 3) := by decide +kernel
theorem dX5_openRuledOut_29 : decode cX5_openRuledOut 29 = .ok (.invokevirtual 102, 3) := by decide +kernel
theorem dX5_openRuledOut_32 : decode cX5_openRuledOut 32 = .ok (.ifCond .eq 6, 3) := by decide +kernel
theorem dX5_openRuledOut_35 : decode cX5_openRuledOut 35 = .ok (.iinc 2 1, 3) := by decide +kernel
theorem dX5_openRuledOut_38 : decode cX5_openRuledOut 38 = .ok (.iinc 3 1, 3) := by decide +kernel
theorem dX5_openRuledOut_41 : decode cX5_openRuledOut 41 = .ok (.goto (-37), 3) := by decide +kernel
theorem dX5_openRuledOut_44 : decode cX5_openRuledOut 44 = .ok (.iload_n 2, 1) := by decide +kernel
theorem dX5_openRuledOut_45 : decode cX5_openRuledOut 45 = .ok (.ireturn, 1) := by decide +kernel
theorem dX5_worseOutcome_0 : decode cX5_worseOutcome 0 = .ok (.aload_n 0, 1) := by decide +kernel
theorem dX5_worseOutcome_1 : decode cX5_worseOutcome 1 = .ok (.getfield 22, 3) := by decide +kernel
theorem dX5_worseOutcome_4 : decode cX5_worseOutcome 4 = .ok (.iload_n 1, 1) := by decide +kernel
theorem dX5_worseOutcome_5 : decode cX5_worseOutcome 5 = .ok (.invokestatic 73, 3) := by decide +kernel
theorem dX5_worseOutcome_8 : decode cX5_worseOutcome 8 = .ok (.istore_n 2, 1) := by decide +kernel
theorem dX5_worseOutcome_9 : decode cX5_worseOutcome 9 = .ok (.iload_n 2, 1) := by decide +kernel
theorem dX5_worseOutcome_10 : decode cX5_worseOutcome 10 = .ok (.aload_n 0, 1) := by decide +kernel
theorem dX5_worseOutcome_11 : decode cX5_worseOutcome 11 = .ok (.getfield 66, 3) := by decide +kernel
theorem dX5_worseOutcome_14 : decode cX5_worseOutcome 14 = .ok (.iload_n 2, 1) := by decide +kernel
theorem dX5_worseOutcome_15 : decode cX5_worseOutcome 15 = .ok (.isub, 1) := by decide +kernel
theorem dX5_worseOutcome_16 : decode cX5_worseOutcome 16 = .ok (.invokestatic 105, 3) := by decide +kernel
theorem dX5_worseOutcome_19 : decode cX5_worseOutcome 19 = .ok (.ireturn, 1) := by decide +kernel
theorem dX5_sharpestRumour_0 : decode cX5_sharpestRumour 0 = .ok (.bipush (-6), 2) := by decide +kernel
theorem dX5_sharpestRumour_2 : decode cX5_sharpestRumour 2 = .ok (.istore_n 2, 1) := by decide +kernel
theorem dX5_sharpestRumour_3 : decode cX5_sharpestRumour 3 = .ok (.iconst 0, 1) := by decide +kernel
theorem dX5_sharpestRumour_4 : decode cX5_sharpestRumour 4 = .ok (.istore_n 3, 1) := by decide +kernel
theorem dX5_sharpestRumour_5 : decode cX5_sharpestRumour 5 = .ok (.iload_n 3, 1) := by decide +kernel
theorem dX5_sharpestRumour_6 : decode cX5_sharpestRumour 6 = .ok (.aload_n 1, 1) := by decide +kernel
theorem dX5_sharpestRumour_7 : decode cX5_sharpestRumour 7 = .ok (.getfield 77, 3) := by decide +kernel
theorem dX5_sharpestRumour_10 : decode cX5_sharpestRumour 10 = .ok (.if_icmp .ge 38, 3) := by decide +kernel
theorem dX5_sharpestRumour_13 : decode cX5_sharpestRumour 13 = .ok (.aload_n 1, 1) := by decide +kernel
theorem dX5_sharpestRumour_14 : decode cX5_sharpestRumour 14 = .ok (.iload_n 3, 1) := by decide +kernel
theorem dX5_sharpestRumour_15 : decode cX5_sharpestRumour 15 = .ok (.invokevirtual 99, 3) := by decide +kernel
theorem dX5_sharpestRumour_18 : decode cX5_sharpestRumour 18 = .ok (.ifCond .eq 24, 3) := by decide +kernel
theorem dX5_sharpestRumour_21 : decode cX5_sharpestRumour 21 = .ok (.iload_n 2, 1) := by decide +kernel
theorem dX5_sharpestRumour_22 : decode cX5_sharpestRumour 22 = .ok (.bipush (-6), 2) := by decide +kernel
theorem dX5_sharpestRumour_24 : decode cX5_sharpestRumour 24 = .ok (.if_icmp .eq 16, 3) := by decide +kernel
theorem dX5_sharpestRumour_27 : decode cX5_sharpestRumour 27 = .ok (.aload_n 0, 1) := by decide +kernel
theorem dX5_sharpestRumour_28 : decode cX5_sharpestRumour 28 = .ok (.iload_n 3, 1) := by decide +kernel
theorem dX5_sharpestRumour_29 : decode cX5_sharpestRumour 29 = .ok (.invokevirtual 110, 3) := by decide +kernel
theorem dX5_sharpestRumour_32 : decode cX5_sharpestRumour 32 = .ok (.aload_n 0, 1) := by decide +kernel
theorem dX5_sharpestRumour_33 : decode cX5_sharpestRumour 33 = .ok (.iload_n 2, 1) := by decide +kernel
theorem dX5_sharpestRumour_34 : decode cX5_sharpestRumour 34 = .ok (.invokevirtual 110, 3) := by decide +kernel
theorem dX5_sharpestRumour_37 : decode cX5_sharpestRumour 37 = .ok (.if_icmp .ge 5, 3) := by decide +kernel
theorem dX5_sharpestRumour_40 : decode cX5_sharpestRumour 40 = .ok (.iload_n 3, 1) := by decide +kernel
theorem dX5_sharpestRumour_41 : decode cX5_sharpestRumour 41 = .ok (.istore_n 2, 1) := by decide +kernel
theorem dX5_sharpestRumour_42 : decode cX5_sharpestRumour 42 = .ok (.iinc 3 1, 3) := by decide +kernel
theorem dX5_sharpestRumour_45 : decode cX5_sharpestRumour 45 = .ok (.goto (-40), 3) := by decide +kernel
theorem dX5_sharpestRumour_48 : decode cX5_sharpestRumour 48 = .ok (.iload_n 2, 1) := by decide +kernel
theorem dX5_sharpestRumour_49 : decode cX5_sharpestRumour 49 = .ok (.ireturn, 1) := by decide +kernel
theorem dX5_mostToBlame_0 : decode cX5_mostToBlame 0 = .ok (.bipush (-6), 2) := by decide +kernel
theorem dX5_mostToBlame_2 : decode cX5_mostToBlame 2 = .ok (.istore_n 2, 1) := by decide +kernel
theorem dX5_mostToBlame_3 : decode cX5_mostToBlame 3 = .ok (.iconst 0, 1) := by decide +kernel
theorem dX5_mostToBlame_4 : decode cX5_mostToBlame 4 = .ok (.istore_n 3, 1) := by decide +kernel
theorem dX5_mostToBlame_5 : decode cX5_mostToBlame 5 = .ok (.iload_n 3, 1) := by decide +kernel
theorem dX5_mostToBlame_6 : decode cX5_mostToBlame 6 = .ok (.aload_n 1, 1) := by decide +kernel
theorem dX5_mostToBlame_7 : decode cX5_mostToBlame 7 = .ok (.getfield 77, 3) := by decide +kernel
theorem dX5_mostToBlame_10 : decode cX5_mostToBlame 10 = .ok (.if_icmp .ge 44, 3) := by decide +kernel
theorem dX5_mostToBlame_13 : decode cX5_mostToBlame 13 = .ok (.aload_n 1, 1) := by decide +kernel
theorem dX5_mostToBlame_14 : decode cX5_mostToBlame 14 = .ok (.iload_n 3, 1) := by decide +kernel
theorem dX5_mostToBlame_15 : decode cX5_mostToBlame 15 = .ok (.invokevirtual 99, 3) := by decide +kernel
theorem dX5_mostToBlame_18 : decode cX5_mostToBlame 18 = .ok (.ifCond .ne 30, 3) := by decide +kernel
theorem dX5_mostToBlame_21 : decode cX5_mostToBlame 21 = .ok (.iload_n 2, 1) := by decide +kernel
theorem dX5_mostToBlame_22 : decode cX5_mostToBlame 22 = .ok (.bipush (-6), 2) := by decide +kernel
theorem dX5_mostToBlame_24 : decode cX5_mostToBlame 24 = .ok (.if_icmp .eq 22, 3) := by decide +kernel
theorem dX5_mostToBlame_27 : decode cX5_mostToBlame 27 = .ok (.aload_n 0, 1) := by decide +kernel
theorem dX5_mostToBlame_28 : decode cX5_mostToBlame 28 = .ok (.getfield 25, 3) := by decide +kernel
theorem dX5_mostToBlame_31 : decode cX5_mostToBlame 31 = .ok (.iload_n 3, 1) := by decide +kernel
theorem dX5_mostToBlame_32 : decode cX5_mostToBlame 32 = .ok (.invokestatic 73, 3) := by decide +kernel
theorem dX5_mostToBlame_35 : decode cX5_mostToBlame 35 = .ok (.aload_n 0, 1) := by decide +kernel
theorem dX5_mostToBlame_36 : decode cX5_mostToBlame 36 = .ok (.getfield 25, 3) := by decide +kernel
theorem dX5_mostToBlame_39 : decode cX5_mostToBlame 39 = .ok (.iload_n 2, 1) := by decide +kernel
theorem dX5_mostToBlame_40 : decode cX5_mostToBlame 40 = .ok (.invokestatic 73, 3) := by decide +kernel
theorem dX5_mostToBlame_43 : decode cX5_mostToBlame 43 = .ok (.if_icmp .le 5, 3) := by decide +kernel
theorem dX5_mostToBlame_46 : decode cX5_mostToBlame 46 = .ok (.iload_n 3, 1) := by decide +kernel
theorem dX5_mostToBlame_47 : decode cX5_mostToBlame 47 = .ok (.istore_n 2, 1) := by decide +kernel
theorem dX5_mostToBlame_48 : decode cX5_mostToBlame 48 = .ok (.iinc 3 1, 3) := by decide +kernel
theorem dX5_mostToBlame_51 : decode cX5_mostToBlame 51 = .ok (.goto (-46), 3) := by decide +kernel
theorem dX5_mostToBlame_54 : decode cX5_mostToBlame 54 = .ok (.iload_n 2, 1) := by decide +kernel
theorem dX5_mostToBlame_55 : decode cX5_mostToBlame 55 = .ok (.ireturn, 1) := by decide +kernel
theorem dX5_worldsWith_0 : decode cX5_worldsWith 0 = .ok (.aload_n 0, 1) := by decide +kernel
theorem dX5_worldsWith_1 : decode cX5_worldsWith 1 = .ok (.getfield 31, 3) := by decide +kernel
theorem dX5_worldsWith_4 : decode cX5_worldsWith 4 = .ok (.iconst (-1), 1) := by decide +kernel
theorem dX5_worldsWith_5 : decode cX5_worldsWith 5 = .ok (.iload_n 2, 1) := by decide +kernel
theorem dX5_worldsWith_6 : decode cX5_worldsWith 6 = .ok (.iload_n 3, 1) := by decide +kernel
theorem dX5_worldsWith_7 : decode cX5_worldsWith 7 = .ok (.iload 4, 2) := by decide +kernel
theorem dX5_worldsWith_9 : decode cX5_worldsWith 9 = .ok (.invokevirtual 113, 3) := by decide +kernel
theorem dX5_worldsWith_12 : decode cX5_worldsWith 12 = .ok (.iconst 0, 1) := by decide +kernel
theorem dX5_worldsWith_13 : decode cX5_worldsWith 13 = .ok (.istore 5, 2) := by decide +kernel
theorem dX5_worldsWith_15 : decode cX5_worldsWith 15 = .ok (.aload_n 0, 1) := by decide +kernel
theorem dX5_worldsWith_16 : decode cX5_worldsWith 16 = .ok (.getfield 12, 3) := by decide +kernel
theorem dX5_worldsWith_19 : decode cX5_worldsWith 19 = .ok (.aload_n 1, 1) := by decide +kernel
theorem dX5_worldsWith_20 : decode cX5_worldsWith 20 = .ok (.getfield 38, 3) := by decide +kernel
theorem dX5_worldsWith_23 : decode cX5_worldsWith 23 = .ok (.invokevirtual 44, 3) := by decide +kernel
theorem dX5_worldsWith_26 : decode cX5_worldsWith 26 = .ok (.istore 6, 2) := by decide +kernel
theorem dX5_worldsWith_28 : decode cX5_worldsWith 28 = .ok (.iload 6, 2) := by decide +kernel
theorem dX5_worldsWith_30 : decode cX5_worldsWith 30 = .ok (.ifCond .le 53, 3) := by decide +kernel
theorem dX5_worldsWith_33 : decode cX5_worldsWith 33 = .ok (.aload_n 0, 1) := by decide +kernel
theorem dX5_worldsWith_34 : decode cX5_worldsWith 34 = .ok (.getfield 31, 3) := by decide +kernel
theorem dX5_worldsWith_37 : decode cX5_worldsWith 37 = .ok (.aload_n 0, 1) := by decide +kernel
theorem dX5_worldsWith_38 : decode cX5_worldsWith 38 = .ok (.getfield 12, 3) := by decide +kernel
theorem dX5_worldsWith_41 : decode cX5_worldsWith 41 = .ok (.getfield 48, 3) := by decide +kernel
theorem dX5_worldsWith_44 : decode cX5_worldsWith 44 = .ok (.invokevirtual 84, 3) := by decide +kernel
theorem dX5_worldsWith_47 : decode cX5_worldsWith 47 = .ok (.ifCond .eq 23, 3) := by decide +kernel
theorem dX5_worldsWith_50 : decode cX5_worldsWith 50 = .ok (.aload_n 1, 1) := by decide +kernel
theorem dX5_worldsWith_51 : decode cX5_worldsWith 51 = .ok (.iconst 0, 1) := by decide +kernel
theorem dX5_worldsWith_52 : decode cX5_worldsWith 52 = .ok (.aload_n 0, 1) := by decide +kernel
theorem dX5_worldsWith_53 : decode cX5_worldsWith 53 = .ok (.getfield 12, 3) := by decide +kernel
theorem dX5_worldsWith_56 : decode cX5_worldsWith 56 = .ok (.getfield 48, 3) := by decide +kernel
theorem dX5_worldsWith_59 : decode cX5_worldsWith 59 = .ok (.invokevirtual 51, 3) := by decide +kernel
theorem dX5_worldsWith_62 : decode cX5_worldsWith 62 = .ok (.bipush (-6), 2) := by decide +kernel
theorem dX5_worldsWith_64 : decode cX5_worldsWith 64 = .ok (.if_icmp .ne 6, 3) := by decide +kernel
theorem dX5_worldsWith_67 : decode cX5_worldsWith 67 = .ok (.iinc 5 1, 3) := by decide +kernel
theorem dX5_worldsWith_70 : decode cX5_worldsWith 70 = .ok (.aload_n 0, 1) := by decide +kernel
theorem dX5_worldsWith_71 : decode cX5_worldsWith 71 = .ok (.getfield 12, 3) := by decide +kernel
theorem dX5_worldsWith_74 : decode cX5_worldsWith 74 = .ok (.invokevirtual 63, 3) := by decide +kernel
theorem dX5_worldsWith_77 : decode cX5_worldsWith 77 = .ok (.iinc 6 (-1), 3) := by decide +kernel
theorem dX5_worldsWith_80 : decode cX5_worldsWith 80 = .ok (.goto (-52), 3) := by decide +kernel
theorem dX5_worldsWith_83 : decode cX5_worldsWith 83 = .ok (.iload 5, 2) := by decide +kernel
theorem dX5_worldsWith_85 : decode cX5_worldsWith 85 = .ok (.ireturn, 1) := by decide +kernel
theorem dX5_findMostWatched_0 : decode cX5_findMostWatched 0 = .ok (.aload_n 0, 1) := by decide +kernel
theorem dX5_findMostWatched_1 : decode cX5_findMostWatched 1 = .ok (.iconst 0, 1) := by decide +kernel
theorem dX5_findMostWatched_2 : decode cX5_findMostWatched 2 = .ok (.putfield 117, 3) := by decide +kernel
theorem dX5_findMostWatched_5 : decode cX5_findMostWatched 5 = .ok (.aload_n 0, 1) := by decide +kernel
theorem dX5_findMostWatched_6 : decode cX5_findMostWatched 6 = .ok (.iconst 0, 1) := by decide +kernel
theorem dX5_findMostWatched_7 : decode cX5_findMostWatched 7 = .ok (.putfield 120, 3) := by decide +kernel
theorem dX5_findMostWatched_10 : decode cX5_findMostWatched 10 = .ok (.aload_n 0, 1) := by decide +kernel
theorem dX5_findMostWatched_11 : decode cX5_findMostWatched 11 = .ok (.getfield 12, 3) := by decide +kernel
theorem dX5_findMostWatched_14 : decode cX5_findMostWatched 14 = .ok (.aload_n 1, 1) := by decide +kernel
theorem dX5_findMostWatched_15 : decode cX5_findMostWatched 15 = .ok (.getfield 38, 3) := by decide +kernel
theorem dX5_findMostWatched_18 : decode cX5_findMostWatched 18 = .ok (.invokevirtual 44, 3) := by decide +kernel
theorem dX5_findMostWatched_21 : decode cX5_findMostWatched 21 = .ok (.istore_n 2, 1) := by decide +kernel
theorem dX5_findMostWatched_22 : decode cX5_findMostWatched 22 = .ok (.iload_n 2, 1) := by decide +kernel
theorem dX5_findMostWatched_23 : decode cX5_findMostWatched 23 = .ok (.ifCond .le 65, 3) := by decide +kernel
theorem dX5_findMostWatched_26 : decode cX5_findMostWatched 26 = .ok (.aload_n 1, 1) := by decide +kernel
theorem dX5_findMostWatched_27 : decode cX5_findMostWatched 27 = .ok (.iconst 0, 1) := by decide +kernel
theorem dX5_findMostWatched_28 : decode cX5_findMostWatched 28 = .ok (.aload_n 0, 1) := by decide +kernel
theorem dX5_findMostWatched_29 : decode cX5_findMostWatched 29 = .ok (.getfield 12, 3) := by decide +kernel
theorem dX5_findMostWatched_32 : decode cX5_findMostWatched 32 = .ok (.getfield 48, 3) := by decide +kernel
theorem dX5_findMostWatched_35 : decode cX5_findMostWatched 35 = .ok (.invokevirtual 51, 3) := by decide +kernel
theorem dX5_findMostWatched_38 : decode cX5_findMostWatched 38 = .ok (.bipush (-6), 2) := by decide +kernel
theorem dX5_findMostWatched_40 : decode cX5_findMostWatched 40 = .ok (.if_icmp .ne 35, 3) := by decide +kernel
theorem dX5_findMostWatched_43 : decode cX5_findMostWatched 43 = .ok (.iconst 0, 1) := by decide +kernel
theorem dX5_findMostWatched_44 : decode cX5_findMostWatched 44 = .ok (.istore_n 3, 1) := by decide +kernel
theorem dX5_findMostWatched_45 : decode cX5_findMostWatched 45 = .ok (.iload_n 3, 1) := by decide +kernel
theorem dX5_findMostWatched_46 : decode cX5_findMostWatched 46 = .ok (.aload_n 1, 1) := by decide +kernel
theorem dX5_findMostWatched_47 : decode cX5_findMostWatched 47 = .ok (.getfield 38, 3) := by decide +kernel
theorem dX5_findMostWatched_50 : decode cX5_findMostWatched 50 = .ok (.if_icmp .ge 25, 3) := by decide +kernel
theorem dX5_findMostWatched_53 : decode cX5_findMostWatched 53 = .ok (.aload_n 0, 1) := by decide +kernel
theorem dX5_findMostWatched_54 : decode cX5_findMostWatched 54 = .ok (.iload_n 3, 1) := by decide +kernel
theorem dX5_findMostWatched_55 : decode cX5_findMostWatched 55 = .ok (.aload_n 0, 1) := by decide +kernel
theorem dX5_findMostWatched_56 : decode cX5_findMostWatched 56 = .ok (.getfield 12, 3) := by decide +kernel
theorem dX5_findMostWatched_59 : decode cX5_findMostWatched 59 = .ok (.getfield 48, 3) := by decide +kernel
theorem dX5_findMostWatched_62 : decode cX5_findMostWatched 62 = .ok (.iload_n 3, 1) := by decide +kernel
theorem dX5_findMostWatched_63 : decode cX5_findMostWatched 63 = .ok (.invokestatic 123, 3) := by decide +kernel
theorem dX5_findMostWatched_66 : decode cX5_findMostWatched 66 = .ok (.invokevirtual 126, 3) := by decide +kernel
theorem dX5_findMostWatched_69 : decode cX5_findMostWatched 69 = .ok (.iinc 3 1, 3) := by decide +kernel
theorem dX5_findMostWatched_72 : decode cX5_findMostWatched 72 = .ok (.goto (-27), 3) := by decide +kernel
theorem dX5_findMostWatched_75 : decode cX5_findMostWatched 75 = .ok (.aload_n 0, 1) := by decide +kernel
theorem dX5_findMostWatched_76 : decode cX5_findMostWatched 76 = .ok (.getfield 12, 3) := by decide +kernel
theorem dX5_findMostWatched_79 : decode cX5_findMostWatched 79 = .ok (.invokevirtual 63, 3) := by decide +kernel
theorem dX5_findMostWatched_82 : decode cX5_findMostWatched 82 = .ok (.iinc 2 (-1), 3) := by decide +kernel
theorem dX5_findMostWatched_85 : decode cX5_findMostWatched 85 = .ok (.goto (-63), 3) := by decide +kernel
theorem dX5_findMostWatched_88 : decode cX5_findMostWatched 88 = .ok (.return_, 1) := by decide +kernel
theorem dX5_compareWatchers_0 : decode cX5_compareWatchers 0 = .ok (.iload_n 2, 1) := by decide +kernel
theorem dX5_compareWatchers_1 : decode cX5_compareWatchers 1 = .ok (.aload_n 0, 1) := by decide +kernel
theorem dX5_compareWatchers_2 : decode cX5_compareWatchers 2 = .ok (.getfield 120, 3) := by decide +kernel
theorem dX5_compareWatchers_5 : decode cX5_compareWatchers 5 = .ok (.if_icmp .gt 19, 3) := by decide +kernel
theorem dX5_compareWatchers_8 : decode cX5_compareWatchers 8 = .ok (.iload_n 2, 1) := by decide +kernel
theorem dX5_compareWatchers_9 : decode cX5_compareWatchers 9 = .ok (.aload_n 0, 1) := by decide +kernel
theorem dX5_compareWatchers_10 : decode cX5_compareWatchers 10 = .ok (.getfield 120, 3) := by decide +kernel
theorem dX5_compareWatchers_13 : decode cX5_compareWatchers 13 = .ok (.if_icmp .ne 21, 3) := by decide +kernel
theorem dX5_compareWatchers_16 : decode cX5_compareWatchers 16 = .ok (.iload_n 1, 1) := by decide +kernel
theorem dX5_compareWatchers_17 : decode cX5_compareWatchers 17 = .ok (.aload_n 0, 1) := by decide +kernel
theorem dX5_compareWatchers_18 : decode cX5_compareWatchers 18 = .ok (.getfield 117, 3) := by decide +kernel
theorem dX5_compareWatchers_21 : decode cX5_compareWatchers 21 = .ok (.if_icmp .ge 13, 3) := by decide +kernel
theorem dX5_compareWatchers_24 : decode cX5_compareWatchers 24 = .ok (.aload_n 0, 1) := by decide +kernel
theorem dX5_compareWatchers_25 : decode cX5_compareWatchers 25 = .ok (.iload_n 2, 1) := by decide +kernel
theorem dX5_compareWatchers_26 : decode cX5_compareWatchers 26 = .ok (.putfield 120, 3) := by decide +kernel
theorem dX5_compareWatchers_29 : decode cX5_compareWatchers 29 = .ok (.aload_n 0, 1) := by decide +kernel
theorem dX5_compareWatchers_30 : decode cX5_compareWatchers 30 = .ok (.iload_n 1, 1) := by decide +kernel
theorem dX5_compareWatchers_31 : decode cX5_compareWatchers 31 = .ok (.putfield 117, 3) := by decide +kernel
theorem dX5_compareWatchers_34 : decode cX5_compareWatchers 34 = .ok (.return_, 1) := by decide +kernel
theorem dX5_boxInWorld_0 : decode cX5_boxInWorld 0 = .ok (.iconst 0, 1) := by decide +kernel
theorem dX5_boxInWorld_1 : decode cX5_boxInWorld 1 = .ok (.istore 4, 2) := by decide +kernel
theorem dX5_boxInWorld_3 : decode cX5_boxInWorld 3 = .ok (.aload_n 0, 1) := by decide +kernel
theorem dX5_boxInWorld_4 : decode cX5_boxInWorld 4 = .ok (.getfield 12, 3) := by decide +kernel
theorem dX5_boxInWorld_7 : decode cX5_boxInWorld 7 = .ok (.aload_n 1, 1) := by decide +kernel
theorem dX5_boxInWorld_8 : decode cX5_boxInWorld 8 = .ok (.getfield 38, 3) := by decide +kernel
theorem dX5_boxInWorld_11 : decode cX5_boxInWorld 11 = .ok (.invokevirtual 44, 3) := by decide +kernel
theorem dX5_boxInWorld_14 : decode cX5_boxInWorld 14 = .ok (.istore 5, 2) := by decide +kernel
theorem dX5_boxInWorld_16 : decode cX5_boxInWorld 16 = .ok (.iload 5, 2) := by decide +kernel
theorem dX5_boxInWorld_18 : decode cX5_boxInWorld 18 = .ok (.ifCond .le 54, 3) := by decide +kernel
theorem dX5_boxInWorld_21 : decode cX5_boxInWorld 21 = .ok (.aload_n 1, 1) := by decide +kernel
theorem dX5_boxInWorld_22 : decode cX5_boxInWorld 22 = .ok (.iconst 0, 1) := by decide +kernel
theorem dX5_boxInWorld_23 : decode cX5_boxInWorld 23 = .ok (.aload_n 0, 1) := by decide +kernel
theorem dX5_boxInWorld_24 : decode cX5_boxInWorld 24 = .ok (.getfield 12, 3) := by decide +kernel
theorem dX5_boxInWorld_27 : decode cX5_boxInWorld 27 = .ok (.getfield 48, 3) := by decide +kernel
theorem dX5_boxInWorld_30 : decode cX5_boxInWorld 30 = .ok (.invokevirtual 51, 3) := by decide +kernel
theorem dX5_boxInWorld_33 : decode cX5_boxInWorld 33 = .ok (.bipush (-6), 2) := by decide +kernel
theorem dX5_boxInWorld_35 : decode cX5_boxInWorld 35 = .ok (.if_icmp .ne 24, 3) := by decide +kernel
theorem dX5_boxInWorld_38 : decode cX5_boxInWorld 38 = .ok (.iload 4, 2) := by decide +kernel
theorem dX5_boxInWorld_40 : decode cX5_boxInWorld 40 = .ok (.iload_n 2, 1) := by decide +kernel
theorem dX5_boxInWorld_41 : decode cX5_boxInWorld 41 = .ok (.if_icmp .ne 15, 3) := by decide +kernel
theorem dX5_boxInWorld_44 : decode cX5_boxInWorld 44 = .ok (.aload_n 0, 1) := by decide +kernel
theorem dX5_boxInWorld_45 : decode cX5_boxInWorld 45 = .ok (.getfield 12, 3) := by decide +kernel
theorem dX5_boxInWorld_48 : decode cX5_boxInWorld 48 = .ok (.getfield 48, 3) := by decide +kernel
theorem dX5_boxInWorld_51 : decode cX5_boxInWorld 51 = .ok (.iload_n 3, 1) := by decide +kernel
theorem dX5_boxInWorld_52 : decode cX5_boxInWorld 52 = .ok (.invokestatic 73, 3) := by decide +kernel
theorem dX5_boxInWorld_55 : decode cX5_boxInWorld 55 = .ok (.ireturn, 1) := by decide +kernel
theorem dX5_boxInWorld_56 : decode cX5_boxInWorld 56 = .ok (.iinc 4 1, 3) := by decide +kernel
theorem dX5_boxInWorld_59 : decode cX5_boxInWorld 59 = .ok (.aload_n 0, 1) := by decide +kernel
