theorem dX5_boxInWorld_60 : decode cX5_boxInWorld 60 = .ok (.getfield 12, 3) := by decide +kernel
theorem dX5_boxInWorld_63 : decode cX5_boxInWorld 63 = .ok (.invokevirtual 63, 3) := by decide +kernel
theorem dX5_boxInWorld_66 : decode cX5_boxInWorld 66 = .ok (.iinc 5 (-1), 3) := by decide +kernel
theorem dX5_boxInWorld_69 : decode cX5_boxInWorld 69 = .ok (.goto (-53), 3) := by decide +kernel
theorem dX5_boxInWorld_72 : decode cX5_boxInWorld 72 = .ok (.iconst (-1), 1) := by decide +kernel
theorem dX5_boxInWorld_73 : decode cX5_boxInWorld 73 = .ok (.ireturn, 1) := by decide +kernel
theorem dX6_init_0 : decode cX6_init 0 = .ok (.aload_n 0, 1) := by decide +kernel
theorem dX6_init_1 : decode cX6_init 1 = .ok (.invokespecial 3, 3) := by decide +kernel
theorem dX6_init_4 : decode cX6_init 4 = .ok (.aload_n 0, 1) := by decide +kernel
theorem dX6_init_5 : decode cX6_init 5 = .ok (.bipush 6, 2) := by decide +kernel
theorem dX6_init_7 : decode cX6_init 7 = .ok (.newarray .int, 2) := by decide +kernel
theorem dX6_init_9 : decode cX6_init 9 = .ok (.putfield 9, 3) := by decide +kernel
theorem dX6_init_12 : decode cX6_init 12 = .ok (.return_, 1) := by decide +kernel
theorem dX6_begin_0 : decode cX6_begin 0 = .ok (.aload_n 0, 1) := by decide +kernel
theorem dX6_begin_1 : decode cX6_begin 1 = .ok (.iload_n 1, 1) := by decide +kernel
theorem dX6_begin_2 : decode cX6_begin 2 = .ok (.putfield 15, 3) := by decide +kernel
theorem dX6_begin_5 : decode cX6_begin 5 = .ok (.iconst 1, 1) := by decide +kernel
theorem dX6_begin_6 : decode cX6_begin 6 = .ok (.istore_n 2, 1) := by decide +kernel
theorem dX6_begin_7 : decode cX6_begin 7 = .ok (.iconst 0, 1) := by decide +kernel
theorem dX6_begin_8 : decode cX6_begin 8 = .ok (.istore_n 3, 1) := by decide +kernel
theorem dX6_begin_9 : decode cX6_begin 9 = .ok (.iload_n 3, 1) := by decide +kernel
theorem dX6_begin_10 : decode cX6_begin 10 = .ok (.aload_n 0, 1) := by decide +kernel
theorem dX6_begin_11 : decode cX6_begin 11 = .ok (.getfield 9, 3) := by decide +kernel
theorem dX6_begin_14 : decode cX6_begin 14 = .ok (.arraylength, 1) := by decide +kernel
theorem dX6_begin_15 : decode cX6_begin 15 = .ok (.if_icmp .ge 52, 3) := by decide +kernel
theorem dX6_begin_18 : decode cX6_begin 18 = .ok (.aload_n 0, 1) := by decide +kernel
theorem dX6_begin_19 : decode cX6_begin 19 = .ok (.getfield 9, 3) := by decide +kernel
theorem dX6_begin_22 : decode cX6_begin 22 = .ok (.iload_n 3, 1) := by decide +kernel
theorem dX6_begin_23 : decode cX6_begin 23 = .ok (.iload_n 3, 1) := by decide +kernel
theorem dX6_begin_24 : decode cX6_begin 24 = .ok (.aload_n 0, 1) := by decide +kernel
theorem dX6_begin_25 : decode cX6_begin 25 = .ok (.getfield 15, 3) := by decide +kernel
theorem dX6_begin_28 : decode cX6_begin 28 = .ok (.if_icmp .ge 10, 3) := by decide +kernel
theorem dX6_begin_31 : decode cX6_begin 31 = .ok (.iload_n 3, 1) := by decide +kernel
theorem dX6_begin_32 : decode cX6_begin 32 = .ok (.invokestatic 19, 3) := by decide +kernel
theorem dX6_begin_35 : decode cX6_begin 35 = .ok (.goto 4, 3) := by decide +kernel
theorem dX6_begin_38 : decode cX6_begin 38 = .ok (.iconst (-1), 1) := by decide +kernel
theorem dX6_begin_39 : decode cX6_begin 39 = .ok (.iastore, 1) := by decide +kernel
theorem dX6_begin_40 : decode cX6_begin 40 = .ok (.iload_n 2, 1) := by decide +kernel
theorem dX6_begin_41 : decode cX6_begin 41 = .ok (.iload_n 3, 1) := by decide +kernel
theorem dX6_begin_42 : decode cX6_begin 42 = .ok (.aload_n 0, 1) := by decide +kernel
theorem dX6_begin_43 : decode cX6_begin 43 = .ok (.getfield 15, 3) := by decide +kernel
theorem dX6_begin_46 : decode cX6_begin 46 = .ok (.if_icmp .ge 12, 3) := by decide +kernel
theorem dX6_begin_49 : decode cX6_begin 49 = .ok (.aload_n 0, 1) := by decide +kernel
theorem dX6_begin_50 : decode cX6_begin 50 = .ok (.getfield 15, 3) := by decide +kernel
theorem dX6_begin_53 : decode cX6_begin 53 = .ok (.iconst 1, 1) := by decide +kernel
theorem dX6_begin_54 : decode cX6_begin 54 = .ok (.isub, 1) := by decide +kernel
theorem dX6_begin_55 : decode cX6_begin 55 = .ok (.goto 4, 3) := by decide +kernel
theorem dX6_begin_58 : decode cX6_begin 58 = .ok (.iconst 1, 1) := by decide +kernel
theorem dX6_begin_59 : decode cX6_begin 59 = .ok (.imul, 1) := by decide +kernel
theorem dX6_begin_60 : decode cX6_begin 60 = .ok (.istore_n 2, 1) := by decide +kernel
theorem dX6_begin_61 : decode cX6_begin 61 = .ok (.iinc 3 1, 3) := by decide +kernel
theorem dX6_begin_64 : decode cX6_begin 64 = .ok (.goto (-55), 3) := by decide +kernel
theorem dX6_begin_67 : decode cX6_begin 67 = .ok (.iload_n 2, 1) := by decide +kernel
theorem dX6_begin_68 : decode cX6_begin 68 = .ok (.ireturn, 1) := by decide +kernel
theorem dX6_step_0 : decode cX6_step 0 = .ok (.aload_n 0, 1) := by decide +kernel
theorem dX6_step_1 : decode cX6_step 1 = .ok (.getfield 15, 3) := by decide +kernel
theorem dX6_step_4 : decode cX6_step 4 = .ok (.iconst 1, 1) := by decide +kernel
theorem dX6_step_5 : decode cX6_step 5 = .ok (.isub, 1) := by decide +kernel
theorem dX6_step_6 : decode cX6_step 6 = .ok (.istore_n 1, 1) := by decide +kernel
theorem dX6_step_7 : decode cX6_step 7 = .ok (.iload_n 1, 1) := by decide +kernel
theorem dX6_step_8 : decode cX6_step 8 = .ok (.ifCond .lt 58, 3) := by decide +kernel
theorem dX6_step_11 : decode cX6_step 11 = .ok (.aload_n 0, 1) := by decide +kernel
theorem dX6_step_12 : decode cX6_step 12 = .ok (.getfield 9, 3) := by decide +kernel
theorem dX6_step_15 : decode cX6_step 15 = .ok (.iload_n 1, 1) := by decide +kernel
theorem dX6_step_16 : decode cX6_step 16 = .ok (.invokestatic 23, 3) := by decide +kernel
theorem dX6_step_19 : decode cX6_step 19 = .ok (.iconst 1, 1) := by decide +kernel
theorem dX6_step_20 : decode cX6_step 20 = .ok (.iadd, 1) := by decide +kernel
theorem dX6_step_21 : decode cX6_step 21 = .ok (.istore_n 2, 1) := by decide +kernel
theorem dX6_step_22 : decode cX6_step 22 = .ok (.iload_n 2, 1) := by decide +kernel
theorem dX6_step_23 : decode cX6_step 23 = .ok (.iload_n 1, 1) := by decide +kernel
theorem dX6_step_24 : decode cX6_step 24 = .ok (.if_icmp .ne 6, 3) := by decide +kernel
theorem dX6_step_27 : decode cX6_step 27 = .ok (.iinc 2 1, 3) := by decide +kernel
theorem dX6_step_30 : decode cX6_step 30 = .ok (.iload_n 2, 1) := by decide +kernel
theorem dX6_step_31 : decode cX6_step 31 = .ok (.aload_n 0, 1) := by decide +kernel
theorem dX6_step_32 : decode cX6_step 32 = .ok (.getfield 15, 3) := by decide +kernel
theorem dX6_step_35 : decode cX6_step 35 = .ok (.if_icmp .ge 13, 3) := by decide +kernel
theorem dX6_step_38 : decode cX6_step 38 = .ok (.aload_n 0, 1) := by decide +kernel
theorem dX6_step_39 : decode cX6_step 39 = .ok (.getfield 9, 3) := by decide +kernel
theorem dX6_step_42 : decode cX6_step 42 = .ok (.iload_n 1, 1) := by decide +kernel
theorem dX6_step_43 : decode cX6_step 43 = .ok (.iload_n 2, 1) := by decide +kernel
theorem dX6_step_44 : decode cX6_step 44 = .ok (.invokestatic 27, 3) := by decide +kernel
theorem dX6_step_47 : decode cX6_step 47 = .ok (.return_, 1) := by decide +kernel
theorem dX6_step_48 : decode cX6_step 48 = .ok (.aload_n 0, 1) := by decide +kernel
theorem dX6_step_49 : decode cX6_step 49 = .ok (.getfield 9, 3) := by decide +kernel
theorem dX6_step_52 : decode cX6_step 52 = .ok (.iload_n 1, 1) := by decide +kernel
theorem dX6_step_53 : decode cX6_step 53 = .ok (.iload_n 1, 1) := by decide +kernel
theorem dX6_step_54 : decode cX6_step 54 = .ok (.invokestatic 19, 3) := by decide +kernel
theorem dX6_step_57 : decode cX6_step 57 = .ok (.invokestatic 27, 3) := by decide +kernel
theorem dX6_step_60 : decode cX6_step 60 = .ok (.iinc 1 (-1), 3) := by decide +kernel
theorem dX6_step_63 : decode cX6_step 63 = .ok (.goto (-56), 3) := by decide +kernel
theorem dX6_step_66 : decode cX6_step 66 = .ok (.return_, 1) := by decide +kernel
theorem dX6_firstBoxFor_0 : decode cX6_firstBoxFor 0 = .ok (.iload_n 0, 1) := by decide +kernel
theorem dX6_firstBoxFor_1 : decode cX6_firstBoxFor 1 = .ok (.ifCond .ne 7, 3) := by decide +kernel
theorem dX6_firstBoxFor_4 : decode cX6_firstBoxFor 4 = .ok (.iconst 1, 1) := by decide +kernel
theorem dX6_firstBoxFor_5 : decode cX6_firstBoxFor 5 = .ok (.goto 4, 3) := by decide +kernel
theorem dX6_firstBoxFor_8 : decode cX6_firstBoxFor 8 = .ok (.iconst 0, 1) := by decide +kernel
theorem dX6_firstBoxFor_9 : decode cX6_firstBoxFor 9 = .ok (.ireturn, 1) := by decide +kernel
theorem dX7_init_0 : decode cX7_init 0 = .ok (.aload_n 0, 1) := by decide +kernel
theorem dX7_init_1 : decode cX7_init 1 = .ok (.invokespecial 1, 3) := by decide +kernel
theorem dX7_init_4 : decode cX7_init 4 = .ok (.aload_n 0, 1) := by decide +kernel
theorem dX7_init_5 : decode cX7_init 5 = .ok (.new 7, 3) := by decide +kernel
theorem dX7_init_8 : decode cX7_init 8 = .ok (.dup, 1) := by decide +kernel
theorem dX7_init_9 : decode cX7_init 9 = .ok (.invokespecial 9, 3) := by decide +kernel
theorem dX7_init_12 : decode cX7_init 12 = .ok (.putfield 10, 3) := by decide +kernel
theorem dX7_init_15 : decode cX7_init 15 = .ok (.aload_n 0, 1) := by decide +kernel
theorem dX7_init_16 : decode cX7_init 16 = .ok (.new 16, 3) := by decide +kernel
theorem dX7_init_19 : decode cX7_init 19 = .ok (.dup, 1) := by decide +kernel
theorem dX7_init_20 : decode cX7_init 20 = .ok (.invokespecial 18, 3) := by decide +kernel
theorem dX7_init_23 : decode cX7_init 23 = .ok (.putfield 19, 3) := by decide +kernel
theorem dX7_init_26 : decode cX7_init 26 = .ok (.aload_n 0, 1) := by decide +kernel
theorem dX7_init_27 : decode cX7_init 27 = .ok (.new 23, 3) := by decide +kernel
theorem dX7_init_30 : decode cX7_init 30 = .ok (.dup, 1) := by decide +kernel
theorem dX7_init_31 : decode cX7_init 31 = .ok (.invokespecial 25, 3) := by decide +kernel
theorem dX7_init_34 : decode cX7_init 34 = .ok (.putfield 26, 3) := by decide +kernel
theorem dX7_init_37 : decode cX7_init 37 = .ok (.aload_n 0, 1) := by decide +kernel
theorem dX7_init_38 : decode cX7_init 38 = .ok (.new 23, 3) := by decide +kernel
theorem dX7_init_41 : decode cX7_init 41 = .ok (.dup, 1) := by decide +kernel
theorem dX7_init_42 : decode cX7_init 42 = .ok (.invokespecial 25, 3) := by decide +kernel
theorem dX7_init_45 : decode cX7_init 45 = .ok (.putfield 30, 3) := by decide +kernel
theorem dX7_init_48 : decode cX7_init 48 = .ok (.aload_n 0, 1) := by decide +kernel
theorem dX7_init_49 : decode cX7_init 49 = .ok (.new 33, 3) := by decide +kernel
theorem dX7_init_52 : decode cX7_init 52 = .ok (.dup, 1) := by decide +kernel
theorem dX7_init_53 : decode cX7_init 53 = .ok (.invokespecial 35, 3) := by decide +kernel
theorem dX7_init_56 : decode cX7_init 56 = .ok (.putfield 36, 3) := by decide +kernel
theorem dX7_init_59 : decode cX7_init 59 = .ok (.aload_n 0, 1) := by decide +kernel
theorem dX7_init_60 : decode cX7_init 60 = .ok (.new 40, 3) := by decide +kernel
theorem dX7_init_63 : decode cX7_init 63 = .ok (.dup, 1) := by decide +kernel
theorem dX7_init_64 : decode cX7_init 64 = .ok (.invokespecial 42, 3) := by decide +kernel
theorem dX7_init_67 : decode cX7_init 67 = .ok (.putfield 43, 3) := by decide +kernel
theorem dX7_init_70 : decode cX7_init 70 = .ok (.aload_n 0, 1) := by decide +kernel
theorem dX7_init_71 : decode cX7_init 71 = .ok (.getfield 10, 3) := by decide +kernel
theorem dX7_init_74 : decode cX7_init 74 = .ok (.iconst 4, 1) := by decide +kernel
theorem dX7_init_75 : decode cX7_init 75 = .ok (.invokevirtual 47, 3) := by decide +kernel
theorem dX7_init_78 : decode cX7_init 78 = .ok (.return_, 1) := by decide +kernel
theorem dX7_open_0 : decode cX7_open 0 = .ok (.iload_n 1, 1) := by decide +kernel
theorem dX7_open_1 : decode cX7_open 1 = .ok (.iconst 3, 1) := by decide +kernel
theorem dX7_open_2 : decode cX7_open 2 = .ok (.if_icmp .lt 9, 3) := by decide +kernel
theorem dX7_open_5 : decode cX7_open 5 = .ok (.iload_n 1, 1) := by decide +kernel
theorem dX7_open_6 : decode cX7_open 6 = .ok (.bipush 6, 2) := by decide +kernel
theorem dX7_open_8 : decode cX7_open 8 = .ok (.if_icmp .le 6, 3) := by decide +kernel
theorem dX7_open_11 : decode cX7_open 11 = .ok (.bipush (-2), 2) := by decide +kernel
theorem dX7_open_13 : decode cX7_open 13 = .ok (.ireturn, 1) := by decide +kernel
theorem dX7_open_14 : decode cX7_open 14 = .ok (.aload_n 0, 1) := by decide +kernel
theorem dX7_open_15 : decode cX7_open 15 = .ok (.getfield 10, 3) := by decide +kernel
theorem dX7_open_18 : decode cX7_open 18 = .ok (.getfield 51, 3) := by decide +kernel
theorem dX7_open_21 : decode cX7_open 21 = .ok (.istore_n 2, 1) := by decide +kernel
theorem dX7_open_22 : decode cX7_open 22 = .ok (.aload_n 0, 1) := by decide +kernel
theorem dX7_open_23 : decode cX7_open 23 = .ok (.invokevirtual 55, 3) := by decide +kernel
theorem dX7_open_26 : decode cX7_open 26 = .ok (.aload_n 0, 1) := by decide +kernel
theorem dX7_open_27 : decode cX7_open 27 = .ok (.getfield 10, 3) := by decide +kernel
theorem dX7_open_30 : decode cX7_open 30 = .ok (.iload_n 1, 1) := by decide +kernel
theorem dX7_open_31 : decode cX7_open 31 = .ok (.invokevirtual 47, 3) := by decide +kernel
theorem dX7_open_34 : decode cX7_open 34 = .ok (.iload_n 2, 1) := by decide +kernel
theorem dX7_open_35 : decode cX7_open 35 = .ok (.ireturn, 1) := by decide +kernel
theorem dX7_look_0 : decode cX7_look 0 = .ok (.aload_n 0, 1) := by decide +kernel
theorem dX7_look_1 : decode cX7_look 1 = .ok (.getfield 10, 3) := by decide +kernel
theorem dX7_look_4 : decode cX7_look 4 = .ok (.iload_n 1, 1) := by decide +kernel
theorem dX7_look_5 : decode cX7_look 5 = .ok (.invokevirtual 58, 3) := by decide +kernel
theorem dX7_look_8 : decode cX7_look 8 = .ok (.ifCond .eq 14, 3) := by decide +kernel
theorem dX7_look_11 : decode cX7_look 11 = .ok (.aload_n 0, 1) := by decide +kernel
theorem dX7_look_12 : decode cX7_look 12 = .ok (.getfield 10, 3) := by decide +kernel
theorem dX7_look_15 : decode cX7_look 15 = .ok (.iload_n 2, 1) := by decide +kernel
theorem dX7_look_16 : decode cX7_look 16 = .ok (.invokevirtual 58, 3) := by decide +kernel
theorem dX7_look_19 : decode cX7_look 19 = .ok (.ifCond .ne 5, 3) := by decide +kernel
theorem dX7_look_22 : decode cX7_look 22 = .ok (.iconst (-1), 1) := by decide +kernel
theorem dX7_look_23 : decode cX7_look 23 = .ok (.ireturn, 1) := by decide +kernel
theorem dX7_look_24 : decode cX7_look 24 = .ok (.iload_n 1, 1) := by decide +kernel
theorem dX7_look_25 : decode cX7_look 25 = .ok (.iload_n 2, 1) := by decide +kernel
theorem dX7_look_26 : decode cX7_look 26 = .ok (.if_icmp .ne 6, 3) := by decide +kernel
theorem dX7_look_29 : decode cX7_look 29 = .ok (.bipush (-2), 2) := by decide +kernel
theorem dX7_look_31 : decode cX7_look 31 = .ok (.ireturn, 1) := by decide +kernel
theorem dX7_look_32 : decode cX7_look 32 = .ok (.aload_n 0, 1) := by decide +kernel
theorem dX7_look_33 : decode cX7_look 33 = .ok (.getfield 10, 3) := by decide +kernel
theorem dX7_look_36 : decode cX7_look 36 = .ok (.getfield 62, 3) := by decide +kernel
theorem dX7_look_39 : decode cX7_look 39 = .ok (.iload_n 1, 1) := by decide +kernel
theorem dX7_look_40 : decode cX7_look 40 = .ok (.invokestatic 66, 3) := by decide +kernel
theorem dX7_look_43 : decode cX7_look 43 = .ok (.istore_n 3, 1) := by decide +kernel
theorem dX7_look_44 : decode cX7_look 44 = .ok (.aload_n 0, 1) := by decide +kernel
theorem dX7_look_45 : decode cX7_look 45 = .ok (.invokevirtual 55, 3) := by decide +kernel
theorem dX7_look_48 : decode cX7_look 48 = .ok (.aload_n 0, 1) := by decide +kernel
theorem dX7_look_49 : decode cX7_look 49 = .ok (.getfield 10, 3) := by decide +kernel
theorem dX7_look_52 : decode cX7_look 52 = .ok (.getfield 62, 3) := by decide +kernel
theorem dX7_look_55 : decode cX7_look 55 = .ok (.iload_n 1, 1) := by decide +kernel
theorem dX7_look_56 : decode cX7_look 56 = .ok (.iload_n 2, 1) := by decide +kernel
theorem dX7_look_57 : decode cX7_look 57 = .ok (.invokestatic 70, 3) := by decide +kernel
theorem dX7_look_60 : decode cX7_look 60 = .ok (.iload_n 3, 1) := by decide +kernel
theorem dX7_look_61 : decode cX7_look 61 = .ok (.ireturn, 1) := by decide +kernel
theorem dX7_tell_0 : decode cX7_tell 0 = .ok (.aload_n 0, 1) := by decide +kernel
theorem dX7_tell_1 : decode cX7_tell 1 = .ok (.getfield 10, 3) := by decide +kernel
theorem dX7_tell_4 : decode cX7_tell 4 = .ok (.iload_n 1, 1) := by decide +kernel
theorem dX7_tell_5 : decode cX7_tell 5 = .ok (.invokevirtual 58, 3) := by decide +kernel
theorem dX7_tell_8 : decode cX7_tell 8 = .ok (.ifCond .ne 5, 3) := by decide +kernel
theorem dX7_tell_11 : decode cX7_tell 11 = .ok (.iconst (-1), 1) := by decide +kernel
theorem dX7_tell_12 : decode cX7_tell 12 = .ok (.ireturn, 1) := by decide +kernel
theorem dX7_tell_13 : decode cX7_tell 13 = .ok (.aload_n 0, 1) := by decide +kernel
theorem dX7_tell_14 : decode cX7_tell 14 = .ok (.getfield 10, 3) := by decide +kernel
theorem dX7_tell_17 : decode cX7_tell 17 = .ok (.iload_n 2, 1) := by decide +kernel
theorem dX7_tell_18 : decode cX7_tell 18 = .ok (.iload_n 3, 1) := by decide +kernel
theorem dX7_tell_19 : decode cX7_tell 19 = .ok (.iload 4, 2) := by decide +kernel
theorem dX7_tell_21 : decode cX7_tell 21 = .ok (.invokevirtual 74, 3) := by decide +kernel
theorem dX7_tell_24 : decode cX7_tell 24 = .ok (.ifCond .ne 6, 3) := by decide +kernel
theorem dX7_tell_27 : decode cX7_tell 27 = .ok (.bipush (-2), 2) := by decide +kernel
theorem dX7_tell_29 : decode cX7_tell 29 = .ok (.ireturn, 1) := by decide +kernel
theorem dX7_tell_30 : decode cX7_tell 30 = .ok (.aload_n 0, 1) := by decide +kernel
theorem dX7_tell_31 : decode cX7_tell 31 = .ok (.getfield 10, 3) := by decide +kernel
theorem dX7_tell_34 : decode cX7_tell 34 = .ok (.iconst 1, 1) := by decide +kernel
theorem dX7_tell_35 : decode cX7_tell 35 = .ok (.invokevirtual 78, 3) := by decide +kernel
theorem dX7_tell_38 : decode cX7_tell 38 = .ok (.ifCond .ne 6, 3) := by decide +kernel
theorem dX7_tell_41 : decode cX7_tell 41 = .ok (.bipush (-4), 2) := by decide +kernel
theorem dX7_tell_43 : decode cX7_tell 43 = .ok (.ireturn, 1) := by decide +kernel
theorem dX7_tell_44 : decode cX7_tell 44 = .ok (.aload_n 0, 1) := by decide +kernel
theorem dX7_tell_45 : decode cX7_tell 45 = .ok (.invokevirtual 55, 3) := by decide +kernel
theorem dX7_tell_48 : decode cX7_tell 48 = .ok (.aload_n 0, 1) := by decide +kernel
theorem dX7_tell_49 : decode cX7_tell 49 = .ok (.getfield 10, 3) := by decide +kernel
theorem dX7_tell_52 : decode cX7_tell 52 = .ok (.iload_n 1, 1) := by decide +kernel
theorem dX7_tell_53 : decode cX7_tell 53 = .ok (.iload_n 2, 1) := by decide +kernel
theorem dX7_tell_54 : decode cX7_tell 54 = .ok (.iload_n 3, 1) := by decide +kernel
theorem dX7_tell_55 : decode cX7_tell 55 = .ok (.iload 4, 2) := by decide +kernel
theorem dX7_tell_57 : decode cX7_tell 57 = .ok (.invokevirtual 81, 3) := by decide +kernel
theorem dX7_tell_60 : decode cX7_tell 60 = .ok (.aload_n 0, 1) := by decide +kernel
theorem dX7_tell_61 : decode cX7_tell 61 = .ok (.getfield 10, 3) := by decide +kernel
theorem dX7_tell_64 : decode cX7_tell 64 = .ok (.getfield 85, 3) := by decide +kernel
theorem dX7_tell_67 : decode cX7_tell 67 = .ok (.iconst 1, 1) := by decide +kernel
theorem dX7_tell_68 : decode cX7_tell 68 = .ok (.isub, 1) := by decide +kernel
theorem dX7_tell_69 : decode cX7_tell 69 = .ok (.ireturn, 1) := by decide +kernel
theorem dX7_tellAll_0 : decode cX7_tellAll 0 = .ok (.aload_n 0, 1) := by decide +kernel
theorem dX7_tellAll_1 : decode cX7_tellAll 1 = .ok (.getfield 36, 3) := by decide +kernel
theorem dX7_tellAll_4 : decode cX7_tellAll 4 = .ok (.invokevirtual 88, 3) := by decide +kernel
theorem dX7_tellAll_7 : decode cX7_tellAll 7 = .ok (.bipush (-6), 2) := by decide +kernel
theorem dX7_tellAll_9 : decode cX7_tellAll 9 = .ok (.if_icmp .eq 6, 3) := by decide +kernel
theorem dX7_tellAll_12 : decode cX7_tellAll 12 = .ok (.bipush (-3), 2) := by decide +kernel
theorem dX7_tellAll_14 : decode cX7_tellAll 14 = .ok (.ireturn, 1) := by decide +kernel
theorem dX7_tellAll_15 : decode cX7_tellAll 15 = .ok (.aload_n 0, 1) := by decide +kernel
theorem dX7_tellAll_16 : decode cX7_tellAll 16 = .ok (.invokevirtual 92, 3) := by decide +kernel
theorem dX7_tellAll_19 : decode cX7_tellAll 19 = .ok (.ifCond .ne 5, 3) := by decide +kernel
theorem dX7_tellAll_22 : decode cX7_tellAll 22 = .ok (.iconst (-1), 1) := by decide +kernel
theorem dX7_tellAll_23 : decode cX7_tellAll 23 = .ok (.ireturn, 1) := by decide +kernel
theorem dX7_tellAll_24 : decode cX7_tellAll 24 = .ok (.aload_n 0, 1) := by decide +kernel
theorem dX7_tellAll_25 : decode cX7_tellAll 25 = .ok (.invokevirtual 96, 3) := by decide +kernel
theorem dX7_tellAll_28 : decode cX7_tellAll 28 = .ok (.ifCond .ne 6, 3) := by decide +kernel
theorem dX7_tellAll_31 : decode cX7_tellAll 31 = .ok (.bipush (-2), 2) := by decide +kernel
theorem dX7_tellAll_33 : decode cX7_tellAll 33 = .ok (.ireturn, 1) := by decide +kernel
theorem dX7_tellAll_34 : decode cX7_tellAll 34 = .ok (.aload_n 0, 1) := by decide +kernel
theorem dX7_tellAll_35 : decode cX7_tellAll 35 = .ok (.getfield 36, 3) := by decide +kernel
theorem dX7_tellAll_38 : decode cX7_tellAll 38 = .ok (.invokevirtual 99, 3) := by decide +kernel
theorem dX7_tellAll_41 : decode cX7_tellAll 41 = .ok (.istore_n 1, 1) := by decide +kernel
theorem dX7_tellAll_42 : decode cX7_tellAll 42 = .ok (.aload_n 0, 1) := by decide +kernel
theorem dX7_tellAll_43 : decode cX7_tellAll 43 = .ok (.getfield 10, 3) := by decide +kernel
theorem dX7_tellAll_46 : decode cX7_tellAll 46 = .ok (.iload_n 1, 1) := by decide +kernel
theorem dX7_tellAll_47 : decode cX7_tellAll 47 = .ok (.invokevirtual 78, 3) := by decide +kernel
theorem dX7_tellAll_50 : decode cX7_tellAll 50 = .ok (.ifCond .ne 6, 3) := by decide +kernel
theorem dX7_tellAll_53 : decode cX7_tellAll 53 = .ok (.bipush (-4), 2) := by decide +kernel
theorem dX7_tellAll_55 : decode cX7_tellAll 55 = .ok (.ireturn, 1) := by decide +kernel
theorem dX7_tellAll_56 : decode cX7_tellAll 56 = .ok (.aload_n 0, 1) := by decide +kernel
theorem dX7_tellAll_57 : decode cX7_tellAll 57 = .ok (.invokevirtual 55, 3) := by decide +kernel
theorem dX7_tellAll_60 : decode cX7_tellAll 60 = .ok (.iconst 0, 1) := by decide +kernel
theorem dX7_tellAll_61 : decode cX7_tellAll 61 = .ok (.istore_n 2, 1) := by decide +kernel
theorem dX7_tellAll_62 : decode cX7_tellAll 62 = .ok (.iload_n 2, 1) := by decide +kernel
theorem dX7_tellAll_63 : decode cX7_tellAll 63 = .ok (.iload_n 1, 1) := by decide +kernel
theorem dX7_tellAll_64 : decode cX7_tellAll 64 = .ok (.if_icmp .ge 48, 3) := by decide +kernel
theorem dX7_tellAll_67 : decode cX7_tellAll 67 = .ok (.aload_n 0, 1) := by decide +kernel
theorem dX7_tellAll_68 : decode cX7_tellAll 68 = .ok (.getfield 10, 3) := by decide +kernel
theorem dX7_tellAll_71 : decode cX7_tellAll 71 = .ok (.aload_n 0, 1) := by decide +kernel
theorem dX7_tellAll_72 : decode cX7_tellAll 72 = .ok (.getfield 36, 3) := by decide +kernel
theorem dX7_tellAll_75 : decode cX7_tellAll 75 = .ok (.iload_n 2, 1) := by decide +kernel
theorem dX7_tellAll_76 : decode cX7_tellAll 76 = .ok (.invokevirtual 102, 3) := by decide +kernel
theorem dX7_tellAll_79 : decode cX7_tellAll 79 = .ok (.aload_n 0, 1) := by decide +kernel
theorem dX7_tellAll_80 : decode cX7_tellAll 80 = .ok (.getfield 36, 3) := by decide +kernel
theorem dX7_tellAll_83 : decode cX7_tellAll 83 = .ok (.iload_n 2, 1) := by decide +kernel
theorem dX7_tellAll_84 : decode cX7_tellAll 84 = .ok (.invokevirtual 106, 3) := by decide +kernel
theorem dX7_tellAll_87 : decode cX7_tellAll 87 = .ok (.aload_n 0, 1) := by decide +kernel
theorem dX7_tellAll_88 : decode cX7_tellAll 88 = .ok (.getfield 36, 3) := by decide +kernel
theorem dX7_tellAll_91 : decode cX7_tellAll 91 = .ok (.iload_n 2, 1) := by decide +kernel
theorem dX7_tellAll_92 : decode cX7_tellAll 92 = .ok (.invokevirtual 109, 3) := by decide +kernel
theorem dX7_tellAll_95 : decode cX7_tellAll 95 = .ok (.aload_n 0, 1) := by decide +kernel
theorem dX7_tellAll_96 : decode cX7_tellAll 96 = .ok (.getfield 36, 3) := by decide +kernel
theorem dX7_tellAll_99 : decode cX7_tellAll 99 = .ok (.iload_n 2, 1) := by decide +kernel
theorem dX7_tellAll_100 : decode cX7_tellAll 100 = .ok (.invokevirtual 112, 3) := by decide +kernel
theorem dX7_tellAll_103 : decode cX7_tellAll 103 = .ok (.invokevirtual 81, 3) := by decide +kernel
theorem dX7_tellAll_106 : decode cX7_tellAll 106 = .ok (.iinc 2 1, 3) := by decide +kernel
theorem dX7_tellAll_109 : decode cX7_tellAll 109 = .ok (.goto (-47), 3) := by decide +kernel
theorem dX7_tellAll_112 : decode cX7_tellAll 112 = .ok (.aload_n 0, 1) := by decide +kernel
theorem dX7_tellAll_113 : decode cX7_tellAll 113 = .ok (.getfield 36, 3) := by decide +kernel
theorem dX7_tellAll_116 : decode cX7_tellAll 116 = .ok (.invokevirtual 115, 3) := by decide +kernel
theorem dX7_tellAll_119 : decode cX7_tellAll 119 = .ok (.iload_n 1, 1) := by decide +kernel
theorem dX7_tellAll_120 : decode cX7_tellAll 120 = .ok (.ireturn, 1) := by decide +kernel
theorem dX7_prove_0 : decode cX7_prove 0 = .ok (.aload_n 0, 1) := by decide +kernel
theorem dX7_prove_1 : decode cX7_prove 1 = .ok (.getfield 10, 3) := by decide +kernel
theorem dX7_prove_4 : decode cX7_prove 4 = .ok (.iload_n 1, 1) := by decide +kernel
theorem dX7_prove_5 : decode cX7_prove 5 = .ok (.invokevirtual 118, 3) := by decide +kernel
theorem dX7_prove_8 : decode cX7_prove 8 = .ok (.astore_n 3, 1) := by decide +kernel
theorem dX7_prove_9 : decode cX7_prove 9 = .ok (.aload_n 3, 1) := by decide +kernel
theorem dX7_prove_10 : decode cX7_prove 10 = .ok (.ifnonnull 5, 3) := by decide +kernel
theorem dX7_prove_13 : decode cX7_prove 13 = .ok (.iconst (-1), 1) := by decide +kernel
theorem dX7_prove_14 : decode cX7_prove 14 = .ok (.ireturn, 1) := by decide +kernel
theorem dX7_prove_15 : decode cX7_prove 15 = .ok (.aload_n 3, 1) := by decide +kernel
theorem dX7_prove_16 : decode cX7_prove 16 = .ok (.getfield 122, 3) := by decide +kernel
theorem dX7_prove_19 : decode cX7_prove 19 = .ok (.ifCond .eq 6, 3) := by decide +kernel
theorem dX7_prove_22 : decode cX7_prove 22 = .ok (.bipush (-5), 2) := by decide +kernel
theorem dX7_prove_24 : decode cX7_prove 24 = .ok (.ireturn, 1) := by decide +kernel
theorem dX7_prove_25 : decode cX7_prove 25 = .ok (.aload_n 0, 1) := by decide +kernel
theorem dX7_prove_26 : decode cX7_prove 26 = .ok (.invokevirtual 55, 3) := by decide +kernel
theorem dX7_prove_29 : decode cX7_prove 29 = .ok (.aload_n 3, 1) := by decide +kernel
theorem dX7_prove_30 : decode cX7_prove 30 = .ok (.iload_n 2, 1) := by decide +kernel
theorem dX7_prove_31 : decode cX7_prove 31 = .ok (.invokevirtual 127, 3) := by decide +kernel
theorem dX7_prove_34 : decode cX7_prove 34 = .ok (.aload_n 0, 1) := by decide +kernel
theorem dX7_prove_35 : decode cX7_prove 35 = .ok (.invokevirtual 131, 3) := by decide +kernel
theorem dX7_prove_38 : decode cX7_prove 38 = .ok (.getfield 135, 3) := by decide +kernel
theorem dX7_prove_41 : decode cX7_prove 41 = .ok (.ireturn, 1) := by decide +kernel
theorem dX7_reveal_0 : decode cX7_reveal 0 = .ok (.aload_n 0, 1) := by decide +kernel
theorem dX7_reveal_1 : decode cX7_reveal 1 = .ok (.invokevirtual 55, 3) := by decide +kernel
theorem dX7_reveal_4 : decode cX7_reveal 4 = .ok (.aload_n 0, 1) := by decide +kernel
theorem dX7_reveal_5 : decode cX7_reveal 5 = .ok (.getfield 10, 3) := by decide +kernel
theorem dX7_reveal_8 : decode cX7_reveal 8 = .ok (.invokevirtual 138, 3) := by decide +kernel
theorem dX7_reveal_11 : decode cX7_reveal 11 = .ok (.ireturn, 1) := by decide +kernel
theorem dX7_doubt_0 : decode cX7_doubt 0 = .ok (.aload_n 0, 1) := by decide +kernel
theorem dX7_doubt_1 : decode cX7_doubt 1 = .ok (.getfield 10, 3) := by decide +kernel
theorem dX7_doubt_4 : decode cX7_doubt 4 = .ok (.iload_n 1, 1) := by decide +kernel
theorem dX7_doubt_5 : decode cX7_doubt 5 = .ok (.invokevirtual 118, 3) := by decide +kernel
theorem dX7_doubt_8 : decode cX7_doubt 8 = .ok (.astore_n 2, 1) := by decide +kernel
theorem dX7_doubt_9 : decode cX7_doubt 9 = .ok (.aload_n 2, 1) := by decide +kernel
theorem dX7_doubt_10 : decode cX7_doubt 10 = .ok (.ifnonnull 5, 3) := by decide +kernel
theorem dX7_doubt_13 : decode cX7_doubt 13 = .ok (.iconst (-1), 1) := by decide +kernel
theorem dX7_doubt_14 : decode cX7_doubt 14 = .ok (.ireturn, 1) := by decide +kernel
theorem dX7_doubt_15 : decode cX7_doubt 15 = .ok (.aload_n 2, 1) := by decide +kernel
theorem dX7_doubt_16 : decode cX7_doubt 16 = .ok (.getfield 122, 3) := by decide +kernel
theorem dX7_doubt_19 : decode cX7_doubt 19 = .ok (.ifCond .ne 6, 3) := by decide +kernel
theorem dX7_doubt_22 : decode cX7_doubt 22 = .ok (.bipush (-5), 2) := by decide +kernel
theorem dX7_doubt_24 : decode cX7_doubt 24 = .ok (.ireturn, 1) := by decide +kernel
theorem dX7_doubt_25 : decode cX7_doubt 25 = .ok (.aload_n 0, 1) := by decide +kernel
theorem dX7_doubt_26 : decode cX7_doubt 26 = .ok (.invokevirtual 55, 3) := by decide +kernel
theorem dX7_doubt_29 : decode cX7_doubt 29 = .ok (.aload_n 2, 1) := by decide +kernel
theorem dX7_doubt_30 : decode cX7_doubt 30 = .ok (.iconst 0, 1) := by decide +kernel
theorem dX7_doubt_31 : decode cX7_doubt 31 = .ok (.putfield 122, 3) := by decide +kernel
theorem dX7_doubt_34 : decode cX7_doubt 34 = .ok (.aload_n 0, 1) := by decide +kernel
theorem dX7_doubt_35 : decode cX7_doubt 35 = .ok (.invokevirtual 131, 3) := by decide +kernel
theorem dX7_doubt_38 : decode cX7_doubt 38 = .ok (.getfield 135, 3) := by decide +kernel
theorem dX7_doubt_41 : decode cX7_doubt 41 = .ok (.ireturn, 1) := by decide +kernel
theorem dX7_guess_0 : decode cX7_guess 0 = .ok (.aload_n 0, 1) := by decide +kernel
theorem dX7_guess_1 : decode cX7_guess 1 = .ok (.getfield 10, 3) := by decide +kernel
theorem dX7_guess_4 : decode cX7_guess 4 = .ok (.iload_n 1, 1) := by decide +kernel
theorem dX7_guess_5 : decode cX7_guess 5 = .ok (.invokevirtual 58, 3) := by decide +kernel
theorem dX7_guess_8 : decode cX7_guess 8 = .ok (.ifCond .eq 25, 3) := by decide +kernel
theorem dX7_guess_11 : decode cX7_guess 11 = .ok (.aload_n 0, 1) := by decide +kernel
theorem dX7_guess_12 : decode cX7_guess 12 = .ok (.getfield 10, 3) := by decide +kernel
theorem dX7_guess_15 : decode cX7_guess 15 = .ok (.iload_n 2, 1) := by decide +kernel
theorem dX7_guess_16 : decode cX7_guess 16 = .ok (.invokevirtual 58, 3) := by decide +kernel
theorem dX7_guess_19 : decode cX7_guess 19 = .ok (.ifCond .eq 14, 3) := by decide +kernel
theorem dX7_guess_22 : decode cX7_guess 22 = .ok (.aload_n 0, 1) := by decide +kernel
theorem dX7_guess_23 : decode cX7_guess 23 = .ok (.getfield 10, 3) := by decide +kernel
theorem dX7_guess_26 : decode cX7_guess 26 = .ok (.iload_n 3, 1) := by decide +kernel
theorem dX7_guess_27 : decode cX7_guess 27 = .ok (.invokevirtual 58, 3) := by decide +kernel
theorem dX7_guess_30 : decode cX7_guess 30 = .ok (.ifCond .ne 5, 3) := by decide +kernel
theorem dX7_guess_33 : decode cX7_guess 33 = .ok (.iconst (-1), 1) := by decide +kernel
theorem dX7_guess_34 : decode cX7_guess 34 = .ok (.ireturn, 1) := by decide +kernel
theorem dX7_guess_35 : decode cX7_guess 35 = .ok (.iload_n 1, 1) := by decide +kernel
theorem dX7_guess_36 : decode cX7_guess 36 = .ok (.iload_n 2, 1) := by decide +kernel
theorem dX7_guess_37 : decode cX7_guess 37 = .ok (.if_icmp .eq 8, 3) := by decide +kernel
theorem dX7_guess_40 : decode cX7_guess 40 = .ok (.iload_n 2, 1) := by decide +kernel
theorem dX7_guess_41 : decode cX7_guess 41 = .ok (.iload_n 3, 1) := by decide +kernel
theorem dX7_guess_42 : decode cX7_guess 42 = .ok (.if_icmp .ne 6, 3) := by decide +kernel
theorem dX7_guess_45 : decode cX7_guess 45 = .ok (.bipush (-2), 2) := by decide +kernel
theorem dX7_guess_47 : decode cX7_guess 47 = .ok (.ireturn, 1) := by decide +kernel
theorem dX7_guess_48 : decode cX7_guess 48 = .ok (.aload_n 0, 1) := by decide +kernel
theorem dX7_guess_49 : decode cX7_guess 49 = .ok (.getfield 10, 3) := by decide +kernel
theorem dX7_guess_52 : decode cX7_guess 52 = .ok (.getfield 141, 3) := by decide +kernel
theorem dX7_guess_55 : decode cX7_guess 55 = .ok (.iload_n 1, 1) := by decide +kernel
theorem dX7_guess_56 : decode cX7_guess 56 = .ok (.invokestatic 66, 3) := by decide +kernel
theorem dX7_guess_59 : decode cX7_guess 59 = .ok (.ifCond .eq 6, 3) := by decide +kernel
theorem dX7_guess_62 : decode cX7_guess 62 = .ok (.bipush (-5), 2) := by decide +kernel
theorem dX7_guess_64 : decode cX7_guess 64 = .ok (.ireturn, 1) := by decide +kernel
theorem dX7_guess_65 : decode cX7_guess 65 = .ok (.aload_n 0, 1) := by decide +kernel
theorem dX7_guess_66 : decode cX7_guess 66 = .ok (.aload_n 0, 1) := by decide +kernel
theorem dX7_guess_67 : decode cX7_guess 67 = .ok (.invokevirtual 131, 3) := by decide +kernel
theorem dX7_guess_70 : decode cX7_guess 70 = .ok (.iload_n 2, 1) := by decide +kernel
theorem dX7_guess_71 : decode cX7_guess 71 = .ok (.iload_n 3, 1) := by decide +kernel
theorem dX7_guess_72 : decode cX7_guess 72 = .ok (.invokevirtual 144, 3) := by decide +kernel
theorem dX7_guess_75 : decode cX7_guess 75 = .ok (.istore 4, 2) := by decide +kernel
theorem dX7_guess_77 : decode cX7_guess 77 = .ok (.aload_n 0, 1) := by decide +kernel
theorem dX7_guess_78 : decode cX7_guess 78 = .ok (.invokevirtual 55, 3) := by decide +kernel
theorem dX7_guess_81 : decode cX7_guess 81 = .ok (.aload_n 0, 1) := by decide +kernel
theorem dX7_guess_82 : decode cX7_guess 82 = .ok (.getfield 10, 3) := by decide +kernel
theorem dX7_guess_85 : decode cX7_guess 85 = .ok (.getfield 148, 3) := by decide +kernel
theorem dX7_guess_88 : decode cX7_guess 88 = .ok (.iload_n 1, 1) := by decide +kernel
theorem dX7_guess_89 : decode cX7_guess 89 = .ok (.iload 4, 2) := by decide +kernel
theorem dX7_guess_91 : decode cX7_guess 91 = .ok (.invokestatic 151, 3) := by decide +kernel
theorem dX7_guess_94 : decode cX7_guess 94 = .ok (.aload_n 0, 1) := by decide +kernel
theorem dX7_guess_95 : decode cX7_guess 95 = .ok (.getfield 10, 3) := by decide +kernel
theorem dX7_guess_98 : decode cX7_guess 98 = .ok (.getfield 141, 3) := by decide +kernel
theorem dX7_guess_101 : decode cX7_guess 101 = .ok (.iload_n 1, 1) := by decide +kernel
theorem dX7_guess_102 : decode cX7_guess 102 = .ok (.iconst 1, 1) := by decide +kernel
theorem dX7_guess_103 : decode cX7_guess 103 = .ok (.invokestatic 70, 3) := by decide +kernel
theorem dX7_guess_106 : decode cX7_guess 106 = .ok (.sipush 1000, 3) := by decide +kernel
theorem dX7_guess_109 : decode cX7_guess 109 = .ok (.aload_n 0, 1) := by decide +kernel
theorem dX7_guess_110 : decode cX7_guess 110 = .ok (.getfield 10, 3) := by decide +kernel
theorem dX7_guess_113 : decode cX7_guess 113 = .ok (.getfield 148, 3) := by decide +kernel
theorem dX7_guess_116 : decode cX7_guess 116 = .ok (.iload_n 1, 1) := by decide +kernel
theorem dX7_guess_117 : decode cX7_guess 117 = .ok (.invokestatic 66, 3) := by decide +kernel
theorem dX7_guess_120 : decode cX7_guess 120 = .ok (.iadd, 1) := by decide +kernel
theorem dX7_guess_121 : decode cX7_guess 121 = .ok (.ireturn, 1) := by decide +kernel
theorem dX7_endAct_0 : decode cX7_endAct 0 = .ok (.aload_n 0, 1) := by decide +kernel
theorem dX7_endAct_1 : decode cX7_endAct 1 = .ok (.invokevirtual 55, 3) := by decide +kernel
theorem dX7_endAct_4 : decode cX7_endAct 4 = .ok (.aload_n 0, 1) := by decide +kernel
theorem dX7_endAct_5 : decode cX7_endAct 5 = .ok (.getfield 10, 3) := by decide +kernel
theorem dX7_endAct_8 : decode cX7_endAct 8 = .ok (.invokevirtual 154, 3) := by decide +kernel
theorem dX7_endAct_11 : decode cX7_endAct 11 = .ok (.aload_n 0, 1) := by decide +kernel
theorem dX7_endAct_12 : decode cX7_endAct 12 = .ok (.getfield 10, 3) := by decide +kernel
theorem dX7_endAct_15 : decode cX7_endAct 15 = .ok (.getfield 157, 3) := by decide +kernel
theorem dX7_endAct_18 : decode cX7_endAct 18 = .ok (.ireturn, 1) := by decide +kernel
theorem dX7_person_0 : decode cX7_person 0 = .ok (.aload_n 0, 1) := by decide +kernel
theorem dX7_person_1 : decode cX7_person 1 = .ok (.getfield 10, 3) := by decide +kernel
theorem dX7_person_4 : decode cX7_person 4 = .ok (.iload_n 1, 1) := by decide +kernel
theorem dX7_person_5 : decode cX7_person 5 = .ok (.invokevirtual 58, 3) := by decide +kernel
theorem dX7_person_8 : decode cX7_person 8 = .ok (.ifCond .ne 5, 3) := by decide +kernel
theorem dX7_person_11 : decode cX7_person 11 = .ok (.iconst (-1), 1) := by decide +kernel
theorem dX7_person_12 : decode cX7_person 12 = .ok (.ireturn, 1) := by decide +kernel
theorem dX7_person_13 : decode cX7_person 13 = .ok (.iload_n 2, 1) := by decide +kernel
theorem dX7_person_14 : decode cX7_person 14 = .ok (.tableswitch 108 0 5 #[38, 50, 66, 78, 87, 96], 38) := by decide +kernel
theorem dX7_person_52 : decode cX7_person 52 = .ok (.aload_n 0, 1) := by decide +kernel
theorem dX7_person_53 : decode cX7_person 53 = .ok (.getfield 10, 3) := by decide +kernel
theorem dX7_person_56 : decode cX7_person 56 = .ok (.getfield 62, 3) := by decide +kernel
theorem dX7_person_59 : decode cX7_person 59 = .ok (.iload_n 1, 1) := by decide +kernel
theorem dX7_person_60 : decode cX7_person 60 = .ok (.invokestatic 66, 3) := by decide +kernel
theorem dX7_person_63 : decode cX7_person 63 = .ok (.ireturn, 1) := by decide +kernel
theorem dX7_person_64 : decode cX7_person 64 = .ok (.sipush 1000, 3) := by decide +kernel
theorem dX7_person_67 : decode cX7_person 67 = .ok (.aload_n 0, 1) := by decide +kernel
theorem dX7_person_68 : decode cX7_person 68 = .ok (.getfield 10, 3) := by decide +kernel
theorem dX7_person_71 : decode cX7_person 71 = .ok (.getfield 148, 3) := by decide +kernel
theorem dX7_person_74 : decode cX7_person 74 = .ok (.iload_n 1, 1) := by decide +kernel
theorem dX7_person_75 : decode cX7_person 75 = .ok (.invokestatic 66, 3) := by decide +kernel
theorem dX7_person_78 : decode cX7_person 78 = .ok (.iadd, 1) := by decide +kernel
theorem dX7_person_79 : decode cX7_person 79 = .ok (.ireturn, 1) := by decide +kernel
theorem dX7_person_80 : decode cX7_person 80 = .ok (.aload_n 0, 1) := by decide +kernel
theorem dX7_person_81 : decode cX7_person 81 = .ok (.getfield 10, 3) := by decide +kernel
theorem dX7_person_84 : decode cX7_person 84 = .ok (.getfield 141, 3) := by decide +kernel
theorem dX7_person_87 : decode cX7_person 87 = .ok (.iload_n 1, 1) := by decide +kernel
theorem dX7_person_88 : decode cX7_person 88 = .ok (.invokestatic 66, 3) := by decide +kernel
theorem dX7_person_91 : decode cX7_person 91 = .ok (.ireturn, 1) := by decide +kernel
theorem dX7_person_92 : decode cX7_person 92 = .ok (.aload_n 0, 1) := by decide +kernel
theorem dX7_person_93 : decode cX7_person 93 = .ok (.getfield 10, 3) := by decide +kernel
theorem dX7_person_96 : decode cX7_person 96 = .ok (.iload_n 1, 1) := by decide +kernel
theorem dX7_person_97 : decode cX7_person 97 = .ok (.invokevirtual 160, 3) := by decide +kernel
theorem dX7_person_100 : decode cX7_person 100 = .ok (.ireturn, 1) := by decide +kernel
theorem dX7_person_101 : decode cX7_person 101 = .ok (.aload_n 0, 1) := by decide +kernel
theorem dX7_person_102 : decode cX7_person 102 = .ok (.getfield 10, 3) := by decide +kernel
theorem dX7_person_105 : decode cX7_person 105 = .ok (.iload_n 1, 1) := by decide +kernel
theorem dX7_person_106 : decode cX7_person 106 = .ok (.invokevirtual 163, 3) := by decide +kernel
theorem dX7_person_109 : decode cX7_person 109 = .ok (.ireturn, 1) := by decide +kernel
theorem dX7_person_110 : decode cX7_person 110 = .ok (.aload_n 0, 1) := by decide +kernel
theorem dX7_person_111 : decode cX7_person 111 = .ok (.getfield 10, 3) := by decide +kernel
theorem dX7_person_114 : decode cX7_person 114 = .ok (.getfield 62, 3) := by decide +kernel
theorem dX7_person_117 : decode cX7_person 117 = .ok (.iload_n 1, 1) := by decide +kernel
theorem dX7_person_118 : decode cX7_person 118 = .ok (.invokestatic 166, 3) := by decide +kernel
theorem dX7_person_121 : decode cX7_person 121 = .ok (.ireturn, 1) := by decide +kernel
theorem dX7_person_122 : decode cX7_person 122 = .ok (.bipush (-2), 2) := by decide +kernel
theorem dX7_person_124 : decode cX7_person 124 = .ok (.ireturn, 1) := by decide +kernel
theorem dX7_rumour_0 : decode cX7_rumour 0 = .ok (.aload_n 0, 1) := by decide +kernel
theorem dX7_rumour_1 : decode cX7_rumour 1 = .ok (.getfield 10, 3) := by decide +kernel
theorem dX7_rumour_4 : decode cX7_rumour 4 = .ok (.iload_n 1, 1) := by decide +kernel
theorem dX7_rumour_5 : decode cX7_rumour 5 = .ok (.invokevirtual 118, 3) := by decide +kernel
theorem dX7_rumour_8 : decode cX7_rumour 8 = .ok (.astore_n 3, 1) := by decide +kernel
theorem dX7_rumour_9 : decode cX7_rumour 9 = .ok (.aload_n 3, 1) := by decide +kernel
theorem dX7_rumour_10 : decode cX7_rumour 10 = .ok (.ifnonnull 5, 3) := by decide +kernel
theorem dX7_rumour_13 : decode cX7_rumour 13 = .ok (.iconst (-1), 1) := by decide +kernel
theorem dX7_rumour_14 : decode cX7_rumour 14 = .ok (.ireturn, 1) := by decide +kernel
theorem dX7_rumour_15 : decode cX7_rumour 15 = .ok (.iload_n 2, 1) := by decide +kernel
theorem dX7_rumour_16 : decode cX7_rumour 16 = .ok (.tableswitch 101 0 6 #[44, 49, 54, 59, 64, 69, 89], 44) := by decide +kernel
theorem dX7_rumour_60 : decode cX7_rumour 60 = .ok (.aload_n 3, 1) := by decide +kernel
theorem dX7_rumour_61 : decode cX7_rumour 61 = .ok (.getfield 169, 3) := by decide +kernel
theorem dX7_rumour_64 : decode cX7_rumour 64 = .ok (.ireturn, 1) := by decide +kernel
theorem dX7_rumour_65 : decode cX7_rumour 65 = .ok (.aload_n 3, 1) := by decide +kernel
theorem dX7_rumour_66 : decode cX7_rumour 66 = .ok (.getfield 172, 3) := by decide +kernel
theorem dX7_rumour_69 : decode cX7_rumour 69 = .ok (.ireturn, 1) := by decide +kernel
theorem dX7_rumour_70 : decode cX7_rumour 70 = .ok (.aload_n 3, 1) := by decide +kernel
theorem dX7_rumour_71 : decode cX7_rumour 71 = .ok (.getfield 175, 3) := by decide +kernel
theorem dX7_rumour_74 : decode cX7_rumour 74 = .ok (.ireturn, 1) := by decide +kernel
theorem dX7_rumour_75 : decode cX7_rumour 75 = .ok (.aload_n 3, 1) := by decide +kernel
theorem dX7_rumour_76 : decode cX7_rumour 76 = .ok (.getfield 178, 3) := by decide +kernel
theorem dX7_rumour_79 : decode cX7_rumour 79 = .ok (.ireturn, 1) := by decide +kernel
theorem dX7_rumour_80 : decode cX7_rumour 80 = .ok (.aload_n 3, 1) := by decide +kernel
theorem dX7_rumour_81 : decode cX7_rumour 81 = .ok (.getfield 122, 3) := by decide +kernel
theorem dX7_rumour_84 : decode cX7_rumour 84 = .ok (.ireturn, 1) := by decide +kernel
theorem dX7_rumour_85 : decode cX7_rumour 85 = .ok (.aload_n 3, 1) := by decide +kernel
theorem dX7_rumour_86 : decode cX7_rumour 86 = .ok (.aload_n 0, 1) := by decide +kernel
theorem dX7_rumour_87 : decode cX7_rumour 87 = .ok (.getfield 10, 3) := by decide +kernel
theorem dX7_rumour_90 : decode cX7_rumour 90 = .ok (.getfield 62, 3) := by decide +kernel
theorem dX7_rumour_93 : decode cX7_rumour 93 = .ok (.invokevirtual 181, 3) := by decide +kernel
theorem dX7_rumour_96 : decode cX7_rumour 96 = .ok (.ifCond .eq 7, 3) := by decide +kernel
theorem dX7_rumour_99 : decode cX7_rumour 99 = .ok (.iconst 1, 1) := by decide +kernel
theorem dX7_rumour_100 : decode cX7_rumour 100 = .ok (.goto 4, 3) := by decide +kernel
theorem dX7_rumour_103 : decode cX7_rumour 103 = .ok (.iconst 0, 1) := by decide +kernel
theorem dX7_rumour_104 : decode cX7_rumour 104 = .ok (.ireturn, 1) := by decide +kernel
theorem dX7_rumour_105 : decode cX7_rumour 105 = .ok (.aload_n 0, 1) := by decide +kernel
theorem dX7_rumour_106 : decode cX7_rumour 106 = .ok (.invokevirtual 131, 3) := by decide +kernel
theorem dX7_rumour_109 : decode cX7_rumour 109 = .ok (.getfield 185, 3) := by decide +kernel
theorem dX7_rumour_112 : decode cX7_rumour 112 = .ok (.iload_n 1, 1) := by decide +kernel
theorem dX7_rumour_113 : decode cX7_rumour 113 = .ok (.invokestatic 66, 3) := by decide +kernel
theorem dX7_rumour_116 : decode cX7_rumour 116 = .ok (.ireturn, 1) := by decide +kernel
theorem dX7_rumour_117 : decode cX7_rumour 117 = .ok (.bipush (-2), 2) := by decide +kernel
theorem dX7_rumour_119 : decode cX7_rumour 119 = .ok (.ireturn, 1) := by decide +kernel
theorem dX7_count_0 : decode cX7_count 0 = .ok (.iload_n 1, 1) := by decide +kernel
theorem dX7_count_1 : decode cX7_count 1 = .ok (.tableswitch 180 0 10 #[59, 67, 75, 83, 91, 117, 125, 140, 152, 164, 172], 59) := by decide +kernel
theorem dX7_count_60 : decode cX7_count 60 = .ok (.aload_n 0, 1) := by decide +kernel
theorem dX7_count_61 : decode cX7_count 61 = .ok (.getfield 10, 3) := by decide +kernel
theorem dX7_count_64 : decode cX7_count 64 = .ok (.getfield 51, 3) := by decide +kernel
theorem dX7_count_67 : decode cX7_count 67 = .ok (.ireturn, 1) := by decide +kernel
theorem dX7_count_68 : decode cX7_count 68 = .ok (.aload_n 0, 1) := by decide +kernel
theorem dX7_count_69 : decode cX7_count 69 = .ok (.getfield 10, 3) := by decide +kernel
theorem dX7_count_72 : decode cX7_count 72 = .ok (.getfield 85, 3) := by decide +kernel
theorem dX7_count_75 : decode cX7_count 75 = .ok (.ireturn, 1) := by decide +kernel
theorem dX7_count_76 : decode cX7_count 76 = .ok (.aload_n 0, 1) := by decide +kernel
theorem dX7_count_77 : decode cX7_count 77 = .ok (.getfield 10, 3) := by decide +kernel
theorem dX7_count_80 : decode cX7_count 80 = .ok (.invokevirtual 188, 3) := by decide +kernel
theorem dX7_count_83 : decode cX7_count 83 = .ok (.ireturn, 1) := by decide +kernel
theorem dX7_count_84 : decode cX7_count 84 = .ok (.aload_n 0, 1) := by decide +kernel
theorem dX7_count_85 : decode cX7_count 85 = .ok (.invokevirtual 131, 3) := by decide +kernel
theorem dX7_count_88 : decode cX7_count 88 = .ok (.getfield 135, 3) := by decide +kernel
theorem dX7_count_91 : decode cX7_count 91 = .ok (.ireturn, 1) := by decide +kernel
theorem dX7_count_92 : decode cX7_count 92 = .ok (.aload_n 0, 1) := by decide +kernel
theorem dX7_count_93 : decode cX7_count 93 = .ok (.getfield 10, 3) := by decide +kernel
theorem dX7_count_96 : decode cX7_count 96 = .ok (.iconst 0, 1) := by decide +kernel
theorem dX7_count_97 : decode cX7_count 97 = .ok (.aload_n 0, 1) := by decide +kernel
theorem dX7_count_98 : decode cX7_count 98 = .ok (.getfield 10, 3) := by decide +kernel
theorem dX7_count_101 : decode cX7_count 101 = .ok (.getfield 62, 3) := by decide +kernel
theorem dX7_count_104 : decode cX7_count 104 = .ok (.invokevirtual 191, 3) := by decide +kernel
theorem dX7_count_107 : decode cX7_count 107 = .ok (.bipush (-6), 2) := by decide +kernel
theorem dX7_count_109 : decode cX7_count 109 = .ok (.if_icmp .ne 7, 3) := by decide +kernel
theorem dX7_count_112 : decode cX7_count 112 = .ok (.iconst 1, 1) := by decide +kernel
theorem dX7_count_113 : decode cX7_count 113 = .ok (.goto 4, 3) := by decide +kernel
theorem dX7_count_116 : decode cX7_count 116 = .ok (.iconst 0, 1) := by decide +kernel
theorem dX7_count_117 : decode cX7_count 117 = .ok (.ireturn, 1) := by decide +kernel
theorem dX7_count_118 : decode cX7_count 118 = .ok (.aload_n 0, 1) := by decide +kernel
theorem dX7_count_119 : decode cX7_count 119 = .ok (.getfield 10, 3) := by decide +kernel
theorem dX7_count_122 : decode cX7_count 122 = .ok (.getfield 157, 3) := by decide +kernel
theorem dX7_count_125 : decode cX7_count 125 = .ok (.ireturn, 1) := by decide +kernel
theorem dX7_count_126 : decode cX7_count 126 = .ok (.aload_n 0, 1) := by decide +kernel
theorem dX7_count_127 : decode cX7_count 127 = .ok (.invokevirtual 131, 3) := by decide +kernel
theorem dX7_count_130 : decode cX7_count 130 = .ok (.aload_n 0, 1) := by decide +kernel
theorem dX7_count_131 : decode cX7_count 131 = .ok (.getfield 10, 3) := by decide +kernel
theorem dX7_count_134 : decode cX7_count 134 = .ok (.getfield 51, 3) := by decide +kernel
theorem dX7_count_137 : decode cX7_count 137 = .ok (.invokevirtual 195, 3) := by decide +kernel
theorem dX7_count_140 : decode cX7_count 140 = .ok (.ireturn, 1) := by decide +kernel
theorem dX7_count_141 : decode cX7_count 141 = .ok (.aload_n 0, 1) := by decide +kernel
theorem dX7_count_142 : decode cX7_count 142 = .ok (.invokevirtual 131, 3) := by decide +kernel
theorem dX7_count_145 : decode cX7_count 145 = .ok (.aload_n 0, 1) := by decide +kernel
theorem dX7_count_146 : decode cX7_count 146 = .ok (.getfield 10, 3) := by decide +kernel
theorem dX7_count_149 : decode cX7_count 149 = .ok (.invokevirtual 198, 3) := by decide +kernel
theorem dX7_count_152 : decode cX7_count 152 = .ok (.ireturn, 1) := by decide +kernel
theorem dX7_count_153 : decode cX7_count 153 = .ok (.aload_n 0, 1) := by decide +kernel
theorem dX7_count_154 : decode cX7_count 154 = .ok (.invokevirtual 131, 3) := by decide +kernel
theorem dX7_count_157 : decode cX7_count 157 = .ok (.aload_n 0, 1) := by decide +kernel
theorem dX7_count_158 : decode cX7_count 158 = .ok (.getfield 10, 3) := by decide +kernel
theorem dX7_count_161 : decode cX7_count 161 = .ok (.invokevirtual 202, 3) := by decide +kernel
theorem dX7_count_164 : decode cX7_count 164 = .ok (.ireturn, 1) := by decide +kernel
theorem dX7_count_165 : decode cX7_count 165 = .ok (.aload_n 0, 1) := by decide +kernel
theorem dX7_count_166 : decode cX7_count 166 = .ok (.getfield 36, 3) := by decide +kernel
theorem dX7_count_169 : decode cX7_count 169 = .ok (.getfield 205, 3) := by decide +kernel
theorem dX7_count_172 : decode cX7_count 172 = .ok (.ireturn, 1) := by decide +kernel
theorem dX7_count_173 : decode cX7_count 173 = .ok (.aload_n 0, 1) := by decide +kernel
theorem dX7_count_174 : decode cX7_count 174 = .ok (.getfield 19, 3) := by decide +kernel
theorem dX7_count_177 : decode cX7_count 177 = .ok (.getfield 208, 3) := by decide +kernel
theorem dX7_count_180 : decode cX7_count 180 = .ok (.ireturn, 1) := by decide +kernel
theorem dX7_count_181 : decode cX7_count 181 = .ok (.bipush (-2), 2) := by decide +kernel
theorem dX7_count_183 : decode cX7_count 183 = .ok (.ireturn, 1) := by decide +kernel
theorem dX7_possible_0 : decode cX7_possible 0 = .ok (.aload_n 0, 1) := by decide +kernel
theorem dX7_possible_1 : decode cX7_possible 1 = .ok (.getfield 10, 3) := by decide +kernel
theorem dX7_possible_4 : decode cX7_possible 4 = .ok (.iload_n 1, 1) := by decide +kernel
theorem dX7_possible_5 : decode cX7_possible 5 = .ok (.invokevirtual 58, 3) := by decide +kernel
theorem dX7_possible_8 : decode cX7_possible 8 = .ok (.ifCond .eq 14, 3) := by decide +kernel
theorem dX7_possible_11 : decode cX7_possible 11 = .ok (.aload_n 0, 1) := by decide +kernel
theorem dX7_possible_12 : decode cX7_possible 12 = .ok (.getfield 10, 3) := by decide +kernel
theorem dX7_possible_15 : decode cX7_possible 15 = .ok (.iload_n 2, 1) := by decide +kernel
theorem dX7_possible_16 : decode cX7_possible 16 = .ok (.invokevirtual 58, 3) := by decide +kernel
theorem dX7_possible_19 : decode cX7_possible 19 = .ok (.ifCond .ne 5, 3) := by decide +kernel
theorem dX7_possible_22 : decode cX7_possible 22 = .ok (.iconst (-1), 1) := by decide +kernel
theorem dX7_possible_23 : decode cX7_possible 23 = .ok (.ireturn, 1) := by decide +kernel
theorem dX7_possible_24 : decode cX7_possible 24 = .ok (.aload_n 0, 1) := by decide +kernel
theorem dX7_possible_25 : decode cX7_possible 25 = .ok (.invokevirtual 131, 3) := by decide +kernel
theorem dX7_possible_28 : decode cX7_possible 28 = .ok (.iload_n 1, 1) := by decide +kernel
theorem dX7_possible_29 : decode cX7_possible 29 = .ok (.iload_n 2, 1) := by decide +kernel
theorem dX7_possible_30 : decode cX7_possible 30 = .ok (.invokevirtual 211, 3) := by decide +kernel
theorem dX7_possible_33 : decode cX7_possible 33 = .ok (.ireturn, 1) := by decide +kernel
theorem dX7_certain_0 : decode cX7_certain 0 = .ok (.aload_n 0, 1) := by decide +kernel
theorem dX7_certain_1 : decode cX7_certain 1 = .ok (.getfield 10, 3) := by decide +kernel
theorem dX7_certain_4 : decode cX7_certain 4 = .ok (.iload_n 1, 1) := by decide +kernel
theorem dX7_certain_5 : decode cX7_certain 5 = .ok (.invokevirtual 58, 3) := by decide +kernel
theorem dX7_certain_8 : decode cX7_certain 8 = .ok (.ifCond .ne 5, 3) := by decide +kernel
theorem dX7_certain_11 : decode cX7_certain 11 = .ok (.iconst (-1), 1) := by decide +kernel
theorem dX7_certain_12 : decode cX7_certain 12 = .ok (.ireturn, 1) := by decide +kernel
theorem dX7_certain_13 : decode cX7_certain 13 = .ok (.aload_n 0, 1) := by decide +kernel
theorem dX7_certain_14 : decode cX7_certain 14 = .ok (.invokevirtual 131, 3) := by decide +kernel
theorem dX7_certain_17 : decode cX7_certain 17 = .ok (.iload_n 1, 1) := by decide +kernel
theorem dX7_certain_18 : decode cX7_certain 18 = .ok (.invokevirtual 215, 3) := by decide +kernel
theorem dX7_certain_21 : decode cX7_certain 21 = .ok (.ireturn, 1) := by decide +kernel
theorem dX7_world_0 : decode cX7_world 0 = .ok (.aload_n 0, 1) := by decide +kernel
theorem dX7_world_1 : decode cX7_world 1 = .ok (.getfield 10, 3) := by decide +kernel
theorem dX7_world_4 : decode cX7_world 4 = .ok (.iload_n 2, 1) := by decide +kernel
theorem dX7_world_5 : decode cX7_world 5 = .ok (.invokevirtual 58, 3) := by decide +kernel
theorem dX7_world_8 : decode cX7_world 8 = .ok (.ifCond .ne 5, 3) := by decide +kernel
theorem dX7_world_11 : decode cX7_world 11 = .ok (.iconst (-1), 1) := by decide +kernel
theorem dX7_world_12 : decode cX7_world 12 = .ok (.ireturn, 1) := by decide +kernel
theorem dX7_world_13 : decode cX7_world 13 = .ok (.aload_n 0, 1) := by decide +kernel
theorem dX7_world_14 : decode cX7_world 14 = .ok (.getfield 43, 3) := by decide +kernel
theorem dX7_world_17 : decode cX7_world 17 = .ok (.aload_n 0, 1) := by decide +kernel
theorem dX7_world_18 : decode cX7_world 18 = .ok (.getfield 10, 3) := by decide +kernel
theorem dX7_world_21 : decode cX7_world 21 = .ok (.iload_n 1, 1) := by decide +kernel
theorem dX7_world_22 : decode cX7_world 22 = .ok (.iload_n 2, 1) := by decide +kernel
theorem dX7_world_23 : decode cX7_world 23 = .ok (.invokevirtual 218, 3) := by decide +kernel
theorem dX7_world_26 : decode cX7_world 26 = .ok (.ireturn, 1) := by decide +kernel
theorem dX7_ifProved_0 : decode cX7_ifProved 0 = .ok (.aload_n 0, 1) := by decide +kernel
theorem dX7_ifProved_1 : decode cX7_ifProved 1 = .ok (.getfield 10, 3) := by decide +kernel
theorem dX7_ifProved_4 : decode cX7_ifProved 4 = .ok (.iload_n 1, 1) := by decide +kernel
theorem dX7_ifProved_5 : decode cX7_ifProved 5 = .ok (.iload_n 2, 1) := by decide +kernel
theorem dX7_ifProved_6 : decode cX7_ifProved 6 = .ok (.iload_n 3, 1) := by decide +kernel
theorem dX7_ifProved_7 : decode cX7_ifProved 7 = .ok (.invokevirtual 74, 3) := by decide +kernel
theorem dX7_ifProved_10 : decode cX7_ifProved 10 = .ok (.ifCond .ne 6, 3) := by decide +kernel
theorem dX7_ifProved_13 : decode cX7_ifProved 13 = .ok (.bipush (-2), 2) := by decide +kernel
theorem dX7_ifProved_15 : decode cX7_ifProved 15 = .ok (.ireturn, 1) := by decide +kernel
theorem dX7_ifProved_16 : decode cX7_ifProved 16 = .ok (.aload_n 0, 1) := by decide +kernel
theorem dX7_ifProved_17 : decode cX7_ifProved 17 = .ok (.getfield 43, 3) := by decide +kernel
theorem dX7_ifProved_20 : decode cX7_ifProved 20 = .ok (.aload_n 0, 1) := by decide +kernel
theorem dX7_ifProved_21 : decode cX7_ifProved 21 = .ok (.getfield 10, 3) := by decide +kernel
theorem dX7_ifProved_24 : decode cX7_ifProved 24 = .ok (.iload_n 1, 1) := by decide +kernel
theorem dX7_ifProved_25 : decode cX7_ifProved 25 = .ok (.iload_n 2, 1) := by decide +kernel
theorem dX7_ifProved_26 : decode cX7_ifProved 26 = .ok (.iload_n 3, 1) := by decide +kernel
theorem dX7_ifProved_27 : decode cX7_ifProved 27 = .ok (.invokevirtual 222, 3) := by decide +kernel
theorem dX7_ifProved_30 : decode cX7_ifProved 30 = .ok (.ireturn, 1) := by decide +kernel
theorem dX7_sharpest_0 : decode cX7_sharpest 0 = .ok (.iload_n 1, 1) := by decide +kernel
theorem dX7_sharpest_1 : decode cX7_sharpest 1 = .ok (.ifCond .eq 11, 3) := by decide +kernel
theorem dX7_sharpest_4 : decode cX7_sharpest 4 = .ok (.iload_n 1, 1) := by decide +kernel
theorem dX7_sharpest_5 : decode cX7_sharpest 5 = .ok (.iconst 1, 1) := by decide +kernel
theorem dX7_sharpest_6 : decode cX7_sharpest 6 = .ok (.if_icmp .eq 6, 3) := by decide +kernel
theorem dX7_sharpest_9 : decode cX7_sharpest 9 = .ok (.bipush (-2), 2) := by decide +kernel
theorem dX7_sharpest_11 : decode cX7_sharpest 11 = .ok (.ireturn, 1) := by decide +kernel
theorem dX7_sharpest_12 : decode cX7_sharpest 12 = .ok (.aload_n 0, 1) := by decide +kernel
theorem dX7_sharpest_13 : decode cX7_sharpest 13 = .ok (.invokevirtual 131, 3) := by decide +kernel
theorem dX7_sharpest_16 : decode cX7_sharpest 16 = .ok (.aload_n 0, 1) := by decide +kernel
theorem dX7_sharpest_17 : decode cX7_sharpest 17 = .ok (.getfield 10, 3) := by decide +kernel
theorem dX7_sharpest_20 : decode cX7_sharpest 20 = .ok (.invokevirtual 226, 3) := by decide +kernel
theorem dX7_sharpest_23 : decode cX7_sharpest 23 = .ok (.istore_n 2, 1) := by decide +kernel
theorem dX7_sharpest_24 : decode cX7_sharpest 24 = .ok (.iload_n 2, 1) := by decide +kernel
theorem dX7_sharpest_25 : decode cX7_sharpest 25 = .ok (.bipush (-6), 2) := by decide +kernel
theorem dX7_sharpest_27 : decode cX7_sharpest 27 = .ok (.if_icmp .eq 7, 3) := by decide +kernel
theorem dX7_sharpest_30 : decode cX7_sharpest 30 = .ok (.iload_n 1, 1) := by decide +kernel
theorem dX7_sharpest_31 : decode cX7_sharpest 31 = .ok (.ifCond .ne 5, 3) := by decide +kernel
theorem dX7_sharpest_34 : decode cX7_sharpest 34 = .ok (.iload_n 2, 1) := by decide +kernel
theorem dX7_sharpest_35 : decode cX7_sharpest 35 = .ok (.ireturn, 1) := by decide +kernel
theorem dX7_sharpest_36 : decode cX7_sharpest 36 = .ok (.aload_n 0, 1) := by decide +kernel
theorem dX7_sharpest_37 : decode cX7_sharpest 37 = .ok (.getfield 43, 3) := by decide +kernel
theorem dX7_sharpest_40 : decode cX7_sharpest 40 = .ok (.iload_n 2, 1) := by decide +kernel
theorem dX7_sharpest_41 : decode cX7_sharpest 41 = .ok (.invokevirtual 229, 3) := by decide +kernel
theorem dX7_sharpest_44 : decode cX7_sharpest 44 = .ok (.ireturn, 1) := by decide +kernel
theorem dX7_blame_0 : decode cX7_blame 0 = .ok (.iload_n 1, 1) := by decide +kernel
theorem dX7_blame_1 : decode cX7_blame 1 = .ok (.ifCond .eq 11, 3) := by decide +kernel
theorem dX7_blame_4 : decode cX7_blame 4 = .ok (.iload_n 1, 1) := by decide +kernel
theorem dX7_blame_5 : decode cX7_blame 5 = .ok (.iconst 1, 1) := by decide +kernel
theorem dX7_blame_6 : decode cX7_blame 6 = .ok (.if_icmp .eq 6, 3) := by decide +kernel
theorem dX7_blame_9 : decode cX7_blame 9 = .ok (.bipush (-2), 2) := by decide +kernel
theorem dX7_blame_11 : decode cX7_blame 11 = .ok (.ireturn, 1) := by decide +kernel
theorem dX7_blame_12 : decode cX7_blame 12 = .ok (.aload_n 0, 1) := by decide +kernel
theorem dX7_blame_13 : decode cX7_blame 13 = .ok (.invokevirtual 131, 3) := by decide +kernel
theorem dX7_blame_16 : decode cX7_blame 16 = .ok (.getfield 135, 3) := by decide +kernel
theorem dX7_blame_19 : decode cX7_blame 19 = .ok (.ifCond .le 6, 3) := by decide +kernel
theorem dX7_blame_22 : decode cX7_blame 22 = .ok (.bipush (-6), 2) := by decide +kernel
theorem dX7_blame_24 : decode cX7_blame 24 = .ok (.ireturn, 1) := by decide +kernel
theorem dX7_blame_25 : decode cX7_blame 25 = .ok (.aload_n 0, 1) := by decide +kernel
theorem dX7_blame_26 : decode cX7_blame 26 = .ok (.getfield 43, 3) := by decide +kernel
theorem dX7_blame_29 : decode cX7_blame 29 = .ok (.aload_n 0, 1) := by decide +kernel
theorem dX7_blame_30 : decode cX7_blame 30 = .ok (.getfield 10, 3) := by decide +kernel
theorem dX7_blame_33 : decode cX7_blame 33 = .ok (.invokevirtual 232, 3) := by decide +kernel
theorem dX7_blame_36 : decode cX7_blame 36 = .ok (.istore_n 2, 1) := by decide +kernel
theorem dX7_blame_37 : decode cX7_blame 37 = .ok (.iload_n 2, 1) := by decide +kernel
theorem dX7_blame_38 : decode cX7_blame 38 = .ok (.bipush (-6), 2) := by decide +kernel
theorem dX7_blame_40 : decode cX7_blame 40 = .ok (.if_icmp .eq 7, 3) := by decide +kernel
theorem dX7_blame_43 : decode cX7_blame 43 = .ok (.iload_n 1, 1) := by decide +kernel
theorem dX7_blame_44 : decode cX7_blame 44 = .ok (.ifCond .ne 5, 3) := by decide +kernel
theorem dX7_blame_47 : decode cX7_blame 47 = .ok (.iload_n 2, 1) := by decide +kernel
theorem dX7_blame_48 : decode cX7_blame 48 = .ok (.ireturn, 1) := by decide +kernel
theorem dX7_blame_49 : decode cX7_blame 49 = .ok (.aload_n 0, 1) := by decide +kernel
theorem dX7_blame_50 : decode cX7_blame 50 = .ok (.getfield 43, 3) := by decide +kernel
theorem dX7_blame_53 : decode cX7_blame 53 = .ok (.getfield 235, 3) := by decide +kernel
theorem dX7_blame_56 : decode cX7_blame 56 = .ok (.iload_n 2, 1) := by decide +kernel
theorem dX7_blame_57 : decode cX7_blame 57 = .ok (.invokestatic 66, 3) := by decide +kernel
theorem dX7_blame_60 : decode cX7_blame 60 = .ok (.ireturn, 1) := by decide +kernel
theorem dX7_mostWatched_0 : decode cX7_mostWatched 0 = .ok (.iload_n 1, 1) := by decide +kernel
theorem dX7_mostWatched_1 : decode cX7_mostWatched 1 = .ok (.ifCond .eq 11, 3) := by decide +kernel
theorem dX7_mostWatched_4 : decode cX7_mostWatched 4 = .ok (.iload_n 1, 1) := by decide +kernel
theorem dX7_mostWatched_5 : decode cX7_mostWatched 5 = .ok (.iconst 1, 1) := by decide +kernel
theorem dX7_mostWatched_6 : decode cX7_mostWatched 6 = .ok (.if_icmp .eq 6, 3) := by decide +kernel
theorem dX7_mostWatched_9 : decode cX7_mostWatched 9 = .ok (.bipush (-2), 2) := by decide +kernel
theorem dX7_mostWatched_11 : decode cX7_mostWatched 11 = .ok (.ireturn, 1) := by decide +kernel
theorem dX7_mostWatched_12 : decode cX7_mostWatched 12 = .ok (.aload_n 0, 1) := by decide +kernel
theorem dX7_mostWatched_13 : decode cX7_mostWatched 13 = .ok (.getfield 43, 3) := by decide +kernel
theorem dX7_mostWatched_16 : decode cX7_mostWatched 16 = .ok (.aload_n 0, 1) := by decide +kernel
theorem dX7_mostWatched_17 : decode cX7_mostWatched 17 = .ok (.getfield 10, 3) := by decide +kernel
theorem dX7_mostWatched_20 : decode cX7_mostWatched 20 = .ok (.invokevirtual 238, 3) := by decide +kernel
theorem dX7_mostWatched_23 : decode cX7_mostWatched 23 = .ok (.aload_n 0, 1) := by decide +kernel
theorem dX7_mostWatched_24 : decode cX7_mostWatched 24 = .ok (.getfield 43, 3) := by decide +kernel
theorem dX7_mostWatched_27 : decode cX7_mostWatched 27 = .ok (.getfield 242, 3) := by decide +kernel
theorem dX7_mostWatched_30 : decode cX7_mostWatched 30 = .ok (.ifCond .ne 6, 3) := by decide +kernel
theorem dX7_mostWatched_33 : decode cX7_mostWatched 33 = .ok (.bipush (-6), 2) := by decide +kernel
theorem dX7_mostWatched_35 : decode cX7_mostWatched 35 = .ok (.ireturn, 1) := by decide +kernel
theorem dX7_mostWatched_36 : decode cX7_mostWatched 36 = .ok (.iload_n 1, 1) := by decide +kernel
theorem dX7_mostWatched_37 : decode cX7_mostWatched 37 = .ok (.ifCond .ne 13, 3) := by decide +kernel
theorem dX7_mostWatched_40 : decode cX7_mostWatched 40 = .ok (.aload_n 0, 1) := by decide +kernel
theorem dX7_mostWatched_41 : decode cX7_mostWatched 41 = .ok (.getfield 43, 3) := by decide +kernel
theorem dX7_mostWatched_44 : decode cX7_mostWatched 44 = .ok (.getfield 245, 3) := by decide +kernel
theorem dX7_mostWatched_47 : decode cX7_mostWatched 47 = .ok (.goto 10, 3) := by decide +kernel
theorem dX7_mostWatched_50 : decode cX7_mostWatched 50 = .ok (.aload_n 0, 1) := by decide +kernel
theorem dX7_mostWatched_51 : decode cX7_mostWatched 51 = .ok (.getfield 43, 3) := by decide +kernel
theorem dX7_mostWatched_54 : decode cX7_mostWatched 54 = .ok (.getfield 242, 3) := by decide +kernel
theorem dX7_mostWatched_57 : decode cX7_mostWatched 57 = .ok (.ireturn, 1) := by decide +kernel
theorem dX7_put_0 : decode cX7_put 0 = .ok (.lload_n 1, 1) := by decide +kernel
theorem dX7_put_1 : decode cX7_put 1 = .ok (.invokestatic 248, 3) := by decide +kernel
theorem dX7_put_4 : decode cX7_put 4 = .ok (.istore_n 3, 1) := by decide +kernel
theorem dX7_put_5 : decode cX7_put 5 = .ok (.iload_n 3, 1) := by decide +kernel
theorem dX7_put_6 : decode cX7_put 6 = .ok (.ifCond .ne 6, 3) := by decide +kernel
theorem dX7_put_9 : decode cX7_put 9 = .ok (.bipush (-2), 2) := by decide +kernel
theorem dX7_put_11 : decode cX7_put 11 = .ok (.ireturn, 1) := by decide +kernel
theorem dX7_put_12 : decode cX7_put 12 = .ok (.aload_n 0, 1) := by decide +kernel
theorem dX7_put_13 : decode cX7_put 13 = .ok (.getfield 36, 3) := by decide +kernel
theorem dX7_put_16 : decode cX7_put 16 = .ok (.getfield 205, 3) := by decide +kernel
theorem dX7_put_19 : decode cX7_put 19 = .ok (.iload_n 3, 1) := by decide +kernel
theorem dX7_put_20 : decode cX7_put 20 = .ok (.iadd, 1) := by decide +kernel
theorem dX7_put_21 : decode cX7_put 21 = .ok (.bipush 60, 2) := by decide +kernel
theorem dX7_put_23 : decode cX7_put 23 = .ok (.if_icmp .le 6, 3) := by decide +kernel
theorem dX7_put_26 : decode cX7_put 26 = .ok (.bipush (-4), 2) := by decide +kernel
theorem dX7_put_28 : decode cX7_put 28 = .ok (.ireturn, 1) := by decide +kernel
theorem dX7_put_29 : decode cX7_put 29 = .ok (.iload_n 3, 1) := by decide +kernel
theorem dX7_put_30 : decode cX7_put 30 = .ok (.iconst 1, 1) := by decide +kernel
theorem dX7_put_31 : decode cX7_put 31 = .ok (.isub, 1) := by decide +kernel
theorem dX7_put_32 : decode cX7_put 32 = .ok (.istore 4, 2) := by decide +kernel
theorem dX7_put_34 : decode cX7_put 34 = .ok (.iload 4, 2) := by decide +kernel
theorem dX7_put_36 : decode cX7_put 36 = .ok (.ifCond .lt 29, 3) := by decide +kernel
theorem dX7_put_39 : decode cX7_put 39 = .ok (.aload_n 0, 1) := by decide +kernel
theorem dX7_put_40 : decode cX7_put 40 = .ok (.getfield 36, 3) := by decide +kernel
theorem dX7_put_43 : decode cX7_put 43 = .ok (.lload_n 1, 1) := by decide +kernel
theorem dX7_put_44 : decode cX7_put 44 = .ok (.bipush 8, 2) := by decide +kernel
theorem dX7_put_46 : decode cX7_put 46 = .ok (.iload 4, 2) := by decide +kernel
theorem dX7_put_48 : decode cX7_put 48 = .ok (.imul, 1) := by decide +kernel
theorem dX7_put_49 : decode cX7_put 49 = .ok (.lushr, 1) := by decide +kernel
theorem dX7_put_50 : decode cX7_put 50 = .ok (.ldc2_w 252, 3) := by decide +kernel
theorem dX7_put_53 : decode cX7_put 53 = .ok (.land, 1) := by decide +kernel
theorem dX7_put_54 : decode cX7_put 54 = .ok (.l2i, 1) := by decide +kernel
theorem dX7_put_55 : decode cX7_put 55 = .ok (.i2c, 1) := by decide +kernel
theorem dX7_put_56 : decode cX7_put 56 = .ok (.invokevirtual 254, 3) := by decide +kernel
theorem dX7_put_59 : decode cX7_put 59 = .ok (.iinc 4 (-1), 3) := by decide +kernel
theorem dX7_put_62 : decode cX7_put 62 = .ok (.goto (-28), 3) := by decide +kernel
theorem dX7_put_65 : decode cX7_put 65 = .ok (.aload_n 0, 1) := by decide +kernel
theorem dX7_put_66 : decode cX7_put 66 = .ok (.getfield 36, 3) := by decide +kernel
theorem dX7_put_69 : decode cX7_put 69 = .ok (.getfield 205, 3) := by decide +kernel
theorem dX7_put_72 : decode cX7_put 72 = .ok (.ireturn, 1) := by decide +kernel
theorem dX7_wipe_0 : decode cX7_wipe 0 = .ok (.aload_n 0, 1) := by decide +kernel
theorem dX7_wipe_1 : decode cX7_wipe 1 = .ok (.getfield 36, 3) := by decide +kernel
theorem dX7_wipe_4 : decode cX7_wipe 4 = .ok (.getfield 205, 3) := by decide +kernel
theorem dX7_wipe_7 : decode cX7_wipe 7 = .ok (.istore_n 1, 1) := by decide +kernel
theorem dX7_wipe_8 : decode cX7_wipe 8 = .ok (.aload_n 0, 1) := by decide +kernel
theorem dX7_wipe_9 : decode cX7_wipe 9 = .ok (.getfield 36, 3) := by decide +kernel
theorem dX7_wipe_12 : decode cX7_wipe 12 = .ok (.invokevirtual 115, 3) := by decide +kernel
theorem dX7_wipe_15 : decode cX7_wipe 15 = .ok (.iload_n 1, 1) := by decide +kernel
theorem dX7_wipe_16 : decode cX7_wipe 16 = .ok (.ireturn, 1) := by decide +kernel
theorem dX7_fault_0 : decode cX7_fault 0 = .ok (.aload_n 0, 1) := by decide +kernel
theorem dX7_fault_1 : decode cX7_fault 1 = .ok (.getfield 36, 3) := by decide +kernel
theorem dX7_fault_4 : decode cX7_fault 4 = .ok (.invokevirtual 88, 3) := by decide +kernel
theorem dX7_fault_7 : decode cX7_fault 7 = .ok (.ireturn, 1) := by decide +kernel
theorem dX7_undo_0 : decode cX7_undo 0 = .ok (.aload_n 0, 1) := by decide +kernel
theorem dX7_undo_1 : decode cX7_undo 1 = .ok (.getfield 19, 3) := by decide +kernel
theorem dX7_undo_4 : decode cX7_undo 4 = .ok (.getfield 208, 3) := by decide +kernel
theorem dX7_undo_7 : decode cX7_undo 7 = .ok (.ifCond .ne 6, 3) := by decide +kernel
theorem dX7_undo_10 : decode cX7_undo 10 = .ok (.bipush (-5), 2) := by decide +kernel
theorem dX7_undo_12 : decode cX7_undo 12 = .ok (.ireturn, 1) := by decide +kernel
theorem dX7_undo_13 : decode cX7_undo 13 = .ok (.aload_n 0, 1) := by decide +kernel
theorem dX7_undo_14 : decode cX7_undo 14 = .ok (.getfield 19, 3) := by decide +kernel
theorem dX7_undo_17 : decode cX7_undo 17 = .ok (.aload_n 0, 1) := by decide +kernel
theorem dX7_undo_18 : decode cX7_undo 18 = .ok (.getfield 10, 3) := by decide +kernel
theorem dX7_undo_21 : decode cX7_undo 21 = .ok (.invokevirtual 258, 3) := by decide +kernel
theorem dX7_undo_24 : decode cX7_undo 24 = .ok (.aload_n 0, 1) := by decide +kernel
theorem dX7_undo_25 : decode cX7_undo 25 = .ok (.iconst 0, 1) := by decide +kernel
theorem dX7_undo_26 : decode cX7_undo 26 = .ok (.putfield 261, 3) := by decide +kernel
theorem dX7_undo_29 : decode cX7_undo 29 = .ok (.aload_n 0, 1) := by decide +kernel
theorem dX7_undo_30 : decode cX7_undo 30 = .ok (.getfield 19, 3) := by decide +kernel
theorem dX7_undo_33 : decode cX7_undo 33 = .ok (.getfield 208, 3) := by decide +kernel
theorem dX7_undo_36 : decode cX7_undo 36 = .ok (.ireturn, 1) := by decide +kernel
theorem dX7_save_0 : decode cX7_save 0 = .ok (.aload_n 0, 1) := by decide +kernel
theorem dX7_save_1 : decode cX7_save 1 = .ok (.iload_n 1, 1) := by decide +kernel
theorem dX7_save_2 : decode cX7_save 2 = .ok (.invokevirtual 265, 3) := by decide +kernel
theorem dX7_save_5 : decode cX7_save 5 = .ok (.astore_n 2, 1) := by decide +kernel
theorem dX7_save_6 : decode cX7_save 6 = .ok (.aload_n 2, 1) := by decide +kernel
theorem dX7_save_7 : decode cX7_save 7 = .ok (.ifnonnull 6, 3) := by decide +kernel
theorem dX7_save_10 : decode cX7_save 10 = .ok (.bipush (-2), 2) := by decide +kernel
theorem dX7_save_12 : decode cX7_save 12 = .ok (.ireturn, 1) := by decide +kernel
theorem dX7_save_13 : decode cX7_save 13 = .ok (.aload_n 2, 1) := by decide +kernel
theorem dX7_save_14 : decode cX7_save 14 = .ok (.getfield 269, 3) := by decide +kernel
theorem dX7_save_17 : decode cX7_save 17 = .ok (.aload_n 0, 1) := by decide +kernel
theorem dX7_save_18 : decode cX7_save 18 = .ok (.getfield 10, 3) := by decide +kernel
theorem dX7_save_21 : decode cX7_save 21 = .ok (.invokevirtual 272, 3) := by decide +kernel
theorem dX7_save_24 : decode cX7_save 24 = .ok (.aload_n 2, 1) := by decide +kernel
theorem dX7_save_25 : decode cX7_save 25 = .ok (.iconst 1, 1) := by decide +kernel
theorem dX7_save_26 : decode cX7_save 26 = .ok (.putfield 275, 3) := by decide +kernel
theorem dX7_save_29 : decode cX7_save 29 = .ok (.aload_n 0, 1) := by decide +kernel
theorem dX7_save_30 : decode cX7_save 30 = .ok (.getfield 10, 3) := by decide +kernel
theorem dX7_save_33 : decode cX7_save 33 = .ok (.getfield 85, 3) := by decide +kernel
theorem dX7_save_36 : decode cX7_save 36 = .ok (.ireturn, 1) := by decide +kernel
theorem dX7_restore_0 : decode cX7_restore 0 = .ok (.aload_n 0, 1) := by decide +kernel
theorem dX7_restore_1 : decode cX7_restore 1 = .ok (.iload_n 1, 1) := by decide +kernel
theorem dX7_restore_2 : decode cX7_restore 2 = .ok (.invokevirtual 265, 3) := by decide +kernel
theorem dX7_restore_5 : decode cX7_restore 5 = .ok (.astore_n 2, 1) := by decide +kernel
theorem dX7_restore_6 : decode cX7_restore 6 = .ok (.aload_n 2, 1) := by decide +kernel
theorem dX7_restore_7 : decode cX7_restore 7 = .ok (.ifnonnull 6, 3) := by decide +kernel
theorem dX7_restore_10 : decode cX7_restore 10 = .ok (.bipush (-2), 2) := by decide +kernel
theorem dX7_restore_12 : decode cX7_restore 12 = .ok (.ireturn, 1) := by decide +kernel
theorem dX7_restore_13 : decode cX7_restore 13 = .ok (.aload_n 2, 1) := by decide +kernel
theorem dX7_restore_14 : decode cX7_restore 14 = .ok (.getfield 275, 3) := by decide +kernel
theorem dX7_restore_17 : decode cX7_restore 17 = .ok (.ifCond .ne 6, 3) := by decide +kernel
theorem dX7_restore_20 : decode cX7_restore 20 = .ok (.bipush (-5), 2) := by decide +kernel
theorem dX7_restore_22 : decode cX7_restore 22 = .ok (.ireturn, 1) := by decide +kernel
theorem dX7_restore_23 : decode cX7_restore 23 = .ok (.aload_n 0, 1) := by decide +kernel
theorem dX7_restore_24 : decode cX7_restore 24 = .ok (.invokevirtual 55, 3) := by decide +kernel
theorem dX7_restore_27 : decode cX7_restore 27 = .ok (.aload_n 0, 1) := by decide +kernel
theorem dX7_restore_28 : decode cX7_restore 28 = .ok (.getfield 10, 3) := by decide +kernel
theorem dX7_restore_31 : decode cX7_restore 31 = .ok (.aload_n 2, 1) := by decide +kernel
theorem dX7_restore_32 : decode cX7_restore 32 = .ok (.getfield 269, 3) := by decide +kernel
theorem dX7_restore_35 : decode cX7_restore 35 = .ok (.invokevirtual 272, 3) := by decide +kernel
theorem dX7_restore_38 : decode cX7_restore 38 = .ok (.aload_n 0, 1) := by decide +kernel
theorem dX7_restore_39 : decode cX7_restore 39 = .ok (.getfield 10, 3) := by decide +kernel
theorem dX7_restore_42 : decode cX7_restore 42 = .ok (.getfield 85, 3) := by decide +kernel
theorem dX7_restore_45 : decode cX7_restore 45 = .ok (.ireturn, 1) := by decide +kernel
theorem dX7_beginChange_0 : decode cX7_beginChange 0 = .ok (.aload_n 0, 1) := by decide +kernel
theorem dX7_beginChange_1 : decode cX7_beginChange 1 = .ok (.getfield 19, 3) := by decide +kernel
theorem dX7_beginChange_4 : decode cX7_beginChange 4 = .ok (.aload_n 0, 1) := by decide +kernel
theorem dX7_beginChange_5 : decode cX7_beginChange 5 = .ok (.getfield 10, 3) := by decide +kernel
theorem dX7_beginChange_8 : decode cX7_beginChange 8 = .ok (.invokevirtual 278, 3) := by decide +kernel
theorem dX7_beginChange_11 : decode cX7_beginChange 11 = .ok (.aload_n 0, 1) := by decide +kernel
theorem dX7_beginChange_12 : decode cX7_beginChange 12 = .ok (.iconst 0, 1) := by decide +kernel
theorem dX7_beginChange_13 : decode cX7_beginChange 13 = .ok (.putfield 261, 3) := by decide +kernel
theorem dX7_beginChange_16 : decode cX7_beginChange 16 = .ok (.return_, 1) := by decide +kernel
theorem dX7_surveyNow_0 : decode cX7_surveyNow 0 = .ok (.aload_n 0, 1) := by decide +kernel
theorem dX7_surveyNow_1 : decode cX7_surveyNow 1 = .ok (.getfield 261, 3) := by decide +kernel
theorem dX7_surveyNow_4 : decode cX7_surveyNow 4 = .ok (.ifCond .ne 19, 3) := by decide +kernel
theorem dX7_surveyNow_7 : decode cX7_surveyNow 7 = .ok (.aload_n 0, 1) := by decide +kernel
theorem dX7_surveyNow_8 : decode cX7_surveyNow 8 = .ok (.getfield 43, 3) := by decide +kernel
theorem dX7_surveyNow_11 : decode cX7_surveyNow 11 = .ok (.aload_n 0, 1) := by decide +kernel
theorem dX7_surveyNow_12 : decode cX7_surveyNow 12 = .ok (.getfield 10, 3) := by decide +kernel
theorem dX7_surveyNow_15 : decode cX7_surveyNow 15 = .ok (.invokevirtual 281, 3) := by decide +kernel
theorem dX7_surveyNow_18 : decode cX7_surveyNow 18 = .ok (.aload_n 0, 1) := by decide +kernel
theorem dX7_surveyNow_19 : decode cX7_surveyNow 19 = .ok (.iconst 1, 1) := by decide +kernel
theorem dX7_surveyNow_20 : decode cX7_surveyNow 20 = .ok (.putfield 261, 3) := by decide +kernel
theorem dX7_surveyNow_23 : decode cX7_surveyNow 23 = .ok (.aload_n 0, 1) := by decide +kernel
theorem dX7_surveyNow_24 : decode cX7_surveyNow 24 = .ok (.getfield 43, 3) := by decide +kernel
theorem dX7_surveyNow_27 : decode cX7_surveyNow 27 = .ok (.areturn, 1) := by decide +kernel
theorem dX7_slotAt_0 : decode cX7_slotAt 0 = .ok (.iload_n 1, 1) := by decide +kernel
theorem dX7_slotAt_1 : decode cX7_slotAt 1 = .ok (.lookupswitch 37 #[(0, 27), (1, 32)], 27) := by decide +kernel
theorem dX7_slotAt_28 : decode cX7_slotAt 28 = .ok (.aload_n 0, 1) := by decide +kernel
theorem dX7_slotAt_29 : decode cX7_slotAt 29 = .ok (.getfield 26, 3) := by decide +kernel
theorem dX7_slotAt_32 : decode cX7_slotAt 32 = .ok (.areturn, 1) := by decide +kernel
theorem dX7_slotAt_33 : decode cX7_slotAt 33 = .ok (.aload_n 0, 1) := by decide +kernel
theorem dX7_slotAt_34 : decode cX7_slotAt 34 = .ok (.getfield 30, 3) := by decide +kernel
theorem dX7_slotAt_37 : decode cX7_slotAt 37 = .ok (.areturn, 1) := by decide +kernel
theorem dX7_slotAt_38 : decode cX7_slotAt 38 = .ok (.aconst_null, 1) := by decide +kernel
theorem dX7_slotAt_39 : decode cX7_slotAt 39 = .ok (.areturn, 1) := by decide +kernel
theorem dX7_allTellersAreThere_0 : decode cX7_allTellersAreThere 0 = .ok (.iconst 0, 1) := by decide +kernel
theorem dX7_allTellersAreThere_1 : decode cX7_allTellersAreThere 1 = .ok (.istore_n 1, 1) := by decide +kernel
theorem dX7_allTellersAreThere_2 : decode cX7_allTellersAreThere 2 = .ok (.iload_n 1, 1) := by decide +kernel
theorem dX7_allTellersAreThere_3 : decode cX7_allTellersAreThere 3 = .ok (.aload_n 0, 1) := by decide +kernel
theorem dX7_allTellersAreThere_4 : decode cX7_allTellersAreThere 4 = .ok (.getfield 36, 3) := by decide +kernel
theorem dX7_allTellersAreThere_7 : decode cX7_allTellersAreThere 7 = .ok (.invokevirtual 99, 3) := by decide +kernel
theorem dX7_allTellersAreThere_10 : decode cX7_allTellersAreThere 10 = .ok (.if_icmp .ge 29, 3) := by decide +kernel
theorem dX7_allTellersAreThere_13 : decode cX7_allTellersAreThere 13 = .ok (.aload_n 0, 1) := by decide +kernel
theorem dX7_allTellersAreThere_14 : decode cX7_allTellersAreThere 14 = .ok (.getfield 10, 3) := by decide +kernel
theorem dX7_allTellersAreThere_17 : decode cX7_allTellersAreThere 17 = .ok (.aload_n 0, 1) := by decide +kernel
theorem dX7_allTellersAreThere_18 : decode cX7_allTellersAreThere 18 = .ok (.getfield 36, 3) := by decide +kernel
theorem dX7_allTellersAreThere_21 : decode cX7_allTellersAreThere 21 = .ok (.iload_n 1, 1) := by decide +kernel
theorem dX7_allTellersAreThere_22 : decode cX7_allTellersAreThere 22 = .ok (.invokevirtual 102, 3) := by decide +kernel
theorem dX7_allTellersAreThere_25 : decode cX7_allTellersAreThere 25 = .ok (.invokevirtual 58, 3) := by decide +kernel
theorem dX7_allTellersAreThere_28 : decode cX7_allTellersAreThere 28 = .ok (.ifCond .ne 5, 3) := by decide +kernel
theorem dX7_allTellersAreThere_31 : decode cX7_allTellersAreThere 31 = .ok (.iconst 0, 1) := by decide +kernel
theorem dX7_allTellersAreThere_32 : decode cX7_allTellersAreThere 32 = .ok (.ireturn, 1) := by decide +kernel
theorem dX7_allTellersAreThere_33 : decode cX7_allTellersAreThere 33 = .ok (.iinc 1 1, 3) := by decide +kernel
theorem dX7_allTellersAreThere_36 : decode cX7_allTellersAreThere 36 = .ok (.goto (-34), 3) := by decide +kernel
theorem dX7_allTellersAreThere_39 : decode cX7_allTellersAreThere 39 = .ok (.iconst 1, 1) := by decide +kernel
theorem dX7_allTellersAreThere_40 : decode cX7_allTellersAreThere 40 = .ok (.ireturn, 1) := by decide +kernel
theorem dX7_allOnPadSuit_0 : decode cX7_allOnPadSuit 0 = .ok (.iconst 0, 1) := by decide +kernel
theorem dX7_allOnPadSuit_1 : decode cX7_allOnPadSuit 1 = .ok (.istore_n 1, 1) := by decide +kernel
theorem dX7_allOnPadSuit_2 : decode cX7_allOnPadSuit 2 = .ok (.iload_n 1, 1) := by decide +kernel
theorem dX7_allOnPadSuit_3 : decode cX7_allOnPadSuit 3 = .ok (.aload_n 0, 1) := by decide +kernel
theorem dX7_allOnPadSuit_4 : decode cX7_allOnPadSuit 4 = .ok (.getfield 36, 3) := by decide +kernel
theorem dX7_allOnPadSuit_7 : decode cX7_allOnPadSuit 7 = .ok (.invokevirtual 99, 3) := by decide +kernel
theorem dX7_allOnPadSuit_10 : decode cX7_allOnPadSuit 10 = .ok (.if_icmp .ge 45, 3) := by decide +kernel
theorem dX7_allOnPadSuit_13 : decode cX7_allOnPadSuit 13 = .ok (.aload_n 0, 1) := by decide +kernel
theorem dX7_allOnPadSuit_14 : decode cX7_allOnPadSuit 14 = .ok (.getfield 10, 3) := by decide +kernel
theorem dX7_allOnPadSuit_17 : decode cX7_allOnPadSuit 17 = .ok (.aload_n 0, 1) := by decide +kernel
theorem dX7_allOnPadSuit_18 : decode cX7_allOnPadSuit 18 = .ok (.getfield 36, 3) := by decide +kernel
theorem dX7_allOnPadSuit_21 : decode cX7_allOnPadSuit 21 = .ok (.iload_n 1, 1) := by decide +kernel
theorem dX7_allOnPadSuit_22 : decode cX7_allOnPadSuit 22 = .ok (.invokevirtual 106, 3) := by decide +kernel
theorem dX7_allOnPadSuit_25 : decode cX7_allOnPadSuit 25 = .ok (.aload_n 0, 1) := by decide +kernel
theorem dX7_allOnPadSuit_26 : decode cX7_allOnPadSuit 26 = .ok (.getfield 36, 3) := by decide +kernel
theorem dX7_allOnPadSuit_29 : decode cX7_allOnPadSuit 29 = .ok (.iload_n 1, 1) := by decide +kernel
theorem dX7_allOnPadSuit_30 : decode cX7_allOnPadSuit 30 = .ok (.invokevirtual 109, 3) := by decide +kernel
theorem dX7_allOnPadSuit_33 : decode cX7_allOnPadSuit 33 = .ok (.aload_n 0, 1) := by decide +kernel
theorem dX7_allOnPadSuit_34 : decode cX7_allOnPadSuit 34 = .ok (.getfield 36, 3) := by decide +kernel
theorem dX7_allOnPadSuit_37 : decode cX7_allOnPadSuit 37 = .ok (.iload_n 1, 1) := by decide +kernel
theorem dX7_allOnPadSuit_38 : decode cX7_allOnPadSuit 38 = .ok (.invokevirtual 112, 3) := by decide +kernel
theorem dX7_allOnPadSuit_41 : decode cX7_allOnPadSuit 41 = .ok (.invokevirtual 74, 3) := by decide +kernel
theorem dX7_allOnPadSuit_44 : decode cX7_allOnPadSuit 44 = .ok (.ifCond .ne 5, 3) := by decide +kernel
theorem dX7_allOnPadSuit_47 : decode cX7_allOnPadSuit 47 = .ok (.iconst 0, 1) := by decide +kernel
theorem dX7_allOnPadSuit_48 : decode cX7_allOnPadSuit 48 = .ok (.ireturn, 1) := by decide +kernel
theorem dX7_allOnPadSuit_49 : decode cX7_allOnPadSuit 49 = .ok (.iinc 1 1, 3) := by decide +kernel
theorem dX7_allOnPadSuit_52 : decode cX7_allOnPadSuit 52 = .ok (.goto (-50), 3) := by decide +kernel
theorem dX7_allOnPadSuit_55 : decode cX7_allOnPadSuit 55 = .ok (.iconst 1, 1) := by decide +kernel
theorem dX7_allOnPadSuit_56 : decode cX7_allOnPadSuit 56 = .ok (.ireturn, 1) := by decide +kernel
theorem dX7_pointsOfGuess_0 : decode cX7_pointsOfGuess 0 = .ok (.aload_n 0, 1) := by decide +kernel
theorem dX7_pointsOfGuess_1 : decode cX7_pointsOfGuess 1 = .ok (.getfield 10, 3) := by decide +kernel
theorem dX7_pointsOfGuess_4 : decode cX7_pointsOfGuess 4 = .ok (.getfield 62, 3) := by decide +kernel
theorem dX7_pointsOfGuess_7 : decode cX7_pointsOfGuess 7 = .ok (.iload_n 2, 1) := by decide +kernel
theorem dX7_pointsOfGuess_8 : decode cX7_pointsOfGuess 8 = .ok (.invokestatic 66, 3) := by decide +kernel
theorem dX7_pointsOfGuess_11 : decode cX7_pointsOfGuess 11 = .ok (.iload_n 3, 1) := by decide +kernel
theorem dX7_pointsOfGuess_12 : decode cX7_pointsOfGuess 12 = .ok (.if_icmp .ne 22, 3) := by decide +kernel
theorem dX7_pointsOfGuess_15 : decode cX7_pointsOfGuess 15 = .ok (.aload_n 1, 1) := by decide +kernel
theorem dX7_pointsOfGuess_16 : decode cX7_pointsOfGuess 16 = .ok (.aload_n 1, 1) := by decide +kernel
theorem dX7_pointsOfGuess_17 : decode cX7_pointsOfGuess 17 = .ok (.iload_n 2, 1) := by decide +kernel
theorem dX7_pointsOfGuess_18 : decode cX7_pointsOfGuess 18 = .ok (.iload_n 3, 1) := by decide +kernel
theorem dX7_pointsOfGuess_19 : decode cX7_pointsOfGuess 19 = .ok (.invokevirtual 211, 3) := by decide +kernel
theorem dX7_pointsOfGuess_22 : decode cX7_pointsOfGuess 22 = .ok (.invokevirtual 284, 3) := by decide +kernel
theorem dX7_pointsOfGuess_25 : decode cX7_pointsOfGuess 25 = .ok (.ifCond .eq 7, 3) := by decide +kernel
theorem dX7_pointsOfGuess_28 : decode cX7_pointsOfGuess 28 = .ok (.iconst 3, 1) := by decide +kernel
theorem dX7_pointsOfGuess_29 : decode cX7_pointsOfGuess 29 = .ok (.goto 4, 3) := by decide +kernel
theorem dX7_pointsOfGuess_32 : decode cX7_pointsOfGuess 32 = .ok (.iconst 5, 1) := by decide +kernel
theorem dX7_pointsOfGuess_33 : decode cX7_pointsOfGuess 33 = .ok (.ireturn, 1) := by decide +kernel
theorem dX7_pointsOfGuess_34 : decode cX7_pointsOfGuess 34 = .ok (.aload_n 1, 1) := by decide +kernel
theorem dX7_pointsOfGuess_35 : decode cX7_pointsOfGuess 35 = .ok (.aload_n 1, 1) := by decide +kernel
theorem dX7_pointsOfGuess_36 : decode cX7_pointsOfGuess 36 = .ok (.iload_n 2, 1) := by decide +kernel
theorem dX7_pointsOfGuess_37 : decode cX7_pointsOfGuess 37 = .ok (.iload_n 3, 1) := by decide +kernel
theorem dX7_pointsOfGuess_38 : decode cX7_pointsOfGuess 38 = .ok (.invokevirtual 211, 3) := by decide +kernel
theorem dX7_pointsOfGuess_41 : decode cX7_pointsOfGuess 41 = .ok (.invokevirtual 287, 3) := by decide +kernel
theorem dX7_pointsOfGuess_44 : decode cX7_pointsOfGuess 44 = .ok (.ifCond .eq 8, 3) := by decide +kernel
theorem dX7_pointsOfGuess_47 : decode cX7_pointsOfGuess 47 = .ok (.bipush (-4), 2) := by decide +kernel
theorem dX7_pointsOfGuess_49 : decode cX7_pointsOfGuess 49 = .ok (.goto 5, 3) := by decide +kernel
theorem dX7_pointsOfGuess_52 : decode cX7_pointsOfGuess 52 = .ok (.bipush (-2), 2) := by decide +kernel
theorem dX7_pointsOfGuess_54 : decode cX7_pointsOfGuess 54 = .ok (.ireturn, 1) := by decide +kernel
theorem dX7_lengthOfText_0 : decode cX7_lengthOfText 0 = .ok (.lload_n 0, 1) := by decide +kernel
theorem dX7_lengthOfText_1 : decode cX7_lengthOfText 1 = .ok (.lstore_n 2, 1) := by decide +kernel
theorem dX7_lengthOfText_2 : decode cX7_lengthOfText 2 = .ok (.iconst 0, 1) := by decide +kernel
theorem dX7_lengthOfText_3 : decode cX7_lengthOfText 3 = .ok (.istore 4, 2) := by decide +kernel
theorem dX7_lengthOfText_5 : decode cX7_lengthOfText 5 = .ok (.iload 4, 2) := by decide +kernel
theorem dX7_lengthOfText_7 : decode cX7_lengthOfText 7 = .ok (.bipush 8, 2) := by decide +kernel
theorem dX7_lengthOfText_9 : decode cX7_lengthOfText 9 = .ok (.if_icmp .ge 51, 3) := by decide +kernel
theorem dX7_lengthOfText_12 : decode cX7_lengthOfText 12 = .ok (.lload_n 2, 1) := by decide +kernel
theorem dX7_lengthOfText_13 : decode cX7_lengthOfText 13 = .ok (.ldc2_w 252, 3) := by decide +kernel
theorem dX7_lengthOfText_16 : decode cX7_lengthOfText 16 = .ok (.land, 1) := by decide +kernel
theorem dX7_lengthOfText_17 : decode cX7_lengthOfText 17 = .ok (.lconst 0, 1) := by decide +kernel
theorem dX7_lengthOfText_18 : decode cX7_lengthOfText 18 = .ok (.lcmp, 1) := by decide +kernel
theorem dX7_lengthOfText_19 : decode cX7_lengthOfText 19 = .ok (.ifCond .eq 41, 3) := by decide +kernel
theorem dX7_lengthOfText_22 : decode cX7_lengthOfText 22 = .ok (.lload_n 2, 1) := by decide +kernel
theorem dX7_lengthOfText_23 : decode cX7_lengthOfText 23 = .ok (.ldc2_w 252, 3) := by decide +kernel
theorem dX7_lengthOfText_26 : decode cX7_lengthOfText 26 = .ok (.land, 1) := by decide +kernel
theorem dX7_lengthOfText_27 : decode cX7_lengthOfText 27 = .ok (.lstore 5, 2) := by decide +kernel
theorem dX7_lengthOfText_29 : decode cX7_lengthOfText 29 = .ok (.lload 5, 2) := by decide +kernel
theorem dX7_lengthOfText_31 : decode cX7_lengthOfText 31 = .ok (.ldc2_w 290, 3) := by decide +kernel
theorem dX7_lengthOfText_34 : decode cX7_lengthOfText 34 = .ok (.lcmp, 1) := by decide +kernel
theorem dX7_lengthOfText_35 : decode cX7_lengthOfText 35 = .ok (.ifCond .lt 12, 3) := by decide +kernel
theorem dX7_lengthOfText_38 : decode cX7_lengthOfText 38 = .ok (.lload 5, 2) := by decide +kernel
theorem dX7_lengthOfText_40 : decode cX7_lengthOfText 40 = .ok (.ldc2_w 292, 3) := by decide +kernel
theorem dX7_lengthOfText_43 : decode cX7_lengthOfText 43 = .ok (.lcmp, 1) := by decide +kernel
theorem dX7_lengthOfText_44 : decode cX7_lengthOfText 44 = .ok (.ifCond .le 5, 3) := by decide +kernel
theorem dX7_lengthOfText_47 : decode cX7_lengthOfText 47 = .ok (.iconst 0, 1) := by decide +kernel
theorem dX7_lengthOfText_48 : decode cX7_lengthOfText 48 = .ok (.ireturn, 1) := by decide +kernel
theorem dX7_lengthOfText_49 : decode cX7_lengthOfText 49 = .ok (.lload_n 2, 1) := by decide +kernel
theorem dX7_lengthOfText_50 : decode cX7_lengthOfText 50 = .ok (.bipush 8, 2) := by decide +kernel
theorem dX7_lengthOfText_52 : decode cX7_lengthOfText 52 = .ok (.lushr, 1) := by decide +kernel
theorem dX7_lengthOfText_53 : decode cX7_lengthOfText 53 = .ok (.lstore_n 2, 1) := by decide +kernel
theorem dX7_lengthOfText_54 : decode cX7_lengthOfText 54 = .ok (.iinc 4 1, 3) := by decide +kernel
theorem dX7_lengthOfText_57 : decode cX7_lengthOfText 57 = .ok (.goto (-52), 3) := by decide +kernel
theorem dX7_lengthOfText_60 : decode cX7_lengthOfText 60 = .ok (.lload_n 2, 1) := by decide +kernel
theorem dX7_lengthOfText_61 : decode cX7_lengthOfText 61 = .ok (.lconst 0, 1) := by decide +kernel
theorem dX7_lengthOfText_62 : decode cX7_lengthOfText 62 = .ok (.lcmp, 1) := by decide +kernel
theorem dX7_lengthOfText_63 : decode cX7_lengthOfText 63 = .ok (.ifCond .ne 8, 3) := by decide +kernel
theorem dX7_lengthOfText_66 : decode cX7_lengthOfText 66 = .ok (.iload 4, 2) := by decide +kernel
theorem dX7_lengthOfText_68 : decode cX7_lengthOfText 68 = .ok (.goto 4, 3) := by decide +kernel
theorem dX7_lengthOfText_71 : decode cX7_lengthOfText 71 = .ok (.iconst 0, 1) := by decide +kernel
theorem dX7_lengthOfText_72 : decode cX7_lengthOfText 72 = .ok (.ireturn, 1) := by decide +kernel
theorem dX7_watchers_0 : decode cX7_watchers 0 = .ok (.iconst 0, 1) := by decide +kernel
theorem dX7_watchers_1 : decode cX7_watchers 1 = .ok (.istore_n 2, 1) := by decide +kernel
theorem dX7_watchers_2 : decode cX7_watchers 2 = .ok (.iconst 0, 1) := by decide +kernel
theorem dX7_watchers_3 : decode cX7_watchers 3 = .ok (.istore_n 3, 1) := by decide +kernel
theorem dX7_watchers_4 : decode cX7_watchers 4 = .ok (.iload_n 3, 1) := by decide +kernel
theorem dX7_watchers_5 : decode cX7_watchers 5 = .ok (.aload_n 0, 1) := by decide +kernel
theorem dX7_watchers_6 : decode cX7_watchers 6 = .ok (.arraylength, 1) := by decide +kernel
theorem dX7_watchers_7 : decode cX7_watchers 7 = .ok (.if_icmp .ge 19, 3) := by decide +kernel
theorem dX7_watchers_10 : decode cX7_watchers 10 = .ok (.aload_n 0, 1) := by decide +kernel
theorem dX7_watchers_11 : decode cX7_watchers 11 = .ok (.iload_n 3, 1) := by decide +kernel
theorem dX7_watchers_12 : decode cX7_watchers 12 = .ok (.iaload, 1) := by decide +kernel
theorem dX7_watchers_13 : decode cX7_watchers 13 = .ok (.iload_n 1, 1) := by decide +kernel
theorem dX7_watchers_14 : decode cX7_watchers 14 = .ok (.if_icmp .ne 6, 3) := by decide +kernel
theorem dX7_watchers_17 : decode cX7_watchers 17 = .ok (.iinc 2 1, 3) := by decide +kernel
theorem dX7_watchers_20 : decode cX7_watchers 20 = .ok (.iinc 3 1, 3) := by decide +kernel
theorem dX7_watchers_23 : decode cX7_watchers 23 = .ok (.goto (-19), 3) := by decide +kernel
theorem dX7_watchers_26 : decode cX7_watchers 26 = .ok (.iload_n 2, 1) := by decide +kernel
theorem dX7_watchers_27 : decode cX7_watchers 27 = .ok (.ireturn, 1) := by decide +kernel
theorem dX7_at_0 : decode cX7_at 0 = .ok (.iload_n 1, 1) := by decide +kernel
theorem dX7_at_1 : decode cX7_at 1 = .ok (.ifCond .lt 15, 3) := by decide +kernel
theorem dX7_at_4 : decode cX7_at 4 = .ok (.iload_n 1, 1) := by decide +kernel
theorem dX7_at_5 : decode cX7_at 5 = .ok (.aload_n 0, 1) := by decide +kernel
theorem dX7_at_6 : decode cX7_at 6 = .ok (.arraylength, 1) := by decide +kernel
theorem dX7_at_7 : decode cX7_at 7 = .ok (.if_icmp .ge 9, 3) := by decide +kernel
theorem dX7_at_10 : decode cX7_at 10 = .ok (.aload_n 0, 1) := by decide +kernel
theorem dX7_at_11 : decode cX7_at 11 = .ok (.iload_n 1, 1) := by decide +kernel
theorem dX7_at_12 : decode cX7_at 12 = .ok (.iaload, 1) := by decide +kernel
theorem dX7_at_13 : decode cX7_at 13 = .ok (.goto 4, 3) := by decide +kernel
theorem dX7_at_16 : decode cX7_at 16 = .ok (.iconst (-1), 1) := by decide +kernel
theorem dX7_at_17 : decode cX7_at 17 = .ok (.ireturn, 1) := by decide +kernel
theorem dX7_setAt_0 : decode cX7_setAt 0 = .ok (.iload_n 1, 1) := by decide +kernel
theorem dX7_setAt_1 : decode cX7_setAt 1 = .ok (.ifCond .lt 13, 3) := by decide +kernel
theorem dX7_setAt_4 : decode cX7_setAt 4 = .ok (.iload_n 1, 1) := by decide +kernel
theorem dX7_setAt_5 : decode cX7_setAt 5 = .ok (.aload_n 0, 1) := by decide +kernel
theorem dX7_setAt_6 : decode cX7_setAt 6 = .ok (.arraylength, 1) := by decide +kernel
theorem dX7_setAt_7 : decode cX7_setAt 7 = .ok (.if_icmp .ge 7, 3) := by decide +kernel
theorem dX7_setAt_10 : decode cX7_setAt 10 = .ok (.aload_n 0, 1) := by decide +kernel
theorem dX7_setAt_11 : decode cX7_setAt 11 = .ok (.iload_n 1, 1) := by decide +kernel
theorem dX7_setAt_12 : decode cX7_setAt 12 = .ok (.iload_n 2, 1) := by decide +kernel
theorem dX7_setAt_13 : decode cX7_setAt 13 = .ok (.iastore, 1) := by decide +kernel
theorem dX7_setAt_14 : decode cX7_setAt 14 = .ok (.return_, 1) := by decide +kernel
theorem dX7_addAt_0 : decode cX7_addAt 0 = .ok (.iload_n 1, 1) := by decide +kernel
theorem dX7_addAt_1 : decode cX7_addAt 1 = .ok (.ifCond .lt 16, 3) := by decide +kernel
theorem dX7_addAt_4 : decode cX7_addAt 4 = .ok (.iload_n 1, 1) := by decide +kernel
theorem dX7_addAt_5 : decode cX7_addAt 5 = .ok (.aload_n 0, 1) := by decide +kernel
theorem dX7_addAt_6 : decode cX7_addAt 6 = .ok (.arraylength, 1) := by decide +kernel
theorem dX7_addAt_7 : decode cX7_addAt 7 = .ok (.if_icmp .ge 10, 3) := by decide +kernel
theorem dX7_addAt_10 : decode cX7_addAt 10 = .ok (.aload_n 0, 1) := by decide +kernel
theorem dX7_addAt_11 : decode cX7_addAt 11 = .ok (.iload_n 1, 1) := by decide +kernel
theorem dX7_addAt_12 : decode cX7_addAt 12 = .ok (.dup2, 1) := by decide +kernel
theorem dX7_addAt_13 : decode cX7_addAt 13 = .ok (.iaload, 1) := by decide +kernel
theorem dX7_addAt_14 : decode cX7_addAt 14 = .ok (.iload_n 2, 1) := by decide +kernel
theorem dX7_addAt_15 : decode cX7_addAt 15 = .ok (.iadd, 1) := by decide +kernel
theorem dX7_addAt_16 : decode cX7_addAt 16 = .ok (.iastore, 1) := by decide +kernel
theorem dX7_addAt_17 : decode cX7_addAt 17 = .ok (.return_, 1) := by decide +kernel
theorem dX7_fillRow_0 : decode cX7_fillRow 0 = .ok (.iconst 0, 1) := by decide +kernel
theorem dX7_fillRow_1 : decode cX7_fillRow 1 = .ok (.istore_n 2, 1) := by decide +kernel
theorem dX7_fillRow_2 : decode cX7_fillRow 2 = .ok (.iload_n 2, 1) := by decide +kernel
theorem dX7_fillRow_3 : decode cX7_fillRow 3 = .ok (.aload_n 0, 1) := by decide +kernel
theorem dX7_fillRow_4 : decode cX7_fillRow 4 = .ok (.arraylength, 1) := by decide +kernel
theorem dX7_fillRow_5 : decode cX7_fillRow 5 = .ok (.if_icmp .ge 13, 3) := by decide +kernel
theorem dX7_fillRow_8 : decode cX7_fillRow 8 = .ok (.aload_n 0, 1) := by decide +kernel
theorem dX7_fillRow_9 : decode cX7_fillRow 9 = .ok (.iload_n 2, 1) := by decide +kernel
theorem dX7_fillRow_10 : decode cX7_fillRow 10 = .ok (.iload_n 1, 1) := by decide +kernel
theorem dX7_fillRow_11 : decode cX7_fillRow 11 = .ok (.iastore, 1) := by decide +kernel
theorem dX7_fillRow_12 : decode cX7_fillRow 12 = .ok (.iinc 2 1, 3) := by decide +kernel
theorem dX7_fillRow_15 : decode cX7_fillRow 15 = .ok (.goto (-13), 3) := by decide +kernel
theorem dX7_fillRow_18 : decode cX7_fillRow 18 = .ok (.return_, 1) := by decide +kernel
theorem dX7_copyRow_0 : decode cX7_copyRow 0 = .ok (.iconst 0, 1) := by decide +kernel
theorem dX7_copyRow_1 : decode cX7_copyRow 1 = .ok (.istore_n 2, 1) := by decide +kernel
theorem dX7_copyRow_2 : decode cX7_copyRow 2 = .ok (.iload_n 2, 1) := by decide +kernel
theorem dX7_copyRow_3 : decode cX7_copyRow 3 = .ok (.aload_n 0, 1) := by decide +kernel
theorem dX7_copyRow_4 : decode cX7_copyRow 4 = .ok (.arraylength, 1) := by decide +kernel
theorem dX7_copyRow_5 : decode cX7_copyRow 5 = .ok (.if_icmp .ge 21, 3) := by decide +kernel
theorem dX7_copyRow_8 : decode cX7_copyRow 8 = .ok (.iload_n 2, 1) := by decide +kernel
theorem dX7_copyRow_9 : decode cX7_copyRow 9 = .ok (.aload_n 1, 1) := by decide +kernel
theorem dX7_copyRow_10 : decode cX7_copyRow 10 = .ok (.arraylength, 1) := by decide +kernel
theorem dX7_copyRow_11 : decode cX7_copyRow 11 = .ok (.if_icmp .ge 15, 3) := by decide +kernel
theorem dX7_copyRow_14 : decode cX7_copyRow 14 = .ok (.aload_n 1, 1) := by decide +kernel
theorem dX7_copyRow_15 : decode cX7_copyRow 15 = .ok (.iload_n 2, 1) := by decide +kernel
theorem dX7_copyRow_16 : decode cX7_copyRow 16 = .ok (.aload_n 0, 1) := by decide +kernel
theorem dX7_copyRow_17 : decode cX7_copyRow 17 = .ok (.iload_n 2, 1) := by decide +kernel
theorem dX7_copyRow_18 : decode cX7_copyRow 18 = .ok (.iaload, 1) := by decide +kernel
theorem dX7_copyRow_19 : decode cX7_copyRow 19 = .ok (.iastore, 1) := by decide +kernel
theorem dX7_copyRow_20 : decode cX7_copyRow 20 = .ok (.iinc 2 1, 3) := by decide +kernel
theorem dX7_copyRow_23 : decode cX7_copyRow 23 = .ok (.goto (-21), 3) := by decide +kernel
theorem dX7_copyRow_26 : decode cX7_copyRow 26 = .ok (.return_, 1) := by decide +kernel
theorem dX8_init_0 : decode cX8_init 0 = .ok (.aload_n 0, 1) := by decide +kernel
theorem dX8_init_1 : decode cX8_init 1 = .ok (.invokespecial 1, 3) := by decide +kernel
theorem dX8_init_4 : decode cX8_init 4 = .ok (.aload_n 0, 1) := by decide +kernel
theorem dX8_init_5 : decode cX8_init 5 = .ok (.bipush 121, 2) := by decide +kernel
theorem dX8_init_7 : decode cX8_init 7 = .ok (.newarray .int, 2) := by decide +kernel
theorem dX8_init_9 : decode cX8_init 9 = .ok (.putfield 7, 3) := by decide +kernel
theorem dX8_init_12 : decode cX8_init 12 = .ok (.aload_n 0, 1) := by decide +kernel
theorem dX8_init_13 : decode cX8_init 13 = .ok (.sipush 726, 3) := by decide +kernel
theorem dX8_init_16 : decode cX8_init 16 = .ok (.newarray .int, 2) := by decide +kernel
theorem dX8_init_18 : decode cX8_init 18 = .ok (.putfield 13, 3) := by decide +kernel
theorem dX8_init_21 : decode cX8_init 21 = .ok (.aload_n 0, 1) := by decide +kernel
theorem dX8_init_22 : decode cX8_init 22 = .ok (.sipush 242, 3) := by decide +kernel
theorem dX8_init_25 : decode cX8_init 25 = .ok (.newarray .int, 2) := by decide +kernel
theorem dX8_init_27 : decode cX8_init 27 = .ok (.putfield 16, 3) := by decide +kernel
theorem dX8_init_30 : decode cX8_init 30 = .ok (.aload_n 0, 1) := by decide +kernel
theorem dX8_init_31 : decode cX8_init 31 = .ok (.iconst 2, 1) := by decide +kernel
theorem dX8_init_32 : decode cX8_init 32 = .ok (.newarray .int, 2) := by decide +kernel
theorem dX8_init_34 : decode cX8_init 34 = .ok (.putfield 19, 3) := by decide +kernel
theorem dX8_init_37 : decode cX8_init 37 = .ok (.aload_n 0, 1) := by decide +kernel
theorem dX8_init_38 : decode cX8_init 38 = .ok (.bipush 60, 2) := by decide +kernel
theorem dX8_init_40 : decode cX8_init 40 = .ok (.newarray .int, 2) := by decide +kernel
theorem dX8_init_42 : decode cX8_init 42 = .ok (.putfield 22, 3) := by decide +kernel
theorem dX8_init_45 : decode cX8_init 45 = .ok (.aload_n 0, 1) := by decide +kernel
theorem dX8_init_46 : decode cX8_init 46 = .ok (.bipush 6, 2) := by decide +kernel
theorem dX8_init_48 : decode cX8_init 48 = .ok (.newarray .int, 2) := by decide +kernel
theorem dX8_init_50 : decode cX8_init 50 = .ok (.putfield 25, 3) := by decide +kernel
theorem dX8_init_53 : decode cX8_init 53 = .ok (.aload_n 0, 1) := by decide +kernel
theorem dX8_init_54 : decode cX8_init 54 = .ok (.bipush 36, 2) := by decide +kernel
theorem dX8_init_56 : decode cX8_init 56 = .ok (.newarray .int, 2) := by decide +kernel
theorem dX8_init_58 : decode cX8_init 58 = .ok (.putfield 28, 3) := by decide +kernel
theorem dX8_init_61 : decode cX8_init 61 = .ok (.aload_n 0, 1) := by decide +kernel
theorem dX8_init_62 : decode cX8_init 62 = .ok (.bipush 20, 2) := by decide +kernel
theorem dX8_init_64 : decode cX8_init 64 = .ok (.newarray .int, 2) := by decide +kernel
theorem dX8_init_66 : decode cX8_init 66 = .ok (.putfield 31, 3) := by decide +kernel
theorem dX8_init_69 : decode cX8_init 69 = .ok (.aload_n 0, 1) := by decide +kernel
theorem dX8_init_70 : decode cX8_init 70 = .ok (.bipush 20, 2) := by decide +kernel
theorem dX8_init_72 : decode cX8_init 72 = .ok (.newarray .int, 2) := by decide +kernel
theorem dX8_init_74 : decode cX8_init 74 = .ok (.putfield 34, 3) := by decide +kernel
theorem dX8_init_77 : decode cX8_init 77 = .ok (.aload_n 0, 1) := by decide +kernel
theorem dX8_init_78 : decode cX8_init 78 = .ok (.iconst 4, 1) := by decide +kernel
theorem dX8_init_79 : decode cX8_init 79 = .ok (.invokevirtual 37, 3) := by decide +kernel
theorem dX8_init_82 : decode cX8_init 82 = .ok (.return_, 1) := by decide +kernel
theorem dX8_moves_0 : decode cX8_moves 0 = .ok (.iconst 0, 1) := by decide +kernel
theorem dX8_moves_1 : decode cX8_moves 1 = .ok (.istore 4, 2) := by decide +kernel
theorem dX8_moves_3 : decode cX8_moves 3 = .ok (.iload 4, 2) := by decide +kernel
theorem dX8_moves_5 : decode cX8_moves 5 = .ok (.bipush 121, 2) := by decide +kernel
theorem dX8_moves_7 : decode cX8_moves 7 = .ok (.if_icmp .ge 21, 3) := by decide +kernel
theorem dX8_moves_10 : decode cX8_moves 10 = .ok (.aload_n 2, 1) := by decide +kernel
theorem dX8_moves_11 : decode cX8_moves 11 = .ok (.iload_n 3, 1) := by decide +kernel
theorem dX8_moves_12 : decode cX8_moves 12 = .ok (.iload 4, 2) := by decide +kernel
theorem dX8_moves_14 : decode cX8_moves 14 = .ok (.iadd, 1) := by decide +kernel
theorem dX8_moves_15 : decode cX8_moves 15 = .ok (.aload_n 0, 1) := by decide +kernel
theorem dX8_moves_16 : decode cX8_moves 16 = .ok (.iload_n 1, 1) := by decide +kernel
theorem dX8_moves_17 : decode cX8_moves 17 = .ok (.iload 4, 2) := by decide +kernel
theorem dX8_moves_19 : decode cX8_moves 19 = .ok (.iadd, 1) := by decide +kernel
theorem dX8_moves_20 : decode cX8_moves 20 = .ok (.iaload, 1) := by decide +kernel
theorem dX8_moves_21 : decode cX8_moves 21 = .ok (.iastore, 1) := by decide +kernel
theorem dX8_moves_22 : decode cX8_moves 22 = .ok (.iinc 4 1, 3) := by decide +kernel
theorem dX8_moves_25 : decode cX8_moves 25 = .ok (.goto (-22), 3) := by decide +kernel
theorem dX8_moves_28 : decode cX8_moves 28 = .ok (.return_, 1) := by decide +kernel
theorem dX8_within_0 : decode cX8_within 0 = .ok (.iload_n 0, 1) := by decide +kernel
theorem dX8_within_1 : decode cX8_within 1 = .ok (.iload_n 1, 1) := by decide +kernel
theorem dX8_within_2 : decode cX8_within 2 = .ok (.if_icmp .lt 12, 3) := by decide +kernel
theorem dX8_within_5 : decode cX8_within 5 = .ok (.iload_n 0, 1) := by decide +kernel
theorem dX8_within_6 : decode cX8_within 6 = .ok (.iload_n 2, 1) := by decide +kernel
theorem dX8_within_7 : decode cX8_within 7 = .ok (.if_icmp .gt 7, 3) := by decide +kernel
theorem dX8_within_10 : decode cX8_within 10 = .ok (.iconst 1, 1) := by decide +kernel
theorem dX8_within_11 : decode cX8_within 11 = .ok (.goto 4, 3) := by decide +kernel
theorem dX8_within_14 : decode cX8_within 14 = .ok (.iconst 0, 1) := by decide +kernel
theorem dX8_within_15 : decode cX8_within 15 = .ok (.ireturn, 1) := by decide +kernel
theorem dX8_record_0 : decode cX8_record 0 = .ok (.aload_n 0, 1) := by decide +kernel
theorem dX8_record_1 : decode cX8_record 1 = .ok (.getfield 41, 3) := by decide +kernel
theorem dX8_record_4 : decode cX8_record 4 = .ok (.bipush 6, 2) := by decide +kernel
theorem dX8_record_6 : decode cX8_record 6 = .ok (.if_icmp .ne 43, 3) := by decide +kernel
theorem dX8_record_9 : decode cX8_record 9 = .ok (.iconst 0, 1) := by decide +kernel
theorem dX8_record_10 : decode cX8_record 10 = .ok (.istore_n 1, 1) := by decide +kernel
theorem dX8_record_11 : decode cX8_record 11 = .ok (.iload_n 1, 1) := by decide +kernel
theorem dX8_record_12 : decode cX8_record 12 = .ok (.sipush 605, 3) := by decide +kernel
theorem dX8_record_15 : decode cX8_record 15 = .ok (.if_icmp .ge 24, 3) := by decide +kernel
theorem dX8_record_18 : decode cX8_record 18 = .ok (.aload_n 0, 1) := by decide +kernel
theorem dX8_record_19 : decode cX8_record 19 = .ok (.getfield 13, 3) := by decide +kernel
theorem dX8_record_22 : decode cX8_record 22 = .ok (.iload_n 1, 1) := by decide +kernel
theorem dX8_record_23 : decode cX8_record 23 = .ok (.aload_n 0, 1) := by decide +kernel
theorem dX8_record_24 : decode cX8_record 24 = .ok (.getfield 13, 3) := by decide +kernel
theorem dX8_record_27 : decode cX8_record 27 = .ok (.iload_n 1, 1) := by decide +kernel
theorem dX8_record_28 : decode cX8_record 28 = .ok (.bipush 121, 2) := by decide +kernel
theorem dX8_record_30 : decode cX8_record 30 = .ok (.iadd, 1) := by decide +kernel
theorem dX8_record_31 : decode cX8_record 31 = .ok (.iaload, 1) := by decide +kernel
theorem dX8_record_32 : decode cX8_record 32 = .ok (.iastore, 1) := by decide +kernel
theorem dX8_record_33 : decode cX8_record 33 = .ok (.iinc 1 1, 3) := by decide +kernel
theorem dX8_record_36 : decode cX8_record 36 = .ok (.goto (-25), 3) := by decide +kernel
theorem dX8_record_39 : decode cX8_record 39 = .ok (.aload_n 0, 1) := by decide +kernel
theorem dX8_record_40 : decode cX8_record 40 = .ok (.dup, 1) := by decide +kernel
theorem dX8_record_41 : decode cX8_record 41 = .ok (.getfield 41, 3) := by decide +kernel
theorem dX8_record_44 : decode cX8_record 44 = .ok (.iconst 1, 1) := by decide +kernel
theorem dX8_record_45 : decode cX8_record 45 = .ok (.isub, 1) := by decide +kernel
theorem dX8_record_46 : decode cX8_record 46 = .ok (.putfield 41, 3) := by decide +kernel
theorem dX8_record_49 : decode cX8_record 49 = .ok (.aload_n 0, 1) := by decide +kernel
theorem dX8_record_50 : decode cX8_record 50 = .ok (.getfield 7, 3) := by decide +kernel
theorem dX8_record_53 : decode cX8_record 53 = .ok (.iconst 0, 1) := by decide +kernel
theorem dX8_record_54 : decode cX8_record 54 = .ok (.aload_n 0, 1) := by decide +kernel
theorem dX8_record_55 : decode cX8_record 55 = .ok (.getfield 13, 3) := by decide +kernel
theorem dX8_record_58 : decode cX8_record 58 = .ok (.aload_n 0, 1) := by decide +kernel
theorem dX8_record_59 : decode cX8_record 59 = .ok (.getfield 41, 3) := by decide +kernel
theorem dX8_record_62 : decode cX8_record 62 = .ok (.bipush 121, 2) := by decide +kernel
theorem dX8_record_64 : decode cX8_record 64 = .ok (.imul, 1) := by decide +kernel
theorem dX8_record_65 : decode cX8_record 65 = .ok (.invokestatic 45, 3) := by decide +kernel
theorem dX8_record_68 : decode cX8_record 68 = .ok (.aload_n 0, 1) := by decide +kernel
theorem dX8_record_69 : decode cX8_record 69 = .ok (.dup, 1) := by decide +kernel
theorem dX8_record_70 : decode cX8_record 70 = .ok (.getfield 41, 3) := by decide +kernel
theorem dX8_record_73 : decode cX8_record 73 = .ok (.iconst 1, 1) := by decide +kernel
theorem dX8_record_74 : decode cX8_record 74 = .ok (.iadd, 1) := by decide +kernel
theorem dX8_record_75 : decode cX8_record 75 = .ok (.putfield 41, 3) := by decide +kernel
theorem dX8_record_78 : decode cX8_record 78 = .ok (.return_, 1) := by decide +kernel
theorem dX8_begins_0 : decode cX8_begins 0 = .ok (.iconst 0, 1) := by decide +kernel
theorem dX8_begins_1 : decode cX8_begins 1 = .ok (.istore_n 2, 1) := by decide +kernel
theorem dX8_begins_2 : decode cX8_begins 2 = .ok (.iload_n 2, 1) := by decide +kernel
theorem dX8_begins_3 : decode cX8_begins 3 = .ok (.bipush 121, 2) := by decide +kernel
theorem dX8_begins_5 : decode cX8_begins 5 = .ok (.if_icmp .ge 16, 3) := by decide +kernel
theorem dX8_begins_8 : decode cX8_begins 8 = .ok (.aload_n 0, 1) := by decide +kernel
theorem dX8_begins_9 : decode cX8_begins 9 = .ok (.getfield 7, 3) := by decide +kernel
theorem dX8_begins_12 : decode cX8_begins 12 = .ok (.iload_n 2, 1) := by decide +kernel
theorem dX8_begins_13 : decode cX8_begins 13 = .ok (.iconst 0, 1) := by decide +kernel
theorem dX8_begins_14 : decode cX8_begins 14 = .ok (.iastore, 1) := by decide +kernel
theorem dX8_begins_15 : decode cX8_begins 15 = .ok (.iinc 2 1, 3) := by decide +kernel
theorem dX8_begins_18 : decode cX8_begins 18 = .ok (.goto (-16), 3) := by decide +kernel
theorem dX8_begins_21 : decode cX8_begins 21 = .ok (.aload_n 0, 1) := by decide +kernel
theorem dX8_begins_22 : decode cX8_begins 22 = .ok (.getfield 7, 3) := by decide +kernel
theorem dX8_begins_25 : decode cX8_begins 25 = .ok (.iconst 0, 1) := by decide +kernel
theorem dX8_begins_26 : decode cX8_begins 26 = .ok (.iload_n 1, 1) := by decide +kernel
theorem dX8_begins_27 : decode cX8_begins 27 = .ok (.iastore, 1) := by decide +kernel
theorem dX8_begins_28 : decode cX8_begins 28 = .ok (.iconst 0, 1) := by decide +kernel
theorem dX8_begins_29 : decode cX8_begins 29 = .ok (.istore_n 2, 1) := by decide +kernel
theorem dX8_begins_30 : decode cX8_begins 30 = .ok (.iload_n 2, 1) := by decide +kernel
theorem dX8_begins_31 : decode cX8_begins 31 = .ok (.iload_n 1, 1) := by decide +kernel
theorem dX8_begins_32 : decode cX8_begins 32 = .ok (.if_icmp .ge 22, 3) := by decide +kernel
theorem dX8_begins_35 : decode cX8_begins 35 = .ok (.aload_n 0, 1) := by decide +kernel
theorem dX8_begins_36 : decode cX8_begins 36 = .ok (.getfield 7, 3) := by decide +kernel
theorem dX8_begins_39 : decode cX8_begins 39 = .ok (.iconst 3, 1) := by decide +kernel
theorem dX8_begins_40 : decode cX8_begins 40 = .ok (.iload_n 2, 1) := by decide +kernel
theorem dX8_begins_41 : decode cX8_begins 41 = .ok (.iadd, 1) := by decide +kernel
theorem dX8_begins_42 : decode cX8_begins 42 = .ok (.iload_n 2, 1) := by decide +kernel
theorem dX8_begins_43 : decode cX8_begins 43 = .ok (.iconst 1, 1) := by decide +kernel
theorem dX8_begins_44 : decode cX8_begins 44 = .ok (.iadd, 1) := by decide +kernel
theorem dX8_begins_45 : decode cX8_begins 45 = .ok (.iload_n 1, 1) := by decide +kernel
theorem dX8_begins_46 : decode cX8_begins 46 = .ok (.irem, 1) := by decide +kernel
theorem dX8_begins_47 : decode cX8_begins 47 = .ok (.iastore, 1) := by decide +kernel
theorem dX8_begins_48 : decode cX8_begins 48 = .ok (.iinc 2 1, 3) := by decide +kernel
theorem dX8_begins_51 : decode cX8_begins 51 = .ok (.goto (-21), 3) := by decide +kernel
theorem dX8_begins_54 : decode cX8_begins 54 = .ok (.return_, 1) := by decide +kernel
theorem dX8_isBox_0 : decode cX8_isBox 0 = .ok (.iload_n 1, 1) := by decide +kernel
theorem dX8_isBox_1 : decode cX8_isBox 1 = .ok (.iconst 0, 1) := by decide +kernel
theorem dX8_isBox_2 : decode cX8_isBox 2 = .ok (.aload_n 0, 1) := by decide +kernel
theorem dX8_isBox_3 : decode cX8_isBox 3 = .ok (.getfield 7, 3) := by decide +kernel
theorem dX8_isBox_6 : decode cX8_isBox 6 = .ok (.iconst 0, 1) := by decide +kernel
theorem dX8_isBox_7 : decode cX8_isBox 7 = .ok (.iaload, 1) := by decide +kernel
theorem dX8_isBox_8 : decode cX8_isBox 8 = .ok (.iconst 1, 1) := by decide +kernel
theorem dX8_isBox_9 : decode cX8_isBox 9 = .ok (.isub, 1) := by decide +kernel
theorem dX8_isBox_10 : decode cX8_isBox 10 = .ok (.invokestatic 49, 3) := by decide +kernel
theorem dX8_isBox_13 : decode cX8_isBox 13 = .ok (.ireturn, 1) := by decide +kernel
theorem dX8_isRumour_0 : decode cX8_isRumour 0 = .ok (.iload_n 1, 1) := by decide +kernel
theorem dX8_isRumour_1 : decode cX8_isRumour 1 = .ok (.iconst 0, 1) := by decide +kernel
theorem dX8_isRumour_2 : decode cX8_isRumour 2 = .ok (.aload_n 0, 1) := by decide +kernel
theorem dX8_isRumour_3 : decode cX8_isRumour 3 = .ok (.getfield 7, 3) := by decide +kernel
theorem dX8_isRumour_6 : decode cX8_isRumour 6 = .ok (.iconst 1, 1) := by decide +kernel
theorem dX8_isRumour_7 : decode cX8_isRumour 7 = .ok (.iaload, 1) := by decide +kernel
theorem dX8_isRumour_8 : decode cX8_isRumour 8 = .ok (.iconst 1, 1) := by decide +kernel
theorem dX8_isRumour_9 : decode cX8_isRumour 9 = .ok (.isub, 1) := by decide +kernel
theorem dX8_isRumour_10 : decode cX8_isRumour 10 = .ok (.invokestatic 49, 3) := by decide +kernel
theorem dX8_isRumour_13 : decode cX8_isRumour 13 = .ok (.ireturn, 1) := by decide +kernel
theorem dX8_part_0 : decode cX8_part 0 = .ok (.aload_n 0, 1) := by decide +kernel
theorem dX8_part_1 : decode cX8_part 1 = .ok (.getfield 7, 3) := by decide +kernel
theorem dX8_part_4 : decode cX8_part 4 = .ok (.bipush 21, 2) := by decide +kernel
theorem dX8_part_6 : decode cX8_part 6 = .ok (.iconst 5, 1) := by decide +kernel
theorem dX8_part_7 : decode cX8_part 7 = .ok (.iload_n 1, 1) := by decide +kernel
theorem dX8_part_8 : decode cX8_part 8 = .ok (.imul, 1) := by decide +kernel
theorem dX8_part_9 : decode cX8_part 9 = .ok (.iadd, 1) := by decide +kernel
theorem dX8_part_10 : decode cX8_part 10 = .ok (.iload_n 2, 1) := by decide +kernel
theorem dX8_part_11 : decode cX8_part 11 = .ok (.iadd, 1) := by decide +kernel
theorem dX8_part_12 : decode cX8_part 12 = .ok (.iaload, 1) := by decide +kernel
theorem dX8_part_13 : decode cX8_part 13 = .ok (.ireturn, 1) := by decide +kernel
theorem dX8_setHow_0 : decode cX8_setHow 0 = .ok (.aload_n 0, 1) := by decide +kernel
theorem dX8_setHow_1 : decode cX8_setHow 1 = .ok (.getfield 7, 3) := by decide +kernel
theorem dX8_setHow_4 : decode cX8_setHow 4 = .ok (.bipush 21, 2) := by decide +kernel
theorem dX8_setHow_6 : decode cX8_setHow 6 = .ok (.iconst 5, 1) := by decide +kernel
theorem dX8_setHow_7 : decode cX8_setHow 7 = .ok (.iload_n 1, 1) := by decide +kernel
theorem dX8_setHow_8 : decode cX8_setHow 8 = .ok (.imul, 1) := by decide +kernel
theorem dX8_setHow_9 : decode cX8_setHow 9 = .ok (.iadd, 1) := by decide +kernel
theorem dX8_setHow_10 : decode cX8_setHow 10 = .ok (.iconst 4, 1) := by decide +kernel
theorem dX8_setHow_11 : decode cX8_setHow 11 = .ok (.iadd, 1) := by decide +kernel
theorem dX8_setHow_12 : decode cX8_setHow 12 = .ok (.iload_n 2, 1) := by decide +kernel
theorem dX8_setHow_13 : decode cX8_setHow 13 = .ok (.iastore, 1) := by decide +kernel
theorem dX8_setHow_14 : decode cX8_setHow 14 = .ok (.return_, 1) := by decide +kernel
theorem dX8_isOpen_0 : decode cX8_isOpen 0 = .ok (.aload_n 0, 1) := by decide +kernel
theorem dX8_isOpen_1 : decode cX8_isOpen 1 = .ok (.iload_n 1, 1) := by decide +kernel
theorem dX8_isOpen_2 : decode cX8_isOpen 2 = .ok (.iconst 4, 1) := by decide +kernel
theorem dX8_isOpen_3 : decode cX8_isOpen 3 = .ok (.invokevirtual 53, 3) := by decide +kernel
theorem dX8_isOpen_6 : decode cX8_isOpen 6 = .ok (.ifCond .ne 7, 3) := by decide +kernel
theorem dX8_isOpen_9 : decode cX8_isOpen 9 = .ok (.iconst 1, 1) := by decide +kernel
theorem dX8_isOpen_10 : decode cX8_isOpen 10 = .ok (.goto 4, 3) := by decide +kernel
theorem dX8_isOpen_13 : decode cX8_isOpen 13 = .ok (.iconst 0, 1) := by decide +kernel
theorem dX8_isOpen_14 : decode cX8_isOpen 14 = .ok (.ireturn, 1) := by decide +kernel
theorem dX8_suits_0 : decode cX8_suits 0 = .ok (.iload_n 1, 1) := by decide +kernel
theorem dX8_suits_1 : decode cX8_suits 1 = .ok (.iconst 0, 1) := by decide +kernel
theorem dX8_suits_2 : decode cX8_suits 2 = .ok (.iconst 5, 1) := by decide +kernel
theorem dX8_suits_3 : decode cX8_suits 3 = .ok (.invokestatic 49, 3) := by decide +kernel
theorem dX8_suits_6 : decode cX8_suits 6 = .ok (.ifCond .ne 5, 3) := by decide +kernel
theorem dX8_suits_9 : decode cX8_suits 9 = .ok (.iconst 0, 1) := by decide +kernel
theorem dX8_suits_10 : decode cX8_suits 10 = .ok (.ireturn, 1) := by decide +kernel
theorem dX8_suits_11 : decode cX8_suits 11 = .ok (.aload_n 0, 1) := by decide +kernel
theorem dX8_suits_12 : decode cX8_suits 12 = .ok (.iload_n 2, 1) := by decide +kernel
theorem dX8_suits_13 : decode cX8_suits 13 = .ok (.invokevirtual 57, 3) := by decide +kernel
theorem dX8_suits_16 : decode cX8_suits 16 = .ok (.ifCond .eq 43, 3) := by decide +kernel
theorem dX8_suits_19 : decode cX8_suits 19 = .ok (.iload_n 1, 1) := by decide +kernel
theorem dX8_suits_20 : decode cX8_suits 20 = .ok (.iconst 4, 1) := by decide +kernel
theorem dX8_suits_21 : decode cX8_suits 21 = .ok (.if_icmp .ne 16, 3) := by decide +kernel
theorem dX8_suits_24 : decode cX8_suits 24 = .ok (.iload_n 3, 1) := by decide +kernel
theorem dX8_suits_25 : decode cX8_suits 25 = .ok (.iconst 0, 1) := by decide +kernel
theorem dX8_suits_26 : decode cX8_suits 26 = .ok (.bipush 6, 2) := by decide +kernel
theorem dX8_suits_28 : decode cX8_suits 28 = .ok (.invokestatic 49, 3) := by decide +kernel
theorem dX8_suits_31 : decode cX8_suits 31 = .ok (.ifCond .eq 28, 3) := by decide +kernel
theorem dX8_suits_34 : decode cX8_suits 34 = .ok (.goto 21, 3) := by decide +kernel
theorem dX8_suits_37 : decode cX8_suits 37 = .ok (.aload_n 0, 1) := by decide +kernel
theorem dX8_suits_38 : decode cX8_suits 38 = .ok (.iload_n 3, 1) := by decide +kernel
theorem dX8_suits_39 : decode cX8_suits 39 = .ok (.invokevirtual 57, 3) := by decide +kernel
theorem dX8_suits_42 : decode cX8_suits 42 = .ok (.ifCond .eq 17, 3) := by decide +kernel
theorem dX8_suits_45 : decode cX8_suits 45 = .ok (.iload_n 1, 1) := by decide +kernel
theorem dX8_suits_46 : decode cX8_suits 46 = .ok (.iconst 5, 1) := by decide +kernel
theorem dX8_suits_47 : decode cX8_suits 47 = .ok (.if_icmp .eq 8, 3) := by decide +kernel
theorem dX8_suits_50 : decode cX8_suits 50 = .ok (.iload_n 2, 1) := by decide +kernel
theorem dX8_suits_51 : decode cX8_suits 51 = .ok (.iload_n 3, 1) := by decide +kernel
theorem dX8_suits_52 : decode cX8_suits 52 = .ok (.if_icmp .eq 7, 3) := by decide +kernel
theorem dX8_suits_55 : decode cX8_suits 55 = .ok (.iconst 1, 1) := by decide +kernel
theorem dX8_suits_56 : decode cX8_suits 56 = .ok (.goto 4, 3) := by decide +kernel
theorem dX8_suits_59 : decode cX8_suits 59 = .ok (.iconst 0, 1) := by decide +kernel
theorem dX8_suits_60 : decode cX8_suits 60 = .ok (.ireturn, 1) := by decide +kernel
theorem dX8_lookers_0 : decode cX8_lookers 0 = .ok (.iconst 0, 1) := by decide +kernel
theorem dX8_lookers_1 : decode cX8_lookers 1 = .ok (.istore_n 2, 1) := by decide +kernel
theorem dX8_lookers_2 : decode cX8_lookers 2 = .ok (.iconst 0, 1) := by decide +kernel
theorem dX8_lookers_3 : decode cX8_lookers 3 = .ok (.istore_n 3, 1) := by decide +kernel
theorem dX8_lookers_4 : decode cX8_lookers 4 = .ok (.iload_n 3, 1) := by decide +kernel
theorem dX8_lookers_5 : decode cX8_lookers 5 = .ok (.aload_n 0, 1) := by decide +kernel
theorem dX8_lookers_6 : decode cX8_lookers 6 = .ok (.getfield 7, 3) := by decide +kernel
theorem dX8_lookers_9 : decode cX8_lookers 9 = .ok (.iconst 0, 1) := by decide +kernel
theorem dX8_lookers_10 : decode cX8_lookers 10 = .ok (.iaload, 1) := by decide +kernel
theorem dX8_lookers_11 : decode cX8_lookers 11 = .ok (.if_icmp .ge 27, 3) := by decide +kernel
theorem dX8_lookers_14 : decode cX8_lookers 14 = .ok (.iload_n 2, 1) := by decide +kernel
theorem dX8_lookers_15 : decode cX8_lookers 15 = .ok (.aload_n 0, 1) := by decide +kernel
theorem dX8_lookers_16 : decode cX8_lookers 16 = .ok (.getfield 25, 3) := by decide +kernel
theorem dX8_lookers_19 : decode cX8_lookers 19 = .ok (.iload_n 3, 1) := by decide +kernel
theorem dX8_lookers_20 : decode cX8_lookers 20 = .ok (.iaload, 1) := by decide +kernel
theorem dX8_lookers_21 : decode cX8_lookers 21 = .ok (.iload_n 1, 1) := by decide +kernel
theorem dX8_lookers_22 : decode cX8_lookers 22 = .ok (.if_icmp .ne 7, 3) := by decide +kernel
theorem dX8_lookers_25 : decode cX8_lookers 25 = .ok (.iconst 1, 1) := by decide +kernel
theorem dX8_lookers_26 : decode cX8_lookers 26 = .ok (.goto 4, 3) := by decide +kernel
theorem dX8_lookers_29 : decode cX8_lookers 29 = .ok (.iconst 0, 1) := by decide +kernel
theorem dX8_lookers_30 : decode cX8_lookers 30 = .ok (.iadd, 1) := by decide +kernel
theorem dX8_lookers_31 : decode cX8_lookers 31 = .ok (.istore_n 2, 1) := by decide +kernel
theorem dX8_lookers_32 : decode cX8_lookers 32 = .ok (.iinc 3 1, 3) := by decide +kernel
theorem dX8_lookers_35 : decode cX8_lookers 35 = .ok (.goto (-31), 3) := by decide +kernel
theorem dX8_lookers_38 : decode cX8_lookers 38 = .ok (.iload_n 2, 1) := by decide +kernel
theorem dX8_lookers_39 : decode cX8_lookers 39 = .ok (.ireturn, 1) := by decide +kernel
theorem dX8_holds_0 : decode cX8_holds 0 = .ok (.iload_n 1, 1) := by decide +kernel
theorem dX8_holds_1 : decode cX8_holds 1 = .ok (.tableswitch 129 0 4 #[35, 51, 67, 93, 114], 35) := by decide +kernel
theorem dX8_holds_36 : decode cX8_holds 36 = .ok (.aload_n 0, 1) := by decide +kernel
theorem dX8_holds_37 : decode cX8_holds 37 = .ok (.getfield 25, 3) := by decide +kernel
theorem dX8_holds_40 : decode cX8_holds 40 = .ok (.iload_n 2, 1) := by decide +kernel
theorem dX8_holds_41 : decode cX8_holds 41 = .ok (.iaload, 1) := by decide +kernel
theorem dX8_holds_42 : decode cX8_holds 42 = .ok (.iload_n 3, 1) := by decide +kernel
theorem dX8_holds_43 : decode cX8_holds 43 = .ok (.if_icmp .ne 7, 3) := by decide +kernel
theorem dX8_holds_46 : decode cX8_holds 46 = .ok (.iconst 1, 1) := by decide +kernel
theorem dX8_holds_47 : decode cX8_holds 47 = .ok (.goto 4, 3) := by decide +kernel
theorem dX8_holds_50 : decode cX8_holds 50 = .ok (.iconst 0, 1) := by decide +kernel
theorem dX8_holds_51 : decode cX8_holds 51 = .ok (.ireturn, 1) := by decide +kernel
theorem dX8_holds_52 : decode cX8_holds 52 = .ok (.aload_n 0, 1) := by decide +kernel
theorem dX8_holds_53 : decode cX8_holds 53 = .ok (.getfield 25, 3) := by decide +kernel
