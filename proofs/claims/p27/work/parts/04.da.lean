theorem dX0_init_0 : decode cX0_init 0 = .ok (.aload_n 0, 1) := by decide +kernel
theorem dX0_init_1 : decode cX0_init 1 = .ok (.invokespecial 1, 3) := by decide +kernel
theorem dX0_init_4 : decode cX0_init 4 = .ok (.return_, 1) := by decide +kernel
theorem dX0_restart_0 : decode cX0_restart 0 = .ok (.aload_n 0, 1) := by decide +kernel
theorem dX0_restart_1 : decode cX0_restart 1 = .ok (.iload_n 1, 1) := by decide +kernel
theorem dX0_restart_2 : decode cX0_restart 2 = .ok (.putfield 7, 3) := by decide +kernel
theorem dX0_restart_5 : decode cX0_restart 5 = .ok (.aload_n 0, 1) := by decide +kernel
theorem dX0_restart_6 : decode cX0_restart 6 = .ok (.iconst 0, 1) := by decide +kernel
theorem dX0_restart_7 : decode cX0_restart 7 = .ok (.putfield 13, 3) := by decide +kernel
theorem dX0_restart_10 : decode cX0_restart 10 = .ok (.aload_n 0, 1) := by decide +kernel
theorem dX0_restart_11 : decode cX0_restart 11 = .ok (.iconst 0, 1) := by decide +kernel
theorem dX0_restart_12 : decode cX0_restart 12 = .ok (.putfield 16, 3) := by decide +kernel
theorem dX0_restart_15 : decode cX0_restart 15 = .ok (.aload_n 0, 1) := by decide +kernel
theorem dX0_restart_16 : decode cX0_restart 16 = .ok (.iconst 0, 1) := by decide +kernel
theorem dX0_restart_17 : decode cX0_restart 17 = .ok (.putfield 19, 3) := by decide +kernel
theorem dX0_restart_20 : decode cX0_restart 20 = .ok (.aload_n 0, 1) := by decide +kernel
theorem dX0_restart_21 : decode cX0_restart 21 = .ok (.iconst 0, 1) := by decide +kernel
theorem dX0_restart_22 : decode cX0_restart 22 = .ok (.putfield 22, 3) := by decide +kernel
theorem dX0_restart_25 : decode cX0_restart 25 = .ok (.return_, 1) := by decide +kernel
theorem dX0_hasLimits_0 : decode cX0_hasLimits 0 = .ok (.aload_n 0, 1) := by decide +kernel
theorem dX0_hasLimits_1 : decode cX0_hasLimits 1 = .ok (.getfield 22, 3) := by decide +kernel
theorem dX0_hasLimits_4 : decode cX0_hasLimits 4 = .ok (.ifCond .ne 10, 3) := by decide +kernel
theorem dX0_hasLimits_7 : decode cX0_hasLimits 7 = .ok (.aload_n 0, 1) := by decide +kernel
theorem dX0_hasLimits_8 : decode cX0_hasLimits 8 = .ok (.getfield 13, 3) := by decide +kernel
theorem dX0_hasLimits_11 : decode cX0_hasLimits 11 = .ok (.ifCond .le 7, 3) := by decide +kernel
theorem dX0_hasLimits_14 : decode cX0_hasLimits 14 = .ok (.iconst 1, 1) := by decide +kernel
theorem dX0_hasLimits_15 : decode cX0_hasLimits 15 = .ok (.goto 4, 3) := by decide +kernel
theorem dX0_hasLimits_18 : decode cX0_hasLimits 18 = .ok (.iconst 0, 1) := by decide +kernel
theorem dX0_hasLimits_19 : decode cX0_hasLimits 19 = .ok (.ireturn, 1) := by decide +kernel
theorem dX0_settle_0 : decode cX0_settle 0 = .ok (.aload_n 0, 1) := by decide +kernel
theorem dX0_settle_1 : decode cX0_settle 1 = .ok (.getfield 22, 3) := by decide +kernel
theorem dX0_settle_4 : decode cX0_settle 4 = .ok (.ifCond .ne 10, 3) := by decide +kernel
theorem dX0_settle_7 : decode cX0_settle 7 = .ok (.aload_n 0, 1) := by decide +kernel
theorem dX0_settle_8 : decode cX0_settle 8 = .ok (.getfield 13, 3) := by decide +kernel
theorem dX0_settle_11 : decode cX0_settle 11 = .ok (.ifCond .ne 4, 3) := by decide +kernel
theorem dX0_settle_14 : decode cX0_settle 14 = .ok (.return_, 1) := by decide +kernel
theorem dX0_settle_15 : decode cX0_settle 15 = .ok (.aload_n 0, 1) := by decide +kernel
theorem dX0_settle_16 : decode cX0_settle 16 = .ok (.ldc2_w 26, 3) := by decide +kernel
theorem dX0_settle_19 : decode cX0_settle 19 = .ok (.aload_n 0, 1) := by decide +kernel
theorem dX0_settle_20 : decode cX0_settle 20 = .ok (.getfield 16, 3) := by decide +kernel
theorem dX0_settle_23 : decode cX0_settle 23 = .ok (.i2l, 1) := by decide +kernel
theorem dX0_settle_24 : decode cX0_settle 24 = .ok (.lmul, 1) := by decide +kernel
theorem dX0_settle_25 : decode cX0_settle 25 = .ok (.iload_n 1, 1) := by decide +kernel
theorem dX0_settle_26 : decode cX0_settle 26 = .ok (.i2l, 1) := by decide +kernel
theorem dX0_settle_27 : decode cX0_settle 27 = .ok (.aload_n 0, 1) := by decide +kernel
theorem dX0_settle_28 : decode cX0_settle 28 = .ok (.getfield 13, 3) := by decide +kernel
theorem dX0_settle_31 : decode cX0_settle 31 = .ok (.i2l, 1) := by decide +kernel
theorem dX0_settle_32 : decode cX0_settle 32 = .ok (.lmul, 1) := by decide +kernel
theorem dX0_settle_33 : decode cX0_settle 33 = .ok (.invokestatic 28, 3) := by decide +kernel
theorem dX0_settle_36 : decode cX0_settle 36 = .ok (.l2i, 1) := by decide +kernel
theorem dX0_settle_37 : decode cX0_settle 37 = .ok (.putfield 34, 3) := by decide +kernel
theorem dX0_settle_40 : decode cX0_settle 40 = .ok (.ldc2_w 26, 3) := by decide +kernel
theorem dX0_settle_43 : decode cX0_settle 43 = .ok (.aload_n 0, 1) := by decide +kernel
theorem dX0_settle_44 : decode cX0_settle 44 = .ok (.getfield 19, 3) := by decide +kernel
theorem dX0_settle_47 : decode cX0_settle 47 = .ok (.i2l, 1) := by decide +kernel
theorem dX0_settle_48 : decode cX0_settle 48 = .ok (.lmul, 1) := by decide +kernel
theorem dX0_settle_49 : decode cX0_settle 49 = .ok (.aload_n 0, 1) := by decide +kernel
theorem dX0_settle_50 : decode cX0_settle 50 = .ok (.getfield 13, 3) := by decide +kernel
theorem dX0_settle_53 : decode cX0_settle 53 = .ok (.i2l, 1) := by decide +kernel
theorem dX0_settle_54 : decode cX0_settle 54 = .ok (.invokestatic 28, 3) := by decide +kernel
theorem dX0_settle_57 : decode cX0_settle 57 = .ok (.lstore_n 2, 1) := by decide +kernel
theorem dX0_settle_58 : decode cX0_settle 58 = .ok (.aload_n 0, 1) := by decide +kernel
theorem dX0_settle_59 : decode cX0_settle 59 = .ok (.lload_n 2, 1) := by decide +kernel
theorem dX0_settle_60 : decode cX0_settle 60 = .ok (.l2i, 1) := by decide +kernel
theorem dX0_settle_61 : decode cX0_settle 61 = .ok (.putfield 37, 3) := by decide +kernel
theorem dX0_settle_64 : decode cX0_settle 64 = .ok (.aload_n 0, 1) := by decide +kernel
theorem dX0_settle_65 : decode cX0_settle 65 = .ok (.getstatic 40, 3) := by decide +kernel
theorem dX0_settle_68 : decode cX0_settle 68 = .ok (.iload_n 1, 1) := by decide +kernel
theorem dX0_settle_69 : decode cX0_settle 69 = .ok (.invokestatic 44, 3) := by decide +kernel
theorem dX0_settle_72 : decode cX0_settle 72 = .ok (.i2l, 1) := by decide +kernel
theorem dX0_settle_73 : decode cX0_settle 73 = .ok (.lload_n 2, 1) := by decide +kernel
theorem dX0_settle_74 : decode cX0_settle 74 = .ok (.lmul, 1) := by decide +kernel
theorem dX0_settle_75 : decode cX0_settle 75 = .ok (.ldc2_w 26, 3) := by decide +kernel
theorem dX0_settle_78 : decode cX0_settle 78 = .ok (.invokestatic 28, 3) := by decide +kernel
theorem dX0_settle_81 : decode cX0_settle 81 = .ok (.l2i, 1) := by decide +kernel
theorem dX0_settle_82 : decode cX0_settle 82 = .ok (.putfield 48, 3) := by decide +kernel
theorem dX0_settle_85 : decode cX0_settle 85 = .ok (.aload_n 0, 1) := by decide +kernel
theorem dX0_settle_86 : decode cX0_settle 86 = .ok (.getstatic 51, 3) := by decide +kernel
theorem dX0_settle_89 : decode cX0_settle 89 = .ok (.iload_n 1, 1) := by decide +kernel
theorem dX0_settle_90 : decode cX0_settle 90 = .ok (.invokestatic 44, 3) := by decide +kernel
theorem dX0_settle_93 : decode cX0_settle 93 = .ok (.i2l, 1) := by decide +kernel
theorem dX0_settle_94 : decode cX0_settle 94 = .ok (.lload_n 2, 1) := by decide +kernel
theorem dX0_settle_95 : decode cX0_settle 95 = .ok (.lmul, 1) := by decide +kernel
theorem dX0_settle_96 : decode cX0_settle 96 = .ok (.ldc2_w 26, 3) := by decide +kernel
theorem dX0_settle_99 : decode cX0_settle 99 = .ok (.invokestatic 28, 3) := by decide +kernel
theorem dX0_settle_102 : decode cX0_settle 102 = .ok (.l2i, 1) := by decide +kernel
theorem dX0_settle_103 : decode cX0_settle 103 = .ok (.putfield 54, 3) := by decide +kernel
theorem dX0_settle_106 : decode cX0_settle 106 = .ok (.return_, 1) := by decide +kernel
theorem dX0_sideOfCenter_0 : decode cX0_sideOfCenter 0 = .ok (.aload_n 0, 1) := by decide +kernel
theorem dX0_sideOfCenter_1 : decode cX0_sideOfCenter 1 = .ok (.getfield 34, 3) := by decide +kernel
theorem dX0_sideOfCenter_4 : decode cX0_sideOfCenter 4 = .ok (.iload_n 1, 1) := by decide +kernel
theorem dX0_sideOfCenter_5 : decode cX0_sideOfCenter 5 = .ok (.invokestatic 57, 3) := by decide +kernel
theorem dX0_sideOfCenter_8 : decode cX0_sideOfCenter 8 = .ok (.ireturn, 1) := by decide +kernel
theorem dX0_sideBeyond_0 : decode cX0_sideBeyond 0 = .ok (.iconst 3, 1) := by decide +kernel
theorem dX0_sideBeyond_1 : decode cX0_sideBeyond 1 = .ok (.iload_n 1, 1) := by decide +kernel
theorem dX0_sideBeyond_2 : decode cX0_sideBeyond 2 = .ok (.aload_n 0, 1) := by decide +kernel
theorem dX0_sideBeyond_3 : decode cX0_sideBeyond 3 = .ok (.getfield 34, 3) := by decide +kernel
theorem dX0_sideBeyond_6 : decode cX0_sideBeyond 6 = .ok (.isub, 1) := by decide +kernel
theorem dX0_sideBeyond_7 : decode cX0_sideBeyond 7 = .ok (.imul, 1) := by decide +kernel
theorem dX0_sideBeyond_8 : decode cX0_sideBeyond 8 = .ok (.iload_n 2, 1) := by decide +kernel
theorem dX0_sideBeyond_9 : decode cX0_sideBeyond 9 = .ok (.aload_n 0, 1) := by decide +kernel
theorem dX0_sideBeyond_10 : decode cX0_sideBeyond 10 = .ok (.getfield 48, 3) := by decide +kernel
theorem dX0_sideBeyond_13 : decode cX0_sideBeyond 13 = .ok (.imul, 1) := by decide +kernel
theorem dX0_sideBeyond_14 : decode cX0_sideBeyond 14 = .ok (.if_icmp .le 5, 3) := by decide +kernel
theorem dX0_sideBeyond_17 : decode cX0_sideBeyond 17 = .ok (.iconst 1, 1) := by decide +kernel
theorem dX0_sideBeyond_18 : decode cX0_sideBeyond 18 = .ok (.ireturn, 1) := by decide +kernel
theorem dX0_sideBeyond_19 : decode cX0_sideBeyond 19 = .ok (.iconst 3, 1) := by decide +kernel
theorem dX0_sideBeyond_20 : decode cX0_sideBeyond 20 = .ok (.aload_n 0, 1) := by decide +kernel
theorem dX0_sideBeyond_21 : decode cX0_sideBeyond 21 = .ok (.getfield 34, 3) := by decide +kernel
theorem dX0_sideBeyond_24 : decode cX0_sideBeyond 24 = .ok (.iload_n 1, 1) := by decide +kernel
theorem dX0_sideBeyond_25 : decode cX0_sideBeyond 25 = .ok (.isub, 1) := by decide +kernel
theorem dX0_sideBeyond_26 : decode cX0_sideBeyond 26 = .ok (.imul, 1) := by decide +kernel
theorem dX0_sideBeyond_27 : decode cX0_sideBeyond 27 = .ok (.iload_n 2, 1) := by decide +kernel
theorem dX0_sideBeyond_28 : decode cX0_sideBeyond 28 = .ok (.aload_n 0, 1) := by decide +kernel
theorem dX0_sideBeyond_29 : decode cX0_sideBeyond 29 = .ok (.getfield 48, 3) := by decide +kernel
theorem dX0_sideBeyond_32 : decode cX0_sideBeyond 32 = .ok (.imul, 1) := by decide +kernel
theorem dX0_sideBeyond_33 : decode cX0_sideBeyond 33 = .ok (.if_icmp .le 7, 3) := by decide +kernel
theorem dX0_sideBeyond_36 : decode cX0_sideBeyond 36 = .ok (.iconst (-1), 1) := by decide +kernel
theorem dX0_sideBeyond_37 : decode cX0_sideBeyond 37 = .ok (.goto 4, 3) := by decide +kernel
theorem dX0_sideBeyond_40 : decode cX0_sideBeyond 40 = .ok (.iconst 0, 1) := by decide +kernel
theorem dX0_sideBeyond_41 : decode cX0_sideBeyond 41 = .ok (.ireturn, 1) := by decide +kernel
theorem dX1_init_0 : decode cX1_init 0 = .ok (.aload_n 0, 1) := by decide +kernel
theorem dX1_init_1 : decode cX1_init 1 = .ok (.invokespecial 1, 3) := by decide +kernel
theorem dX1_init_4 : decode cX1_init 4 = .ok (.return_, 1) := by decide +kernel
theorem dX1_restart_0 : decode cX1_restart 0 = .ok (.aload_n 0, 1) := by decide +kernel
theorem dX1_restart_1 : decode cX1_restart 1 = .ok (.iconst 0, 1) := by decide +kernel
theorem dX1_restart_2 : decode cX1_restart 2 = .ok (.putfield 7, 3) := by decide +kernel
theorem dX1_restart_5 : decode cX1_restart 5 = .ok (.aload_n 0, 1) := by decide +kernel
theorem dX1_restart_6 : decode cX1_restart 6 = .ok (.iconst 0, 1) := by decide +kernel
theorem dX1_restart_7 : decode cX1_restart 7 = .ok (.putfield 13, 3) := by decide +kernel
theorem dX1_restart_10 : decode cX1_restart 10 = .ok (.aload_n 0, 1) := by decide +kernel
theorem dX1_restart_11 : decode cX1_restart 11 = .ok (.iconst 0, 1) := by decide +kernel
theorem dX1_restart_12 : decode cX1_restart 12 = .ok (.putfield 16, 3) := by decide +kernel
theorem dX1_restart_15 : decode cX1_restart 15 = .ok (.aload_n 0, 1) := by decide +kernel
theorem dX1_restart_16 : decode cX1_restart 16 = .ok (.iconst 0, 1) := by decide +kernel
theorem dX1_restart_17 : decode cX1_restart 17 = .ok (.putfield 19, 3) := by decide +kernel
theorem dX1_restart_20 : decode cX1_restart 20 = .ok (.aload_n 0, 1) := by decide +kernel
theorem dX1_restart_21 : decode cX1_restart 21 = .ok (.iconst 0, 1) := by decide +kernel
theorem dX1_restart_22 : decode cX1_restart 22 = .ok (.putfield 22, 3) := by decide +kernel
theorem dX1_restart_25 : decode cX1_restart 25 = .ok (.aload_n 0, 1) := by decide +kernel
theorem dX1_restart_26 : decode cX1_restart 26 = .ok (.iconst 0, 1) := by decide +kernel
theorem dX1_restart_27 : decode cX1_restart 27 = .ok (.putfield 25, 3) := by decide +kernel
theorem dX1_restart_30 : decode cX1_restart 30 = .ok (.aload_n 0, 1) := by decide +kernel
theorem dX1_restart_31 : decode cX1_restart 31 = .ok (.iconst 0, 1) := by decide +kernel
theorem dX1_restart_32 : decode cX1_restart 32 = .ok (.putfield 28, 3) := by decide +kernel
theorem dX1_restart_35 : decode cX1_restart 35 = .ok (.aload_n 0, 1) := by decide +kernel
theorem dX1_restart_36 : decode cX1_restart 36 = .ok (.iconst 0, 1) := by decide +kernel
theorem dX1_restart_37 : decode cX1_restart 37 = .ok (.putfield 31, 3) := by decide +kernel
theorem dX1_restart_40 : decode cX1_restart 40 = .ok (.aload_n 0, 1) := by decide +kernel
theorem dX1_restart_41 : decode cX1_restart 41 = .ok (.iconst 0, 1) := by decide +kernel
theorem dX1_restart_42 : decode cX1_restart 42 = .ok (.putfield 34, 3) := by decide +kernel
theorem dX1_restart_45 : decode cX1_restart 45 = .ok (.aload_n 0, 1) := by decide +kernel
theorem dX1_restart_46 : decode cX1_restart 46 = .ok (.iconst 0, 1) := by decide +kernel
theorem dX1_restart_47 : decode cX1_restart 47 = .ok (.putfield 37, 3) := by decide +kernel
theorem dX1_restart_50 : decode cX1_restart 50 = .ok (.aload_n 0, 1) := by decide +kernel
theorem dX1_restart_51 : decode cX1_restart 51 = .ok (.iconst 0, 1) := by decide +kernel
theorem dX1_restart_52 : decode cX1_restart 52 = .ok (.putfield 40, 3) := by decide +kernel
theorem dX1_restart_55 : decode cX1_restart 55 = .ok (.aload_n 0, 1) := by decide +kernel
theorem dX1_restart_56 : decode cX1_restart 56 = .ok (.iconst 0, 1) := by decide +kernel
theorem dX1_restart_57 : decode cX1_restart 57 = .ok (.putfield 43, 3) := by decide +kernel
theorem dX1_restart_60 : decode cX1_restart 60 = .ok (.aload_n 0, 1) := by decide +kernel
theorem dX1_restart_61 : decode cX1_restart 61 = .ok (.iconst 0, 1) := by decide +kernel
theorem dX1_restart_62 : decode cX1_restart 62 = .ok (.putfield 46, 3) := by decide +kernel
theorem dX1_restart_65 : decode cX1_restart 65 = .ok (.aload_n 0, 1) := by decide +kernel
theorem dX1_restart_66 : decode cX1_restart 66 = .ok (.iconst 0, 1) := by decide +kernel
theorem dX1_restart_67 : decode cX1_restart 67 = .ok (.putfield 49, 3) := by decide +kernel
theorem dX1_restart_70 : decode cX1_restart 70 = .ok (.aload_n 0, 1) := by decide +kernel
theorem dX1_restart_71 : decode cX1_restart 71 = .ok (.iconst 0, 1) := by decide +kernel
theorem dX1_restart_72 : decode cX1_restart 72 = .ok (.putfield 52, 3) := by decide +kernel
theorem dX1_restart_75 : decode cX1_restart 75 = .ok (.aload_n 0, 1) := by decide +kernel
theorem dX1_restart_76 : decode cX1_restart 76 = .ok (.iconst 0, 1) := by decide +kernel
theorem dX1_restart_77 : decode cX1_restart 77 = .ok (.putfield 55, 3) := by decide +kernel
theorem dX1_restart_80 : decode cX1_restart 80 = .ok (.return_, 1) := by decide +kernel
theorem dX1_take_0 : decode cX1_take 0 = .ok (.aload_n 0, 1) := by decide +kernel
theorem dX1_take_1 : decode cX1_take 1 = .ok (.aload_n 2, 1) := by decide +kernel
theorem dX1_take_2 : decode cX1_take 2 = .ok (.iload_n 1, 1) := by decide +kernel
theorem dX1_take_3 : decode cX1_take 3 = .ok (.invokevirtual 58, 3) := by decide +kernel
theorem dX1_take_6 : decode cX1_take 6 = .ok (.invokevirtual 64, 3) := by decide +kernel
theorem dX1_take_9 : decode cX1_take 9 = .ok (.aload_n 0, 1) := by decide +kernel
theorem dX1_take_10 : decode cX1_take 10 = .ok (.aload_n 0, 1) := by decide +kernel
theorem dX1_take_11 : decode cX1_take 11 = .ok (.getfield 7, 3) := by decide +kernel
theorem dX1_take_14 : decode cX1_take 14 = .ok (.ifCond .ne 7, 3) := by decide +kernel
theorem dX1_take_17 : decode cX1_take 17 = .ok (.iconst 0, 1) := by decide +kernel
theorem dX1_take_18 : decode cX1_take 18 = .ok (.goto 11, 3) := by decide +kernel
theorem dX1_take_21 : decode cX1_take 21 = .ok (.aload_n 0, 1) := by decide +kernel
theorem dX1_take_22 : decode cX1_take 22 = .ok (.getfield 13, 3) := by decide +kernel
theorem dX1_take_25 : decode cX1_take 25 = .ok (.iload_n 1, 1) := by decide +kernel
theorem dX1_take_26 : decode cX1_take 26 = .ok (.invokestatic 68, 3) := by decide +kernel
theorem dX1_take_29 : decode cX1_take 29 = .ok (.invokevirtual 74, 3) := by decide +kernel
theorem dX1_take_32 : decode cX1_take 32 = .ok (.aload_n 0, 1) := by decide +kernel
theorem dX1_take_33 : decode cX1_take 33 = .ok (.iload_n 1, 1) := by decide +kernel
theorem dX1_take_34 : decode cX1_take 34 = .ok (.aload_n 2, 1) := by decide +kernel
theorem dX1_take_35 : decode cX1_take 35 = .ok (.invokevirtual 77, 3) := by decide +kernel
theorem dX1_take_38 : decode cX1_take 38 = .ok (.aload_n 0, 1) := by decide +kernel
theorem dX1_take_39 : decode cX1_take 39 = .ok (.iload_n 1, 1) := by decide +kernel
theorem dX1_take_40 : decode cX1_take 40 = .ok (.putfield 13, 3) := by decide +kernel
theorem dX1_take_43 : decode cX1_take 43 = .ok (.aload_n 0, 1) := by decide +kernel
theorem dX1_take_44 : decode cX1_take 44 = .ok (.dup, 1) := by decide +kernel
theorem dX1_take_45 : decode cX1_take 45 = .ok (.getfield 7, 3) := by decide +kernel
theorem dX1_take_48 : decode cX1_take 48 = .ok (.iconst 1, 1) := by decide +kernel
theorem dX1_take_49 : decode cX1_take 49 = .ok (.iadd, 1) := by decide +kernel
theorem dX1_take_50 : decode cX1_take 50 = .ok (.putfield 7, 3) := by decide +kernel
theorem dX1_take_53 : decode cX1_take 53 = .ok (.return_, 1) := by decide +kernel
theorem dX1_takeCenterSide_0 : decode cX1_takeCenterSide 0 = .ok (.aload_n 0, 1) := by decide +kernel
theorem dX1_takeCenterSide_1 : decode cX1_takeCenterSide 1 = .ok (.iload_n 1, 1) := by decide +kernel
theorem dX1_takeCenterSide_2 : decode cX1_takeCenterSide 2 = .ok (.ifCond .ne 7, 3) := by decide +kernel
theorem dX1_takeCenterSide_5 : decode cX1_takeCenterSide 5 = .ok (.iconst 0, 1) := by decide +kernel
theorem dX1_takeCenterSide_6 : decode cX1_takeCenterSide 6 = .ok (.goto 21, 3) := by decide +kernel
theorem dX1_takeCenterSide_9 : decode cX1_takeCenterSide 9 = .ok (.iload_n 1, 1) := by decide +kernel
theorem dX1_takeCenterSide_10 : decode cX1_takeCenterSide 10 = .ok (.aload_n 0, 1) := by decide +kernel
theorem dX1_takeCenterSide_11 : decode cX1_takeCenterSide 11 = .ok (.getfield 19, 3) := by decide +kernel
theorem dX1_takeCenterSide_14 : decode cX1_takeCenterSide 14 = .ok (.if_icmp .ne 12, 3) := by decide +kernel
theorem dX1_takeCenterSide_17 : decode cX1_takeCenterSide 17 = .ok (.aload_n 0, 1) := by decide +kernel
theorem dX1_takeCenterSide_18 : decode cX1_takeCenterSide 18 = .ok (.getfield 22, 3) := by decide +kernel
theorem dX1_takeCenterSide_21 : decode cX1_takeCenterSide 21 = .ok (.iconst 1, 1) := by decide +kernel
theorem dX1_takeCenterSide_22 : decode cX1_takeCenterSide 22 = .ok (.iadd, 1) := by decide +kernel
theorem dX1_takeCenterSide_23 : decode cX1_takeCenterSide 23 = .ok (.goto 4, 3) := by decide +kernel
theorem dX1_takeCenterSide_26 : decode cX1_takeCenterSide 26 = .ok (.iconst 1, 1) := by decide +kernel
theorem dX1_takeCenterSide_27 : decode cX1_takeCenterSide 27 = .ok (.putfield 22, 3) := by decide +kernel
theorem dX1_takeCenterSide_30 : decode cX1_takeCenterSide 30 = .ok (.aload_n 0, 1) := by decide +kernel
theorem dX1_takeCenterSide_31 : decode cX1_takeCenterSide 31 = .ok (.iload_n 1, 1) := by decide +kernel
theorem dX1_takeCenterSide_32 : decode cX1_takeCenterSide 32 = .ok (.putfield 19, 3) := by decide +kernel
theorem dX1_takeCenterSide_35 : decode cX1_takeCenterSide 35 = .ok (.return_, 1) := by decide +kernel
theorem dX1_takeDirection_0 : decode cX1_takeDirection 0 = .ok (.iload_n 1, 1) := by decide +kernel
theorem dX1_takeDirection_1 : decode cX1_takeDirection 1 = .ok (.ifCond .ne 16, 3) := by decide +kernel
theorem dX1_takeDirection_4 : decode cX1_takeDirection 4 = .ok (.aload_n 0, 1) := by decide +kernel
theorem dX1_takeDirection_5 : decode cX1_takeDirection 5 = .ok (.iconst 1, 1) := by decide +kernel
theorem dX1_takeDirection_6 : decode cX1_takeDirection 6 = .ok (.putfield 25, 3) := by decide +kernel
theorem dX1_takeDirection_9 : decode cX1_takeDirection 9 = .ok (.aload_n 0, 1) := by decide +kernel
theorem dX1_takeDirection_10 : decode cX1_takeDirection 10 = .ok (.iconst 1, 1) := by decide +kernel
theorem dX1_takeDirection_11 : decode cX1_takeDirection 11 = .ok (.putfield 28, 3) := by decide +kernel
theorem dX1_takeDirection_14 : decode cX1_takeDirection 14 = .ok (.goto 48, 3) := by decide +kernel
theorem dX1_takeDirection_17 : decode cX1_takeDirection 17 = .ok (.aload_n 0, 1) := by decide +kernel
theorem dX1_takeDirection_18 : decode cX1_takeDirection 18 = .ok (.iload_n 1, 1) := by decide +kernel
theorem dX1_takeDirection_19 : decode cX1_takeDirection 19 = .ok (.aload_n 0, 1) := by decide +kernel
theorem dX1_takeDirection_20 : decode cX1_takeDirection 20 = .ok (.getfield 16, 3) := by decide +kernel
theorem dX1_takeDirection_23 : decode cX1_takeDirection 23 = .ok (.if_icmp .ne 12, 3) := by decide +kernel
theorem dX1_takeDirection_26 : decode cX1_takeDirection 26 = .ok (.aload_n 0, 1) := by decide +kernel
theorem dX1_takeDirection_27 : decode cX1_takeDirection 27 = .ok (.getfield 25, 3) := by decide +kernel
theorem dX1_takeDirection_30 : decode cX1_takeDirection 30 = .ok (.iconst 1, 1) := by decide +kernel
theorem dX1_takeDirection_31 : decode cX1_takeDirection 31 = .ok (.iadd, 1) := by decide +kernel
theorem dX1_takeDirection_32 : decode cX1_takeDirection 32 = .ok (.goto 4, 3) := by decide +kernel
theorem dX1_takeDirection_35 : decode cX1_takeDirection 35 = .ok (.iconst 2, 1) := by decide +kernel
theorem dX1_takeDirection_36 : decode cX1_takeDirection 36 = .ok (.putfield 25, 3) := by decide +kernel
theorem dX1_takeDirection_39 : decode cX1_takeDirection 39 = .ok (.aload_n 0, 1) := by decide +kernel
theorem dX1_takeDirection_40 : decode cX1_takeDirection 40 = .ok (.iload_n 1, 1) := by decide +kernel
theorem dX1_takeDirection_41 : decode cX1_takeDirection 41 = .ok (.aload_n 0, 1) := by decide +kernel
theorem dX1_takeDirection_42 : decode cX1_takeDirection 42 = .ok (.getfield 16, 3) := by decide +kernel
theorem dX1_takeDirection_45 : decode cX1_takeDirection 45 = .ok (.ineg, 1) := by decide +kernel
theorem dX1_takeDirection_46 : decode cX1_takeDirection 46 = .ok (.if_icmp .ne 12, 3) := by decide +kernel
theorem dX1_takeDirection_49 : decode cX1_takeDirection 49 = .ok (.aload_n 0, 1) := by decide +kernel
theorem dX1_takeDirection_50 : decode cX1_takeDirection 50 = .ok (.getfield 28, 3) := by decide +kernel
theorem dX1_takeDirection_53 : decode cX1_takeDirection 53 = .ok (.iconst 1, 1) := by decide +kernel
theorem dX1_takeDirection_54 : decode cX1_takeDirection 54 = .ok (.iadd, 1) := by decide +kernel
theorem dX1_takeDirection_55 : decode cX1_takeDirection 55 = .ok (.goto 4, 3) := by decide +kernel
theorem dX1_takeDirection_58 : decode cX1_takeDirection 58 = .ok (.iconst 2, 1) := by decide +kernel
theorem dX1_takeDirection_59 : decode cX1_takeDirection 59 = .ok (.putfield 28, 3) := by decide +kernel
theorem dX1_takeDirection_62 : decode cX1_takeDirection 62 = .ok (.aload_n 0, 1) := by decide +kernel
theorem dX1_takeDirection_63 : decode cX1_takeDirection 63 = .ok (.iload_n 1, 1) := by decide +kernel
theorem dX1_takeDirection_64 : decode cX1_takeDirection 64 = .ok (.putfield 16, 3) := by decide +kernel
theorem dX1_takeDirection_67 : decode cX1_takeDirection 67 = .ok (.return_, 1) := by decide +kernel
theorem dX1_takeSidesBeyond_0 : decode cX1_takeSidesBeyond 0 = .ok (.aload_n 0, 1) := by decide +kernel
theorem dX1_takeSidesBeyond_1 : decode cX1_takeSidesBeyond 1 = .ok (.aload_n 2, 1) := by decide +kernel
theorem dX1_takeSidesBeyond_2 : decode cX1_takeSidesBeyond 2 = .ok (.iload_n 1, 1) := by decide +kernel
theorem dX1_takeSidesBeyond_3 : decode cX1_takeSidesBeyond 3 = .ok (.iconst 3, 1) := by decide +kernel
theorem dX1_takeSidesBeyond_4 : decode cX1_takeSidesBeyond 4 = .ok (.invokevirtual 81, 3) := by decide +kernel
theorem dX1_takeSidesBeyond_7 : decode cX1_takeSidesBeyond 7 = .ok (.putfield 49, 3) := by decide +kernel
theorem dX1_takeSidesBeyond_10 : decode cX1_takeSidesBeyond 10 = .ok (.aload_n 0, 1) := by decide +kernel
theorem dX1_takeSidesBeyond_11 : decode cX1_takeSidesBeyond 11 = .ok (.aload_n 2, 1) := by decide +kernel
theorem dX1_takeSidesBeyond_12 : decode cX1_takeSidesBeyond 12 = .ok (.iload_n 1, 1) := by decide +kernel
theorem dX1_takeSidesBeyond_13 : decode cX1_takeSidesBeyond 13 = .ok (.iconst 2, 1) := by decide +kernel
theorem dX1_takeSidesBeyond_14 : decode cX1_takeSidesBeyond 14 = .ok (.invokevirtual 81, 3) := by decide +kernel
theorem dX1_takeSidesBeyond_17 : decode cX1_takeSidesBeyond 17 = .ok (.putfield 52, 3) := by decide +kernel
theorem dX1_takeSidesBeyond_20 : decode cX1_takeSidesBeyond 20 = .ok (.aload_n 0, 1) := by decide +kernel
theorem dX1_takeSidesBeyond_21 : decode cX1_takeSidesBeyond 21 = .ok (.aload_n 2, 1) := by decide +kernel
theorem dX1_takeSidesBeyond_22 : decode cX1_takeSidesBeyond 22 = .ok (.iload_n 1, 1) := by decide +kernel
theorem dX1_takeSidesBeyond_23 : decode cX1_takeSidesBeyond 23 = .ok (.iconst 1, 1) := by decide +kernel
theorem dX1_takeSidesBeyond_24 : decode cX1_takeSidesBeyond 24 = .ok (.invokevirtual 81, 3) := by decide +kernel
theorem dX1_takeSidesBeyond_27 : decode cX1_takeSidesBeyond 27 = .ok (.putfield 55, 3) := by decide +kernel
theorem dX1_takeSidesBeyond_30 : decode cX1_takeSidesBeyond 30 = .ok (.aload_n 0, 1) := by decide +kernel
theorem dX1_takeSidesBeyond_31 : decode cX1_takeSidesBeyond 31 = .ok (.aload_n 0, 1) := by decide +kernel
theorem dX1_takeSidesBeyond_32 : decode cX1_takeSidesBeyond 32 = .ok (.getfield 37, 3) := by decide +kernel
theorem dX1_takeSidesBeyond_35 : decode cX1_takeSidesBeyond 35 = .ok (.aload_n 0, 1) := by decide +kernel
theorem dX1_takeSidesBeyond_36 : decode cX1_takeSidesBeyond 36 = .ok (.getfield 52, 3) := by decide +kernel
theorem dX1_takeSidesBeyond_39 : decode cX1_takeSidesBeyond 39 = .ok (.ifCond .le 7, 3) := by decide +kernel
theorem dX1_takeSidesBeyond_42 : decode cX1_takeSidesBeyond 42 = .ok (.iconst 1, 1) := by decide +kernel
theorem dX1_takeSidesBeyond_43 : decode cX1_takeSidesBeyond 43 = .ok (.goto 4, 3) := by decide +kernel
theorem dX1_takeSidesBeyond_46 : decode cX1_takeSidesBeyond 46 = .ok (.iconst 0, 1) := by decide +kernel
theorem dX1_takeSidesBeyond_47 : decode cX1_takeSidesBeyond 47 = .ok (.iconst 3, 1) := by decide +kernel
theorem dX1_takeSidesBeyond_48 : decode cX1_takeSidesBeyond 48 = .ok (.invokestatic 84, 3) := by decide +kernel
theorem dX1_takeSidesBeyond_51 : decode cX1_takeSidesBeyond 51 = .ok (.putfield 37, 3) := by decide +kernel
theorem dX1_takeSidesBeyond_54 : decode cX1_takeSidesBeyond 54 = .ok (.aload_n 0, 1) := by decide +kernel
theorem dX1_takeSidesBeyond_55 : decode cX1_takeSidesBeyond 55 = .ok (.aload_n 0, 1) := by decide +kernel
theorem dX1_takeSidesBeyond_56 : decode cX1_takeSidesBeyond 56 = .ok (.getfield 40, 3) := by decide +kernel
theorem dX1_takeSidesBeyond_59 : decode cX1_takeSidesBeyond 59 = .ok (.aload_n 0, 1) := by decide +kernel
theorem dX1_takeSidesBeyond_60 : decode cX1_takeSidesBeyond 60 = .ok (.getfield 52, 3) := by decide +kernel
theorem dX1_takeSidesBeyond_63 : decode cX1_takeSidesBeyond 63 = .ok (.ifCond .ge 7, 3) := by decide +kernel
theorem dX1_takeSidesBeyond_66 : decode cX1_takeSidesBeyond 66 = .ok (.iconst 1, 1) := by decide +kernel
theorem dX1_takeSidesBeyond_67 : decode cX1_takeSidesBeyond 67 = .ok (.goto 4, 3) := by decide +kernel
theorem dX1_takeSidesBeyond_70 : decode cX1_takeSidesBeyond 70 = .ok (.iconst 0, 1) := by decide +kernel
theorem dX1_takeSidesBeyond_71 : decode cX1_takeSidesBeyond 71 = .ok (.iconst 3, 1) := by decide +kernel
theorem dX1_takeSidesBeyond_72 : decode cX1_takeSidesBeyond 72 = .ok (.invokestatic 84, 3) := by decide +kernel
theorem dX1_takeSidesBeyond_75 : decode cX1_takeSidesBeyond 75 = .ok (.putfield 40, 3) := by decide +kernel
theorem dX1_takeSidesBeyond_78 : decode cX1_takeSidesBeyond 78 = .ok (.aload_n 0, 1) := by decide +kernel
theorem dX1_takeSidesBeyond_79 : decode cX1_takeSidesBeyond 79 = .ok (.aload_n 0, 1) := by decide +kernel
theorem dX1_takeSidesBeyond_80 : decode cX1_takeSidesBeyond 80 = .ok (.getfield 43, 3) := by decide +kernel
theorem dX1_takeSidesBeyond_83 : decode cX1_takeSidesBeyond 83 = .ok (.aload_n 0, 1) := by decide +kernel
theorem dX1_takeSidesBeyond_84 : decode cX1_takeSidesBeyond 84 = .ok (.getfield 55, 3) := by decide +kernel
theorem dX1_takeSidesBeyond_87 : decode cX1_takeSidesBeyond 87 = .ok (.ifCond .le 7, 3) := by decide +kernel
theorem dX1_takeSidesBeyond_90 : decode cX1_takeSidesBeyond 90 = .ok (.iconst 1, 1) := by decide +kernel
theorem dX1_takeSidesBeyond_91 : decode cX1_takeSidesBeyond 91 = .ok (.goto 4, 3) := by decide +kernel
theorem dX1_takeSidesBeyond_94 : decode cX1_takeSidesBeyond 94 = .ok (.iconst 0, 1) := by decide +kernel
theorem dX1_takeSidesBeyond_95 : decode cX1_takeSidesBeyond 95 = .ok (.iconst 5, 1) := by decide +kernel
theorem dX1_takeSidesBeyond_96 : decode cX1_takeSidesBeyond 96 = .ok (.invokestatic 84, 3) := by decide +kernel
theorem dX1_takeSidesBeyond_99 : decode cX1_takeSidesBeyond 99 = .ok (.putfield 43, 3) := by decide +kernel
theorem dX1_takeSidesBeyond_102 : decode cX1_takeSidesBeyond 102 = .ok (.aload_n 0, 1) := by decide +kernel
theorem dX1_takeSidesBeyond_103 : decode cX1_takeSidesBeyond 103 = .ok (.aload_n 0, 1) := by decide +kernel
theorem dX1_takeSidesBeyond_104 : decode cX1_takeSidesBeyond 104 = .ok (.getfield 46, 3) := by decide +kernel
theorem dX1_takeSidesBeyond_107 : decode cX1_takeSidesBeyond 107 = .ok (.aload_n 0, 1) := by decide +kernel
theorem dX1_takeSidesBeyond_108 : decode cX1_takeSidesBeyond 108 = .ok (.getfield 55, 3) := by decide +kernel
theorem dX1_takeSidesBeyond_111 : decode cX1_takeSidesBeyond 111 = .ok (.ifCond .ge 7, 3) := by decide +kernel
theorem dX1_takeSidesBeyond_114 : decode cX1_takeSidesBeyond 114 = .ok (.iconst 1, 1) := by decide +kernel
theorem dX1_takeSidesBeyond_115 : decode cX1_takeSidesBeyond 115 = .ok (.goto 4, 3) := by decide +kernel
theorem dX1_takeSidesBeyond_118 : decode cX1_takeSidesBeyond 118 = .ok (.iconst 0, 1) := by decide +kernel
theorem dX1_takeSidesBeyond_119 : decode cX1_takeSidesBeyond 119 = .ok (.iconst 5, 1) := by decide +kernel
theorem dX1_takeSidesBeyond_120 : decode cX1_takeSidesBeyond 120 = .ok (.invokestatic 84, 3) := by decide +kernel
theorem dX1_takeSidesBeyond_123 : decode cX1_takeSidesBeyond 123 = .ok (.putfield 46, 3) := by decide +kernel
theorem dX1_takeSidesBeyond_126 : decode cX1_takeSidesBeyond 126 = .ok (.aload_n 0, 1) := by decide +kernel
theorem dX1_takeSidesBeyond_127 : decode cX1_takeSidesBeyond 127 = .ok (.aload_n 0, 1) := by decide +kernel
theorem dX1_takeSidesBeyond_128 : decode cX1_takeSidesBeyond 128 = .ok (.getfield 55, 3) := by decide +kernel
theorem dX1_takeSidesBeyond_131 : decode cX1_takeSidesBeyond 131 = .ok (.ifCond .ne 12, 3) := by decide +kernel
theorem dX1_takeSidesBeyond_134 : decode cX1_takeSidesBeyond 134 = .ok (.aload_n 0, 1) := by decide +kernel
theorem dX1_takeSidesBeyond_135 : decode cX1_takeSidesBeyond 135 = .ok (.getfield 31, 3) := by decide +kernel
theorem dX1_takeSidesBeyond_138 : decode cX1_takeSidesBeyond 138 = .ok (.iconst 1, 1) := by decide +kernel
theorem dX1_takeSidesBeyond_139 : decode cX1_takeSidesBeyond 139 = .ok (.iadd, 1) := by decide +kernel
theorem dX1_takeSidesBeyond_140 : decode cX1_takeSidesBeyond 140 = .ok (.goto 4, 3) := by decide +kernel
theorem dX1_takeSidesBeyond_143 : decode cX1_takeSidesBeyond 143 = .ok (.iconst 0, 1) := by decide +kernel
theorem dX1_takeSidesBeyond_144 : decode cX1_takeSidesBeyond 144 = .ok (.putfield 31, 3) := by decide +kernel
theorem dX1_takeSidesBeyond_147 : decode cX1_takeSidesBeyond 147 = .ok (.aload_n 0, 1) := by decide +kernel
theorem dX1_takeSidesBeyond_148 : decode cX1_takeSidesBeyond 148 = .ok (.aload_n 0, 1) := by decide +kernel
theorem dX1_takeSidesBeyond_149 : decode cX1_takeSidesBeyond 149 = .ok (.getfield 55, 3) := by decide +kernel
theorem dX1_takeSidesBeyond_152 : decode cX1_takeSidesBeyond 152 = .ok (.ifCond .eq 12, 3) := by decide +kernel
theorem dX1_takeSidesBeyond_155 : decode cX1_takeSidesBeyond 155 = .ok (.aload_n 0, 1) := by decide +kernel
theorem dX1_takeSidesBeyond_156 : decode cX1_takeSidesBeyond 156 = .ok (.getfield 34, 3) := by decide +kernel
theorem dX1_takeSidesBeyond_159 : decode cX1_takeSidesBeyond 159 = .ok (.iconst 1, 1) := by decide +kernel
theorem dX1_takeSidesBeyond_160 : decode cX1_takeSidesBeyond 160 = .ok (.iadd, 1) := by decide +kernel
theorem dX1_takeSidesBeyond_161 : decode cX1_takeSidesBeyond 161 = .ok (.goto 4, 3) := by decide +kernel
theorem dX1_takeSidesBeyond_164 : decode cX1_takeSidesBeyond 164 = .ok (.iconst 0, 1) := by decide +kernel
theorem dX1_takeSidesBeyond_165 : decode cX1_takeSidesBeyond 165 = .ok (.putfield 34, 3) := by decide +kernel
theorem dX1_takeSidesBeyond_168 : decode cX1_takeSidesBeyond 168 = .ok (.return_, 1) := by decide +kernel
theorem dX1_pushed_0 : decode cX1_pushed 0 = .ok (.iload_n 0, 1) := by decide +kernel
theorem dX1_pushed_1 : decode cX1_pushed 1 = .ok (.iconst 1, 1) := by decide +kernel
theorem dX1_pushed_2 : decode cX1_pushed 2 = .ok (.ishl, 1) := by decide +kernel
theorem dX1_pushed_3 : decode cX1_pushed 3 = .ok (.iload_n 1, 1) := by decide +kernel
theorem dX1_pushed_4 : decode cX1_pushed 4 = .ok (.ifCond .eq 7, 3) := by decide +kernel
theorem dX1_pushed_7 : decode cX1_pushed 7 = .ok (.iconst 1, 1) := by decide +kernel
theorem dX1_pushed_8 : decode cX1_pushed 8 = .ok (.goto 4, 3) := by decide +kernel
theorem dX1_pushed_11 : decode cX1_pushed 11 = .ok (.iconst 0, 1) := by decide +kernel
theorem dX1_pushed_12 : decode cX1_pushed 12 = .ok (.ior, 1) := by decide +kernel
theorem dX1_pushed_13 : decode cX1_pushed 13 = .ok (.iconst 1, 1) := by decide +kernel
theorem dX1_pushed_14 : decode cX1_pushed 14 = .ok (.iload_n 2, 1) := by decide +kernel
theorem dX1_pushed_15 : decode cX1_pushed 15 = .ok (.ishl, 1) := by decide +kernel
theorem dX1_pushed_16 : decode cX1_pushed 16 = .ok (.iconst 1, 1) := by decide +kernel
theorem dX1_pushed_17 : decode cX1_pushed 17 = .ok (.isub, 1) := by decide +kernel
theorem dX1_pushed_18 : decode cX1_pushed 18 = .ok (.iand, 1) := by decide +kernel
theorem dX1_pushed_19 : decode cX1_pushed 19 = .ok (.ireturn, 1) := by decide +kernel
theorem dX1_brokenRules_0 : decode cX1_brokenRules 0 = .ok (.iconst 1, 1) := by decide +kernel
theorem dX1_brokenRules_1 : decode cX1_brokenRules 1 = .ok (.aload_n 0, 1) := by decide +kernel
theorem dX1_brokenRules_2 : decode cX1_brokenRules 2 = .ok (.getfield 49, 3) := by decide +kernel
theorem dX1_brokenRules_5 : decode cX1_brokenRules 5 = .ok (.ifCond .eq 7, 3) := by decide +kernel
theorem dX1_brokenRules_8 : decode cX1_brokenRules 8 = .ok (.iconst 1, 1) := by decide +kernel
theorem dX1_brokenRules_9 : decode cX1_brokenRules 9 = .ok (.goto 4, 3) := by decide +kernel
theorem dX1_brokenRules_12 : decode cX1_brokenRules 12 = .ok (.iconst 0, 1) := by decide +kernel
theorem dX1_brokenRules_13 : decode cX1_brokenRules 13 = .ok (.invokestatic 88, 3) := by decide +kernel
theorem dX1_brokenRules_16 : decode cX1_brokenRules 16 = .ok (.iconst 2, 1) := by decide +kernel
theorem dX1_brokenRules_17 : decode cX1_brokenRules 17 = .ok (.aload_n 0, 1) := by decide +kernel
theorem dX1_brokenRules_18 : decode cX1_brokenRules 18 = .ok (.getfield 22, 3) := by decide +kernel
theorem dX1_brokenRules_21 : decode cX1_brokenRules 21 = .ok (.iconst 2, 1) := by decide +kernel
theorem dX1_brokenRules_22 : decode cX1_brokenRules 22 = .ok (.invokestatic 92, 3) := by decide +kernel
theorem dX1_brokenRules_25 : decode cX1_brokenRules 25 = .ok (.if_icmp .lt 7, 3) := by decide +kernel
theorem dX1_brokenRules_28 : decode cX1_brokenRules 28 = .ok (.iconst 1, 1) := by decide +kernel
theorem dX1_brokenRules_29 : decode cX1_brokenRules 29 = .ok (.goto 4, 3) := by decide +kernel
theorem dX1_brokenRules_32 : decode cX1_brokenRules 32 = .ok (.iconst 0, 1) := by decide +kernel
theorem dX1_brokenRules_33 : decode cX1_brokenRules 33 = .ok (.invokestatic 88, 3) := by decide +kernel
theorem dX1_brokenRules_36 : decode cX1_brokenRules 36 = .ok (.ior, 1) := by decide +kernel
theorem dX1_brokenRules_37 : decode cX1_brokenRules 37 = .ok (.iconst 3, 1) := by decide +kernel
theorem dX1_brokenRules_38 : decode cX1_brokenRules 38 = .ok (.aload_n 0, 1) := by decide +kernel
theorem dX1_brokenRules_39 : decode cX1_brokenRules 39 = .ok (.getfield 25, 3) := by decide +kernel
theorem dX1_brokenRules_42 : decode cX1_brokenRules 42 = .ok (.iconst 3, 1) := by decide +kernel
theorem dX1_brokenRules_43 : decode cX1_brokenRules 43 = .ok (.invokestatic 92, 3) := by decide +kernel
theorem dX1_brokenRules_46 : decode cX1_brokenRules 46 = .ok (.if_icmp .lt 7, 3) := by decide +kernel
theorem dX1_brokenRules_49 : decode cX1_brokenRules 49 = .ok (.iconst 1, 1) := by decide +kernel
theorem dX1_brokenRules_50 : decode cX1_brokenRules 50 = .ok (.goto 4, 3) := by decide +kernel
theorem dX1_brokenRules_53 : decode cX1_brokenRules 53 = .ok (.iconst 0, 1) := by decide +kernel
theorem dX1_brokenRules_54 : decode cX1_brokenRules 54 = .ok (.invokestatic 88, 3) := by decide +kernel
theorem dX1_brokenRules_57 : decode cX1_brokenRules 57 = .ok (.ior, 1) := by decide +kernel
theorem dX1_brokenRules_58 : decode cX1_brokenRules 58 = .ok (.iconst 4, 1) := by decide +kernel
theorem dX1_brokenRules_59 : decode cX1_brokenRules 59 = .ok (.aload_n 0, 1) := by decide +kernel
theorem dX1_brokenRules_60 : decode cX1_brokenRules 60 = .ok (.getfield 28, 3) := by decide +kernel
theorem dX1_brokenRules_63 : decode cX1_brokenRules 63 = .ok (.iconst 4, 1) := by decide +kernel
theorem dX1_brokenRules_64 : decode cX1_brokenRules 64 = .ok (.invokestatic 92, 3) := by decide +kernel
theorem dX1_brokenRules_67 : decode cX1_brokenRules 67 = .ok (.if_icmp .lt 7, 3) := by decide +kernel
theorem dX1_brokenRules_70 : decode cX1_brokenRules 70 = .ok (.iconst 1, 1) := by decide +kernel
theorem dX1_brokenRules_71 : decode cX1_brokenRules 71 = .ok (.goto 4, 3) := by decide +kernel
theorem dX1_brokenRules_74 : decode cX1_brokenRules 74 = .ok (.iconst 0, 1) := by decide +kernel
theorem dX1_brokenRules_75 : decode cX1_brokenRules 75 = .ok (.invokestatic 88, 3) := by decide +kernel
theorem dX1_brokenRules_78 : decode cX1_brokenRules 78 = .ok (.ior, 1) := by decide +kernel
theorem dX1_brokenRules_79 : decode cX1_brokenRules 79 = .ok (.iconst 5, 1) := by decide +kernel
theorem dX1_brokenRules_80 : decode cX1_brokenRules 80 = .ok (.aload_n 0, 1) := by decide +kernel
theorem dX1_brokenRules_81 : decode cX1_brokenRules 81 = .ok (.getfield 7, 3) := by decide +kernel
theorem dX1_brokenRules_84 : decode cX1_brokenRules 84 = .ok (.iconst 5, 1) := by decide +kernel
theorem dX1_brokenRules_85 : decode cX1_brokenRules 85 = .ok (.invokestatic 92, 3) := by decide +kernel
theorem dX1_brokenRules_88 : decode cX1_brokenRules 88 = .ok (.if_icmp .lt 26, 3) := by decide +kernel
theorem dX1_brokenRules_91 : decode cX1_brokenRules 91 = .ok (.aload_n 0, 1) := by decide +kernel
theorem dX1_brokenRules_92 : decode cX1_brokenRules 92 = .ok (.getfield 52, 3) := by decide +kernel
theorem dX1_brokenRules_95 : decode cX1_brokenRules 95 = .ok (.aload_n 0, 1) := by decide +kernel
theorem dX1_brokenRules_96 : decode cX1_brokenRules 96 = .ok (.getfield 37, 3) := by decide +kernel
theorem dX1_brokenRules_99 : decode cX1_brokenRules 99 = .ok (.aload_n 0, 1) := by decide +kernel
theorem dX1_brokenRules_100 : decode cX1_brokenRules 100 = .ok (.getfield 40, 3) := by decide +kernel
theorem dX1_brokenRules_103 : decode cX1_brokenRules 103 = .ok (.iconst 2, 1) := by decide +kernel
theorem dX1_brokenRules_104 : decode cX1_brokenRules 104 = .ok (.invokestatic 95, 3) := by decide +kernel
theorem dX1_brokenRules_107 : decode cX1_brokenRules 107 = .ok (.ifCond .eq 7, 3) := by decide +kernel
theorem dX1_brokenRules_110 : decode cX1_brokenRules 110 = .ok (.iconst 1, 1) := by decide +kernel
theorem dX1_brokenRules_111 : decode cX1_brokenRules 111 = .ok (.goto 4, 3) := by decide +kernel
theorem dX1_brokenRules_114 : decode cX1_brokenRules 114 = .ok (.iconst 0, 1) := by decide +kernel
theorem dX1_brokenRules_115 : decode cX1_brokenRules 115 = .ok (.invokestatic 88, 3) := by decide +kernel
theorem dX1_brokenRules_118 : decode cX1_brokenRules 118 = .ok (.ior, 1) := by decide +kernel
theorem dX1_brokenRules_119 : decode cX1_brokenRules 119 = .ok (.bipush 6, 2) := by decide +kernel
theorem dX1_brokenRules_121 : decode cX1_brokenRules 121 = .ok (.aload_n 0, 1) := by decide +kernel
theorem dX1_brokenRules_122 : decode cX1_brokenRules 122 = .ok (.getfield 7, 3) := by decide +kernel
theorem dX1_brokenRules_125 : decode cX1_brokenRules 125 = .ok (.bipush 6, 2) := by decide +kernel
theorem dX1_brokenRules_127 : decode cX1_brokenRules 127 = .ok (.invokestatic 92, 3) := by decide +kernel
theorem dX1_brokenRules_130 : decode cX1_brokenRules 130 = .ok (.if_icmp .lt 26, 3) := by decide +kernel
theorem dX1_brokenRules_133 : decode cX1_brokenRules 133 = .ok (.aload_n 0, 1) := by decide +kernel
theorem dX1_brokenRules_134 : decode cX1_brokenRules 134 = .ok (.getfield 55, 3) := by decide +kernel
theorem dX1_brokenRules_137 : decode cX1_brokenRules 137 = .ok (.aload_n 0, 1) := by decide +kernel
theorem dX1_brokenRules_138 : decode cX1_brokenRules 138 = .ok (.getfield 43, 3) := by decide +kernel
theorem dX1_brokenRules_141 : decode cX1_brokenRules 141 = .ok (.aload_n 0, 1) := by decide +kernel
theorem dX1_brokenRules_142 : decode cX1_brokenRules 142 = .ok (.getfield 46, 3) := by decide +kernel
theorem dX1_brokenRules_145 : decode cX1_brokenRules 145 = .ok (.iconst 4, 1) := by decide +kernel
theorem dX1_brokenRules_146 : decode cX1_brokenRules 146 = .ok (.invokestatic 95, 3) := by decide +kernel
theorem dX1_brokenRules_149 : decode cX1_brokenRules 149 = .ok (.ifCond .eq 7, 3) := by decide +kernel
theorem dX1_brokenRules_152 : decode cX1_brokenRules 152 = .ok (.iconst 1, 1) := by decide +kernel
theorem dX1_brokenRules_153 : decode cX1_brokenRules 153 = .ok (.goto 4, 3) := by decide +kernel
theorem dX1_brokenRules_156 : decode cX1_brokenRules 156 = .ok (.iconst 0, 1) := by decide +kernel
theorem dX1_brokenRules_157 : decode cX1_brokenRules 157 = .ok (.invokestatic 88, 3) := by decide +kernel
theorem dX1_brokenRules_160 : decode cX1_brokenRules 160 = .ok (.ior, 1) := by decide +kernel
theorem dX1_brokenRules_161 : decode cX1_brokenRules 161 = .ok (.bipush 7, 2) := by decide +kernel
theorem dX1_brokenRules_163 : decode cX1_brokenRules 163 = .ok (.aload_n 0, 1) := by decide +kernel
theorem dX1_brokenRules_164 : decode cX1_brokenRules 164 = .ok (.getfield 31, 3) := by decide +kernel
theorem dX1_brokenRules_167 : decode cX1_brokenRules 167 = .ok (.bipush 7, 2) := by decide +kernel
theorem dX1_brokenRules_169 : decode cX1_brokenRules 169 = .ok (.invokestatic 92, 3) := by decide +kernel
theorem dX1_brokenRules_172 : decode cX1_brokenRules 172 = .ok (.if_icmp .lt 7, 3) := by decide +kernel
theorem dX1_brokenRules_175 : decode cX1_brokenRules 175 = .ok (.iconst 1, 1) := by decide +kernel
theorem dX1_brokenRules_176 : decode cX1_brokenRules 176 = .ok (.goto 4, 3) := by decide +kernel
theorem dX1_brokenRules_179 : decode cX1_brokenRules 179 = .ok (.iconst 0, 1) := by decide +kernel
theorem dX1_brokenRules_180 : decode cX1_brokenRules 180 = .ok (.invokestatic 88, 3) := by decide +kernel
theorem dX1_brokenRules_183 : decode cX1_brokenRules 183 = .ok (.ior, 1) := by decide +kernel
theorem dX1_brokenRules_184 : decode cX1_brokenRules 184 = .ok (.bipush 8, 2) := by decide +kernel
theorem dX1_brokenRules_186 : decode cX1_brokenRules 186 = .ok (.aload_n 0, 1) := by decide +kernel
theorem dX1_brokenRules_187 : decode cX1_brokenRules 187 = .ok (.getfield 34, 3) := by decide +kernel
theorem dX1_brokenRules_190 : decode cX1_brokenRules 190 = .ok (.bipush 8, 2) := by decide +kernel
theorem dX1_brokenRules_192 : decode cX1_brokenRules 192 = .ok (.invokestatic 92, 3) := by decide +kernel
theorem dX1_brokenRules_195 : decode cX1_brokenRules 195 = .ok (.if_icmp .lt 7, 3) := by decide +kernel
theorem dX1_brokenRules_198 : decode cX1_brokenRules 198 = .ok (.iconst 1, 1) := by decide +kernel
theorem dX1_brokenRules_199 : decode cX1_brokenRules 199 = .ok (.goto 4, 3) := by decide +kernel
theorem dX1_brokenRules_202 : decode cX1_brokenRules 202 = .ok (.iconst 0, 1) := by decide +kernel
theorem dX1_brokenRules_203 : decode cX1_brokenRules 203 = .ok (.invokestatic 88, 3) := by decide +kernel
theorem dX1_brokenRules_206 : decode cX1_brokenRules 206 = .ok (.ior, 1) := by decide +kernel
theorem dX1_brokenRules_207 : decode cX1_brokenRules 207 = .ok (.ireturn, 1) := by decide +kernel
theorem dX1_bitOf_0 : decode cX1_bitOf 0 = .ok (.iload_n 1, 1) := by decide +kernel
theorem dX1_bitOf_1 : decode cX1_bitOf 1 = .ok (.ifCond .eq 9, 3) := by decide +kernel
theorem dX1_bitOf_4 : decode cX1_bitOf 4 = .ok (.iconst 1, 1) := by decide +kernel
theorem dX1_bitOf_5 : decode cX1_bitOf 5 = .ok (.iload_n 0, 1) := by decide +kernel
theorem dX1_bitOf_6 : decode cX1_bitOf 6 = .ok (.ishl, 1) := by decide +kernel
theorem dX1_bitOf_7 : decode cX1_bitOf 7 = .ok (.goto 4, 3) := by decide +kernel
theorem dX1_bitOf_10 : decode cX1_bitOf 10 = .ok (.iconst 0, 1) := by decide +kernel
theorem dX1_bitOf_11 : decode cX1_bitOf 11 = .ok (.ireturn, 1) := by decide +kernel
theorem dX1_isOften_0 : decode cX1_isOften 0 = .ok (.iload_n 0, 1) := by decide +kernel
theorem dX1_isOften_1 : decode cX1_isOften 1 = .ok (.ifCond .eq 23, 3) := by decide +kernel
theorem dX1_isOften_4 : decode cX1_isOften 4 = .ok (.iload_n 0, 1) := by decide +kernel
theorem dX1_isOften_5 : decode cX1_isOften 5 = .ok (.ifCond .le 7, 3) := by decide +kernel
theorem dX1_isOften_8 : decode cX1_isOften 8 = .ok (.iload_n 1, 1) := by decide +kernel
theorem dX1_isOften_9 : decode cX1_isOften 9 = .ok (.goto 4, 3) := by decide +kernel
theorem dX1_isOften_12 : decode cX1_isOften 12 = .ok (.iload_n 2, 1) := by decide +kernel
theorem dX1_isOften_13 : decode cX1_isOften 13 = .ok (.invokestatic 99, 3) := by decide +kernel
theorem dX1_isOften_16 : decode cX1_isOften 16 = .ok (.iload_n 3, 1) := by decide +kernel
theorem dX1_isOften_17 : decode cX1_isOften 17 = .ok (.if_icmp .lt 7, 3) := by decide +kernel
theorem dX1_isOften_20 : decode cX1_isOften 20 = .ok (.iconst 1, 1) := by decide +kernel
theorem dX1_isOften_21 : decode cX1_isOften 21 = .ok (.goto 4, 3) := by decide +kernel
theorem dX1_isOften_24 : decode cX1_isOften 24 = .ok (.iconst 0, 1) := by decide +kernel
theorem dX1_isOften_25 : decode cX1_isOften 25 = .ok (.ireturn, 1) := by decide +kernel
theorem dX2_init_0 : decode cX2_init 0 = .ok (.aload_n 0, 1) := by decide +kernel
theorem dX2_init_1 : decode cX2_init 1 = .ok (.invokespecial 3, 3) := by decide +kernel
theorem dX2_init_4 : decode cX2_init 4 = .ok (.aload_n 0, 1) := by decide +kernel
theorem dX2_init_5 : decode cX2_init 5 = .ok (.bipush 15, 2) := by decide +kernel
theorem dX2_init_7 : decode cX2_init 7 = .ok (.newarray .int, 2) := by decide +kernel
theorem dX2_init_9 : decode cX2_init 9 = .ok (.putfield 9, 3) := by decide +kernel
theorem dX2_init_12 : decode cX2_init 12 = .ok (.aload_n 0, 1) := by decide +kernel
theorem dX2_init_13 : decode cX2_init 13 = .ok (.bipush 15, 2) := by decide +kernel
theorem dX2_init_15 : decode cX2_init 15 = .ok (.newarray .int, 2) := by decide +kernel
theorem dX2_init_17 : decode cX2_init 17 = .ok (.putfield 15, 3) := by decide +kernel
theorem dX2_init_20 : decode cX2_init 20 = .ok (.return_, 1) := by decide +kernel
theorem dX2_restart_0 : decode cX2_restart 0 = .ok (.aload_n 0, 1) := by decide +kernel
theorem dX2_restart_1 : decode cX2_restart 1 = .ok (.iconst 0, 1) := by decide +kernel
theorem dX2_restart_2 : decode cX2_restart 2 = .ok (.putfield 18, 3) := by decide +kernel
theorem dX2_restart_5 : decode cX2_restart 5 = .ok (.return_, 1) := by decide +kernel
theorem dX2_isFull_0 : decode cX2_isFull 0 = .ok (.aload_n 0, 1) := by decide +kernel
theorem dX2_isFull_1 : decode cX2_isFull 1 = .ok (.getfield 18, 3) := by decide +kernel
theorem dX2_isFull_4 : decode cX2_isFull 4 = .ok (.bipush 15, 2) := by decide +kernel
theorem dX2_isFull_6 : decode cX2_isFull 6 = .ok (.if_icmp .lt 7, 3) := by decide +kernel
theorem dX2_isFull_9 : decode cX2_isFull 9 = .ok (.iconst 1, 1) := by decide +kernel
theorem dX2_isFull_10 : decode cX2_isFull 10 = .ok (.goto 4, 3) := by decide +kernel
theorem dX2_isFull_13 : decode cX2_isFull 13 = .ok (.iconst 0, 1) := by decide +kernel
theorem dX2_isFull_14 : decode cX2_isFull 14 = .ok (.ireturn, 1) := by decide +kernel
theorem dX2_add_0 : decode cX2_add 0 = .ok (.aload_n 0, 1) := by decide +kernel
theorem dX2_add_1 : decode cX2_add 1 = .ok (.invokevirtual 22, 3) := by decide +kernel
theorem dX2_add_4 : decode cX2_add 4 = .ok (.ifCond .eq 4, 3) := by decide +kernel
theorem dX2_add_7 : decode cX2_add 7 = .ok (.return_, 1) := by decide +kernel
theorem dX2_add_8 : decode cX2_add 8 = .ok (.aload_n 0, 1) := by decide +kernel
theorem dX2_add_9 : decode cX2_add 9 = .ok (.getfield 9, 3) := by decide +kernel
theorem dX2_add_12 : decode cX2_add 12 = .ok (.aload_n 0, 1) := by decide +kernel
theorem dX2_add_13 : decode cX2_add 13 = .ok (.getfield 18, 3) := by decide +kernel
theorem dX2_add_16 : decode cX2_add 16 = .ok (.iload_n 1, 1) := by decide +kernel
theorem dX2_add_17 : decode cX2_add 17 = .ok (.iastore, 1) := by decide +kernel
theorem dX2_add_18 : decode cX2_add 18 = .ok (.aload_n 0, 1) := by decide +kernel
theorem dX2_add_19 : decode cX2_add 19 = .ok (.getfield 15, 3) := by decide +kernel
theorem dX2_add_22 : decode cX2_add 22 = .ok (.aload_n 0, 1) := by decide +kernel
theorem dX2_add_23 : decode cX2_add 23 = .ok (.getfield 18, 3) := by decide +kernel
theorem dX2_add_26 : decode cX2_add 26 = .ok (.iload_n 2, 1) := by decide +kernel
theorem dX2_add_27 : decode cX2_add 27 = .ok (.iastore, 1) := by decide +kernel
theorem dX2_add_28 : decode cX2_add 28 = .ok (.aload_n 0, 1) := by decide +kernel
theorem dX2_add_29 : decode cX2_add 29 = .ok (.dup, 1) := by decide +kernel
theorem dX2_add_30 : decode cX2_add 30 = .ok (.getfield 18, 3) := by decide +kernel
theorem dX2_add_33 : decode cX2_add 33 = .ok (.iconst 1, 1) := by decide +kernel
theorem dX2_add_34 : decode cX2_add 34 = .ok (.iadd, 1) := by decide +kernel
theorem dX2_add_35 : decode cX2_add 35 = .ok (.putfield 18, 3) := by decide +kernel
theorem dX2_add_38 : decode cX2_add 38 = .ok (.return_, 1) := by decide +kernel
theorem dX2_subgroupAt_0 : decode cX2_subgroupAt 0 = .ok (.iload_n 1, 1) := by decide +kernel
theorem dX2_subgroupAt_1 : decode cX2_subgroupAt 1 = .ok (.ifCond .lt 20, 3) := by decide +kernel
theorem dX2_subgroupAt_4 : decode cX2_subgroupAt 4 = .ok (.iload_n 1, 1) := by decide +kernel
theorem dX2_subgroupAt_5 : decode cX2_subgroupAt 5 = .ok (.aload_n 0, 1) := by decide +kernel
theorem dX2_subgroupAt_6 : decode cX2_subgroupAt 6 = .ok (.getfield 18, 3) := by decide +kernel
theorem dX2_subgroupAt_9 : decode cX2_subgroupAt 9 = .ok (.if_icmp .ge 12, 3) := by decide +kernel
theorem dX2_subgroupAt_12 : decode cX2_subgroupAt 12 = .ok (.aload_n 0, 1) := by decide +kernel
theorem dX2_subgroupAt_13 : decode cX2_subgroupAt 13 = .ok (.getfield 9, 3) := by decide +kernel
theorem dX2_subgroupAt_16 : decode cX2_subgroupAt 16 = .ok (.iload_n 1, 1) := by decide +kernel
theorem dX2_subgroupAt_17 : decode cX2_subgroupAt 17 = .ok (.iaload, 1) := by decide +kernel
theorem dX2_subgroupAt_18 : decode cX2_subgroupAt 18 = .ok (.goto 4, 3) := by decide +kernel
theorem dX2_subgroupAt_21 : decode cX2_subgroupAt 21 = .ok (.iconst (-1), 1) := by decide +kernel
theorem dX2_subgroupAt_22 : decode cX2_subgroupAt 22 = .ok (.ireturn, 1) := by decide +kernel
theorem dX2_breaks_0 : decode cX2_breaks 0 = .ok (.iload_n 1, 1) := by decide +kernel
theorem dX2_breaks_1 : decode cX2_breaks 1 = .ok (.invokestatic 26, 3) := by decide +kernel
theorem dX2_breaks_4 : decode cX2_breaks 4 = .ok (.istore_n 3, 1) := by decide +kernel
theorem dX2_breaks_5 : decode cX2_breaks 5 = .ok (.iload_n 3, 1) := by decide +kernel
theorem dX2_breaks_6 : decode cX2_breaks 6 = .ok (.iconst 1, 1) := by decide +kernel
theorem dX2_breaks_7 : decode cX2_breaks 7 = .ok (.if_icmp .lt 11, 3) := by decide +kernel
theorem dX2_breaks_10 : decode cX2_breaks 10 = .ok (.iload_n 3, 1) := by decide +kernel
theorem dX2_breaks_11 : decode cX2_breaks 11 = .ok (.aload_n 0, 1) := by decide +kernel
theorem dX2_breaks_12 : decode cX2_breaks 12 = .ok (.getfield 18, 3) := by decide +kernel
theorem dX2_breaks_15 : decode cX2_breaks 15 = .ok (.if_icmp .le 5, 3) := by decide +kernel
theorem dX2_breaks_18 : decode cX2_breaks 18 = .ok (.iconst 0, 1) := by decide +kernel
theorem dX2_breaks_19 : decode cX2_breaks 19 = .ok (.ireturn, 1) := by decide +kernel
theorem dX2_breaks_20 : decode cX2_breaks 20 = .ok (.iload_n 1, 1) := by decide +kernel
theorem dX2_breaks_21 : decode cX2_breaks 21 = .ok (.tableswitch 135 1 8 #[47, 67, 74, 80, 86, 95, 104, 119], 47) := by decide +kernel
theorem dX2_breaks_68 : decode cX2_breaks 68 = .ok (.aload_n 2, 1) := by decide +kernel
theorem dX2_breaks_69 : decode cX2_breaks 69 = .ok (.aload_n 0, 1) := by decide +kernel
theorem dX2_breaks_70 : decode cX2_breaks 70 = .ok (.getfield 15, 3) := by decide +kernel
theorem dX2_breaks_73 : decode cX2_breaks 73 = .ok (.iconst 0, 1) := by decide +kernel
theorem dX2_breaks_74 : decode cX2_breaks 74 = .ok (.iaload, 1) := by decide +kernel
theorem dX2_breaks_75 : decode cX2_breaks 75 = .ok (.iconst 3, 1) := by decide +kernel
theorem dX2_breaks_76 : decode cX2_breaks 76 = .ok (.invokevirtual 30, 3) := by decide +kernel
theorem dX2_breaks_79 : decode cX2_breaks 79 = .ok (.ifCond .eq 7, 3) := by decide +kernel
theorem dX2_breaks_82 : decode cX2_breaks 82 = .ok (.iconst 1, 1) := by decide +kernel
theorem dX2_breaks_83 : decode cX2_breaks 83 = .ok (.goto 4, 3) := by decide +kernel
theorem dX2_breaks_86 : decode cX2_breaks 86 = .ok (.iconst 0, 1) := by decide +kernel
theorem dX2_breaks_87 : decode cX2_breaks 87 = .ok (.ireturn, 1) := by decide +kernel
theorem dX2_breaks_88 : decode cX2_breaks 88 = .ok (.aload_n 0, 1) := by decide +kernel
theorem dX2_breaks_89 : decode cX2_breaks 89 = .ok (.iload_n 3, 1) := by decide +kernel
theorem dX2_breaks_90 : decode cX2_breaks 90 = .ok (.aload_n 2, 1) := by decide +kernel
theorem dX2_breaks_91 : decode cX2_breaks 91 = .ok (.invokevirtual 36, 3) := by decide +kernel
theorem dX2_breaks_94 : decode cX2_breaks 94 = .ok (.ireturn, 1) := by decide +kernel
theorem dX2_breaks_95 : decode cX2_breaks 95 = .ok (.aload_n 0, 1) := by decide +kernel
theorem dX2_breaks_96 : decode cX2_breaks 96 = .ok (.iload_n 3, 1) := by decide +kernel
theorem dX2_breaks_97 : decode cX2_breaks 97 = .ok (.invokevirtual 40, 3) := by decide +kernel
theorem dX2_breaks_100 : decode cX2_breaks 100 = .ok (.ireturn, 1) := by decide +kernel
theorem dX2_breaks_101 : decode cX2_breaks 101 = .ok (.aload_n 0, 1) := by decide +kernel
theorem dX2_breaks_102 : decode cX2_breaks 102 = .ok (.iload_n 3, 1) := by decide +kernel
theorem dX2_breaks_103 : decode cX2_breaks 103 = .ok (.invokevirtual 44, 3) := by decide +kernel
theorem dX2_breaks_106 : decode cX2_breaks 106 = .ok (.ireturn, 1) := by decide +kernel
theorem dX2_breaks_107 : decode cX2_breaks 107 = .ok (.aload_n 0, 1) := by decide +kernel
theorem dX2_breaks_108 : decode cX2_breaks 108 = .ok (.iload_n 3, 1) := by decide +kernel
theorem dX2_breaks_109 : decode cX2_breaks 109 = .ok (.iconst 2, 1) := by decide +kernel
theorem dX2_breaks_110 : decode cX2_breaks 110 = .ok (.iconst 2, 1) := by decide +kernel
theorem dX2_breaks_111 : decode cX2_breaks 111 = .ok (.aload_n 2, 1) := by decide +kernel
theorem dX2_breaks_112 : decode cX2_breaks 112 = .ok (.invokevirtual 47, 3) := by decide +kernel
theorem dX2_breaks_115 : decode cX2_breaks 115 = .ok (.ireturn, 1) := by decide +kernel
theorem dX2_breaks_116 : decode cX2_breaks 116 = .ok (.aload_n 0, 1) := by decide +kernel
theorem dX2_breaks_117 : decode cX2_breaks 117 = .ok (.iload_n 3, 1) := by decide +kernel
theorem dX2_breaks_118 : decode cX2_breaks 118 = .ok (.iconst 1, 1) := by decide +kernel
theorem dX2_breaks_119 : decode cX2_breaks 119 = .ok (.iconst 4, 1) := by decide +kernel
theorem dX2_breaks_120 : decode cX2_breaks 120 = .ok (.aload_n 2, 1) := by decide +kernel
theorem dX2_breaks_121 : decode cX2_breaks 121 = .ok (.invokevirtual 47, 3) := by decide +kernel
theorem dX2_breaks_124 : decode cX2_breaks 124 = .ok (.ireturn, 1) := by decide +kernel
theorem dX2_breaks_125 : decode cX2_breaks 125 = .ok (.aload_n 0, 1) := by decide +kernel
theorem dX2_breaks_126 : decode cX2_breaks 126 = .ok (.iload_n 3, 1) := by decide +kernel
theorem dX2_breaks_127 : decode cX2_breaks 127 = .ok (.aload_n 2, 1) := by decide +kernel
theorem dX2_breaks_128 : decode cX2_breaks 128 = .ok (.invokevirtual 51, 3) := by decide +kernel
theorem dX2_breaks_131 : decode cX2_breaks 131 = .ok (.ifCond .ne 7, 3) := by decide +kernel
theorem dX2_breaks_134 : decode cX2_breaks 134 = .ok (.iconst 1, 1) := by decide +kernel
theorem dX2_breaks_135 : decode cX2_breaks 135 = .ok (.goto 4, 3) := by decide +kernel
theorem dX2_breaks_138 : decode cX2_breaks 138 = .ok (.iconst 0, 1) := by decide +kernel
theorem dX2_breaks_139 : decode cX2_breaks 139 = .ok (.ireturn, 1) := by decide +kernel
theorem dX2_breaks_140 : decode cX2_breaks 140 = .ok (.aload_n 0, 1) := by decide +kernel
theorem dX2_breaks_141 : decode cX2_breaks 141 = .ok (.iload_n 3, 1) := by decide +kernel
theorem dX2_breaks_142 : decode cX2_breaks 142 = .ok (.aload_n 2, 1) := by decide +kernel
theorem dX2_breaks_143 : decode cX2_breaks 143 = .ok (.invokevirtual 51, 3) := by decide +kernel
theorem dX2_breaks_146 : decode cX2_breaks 146 = .ok (.iload_n 3, 1) := by decide +kernel
theorem dX2_breaks_147 : decode cX2_breaks 147 = .ok (.if_icmp .ne 7, 3) := by decide +kernel
theorem dX2_breaks_150 : decode cX2_breaks 150 = .ok (.iconst 1, 1) := by decide +kernel
theorem dX2_breaks_151 : decode cX2_breaks 151 = .ok (.goto 4, 3) := by decide +kernel
theorem dX2_breaks_154 : decode cX2_breaks 154 = .ok (.iconst 0, 1) := by decide +kernel
theorem dX2_breaks_155 : decode cX2_breaks 155 = .ok (.ireturn, 1) := by decide +kernel
theorem dX2_breaks_156 : decode cX2_breaks 156 = .ok (.iconst 0, 1) := by decide +kernel
theorem dX2_breaks_157 : decode cX2_breaks 157 = .ok (.ireturn, 1) := by decide +kernel
theorem dX2_isOnOneSide_0 : decode cX2_isOnOneSide 0 = .ok (.aload_n 2, 1) := by decide +kernel
theorem dX2_isOnOneSide_1 : decode cX2_isOnOneSide 1 = .ok (.aload_n 0, 1) := by decide +kernel
theorem dX2_isOnOneSide_2 : decode cX2_isOnOneSide 2 = .ok (.getfield 15, 3) := by decide +kernel
theorem dX2_isOnOneSide_5 : decode cX2_isOnOneSide 5 = .ok (.iconst 0, 1) := by decide +kernel
theorem dX2_isOnOneSide_6 : decode cX2_isOnOneSide 6 = .ok (.iaload, 1) := by decide +kernel
theorem dX2_isOnOneSide_7 : decode cX2_isOnOneSide 7 = .ok (.invokevirtual 55, 3) := by decide +kernel
theorem dX2_isOnOneSide_10 : decode cX2_isOnOneSide 10 = .ok (.istore_n 3, 1) := by decide +kernel
theorem dX2_isOnOneSide_11 : decode cX2_isOnOneSide 11 = .ok (.iconst 1, 1) := by decide +kernel
theorem dX2_isOnOneSide_12 : decode cX2_isOnOneSide 12 = .ok (.istore 4, 2) := by decide +kernel
theorem dX2_isOnOneSide_14 : decode cX2_isOnOneSide 14 = .ok (.iload 4, 2) := by decide +kernel
theorem dX2_isOnOneSide_16 : decode cX2_isOnOneSide 16 = .ok (.iload_n 1, 1) := by decide +kernel
theorem dX2_isOnOneSide_17 : decode cX2_isOnOneSide 17 = .ok (.if_icmp .ge 26, 3) := by decide +kernel
theorem dX2_isOnOneSide_20 : decode cX2_isOnOneSide 20 = .ok (.aload_n 2, 1) := by decide +kernel
theorem dX2_isOnOneSide_21 : decode cX2_isOnOneSide 21 = .ok (.aload_n 0, 1) := by decide +kernel
theorem dX2_isOnOneSide_22 : decode cX2_isOnOneSide 22 = .ok (.getfield 15, 3) := by decide +kernel
theorem dX2_isOnOneSide_25 : decode cX2_isOnOneSide 25 = .ok (.iload 4, 2) := by decide +kernel
theorem dX2_isOnOneSide_27 : decode cX2_isOnOneSide 27 = .ok (.iaload, 1) := by decide +kernel
theorem dX2_isOnOneSide_28 : decode cX2_isOnOneSide 28 = .ok (.invokevirtual 55, 3) := by decide +kernel
theorem dX2_isOnOneSide_31 : decode cX2_isOnOneSide 31 = .ok (.iload_n 3, 1) := by decide +kernel
theorem dX2_isOnOneSide_32 : decode cX2_isOnOneSide 32 = .ok (.if_icmp .eq 5, 3) := by decide +kernel
theorem dX2_isOnOneSide_35 : decode cX2_isOnOneSide 35 = .ok (.iconst 0, 1) := by decide +kernel
theorem dX2_isOnOneSide_36 : decode cX2_isOnOneSide 36 = .ok (.ireturn, 1) := by decide +kernel
theorem dX2_isOnOneSide_37 : decode cX2_isOnOneSide 37 = .ok (.iinc 4 1, 3) := by decide +kernel
theorem dX2_isOnOneSide_40 : decode cX2_isOnOneSide 40 = .ok (.goto (-26), 3) := by decide +kernel
theorem dX2_isOnOneSide_43 : decode cX2_isOnOneSide 43 = .ok (.iload_n 3, 1) := by decide +kernel
theorem dX2_isOnOneSide_44 : decode cX2_isOnOneSide 44 = .ok (.ifCond .eq 7, 3) := by decide +kernel
theorem dX2_isOnOneSide_47 : decode cX2_isOnOneSide 47 = .ok (.iconst 1, 1) := by decide +kernel
theorem dX2_isOnOneSide_48 : decode cX2_isOnOneSide 48 = .ok (.goto 4, 3) := by decide +kernel
theorem dX2_isOnOneSide_51 : decode cX2_isOnOneSide 51 = .ok (.iconst 0, 1) := by decide +kernel
theorem dX2_isOnOneSide_52 : decode cX2_isOnOneSide 52 = .ok (.ireturn, 1) := by decide +kernel
theorem dX2_isSteady_0 : decode cX2_isSteady 0 = .ok (.aload_n 0, 1) := by decide +kernel
theorem dX2_isSteady_1 : decode cX2_isSteady 1 = .ok (.getfield 15, 3) := by decide +kernel
theorem dX2_isSteady_4 : decode cX2_isSteady 4 = .ok (.iconst 1, 1) := by decide +kernel
theorem dX2_isSteady_5 : decode cX2_isSteady 5 = .ok (.iaload, 1) := by decide +kernel
theorem dX2_isSteady_6 : decode cX2_isSteady 6 = .ok (.aload_n 0, 1) := by decide +kernel
theorem dX2_isSteady_7 : decode cX2_isSteady 7 = .ok (.getfield 15, 3) := by decide +kernel
theorem dX2_isSteady_10 : decode cX2_isSteady 10 = .ok (.iconst 0, 1) := by decide +kernel
theorem dX2_isSteady_11 : decode cX2_isSteady 11 = .ok (.iaload, 1) := by decide +kernel
theorem dX2_isSteady_12 : decode cX2_isSteady 12 = .ok (.invokestatic 58, 3) := by decide +kernel
theorem dX2_isSteady_15 : decode cX2_isSteady 15 = .ok (.istore_n 2, 1) := by decide +kernel
theorem dX2_isSteady_16 : decode cX2_isSteady 16 = .ok (.iconst 1, 1) := by decide +kernel
theorem dX2_isSteady_17 : decode cX2_isSteady 17 = .ok (.istore_n 3, 1) := by decide +kernel
theorem dX2_isSteady_18 : decode cX2_isSteady 18 = .ok (.iload_n 3, 1) := by decide +kernel
theorem dX2_isSteady_19 : decode cX2_isSteady 19 = .ok (.iconst 1, 1) := by decide +kernel
theorem dX2_isSteady_20 : decode cX2_isSteady 20 = .ok (.iadd, 1) := by decide +kernel
theorem dX2_isSteady_21 : decode cX2_isSteady 21 = .ok (.iload_n 1, 1) := by decide +kernel
theorem dX2_isSteady_22 : decode cX2_isSteady 22 = .ok (.if_icmp .ge 32, 3) := by decide +kernel
theorem dX2_isSteady_25 : decode cX2_isSteady 25 = .ok (.aload_n 0, 1) := by decide +kernel
theorem dX2_isSteady_26 : decode cX2_isSteady 26 = .ok (.getfield 15, 3) := by decide +kernel
theorem dX2_isSteady_29 : decode cX2_isSteady 29 = .ok (.iload_n 3, 1) := by decide +kernel
theorem dX2_isSteady_30 : decode cX2_isSteady 30 = .ok (.iconst 1, 1) := by decide +kernel
theorem dX2_isSteady_31 : decode cX2_isSteady 31 = .ok (.iadd, 1) := by decide +kernel
theorem dX2_isSteady_32 : decode cX2_isSteady 32 = .ok (.iaload, 1) := by decide +kernel
theorem dX2_isSteady_33 : decode cX2_isSteady 33 = .ok (.aload_n 0, 1) := by decide +kernel
theorem dX2_isSteady_34 : decode cX2_isSteady 34 = .ok (.getfield 15, 3) := by decide +kernel
theorem dX2_isSteady_37 : decode cX2_isSteady 37 = .ok (.iload_n 3, 1) := by decide +kernel
theorem dX2_isSteady_38 : decode cX2_isSteady 38 = .ok (.iaload, 1) := by decide +kernel
theorem dX2_isSteady_39 : decode cX2_isSteady 39 = .ok (.invokestatic 58, 3) := by decide +kernel
theorem dX2_isSteady_42 : decode cX2_isSteady 42 = .ok (.iload_n 2, 1) := by decide +kernel
theorem dX2_isSteady_43 : decode cX2_isSteady 43 = .ok (.if_icmp .eq 5, 3) := by decide +kernel
theorem dX2_isSteady_46 : decode cX2_isSteady 46 = .ok (.iconst 0, 1) := by decide +kernel
theorem dX2_isSteady_47 : decode cX2_isSteady 47 = .ok (.ireturn, 1) := by decide +kernel
theorem dX2_isSteady_48 : decode cX2_isSteady 48 = .ok (.iinc 3 1, 3) := by decide +kernel
theorem dX2_isSteady_51 : decode cX2_isSteady 51 = .ok (.goto (-33), 3) := by decide +kernel
theorem dX2_isSteady_54 : decode cX2_isSteady 54 = .ok (.iload_n 2, 1) := by decide +kernel
theorem dX2_isSteady_55 : decode cX2_isSteady 55 = .ok (.ifCond .eq 7, 3) := by decide +kernel
theorem dX2_isSteady_58 : decode cX2_isSteady 58 = .ok (.iconst 1, 1) := by decide +kernel
theorem dX2_isSteady_59 : decode cX2_isSteady 59 = .ok (.goto 4, 3) := by decide +kernel
theorem dX2_isSteady_62 : decode cX2_isSteady 62 = .ok (.iconst 0, 1) := by decide +kernel
theorem dX2_isSteady_63 : decode cX2_isSteady 63 = .ok (.ireturn, 1) := by decide +kernel
theorem dX2_isTurning_0 : decode cX2_isTurning 0 = .ok (.aload_n 0, 1) := by decide +kernel
theorem dX2_isTurning_1 : decode cX2_isTurning 1 = .ok (.getfield 15, 3) := by decide +kernel
theorem dX2_isTurning_4 : decode cX2_isTurning 4 = .ok (.iconst 1, 1) := by decide +kernel
theorem dX2_isTurning_5 : decode cX2_isTurning 5 = .ok (.iaload, 1) := by decide +kernel
theorem dX2_isTurning_6 : decode cX2_isTurning 6 = .ok (.aload_n 0, 1) := by decide +kernel
theorem dX2_isTurning_7 : decode cX2_isTurning 7 = .ok (.getfield 15, 3) := by decide +kernel
theorem dX2_isTurning_10 : decode cX2_isTurning 10 = .ok (.iconst 0, 1) := by decide +kernel
theorem dX2_isTurning_11 : decode cX2_isTurning 11 = .ok (.iaload, 1) := by decide +kernel
theorem dX2_isTurning_12 : decode cX2_isTurning 12 = .ok (.invokestatic 58, 3) := by decide +kernel
theorem dX2_isTurning_15 : decode cX2_isTurning 15 = .ok (.istore_n 2, 1) := by decide +kernel
theorem dX2_isTurning_16 : decode cX2_isTurning 16 = .ok (.iconst 1, 1) := by decide +kernel
theorem dX2_isTurning_17 : decode cX2_isTurning 17 = .ok (.istore_n 3, 1) := by decide +kernel
theorem dX2_isTurning_18 : decode cX2_isTurning 18 = .ok (.iload_n 3, 1) := by decide +kernel
theorem dX2_isTurning_19 : decode cX2_isTurning 19 = .ok (.iconst 1, 1) := by decide +kernel
theorem dX2_isTurning_20 : decode cX2_isTurning 20 = .ok (.iadd, 1) := by decide +kernel
theorem dX2_isTurning_21 : decode cX2_isTurning 21 = .ok (.iload_n 1, 1) := by decide +kernel
theorem dX2_isTurning_22 : decode cX2_isTurning 22 = .ok (.if_icmp .ge 35, 3) := by decide +kernel
theorem dX2_isTurning_25 : decode cX2_isTurning 25 = .ok (.iload_n 2, 1) := by decide +kernel
theorem dX2_isTurning_26 : decode cX2_isTurning 26 = .ok (.ineg, 1) := by decide +kernel
theorem dX2_isTurning_27 : decode cX2_isTurning 27 = .ok (.istore_n 2, 1) := by decide +kernel
theorem dX2_isTurning_28 : decode cX2_isTurning 28 = .ok (.aload_n 0, 1) := by decide +kernel
theorem dX2_isTurning_29 : decode cX2_isTurning 29 = .ok (.getfield 15, 3) := by decide +kernel
theorem dX2_isTurning_32 : decode cX2_isTurning 32 = .ok (.iload_n 3, 1) := by decide +kernel
theorem dX2_isTurning_33 : decode cX2_isTurning 33 = .ok (.iconst 1, 1) := by decide +kernel
theorem dX2_isTurning_34 : decode cX2_isTurning 34 = .ok (.iadd, 1) := by decide +kernel
theorem dX2_isTurning_35 : decode cX2_isTurning 35 = .ok (.iaload, 1) := by decide +kernel
theorem dX2_isTurning_36 : decode cX2_isTurning 36 = .ok (.aload_n 0, 1) := by decide +kernel
theorem dX2_isTurning_37 : decode cX2_isTurning 37 = .ok (.getfield 15, 3) := by decide +kernel
theorem dX2_isTurning_40 : decode cX2_isTurning 40 = .ok (.iload_n 3, 1) := by decide +kernel
theorem dX2_isTurning_41 : decode cX2_isTurning 41 = .ok (.iaload, 1) := by decide +kernel
theorem dX2_isTurning_42 : decode cX2_isTurning 42 = .ok (.invokestatic 58, 3) := by decide +kernel
theorem dX2_isTurning_45 : decode cX2_isTurning 45 = .ok (.iload_n 2, 1) := by decide +kernel
theorem dX2_isTurning_46 : decode cX2_isTurning 46 = .ok (.if_icmp .eq 5, 3) := by decide +kernel
theorem dX2_isTurning_49 : decode cX2_isTurning 49 = .ok (.iconst 0, 1) := by decide +kernel
theorem dX2_isTurning_50 : decode cX2_isTurning 50 = .ok (.ireturn, 1) := by decide +kernel
theorem dX2_isTurning_51 : decode cX2_isTurning 51 = .ok (.iinc 3 1, 3) := by decide +kernel
theorem dX2_isTurning_54 : decode cX2_isTurning 54 = .ok (.goto (-36), 3) := by decide +kernel
theorem dX2_isTurning_57 : decode cX2_isTurning 57 = .ok (.iload_n 2, 1) := by decide +kernel
theorem dX2_isTurning_58 : decode cX2_isTurning 58 = .ok (.ifCond .eq 7, 3) := by decide +kernel
theorem dX2_isTurning_61 : decode cX2_isTurning 61 = .ok (.iconst 1, 1) := by decide +kernel
theorem dX2_isTurning_62 : decode cX2_isTurning 62 = .ok (.goto 4, 3) := by decide +kernel
theorem dX2_isTurning_65 : decode cX2_isTurning 65 = .ok (.iconst 0, 1) := by decide +kernel
theorem dX2_isTurning_66 : decode cX2_isTurning 66 = .ok (.ireturn, 1) := by decide +kernel
theorem dX2_isOften_0 : decode cX2_isOften 0 = .ok (.aload 4, 2) := by decide +kernel
theorem dX2_isOften_2 : decode cX2_isOften 2 = .ok (.aload_n 0, 1) := by decide +kernel
theorem dX2_isOften_3 : decode cX2_isOften 3 = .ok (.getfield 15, 3) := by decide +kernel
theorem dX2_isOften_6 : decode cX2_isOften 6 = .ok (.iconst 0, 1) := by decide +kernel
theorem dX2_isOften_7 : decode cX2_isOften 7 = .ok (.iaload, 1) := by decide +kernel
theorem dX2_isOften_8 : decode cX2_isOften 8 = .ok (.iload_n 2, 1) := by decide +kernel
theorem dX2_isOften_9 : decode cX2_isOften 9 = .ok (.invokevirtual 30, 3) := by decide +kernel
theorem dX2_isOften_12 : decode cX2_isOften 12 = .ok (.istore 5, 2) := by decide +kernel
theorem dX2_isOften_14 : decode cX2_isOften 14 = .ok (.iconst 0, 1) := by decide +kernel
theorem dX2_isOften_15 : decode cX2_isOften 15 = .ok (.istore 6, 2) := by decide +kernel
theorem dX2_isOften_17 : decode cX2_isOften 17 = .ok (.iconst 0, 1) := by decide +kernel
theorem dX2_isOften_18 : decode cX2_isOften 18 = .ok (.istore 7, 2) := by decide +kernel
theorem dX2_isOften_20 : decode cX2_isOften 20 = .ok (.iload 7, 2) := by decide +kernel
theorem dX2_isOften_22 : decode cX2_isOften 22 = .ok (.iload_n 1, 1) := by decide +kernel
theorem dX2_isOften_23 : decode cX2_isOften 23 = .ok (.if_icmp .ge 37, 3) := by decide +kernel
theorem dX2_isOften_26 : decode cX2_isOften 26 = .ok (.iload 6, 2) := by decide +kernel
theorem dX2_isOften_28 : decode cX2_isOften 28 = .ok (.aload 4, 2) := by decide +kernel
theorem dX2_isOften_30 : decode cX2_isOften 30 = .ok (.aload_n 0, 1) := by decide +kernel
theorem dX2_isOften_31 : decode cX2_isOften 31 = .ok (.getfield 15, 3) := by decide +kernel
theorem dX2_isOften_34 : decode cX2_isOften 34 = .ok (.iload 7, 2) := by decide +kernel
theorem dX2_isOften_36 : decode cX2_isOften 36 = .ok (.iaload, 1) := by decide +kernel
theorem dX2_isOften_37 : decode cX2_isOften 37 = .ok (.iload_n 2, 1) := by decide +kernel
theorem dX2_isOften_38 : decode cX2_isOften 38 = .ok (.invokevirtual 30, 3) := by decide +kernel
theorem dX2_isOften_41 : decode cX2_isOften 41 = .ok (.iload 5, 2) := by decide +kernel
theorem dX2_isOften_43 : decode cX2_isOften 43 = .ok (.if_icmp .ne 7, 3) := by decide +kernel
theorem dX2_isOften_46 : decode cX2_isOften 46 = .ok (.iconst 1, 1) := by decide +kernel
theorem dX2_isOften_47 : decode cX2_isOften 47 = .ok (.goto 4, 3) := by decide +kernel
theorem dX2_isOften_50 : decode cX2_isOften 50 = .ok (.iconst 0, 1) := by decide +kernel
theorem dX2_isOften_51 : decode cX2_isOften 51 = .ok (.iadd, 1) := by decide +kernel
theorem dX2_isOften_52 : decode cX2_isOften 52 = .ok (.istore 6, 2) := by decide +kernel
theorem dX2_isOften_54 : decode cX2_isOften 54 = .ok (.iinc 7 1, 3) := by decide +kernel
theorem dX2_isOften_57 : decode cX2_isOften 57 = .ok (.goto (-37), 3) := by decide +kernel
theorem dX2_isOften_60 : decode cX2_isOften 60 = .ok (.iload 5, 2) := by decide +kernel
theorem dX2_isOften_62 : decode cX2_isOften 62 = .ok (.ifCond .eq 13, 3) := by decide +kernel
theorem dX2_isOften_65 : decode cX2_isOften 65 = .ok (.iload 6, 2) := by decide +kernel
theorem dX2_isOften_67 : decode cX2_isOften 67 = .ok (.iload_n 3, 1) := by decide +kernel
theorem dX2_isOften_68 : decode cX2_isOften 68 = .ok (.if_icmp .lt 7, 3) := by decide +kernel
theorem dX2_isOften_71 : decode cX2_isOften 71 = .ok (.iconst 1, 1) := by decide +kernel
theorem dX2_isOften_72 : decode cX2_isOften 72 = .ok (.goto 4, 3) := by decide +kernel
theorem dX2_isOften_75 : decode cX2_isOften 75 = .ok (.iconst 0, 1) := by decide +kernel
theorem dX2_isOften_76 : decode cX2_isOften 76 = .ok (.ireturn, 1) := by decide +kernel
theorem dX2_beyondSome_0 : decode cX2_beyondSome 0 = .ok (.iconst 0, 1) := by decide +kernel
theorem dX2_beyondSome_1 : decode cX2_beyondSome 1 = .ok (.istore_n 3, 1) := by decide +kernel
theorem dX2_beyondSome_2 : decode cX2_beyondSome 2 = .ok (.iconst 0, 1) := by decide +kernel
theorem dX2_beyondSome_3 : decode cX2_beyondSome 3 = .ok (.istore 4, 2) := by decide +kernel
theorem dX2_beyondSome_5 : decode cX2_beyondSome 5 = .ok (.iload 4, 2) := by decide +kernel
theorem dX2_beyondSome_7 : decode cX2_beyondSome 7 = .ok (.iload_n 1, 1) := by decide +kernel
theorem dX2_beyondSome_8 : decode cX2_beyondSome 8 = .ok (.if_icmp .ge 32, 3) := by decide +kernel
theorem dX2_beyondSome_11 : decode cX2_beyondSome 11 = .ok (.iload_n 3, 1) := by decide +kernel
theorem dX2_beyondSome_12 : decode cX2_beyondSome 12 = .ok (.aload_n 2, 1) := by decide +kernel
theorem dX2_beyondSome_13 : decode cX2_beyondSome 13 = .ok (.aload_n 0, 1) := by decide +kernel
theorem dX2_beyondSome_14 : decode cX2_beyondSome 14 = .ok (.getfield 15, 3) := by decide +kernel
theorem dX2_beyondSome_17 : decode cX2_beyondSome 17 = .ok (.iload 4, 2) := by decide +kernel
theorem dX2_beyondSome_19 : decode cX2_beyondSome 19 = .ok (.iaload, 1) := by decide +kernel
theorem dX2_beyondSome_20 : decode cX2_beyondSome 20 = .ok (.iconst 1, 1) := by decide +kernel
theorem dX2_beyondSome_21 : decode cX2_beyondSome 21 = .ok (.invokevirtual 30, 3) := by decide +kernel
theorem dX2_beyondSome_24 : decode cX2_beyondSome 24 = .ok (.ifCond .eq 7, 3) := by decide +kernel
theorem dX2_beyondSome_27 : decode cX2_beyondSome 27 = .ok (.iconst 1, 1) := by decide +kernel
theorem dX2_beyondSome_28 : decode cX2_beyondSome 28 = .ok (.goto 4, 3) := by decide +kernel
theorem dX2_beyondSome_31 : decode cX2_beyondSome 31 = .ok (.iconst 0, 1) := by decide +kernel
theorem dX2_beyondSome_32 : decode cX2_beyondSome 32 = .ok (.iadd, 1) := by decide +kernel
theorem dX2_beyondSome_33 : decode cX2_beyondSome 33 = .ok (.istore_n 3, 1) := by decide +kernel
theorem dX2_beyondSome_34 : decode cX2_beyondSome 34 = .ok (.iinc 4 1, 3) := by decide +kernel
theorem dX2_beyondSome_37 : decode cX2_beyondSome 37 = .ok (.goto (-32), 3) := by decide +kernel
theorem dX2_beyondSome_40 : decode cX2_beyondSome 40 = .ok (.iload_n 3, 1) := by decide +kernel
theorem dX2_beyondSome_41 : decode cX2_beyondSome 41 = .ok (.ireturn, 1) := by decide +kernel
theorem dJ6_bitCount_0f7a4_0 : decode cJ6_bitCount_0f7a4 0 = .ok (.iload_n 0, 1) := by decide +kernel
theorem dJ6_bitCount_0f7a4_1 : decode cJ6_bitCount_0f7a4 1 = .ok (.iload_n 0, 1) := by decide +kernel
theorem dJ6_bitCount_0f7a4_2 : decode cJ6_bitCount_0f7a4 2 = .ok (.iconst 1, 1) := by decide +kernel
theorem dJ6_bitCount_0f7a4_3 : decode cJ6_bitCount_0f7a4 3 = .ok (.iushr, 1) := by decide +kernel
theorem dJ6_bitCount_0f7a4_4 : decode cJ6_bitCount_0f7a4 4 = .ok (.ldc_w 265, 3) := by decide +kernel
theorem dJ6_bitCount_0f7a4_7 : decode cJ6_bitCount_0f7a4 7 = .ok (.iand, 1) := by decide +kernel
theorem dJ6_bitCount_0f7a4_8 : decode cJ6_bitCount_0f7a4 8 = .ok (.isub, 1) := by decide +kernel
theorem dJ6_bitCount_0f7a4_9 : decode cJ6_bitCount_0f7a4 9 = .ok (.istore_n 0, 1) := by decide +kernel
theorem dJ6_bitCount_0f7a4_10 : decode cJ6_bitCount_0f7a4 10 = .ok (.iload_n 0, 1) := by decide +kernel
theorem dJ6_bitCount_0f7a4_11 : decode cJ6_bitCount_0f7a4 11 = .ok (.ldc_w 266, 3) := by decide +kernel
theorem dJ6_bitCount_0f7a4_14 : decode cJ6_bitCount_0f7a4 14 = .ok (.iand, 1) := by decide +kernel
theorem dJ6_bitCount_0f7a4_15 : decode cJ6_bitCount_0f7a4 15 = .ok (.iload_n 0, 1) := by decide +kernel
theorem dJ6_bitCount_0f7a4_16 : decode cJ6_bitCount_0f7a4 16 = .ok (.iconst 2, 1) := by decide +kernel
theorem dJ6_bitCount_0f7a4_17 : decode cJ6_bitCount_0f7a4 17 = .ok (.iushr, 1) := by decide +kernel
theorem dJ6_bitCount_0f7a4_18 : decode cJ6_bitCount_0f7a4 18 = .ok (.ldc_w 266, 3) := by decide +kernel
theorem dJ6_bitCount_0f7a4_21 : decode cJ6_bitCount_0f7a4 21 = .ok (.iand, 1) := by decide +kernel
theorem dJ6_bitCount_0f7a4_22 : decode cJ6_bitCount_0f7a4 22 = .ok (.iadd, 1) := by decide +kernel
theorem dJ6_bitCount_0f7a4_23 : decode cJ6_bitCount_0f7a4 23 = .ok (.istore_n 0, 1) := by decide +kernel
theorem dJ6_bitCount_0f7a4_24 : decode cJ6_bitCount_0f7a4 24 = .ok (.iload_n 0, 1) := by decide +kernel
theorem dJ6_bitCount_0f7a4_25 : decode cJ6_bitCount_0f7a4 25 = .ok (.iload_n 0, 1) := by decide +kernel
theorem dJ6_bitCount_0f7a4_26 : decode cJ6_bitCount_0f7a4 26 = .ok (.iconst 4, 1) := by decide +kernel
theorem dJ6_bitCount_0f7a4_27 : decode cJ6_bitCount_0f7a4 27 = .ok (.iushr, 1) := by decide +kernel
theorem dJ6_bitCount_0f7a4_28 : decode cJ6_bitCount_0f7a4 28 = .ok (.iadd, 1) := by decide +kernel
theorem dJ6_bitCount_0f7a4_29 : decode cJ6_bitCount_0f7a4 29 = .ok (.ldc_w 267, 3) := by decide +kernel
theorem dJ6_bitCount_0f7a4_32 : decode cJ6_bitCount_0f7a4 32 = .ok (.iand, 1) := by decide +kernel
theorem dJ6_bitCount_0f7a4_33 : decode cJ6_bitCount_0f7a4 33 = .ok (.istore_n 0, 1) := by decide +kernel
theorem dJ6_bitCount_0f7a4_34 : decode cJ6_bitCount_0f7a4 34 = .ok (.iload_n 0, 1) := by decide +kernel
theorem dJ6_bitCount_0f7a4_35 : decode cJ6_bitCount_0f7a4 35 = .ok (.iload_n 0, 1) := by decide +kernel
theorem dJ6_bitCount_0f7a4_36 : decode cJ6_bitCount_0f7a4 36 = .ok (.bipush 8, 2) := by decide +kernel
theorem dJ6_bitCount_0f7a4_38 : decode cJ6_bitCount_0f7a4 38 = .ok (.iushr, 1) := by decide +kernel
theorem dJ6_bitCount_0f7a4_39 : decode cJ6_bitCount_0f7a4 39 = .ok (.iadd, 1) := by decide +kernel
theorem dJ6_bitCount_0f7a4_40 : decode cJ6_bitCount_0f7a4 40 = .ok (.istore_n 0, 1) := by decide +kernel
theorem dJ6_bitCount_0f7a4_41 : decode cJ6_bitCount_0f7a4 41 = .ok (.iload_n 0, 1) := by decide +kernel
theorem dJ6_bitCount_0f7a4_42 : decode cJ6_bitCount_0f7a4 42 = .ok (.iload_n 0, 1) := by decide +kernel
theorem dJ6_bitCount_0f7a4_43 : decode cJ6_bitCount_0f7a4 43 = .ok (.bipush 16, 2) := by decide +kernel
theorem dJ6_bitCount_0f7a4_45 : decode cJ6_bitCount_0f7a4 45 = .ok (.iushr, 1) := by decide +kernel
theorem dJ6_bitCount_0f7a4_46 : decode cJ6_bitCount_0f7a4 46 = .ok (.iadd, 1) := by decide +kernel
theorem dJ6_bitCount_0f7a4_47 : decode cJ6_bitCount_0f7a4 47 = .ok (.istore_n 0, 1) := by decide +kernel
theorem dJ6_bitCount_0f7a4_48 : decode cJ6_bitCount_0f7a4 48 = .ok (.iload_n 0, 1) := by decide +kernel
theorem dJ6_bitCount_0f7a4_49 : decode cJ6_bitCount_0f7a4 49 = .ok (.bipush 63, 2) := by decide +kernel
theorem dJ6_bitCount_0f7a4_51 : decode cJ6_bitCount_0f7a4 51 = .ok (.iand, 1) := by decide +kernel
theorem dJ6_bitCount_0f7a4_52 : decode cJ6_bitCount_0f7a4 52 = .ok (.ireturn, 1) := by decide +kernel
theorem dJ9_floorDiv_7cf53_0 : decode cJ9_floorDiv_7cf53 0 = .ok (.iload_n 0, 1) := by decide +kernel
theorem dJ9_floorDiv_7cf53_1 : decode cJ9_floorDiv_7cf53 1 = .ok (.iload_n 1, 1) := by decide +kernel
theorem dJ9_floorDiv_7cf53_2 : decode cJ9_floorDiv_7cf53 2 = .ok (.idiv, 1) := by decide +kernel
theorem dJ9_floorDiv_7cf53_3 : decode cJ9_floorDiv_7cf53 3 = .ok (.istore_n 2, 1) := by decide +kernel
theorem dJ9_floorDiv_7cf53_4 : decode cJ9_floorDiv_7cf53 4 = .ok (.iload_n 0, 1) := by decide +kernel
theorem dJ9_floorDiv_7cf53_5 : decode cJ9_floorDiv_7cf53 5 = .ok (.iload_n 1, 1) := by decide +kernel
theorem dJ9_floorDiv_7cf53_6 : decode cJ9_floorDiv_7cf53 6 = .ok (.ixor, 1) := by decide +kernel
theorem dJ9_floorDiv_7cf53_7 : decode cJ9_floorDiv_7cf53 7 = .ok (.ifCond .ge 14, 3) := by decide +kernel
theorem dJ9_floorDiv_7cf53_10 : decode cJ9_floorDiv_7cf53 10 = .ok (.iload_n 2, 1) := by decide +kernel
theorem dJ9_floorDiv_7cf53_11 : decode cJ9_floorDiv_7cf53 11 = .ok (.iload_n 1, 1) := by decide +kernel
theorem dJ9_floorDiv_7cf53_12 : decode cJ9_floorDiv_7cf53 12 = .ok (.imul, 1) := by decide +kernel
theorem dJ9_floorDiv_7cf53_13 : decode cJ9_floorDiv_7cf53 13 = .ok (.iload_n 0, 1) := by decide +kernel
theorem dJ9_floorDiv_7cf53_14 : decode cJ9_floorDiv_7cf53 14 = .ok (.if_icmp .eq 7, 3) := by decide +kernel
theorem dJ9_floorDiv_7cf53_17 : decode cJ9_floorDiv_7cf53 17 = .ok (.iload_n 2, 1) := by decide +kernel
theorem dJ9_floorDiv_7cf53_18 : decode cJ9_floorDiv_7cf53 18 = .ok (.iconst 1, 1) := by decide +kernel
theorem dJ9_floorDiv_7cf53_19 : decode cJ9_floorDiv_7cf53 19 = .ok (.isub, 1) := by decide +kernel
theorem dJ9_floorDiv_7cf53_20 : decode cJ9_floorDiv_7cf53 20 = .ok (.ireturn, 1) := by decide +kernel
theorem dJ9_floorDiv_7cf53_21 : decode cJ9_floorDiv_7cf53 21 = .ok (.iload_n 2, 1) := by decide +kernel
theorem dJ9_floorDiv_7cf53_22 : decode cJ9_floorDiv_7cf53 22 = .ok (.ireturn, 1) := by decide +kernel
theorem dJ9_floorDiv_f86c9_0 : decode cJ9_floorDiv_f86c9 0 = .ok (.lload_n 0, 1) := by decide +kernel
theorem dJ9_floorDiv_f86c9_1 : decode cJ9_floorDiv_f86c9 1 = .ok (.lload_n 2, 1) := by decide +kernel
theorem dJ9_floorDiv_f86c9_2 : decode cJ9_floorDiv_f86c9 2 = .ok (.ldiv, 1) := by decide +kernel
theorem dJ9_floorDiv_f86c9_3 : decode cJ9_floorDiv_f86c9 3 = .ok (.lstore 4, 2) := by decide +kernel
theorem dJ9_floorDiv_f86c9_5 : decode cJ9_floorDiv_f86c9 5 = .ok (.lload_n 0, 1) := by decide +kernel
theorem dJ9_floorDiv_f86c9_6 : decode cJ9_floorDiv_f86c9 6 = .ok (.lload_n 2, 1) := by decide +kernel
theorem dJ9_floorDiv_f86c9_7 : decode cJ9_floorDiv_f86c9 7 = .ok (.lxor, 1) := by decide +kernel
theorem dJ9_floorDiv_f86c9_8 : decode cJ9_floorDiv_f86c9 8 = .ok (.lconst 0, 1) := by decide +kernel
theorem dJ9_floorDiv_f86c9_9 : decode cJ9_floorDiv_f86c9 9 = .ok (.lcmp, 1) := by decide +kernel
theorem dJ9_floorDiv_f86c9_10 : decode cJ9_floorDiv_f86c9 10 = .ok (.ifCond .ge 17, 3) := by decide +kernel
theorem dJ9_floorDiv_f86c9_13 : decode cJ9_floorDiv_f86c9 13 = .ok (.lload 4, 2) := by decide +kernel
theorem dJ9_floorDiv_f86c9_15 : decode cJ9_floorDiv_f86c9 15 = .ok (.lload_n 2, 1) := by decide +kernel
theorem dJ9_floorDiv_f86c9_16 : decode cJ9_floorDiv_f86c9 16 = .ok (.lmul, 1) := by decide +kernel
theorem dJ9_floorDiv_f86c9_17 : decode cJ9_floorDiv_f86c9 17 = .ok (.lload_n 0, 1) := by decide +kernel
theorem dJ9_floorDiv_f86c9_18 : decode cJ9_floorDiv_f86c9 18 = .ok (.lcmp, 1) := by decide +kernel
theorem dJ9_floorDiv_f86c9_19 : decode cJ9_floorDiv_f86c9 19 = .ok (.ifCond .eq 8, 3) := by decide +kernel
theorem dJ9_floorDiv_f86c9_22 : decode cJ9_floorDiv_f86c9 22 = .ok (.lload 4, 2) := by decide +kernel
theorem dJ9_floorDiv_f86c9_24 : decode cJ9_floorDiv_f86c9 24 = .ok (.lconst 1, 1) := by decide +kernel
theorem dJ9_floorDiv_f86c9_25 : decode cJ9_floorDiv_f86c9 25 = .ok (.lsub, 1) := by decide +kernel
theorem dJ9_floorDiv_f86c9_26 : decode cJ9_floorDiv_f86c9 26 = .ok (.lreturn, 1) := by decide +kernel
theorem dJ9_floorDiv_f86c9_27 : decode cJ9_floorDiv_f86c9 27 = .ok (.lload 4, 2) := by decide +kernel
theorem dJ9_floorDiv_f86c9_29 : decode cJ9_floorDiv_f86c9 29 = .ok (.lreturn, 1) := by decide +kernel
theorem dJ9_max_7cf53_0 : decode cJ9_max_7cf53 0 = .ok (.iload_n 0, 1) := by decide +kernel
theorem dJ9_max_7cf53_1 : decode cJ9_max_7cf53 1 = .ok (.iload_n 1, 1) := by decide +kernel
theorem dJ9_max_7cf53_2 : decode cJ9_max_7cf53 2 = .ok (.if_icmp .lt 7, 3) := by decide +kernel
theorem dJ9_max_7cf53_5 : decode cJ9_max_7cf53 5 = .ok (.iload_n 0, 1) := by decide +kernel
theorem dJ9_max_7cf53_6 : decode cJ9_max_7cf53 6 = .ok (.goto 4, 3) := by decide +kernel
theorem dJ9_max_7cf53_9 : decode cJ9_max_7cf53 9 = .ok (.iload_n 1, 1) := by decide +kernel
theorem dJ9_max_7cf53_10 : decode cJ9_max_7cf53 10 = .ok (.ireturn, 1) := by decide +kernel
theorem dJ9_min_7cf53_0 : decode cJ9_min_7cf53 0 = .ok (.iload_n 0, 1) := by decide +kernel
theorem dJ9_min_7cf53_1 : decode cJ9_min_7cf53 1 = .ok (.iload_n 1, 1) := by decide +kernel
theorem dJ9_min_7cf53_2 : decode cJ9_min_7cf53 2 = .ok (.if_icmp .gt 7, 3) := by decide +kernel
theorem dJ9_min_7cf53_5 : decode cJ9_min_7cf53 5 = .ok (.iload_n 0, 1) := by decide +kernel
theorem dJ9_min_7cf53_6 : decode cJ9_min_7cf53 6 = .ok (.goto 4, 3) := by decide +kernel
theorem dJ9_min_7cf53_9 : decode cJ9_min_7cf53 9 = .ok (.iload_n 1, 1) := by decide +kernel
theorem dJ9_min_7cf53_10 : decode cJ9_min_7cf53 10 = .ok (.ireturn, 1) := by decide +kernel
theorem dJ9_min_f86c9_0 : decode cJ9_min_f86c9 0 = .ok (.lload_n 0, 1) := by decide +kernel
theorem dJ9_min_f86c9_1 : decode cJ9_min_f86c9 1 = .ok (.lload_n 2, 1) := by decide +kernel
theorem dJ9_min_f86c9_2 : decode cJ9_min_f86c9 2 = .ok (.lcmp, 1) := by decide +kernel
theorem dJ9_min_f86c9_3 : decode cJ9_min_f86c9 3 = .ok (.ifCond .gt 7, 3) := by decide +kernel
theorem dJ9_min_f86c9_6 : decode cJ9_min_f86c9 6 = .ok (.lload_n 0, 1) := by decide +kernel
theorem dJ9_min_f86c9_7 : decode cJ9_min_f86c9 7 = .ok (.goto 4, 3) := by decide +kernel
theorem dJ9_min_f86c9_10 : decode cJ9_min_f86c9 10 = .ok (.lload_n 2, 1) := by decide +kernel
theorem dJ9_min_f86c9_11 : decode cJ9_min_f86c9 11 = .ok (.lreturn, 1) := by decide +kernel
