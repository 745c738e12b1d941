theorem dX3_init_0 : decode cX3_init 0 = .ok (.aload_n 0, 1) := by decide +kernel
theorem dX3_init_1 : decode cX3_init 1 = .ok (.invokespecial 1, 3) := by decide +kernel
theorem dX3_init_4 : decode cX3_init 4 = .ok (.aload_n 0, 1) := by decide +kernel
theorem dX3_init_5 : decode cX3_init 5 = .ok (.bipush 60, 2) := by decide +kernel
theorem dX3_init_7 : decode cX3_init 7 = .ok (.newarray .int, 2) := by decide +kernel
theorem dX3_init_9 : decode cX3_init 9 = .ok (.putfield 9, 3) := by decide +kernel
theorem dX3_init_12 : decode cX3_init 12 = .ok (.aload_n 0, 1) := by decide +kernel
theorem dX3_init_13 : decode cX3_init 13 = .ok (.bipush 60, 2) := by decide +kernel
theorem dX3_init_15 : decode cX3_init 15 = .ok (.newarray .int, 2) := by decide +kernel
theorem dX3_init_17 : decode cX3_init 17 = .ok (.putfield 13, 3) := by decide +kernel
theorem dX3_init_20 : decode cX3_init 20 = .ok (.aload_n 0, 1) := by decide +kernel
theorem dX3_init_21 : decode cX3_init 21 = .ok (.bipush 60, 2) := by decide +kernel
theorem dX3_init_23 : decode cX3_init 23 = .ok (.newarray .int, 2) := by decide +kernel
theorem dX3_init_25 : decode cX3_init 25 = .ok (.putfield 16, 3) := by decide +kernel
theorem dX3_init_28 : decode cX3_init 28 = .ok (.aload_n 0, 1) := by decide +kernel
theorem dX3_init_29 : decode cX3_init 29 = .ok (.bipush 60, 2) := by decide +kernel
theorem dX3_init_31 : decode cX3_init 31 = .ok (.newarray .int, 2) := by decide +kernel
theorem dX3_init_33 : decode cX3_init 33 = .ok (.putfield 19, 3) := by decide +kernel
theorem dX3_init_36 : decode cX3_init 36 = .ok (.aload_n 0, 1) := by decide +kernel
theorem dX3_init_37 : decode cX3_init 37 = .ok (.bipush 60, 2) := by decide +kernel
theorem dX3_init_39 : decode cX3_init 39 = .ok (.newarray .int, 2) := by decide +kernel
theorem dX3_init_41 : decode cX3_init 41 = .ok (.putfield 22, 3) := by decide +kernel
theorem dX3_init_44 : decode cX3_init 44 = .ok (.aload_n 0, 1) := by decide +kernel
theorem dX3_init_45 : decode cX3_init 45 = .ok (.bipush 10, 2) := by decide +kernel
theorem dX3_init_47 : decode cX3_init 47 = .ok (.anewarray 25, 3) := by decide +kernel
theorem dX3_init_50 : decode cX3_init 50 = .ok (.putfield 27, 3) := by decide +kernel
theorem dX3_init_53 : decode cX3_init 53 = .ok (.iconst 0, 1) := by decide +kernel
theorem dX3_init_54 : decode cX3_init 54 = .ok (.istore_n 1, 1) := by decide +kernel
theorem dX3_init_55 : decode cX3_init 55 = .ok (.iload_n 1, 1) := by decide +kernel
theorem dX3_init_56 : decode cX3_init 56 = .ok (.bipush 10, 2) := by decide +kernel
theorem dX3_init_58 : decode cX3_init 58 = .ok (.if_icmp .ge 22, 3) := by decide +kernel
theorem dX3_init_61 : decode cX3_init 61 = .ok (.aload_n 0, 1) := by decide +kernel
theorem dX3_init_62 : decode cX3_init 62 = .ok (.getfield 27, 3) := by decide +kernel
theorem dX3_init_65 : decode cX3_init 65 = .ok (.iload_n 1, 1) := by decide +kernel
theorem dX3_init_66 : decode cX3_init 66 = .ok (.new 25, 3) := by decide +kernel
theorem dX3_init_69 : decode cX3_init 69 = .ok (.dup, 1) := by decide +kernel
theorem dX3_init_70 : decode cX3_init 70 = .ok (.invokespecial 31, 3) := by decide +kernel
theorem dX3_init_73 : decode cX3_init 73 = .ok (.aastore, 1) := by decide +kernel
theorem dX3_init_74 : decode cX3_init 74 = .ok (.iinc 1 1, 3) := by decide +kernel
theorem dX3_init_77 : decode cX3_init 77 = .ok (.goto (-22), 3) := by decide +kernel
theorem dX3_init_80 : decode cX3_init 80 = .ok (.aload_n 0, 1) := by decide +kernel
theorem dX3_init_81 : decode cX3_init 81 = .ok (.new 32, 3) := by decide +kernel
theorem dX3_init_84 : decode cX3_init 84 = .ok (.dup, 1) := by decide +kernel
theorem dX3_init_85 : decode cX3_init 85 = .ok (.invokespecial 34, 3) := by decide +kernel
theorem dX3_init_88 : decode cX3_init 88 = .ok (.putfield 35, 3) := by decide +kernel
theorem dX3_init_91 : decode cX3_init 91 = .ok (.aload_n 0, 1) := by decide +kernel
theorem dX3_init_92 : decode cX3_init 92 = .ok (.new 39, 3) := by decide +kernel
theorem dX3_init_95 : decode cX3_init 95 = .ok (.dup, 1) := by decide +kernel
theorem dX3_init_96 : decode cX3_init 96 = .ok (.invokespecial 41, 3) := by decide +kernel
theorem dX3_init_99 : decode cX3_init 99 = .ok (.putfield 42, 3) := by decide +kernel
theorem dX3_init_102 : decode cX3_init 102 = .ok (.aload_n 0, 1) := by decide +kernel
theorem dX3_init_103 : decode cX3_init 103 = .ok (.iconst 5, 1) := by decide +kernel
theorem dX3_init_104 : decode cX3_init 104 = .ok (.invokevirtual 46, 3) := by decide +kernel
theorem dX3_init_107 : decode cX3_init 107 = .ok (.return_, 1) := by decide +kernel
theorem dX3_begin_0 : decode cX3_begin 0 = .ok (.iload_n 1, 1) := by decide +kernel
theorem dX3_begin_1 : decode cX3_begin 1 = .ok (.iconst 2, 1) := by decide +kernel
theorem dX3_begin_2 : decode cX3_begin 2 = .ok (.if_icmp .lt 9, 3) := by decide +kernel
theorem dX3_begin_5 : decode cX3_begin 5 = .ok (.iload_n 1, 1) := by decide +kernel
theorem dX3_begin_6 : decode cX3_begin 6 = .ok (.bipush 6, 2) := by decide +kernel
theorem dX3_begin_8 : decode cX3_begin 8 = .ok (.if_icmp .le 13, 3) := by decide +kernel
theorem dX3_begin_11 : decode cX3_begin 11 = .ok (.new 50, 3) := by decide +kernel
theorem dX3_begin_14 : decode cX3_begin 14 = .ok (.dup, 1) := by decide +kernel
theorem dX3_begin_15 : decode cX3_begin 15 = .ok (.ldc 52, 2) := by decide +kernel
theorem dX3_begin_17 : decode cX3_begin 17 = .ok (.invokespecial 54, 3) := by decide +kernel
theorem dX3_begin_20 : decode cX3_begin 20 = .ok (.athrow, 1) := by decide +kernel
theorem dX3_begin_21 : decode cX3_begin 21 = .ok (.aload_n 0, 1) := by decide +kernel
theorem dX3_begin_22 : decode cX3_begin 22 = .ok (.iload_n 1, 1) := by decide +kernel
theorem dX3_begin_23 : decode cX3_begin 23 = .ok (.invokevirtual 46, 3) := by decide +kernel
theorem dX3_begin_26 : decode cX3_begin 26 = .ok (.return_, 1) := by decide +kernel
theorem dX3_put_0 : decode cX3_put 0 = .ok (.iload_n 1, 1) := by decide +kernel
theorem dX3_put_1 : decode cX3_put 1 = .ok (.invokestatic 57, 3) := by decide +kernel
theorem dX3_put_4 : decode cX3_put 4 = .ok (.ifCond .ne 13, 3) := by decide +kernel
theorem dX3_put_7 : decode cX3_put 7 = .ok (.new 50, 3) := by decide +kernel
theorem dX3_put_10 : decode cX3_put 10 = .ok (.dup, 1) := by decide +kernel
theorem dX3_put_11 : decode cX3_put 11 = .ok (.ldc 61, 2) := by decide +kernel
theorem dX3_put_13 : decode cX3_put 13 = .ok (.invokespecial 54, 3) := by decide +kernel
theorem dX3_put_16 : decode cX3_put 16 = .ok (.athrow, 1) := by decide +kernel
theorem dX3_put_17 : decode cX3_put 17 = .ok (.aload_n 0, 1) := by decide +kernel
theorem dX3_put_18 : decode cX3_put 18 = .ok (.getfield 63, 3) := by decide +kernel
theorem dX3_put_21 : decode cX3_put 21 = .ok (.bipush 60, 2) := by decide +kernel
theorem dX3_put_23 : decode cX3_put 23 = .ok (.if_icmp .lt 13, 3) := by decide +kernel
theorem dX3_put_26 : decode cX3_put 26 = .ok (.new 67, 3) := by decide +kernel
theorem dX3_put_29 : decode cX3_put 29 = .ok (.dup, 1) := by decide +kernel
theorem dX3_put_30 : decode cX3_put 30 = .ok (.ldc 69, 2) := by decide +kernel
theorem dX3_put_32 : decode cX3_put 32 = .ok (.invokespecial 71, 3) := by decide +kernel
theorem dX3_put_35 : decode cX3_put 35 = .ok (.athrow, 1) := by decide +kernel
theorem dX3_put_36 : decode cX3_put 36 = .ok (.aload_n 0, 1) := by decide +kernel
theorem dX3_put_37 : decode cX3_put 37 = .ok (.iload_n 1, 1) := by decide +kernel
theorem dX3_put_38 : decode cX3_put 38 = .ok (.invokevirtual 72, 3) := by decide +kernel
theorem dX3_put_41 : decode cX3_put 41 = .ok (.aload_n 0, 1) := by decide +kernel
theorem dX3_put_42 : decode cX3_put 42 = .ok (.getfield 75, 3) := by decide +kernel
theorem dX3_put_45 : decode cX3_put 45 = .ok (.aload_n 0, 1) := by decide +kernel
theorem dX3_put_46 : decode cX3_put 46 = .ok (.getfield 78, 3) := by decide +kernel
theorem dX3_put_49 : decode cX3_put 49 = .ok (.if_icmp .ge 5, 3) := by decide +kernel
theorem dX3_put_52 : decode cX3_put 52 = .ok (.iconst 0, 1) := by decide +kernel
theorem dX3_put_53 : decode cX3_put 53 = .ok (.ireturn, 1) := by decide +kernel
theorem dX3_put_54 : decode cX3_put 54 = .ok (.aload_n 0, 1) := by decide +kernel
theorem dX3_put_55 : decode cX3_put 55 = .ok (.invokevirtual 81, 3) := by decide +kernel
theorem dX3_put_58 : decode cX3_put 58 = .ok (.iconst 1, 1) := by decide +kernel
theorem dX3_put_59 : decode cX3_put 59 = .ok (.ireturn, 1) := by decide +kernel
theorem dX3_newPhase_0 : decode cX3_newPhase 0 = .ok (.aload_n 0, 1) := by decide +kernel
theorem dX3_newPhase_1 : decode cX3_newPhase 1 = .ok (.getfield 84, 3) := by decide +kernel
theorem dX3_newPhase_4 : decode cX3_newPhase 4 = .ok (.bipush 10, 2) := by decide +kernel
theorem dX3_newPhase_6 : decode cX3_newPhase 6 = .ok (.if_icmp .lt 13, 3) := by decide +kernel
theorem dX3_newPhase_9 : decode cX3_newPhase 9 = .ok (.new 67, 3) := by decide +kernel
theorem dX3_newPhase_12 : decode cX3_newPhase 12 = .ok (.dup, 1) := by decide +kernel
theorem dX3_newPhase_13 : decode cX3_newPhase 13 = .ok (.ldc 87, 2) := by decide +kernel
theorem dX3_newPhase_15 : decode cX3_newPhase 15 = .ok (.invokespecial 71, 3) := by decide +kernel
theorem dX3_newPhase_18 : decode cX3_newPhase 18 = .ok (.athrow, 1) := by decide +kernel
theorem dX3_newPhase_19 : decode cX3_newPhase 19 = .ok (.aload_n 0, 1) := by decide +kernel
theorem dX3_newPhase_20 : decode cX3_newPhase 20 = .ok (.getfield 75, 3) := by decide +kernel
theorem dX3_newPhase_23 : decode cX3_newPhase 23 = .ok (.ifCond .le 13, 3) := by decide +kernel
theorem dX3_newPhase_26 : decode cX3_newPhase 26 = .ok (.new 67, 3) := by decide +kernel
theorem dX3_newPhase_29 : decode cX3_newPhase 29 = .ok (.dup, 1) := by decide +kernel
theorem dX3_newPhase_30 : decode cX3_newPhase 30 = .ok (.ldc 89, 2) := by decide +kernel
theorem dX3_newPhase_32 : decode cX3_newPhase 32 = .ok (.invokespecial 71, 3) := by decide +kernel
theorem dX3_newPhase_35 : decode cX3_newPhase 35 = .ok (.athrow, 1) := by decide +kernel
theorem dX3_newPhase_36 : decode cX3_newPhase 36 = .ok (.aload_n 0, 1) := by decide +kernel
theorem dX3_newPhase_37 : decode cX3_newPhase 37 = .ok (.invokevirtual 91, 3) := by decide +kernel
theorem dX3_newPhase_40 : decode cX3_newPhase 40 = .ok (.getfield 95, 3) := by decide +kernel
theorem dX3_newPhase_43 : decode cX3_newPhase 43 = .ok (.aload_n 0, 1) := by decide +kernel
theorem dX3_newPhase_44 : decode cX3_newPhase 44 = .ok (.getfield 63, 3) := by decide +kernel
theorem dX3_newPhase_47 : decode cX3_newPhase 47 = .ok (.if_icmp .lt 13, 3) := by decide +kernel
theorem dX3_newPhase_50 : decode cX3_newPhase 50 = .ok (.new 67, 3) := by decide +kernel
theorem dX3_newPhase_53 : decode cX3_newPhase 53 = .ok (.dup, 1) := by decide +kernel
theorem dX3_newPhase_54 : decode cX3_newPhase 54 = .ok (.ldc 98, 2) := by decide +kernel
theorem dX3_newPhase_56 : decode cX3_newPhase 56 = .ok (.invokespecial 71, 3) := by decide +kernel
theorem dX3_newPhase_59 : decode cX3_newPhase 59 = .ok (.athrow, 1) := by decide +kernel
theorem dX3_newPhase_60 : decode cX3_newPhase 60 = .ok (.aload_n 0, 1) := by decide +kernel
theorem dX3_newPhase_61 : decode cX3_newPhase 61 = .ok (.getfield 27, 3) := by decide +kernel
theorem dX3_newPhase_64 : decode cX3_newPhase 64 = .ok (.aload_n 0, 1) := by decide +kernel
theorem dX3_newPhase_65 : decode cX3_newPhase 65 = .ok (.getfield 84, 3) := by decide +kernel
theorem dX3_newPhase_68 : decode cX3_newPhase 68 = .ok (.aaload, 1) := by decide +kernel
theorem dX3_newPhase_69 : decode cX3_newPhase 69 = .ok (.aload_n 0, 1) := by decide +kernel
theorem dX3_newPhase_70 : decode cX3_newPhase 70 = .ok (.getfield 63, 3) := by decide +kernel
theorem dX3_newPhase_73 : decode cX3_newPhase 73 = .ok (.invokevirtual 100, 3) := by decide +kernel
theorem dX3_newPhase_76 : decode cX3_newPhase 76 = .ok (.aload_n 0, 1) := by decide +kernel
theorem dX3_newPhase_77 : decode cX3_newPhase 77 = .ok (.dup, 1) := by decide +kernel
theorem dX3_newPhase_78 : decode cX3_newPhase 78 = .ok (.getfield 84, 3) := by decide +kernel
theorem dX3_newPhase_81 : decode cX3_newPhase 81 = .ok (.iconst 1, 1) := by decide +kernel
theorem dX3_newPhase_82 : decode cX3_newPhase 82 = .ok (.iadd, 1) := by decide +kernel
theorem dX3_newPhase_83 : decode cX3_newPhase 83 = .ok (.putfield 84, 3) := by decide +kernel
theorem dX3_newPhase_86 : decode cX3_newPhase 86 = .ok (.aload_n 0, 1) := by decide +kernel
theorem dX3_newPhase_87 : decode cX3_newPhase 87 = .ok (.getfield 84, 3) := by decide +kernel
theorem dX3_newPhase_90 : decode cX3_newPhase 90 = .ok (.iconst 1, 1) := by decide +kernel
theorem dX3_newPhase_91 : decode cX3_newPhase 91 = .ok (.isub, 1) := by decide +kernel
theorem dX3_newPhase_92 : decode cX3_newPhase 92 = .ok (.ireturn, 1) := by decide +kernel
theorem dX3_freeze_0 : decode cX3_freeze 0 = .ok (.aload_n 0, 1) := by decide +kernel
theorem dX3_freeze_1 : decode cX3_freeze 1 = .ok (.iload_n 1, 1) := by decide +kernel
theorem dX3_freeze_2 : decode cX3_freeze 2 = .ok (.invokevirtual 101, 3) := by decide +kernel
theorem dX3_freeze_5 : decode cX3_freeze 5 = .ok (.astore_n 2, 1) := by decide +kernel
theorem dX3_freeze_6 : decode cX3_freeze 6 = .ok (.aload_n 2, 1) := by decide +kernel
theorem dX3_freeze_7 : decode cX3_freeze 7 = .ok (.getfield 105, 3) := by decide +kernel
theorem dX3_freeze_10 : decode cX3_freeze 10 = .ok (.ifCond .eq 13, 3) := by decide +kernel
theorem dX3_freeze_13 : decode cX3_freeze 13 = .ok (.new 67, 3) := by decide +kernel
theorem dX3_freeze_16 : decode cX3_freeze 16 = .ok (.dup, 1) := by decide +kernel
theorem dX3_freeze_17 : decode cX3_freeze 17 = .ok (.ldc 109, 2) := by decide +kernel
theorem dX3_freeze_19 : decode cX3_freeze 19 = .ok (.invokespecial 71, 3) := by decide +kernel
theorem dX3_freeze_22 : decode cX3_freeze 22 = .ok (.athrow, 1) := by decide +kernel
theorem dX3_freeze_23 : decode cX3_freeze 23 = .ok (.aload_n 2, 1) := by decide +kernel
theorem dX3_freeze_24 : decode cX3_freeze 24 = .ok (.getfield 111, 3) := by decide +kernel
theorem dX3_freeze_27 : decode cX3_freeze 27 = .ok (.iconst 2, 1) := by decide +kernel
theorem dX3_freeze_28 : decode cX3_freeze 28 = .ok (.if_icmp .ge 13, 3) := by decide +kernel
theorem dX3_freeze_31 : decode cX3_freeze 31 = .ok (.new 67, 3) := by decide +kernel
theorem dX3_freeze_34 : decode cX3_freeze 34 = .ok (.dup, 1) := by decide +kernel
theorem dX3_freeze_35 : decode cX3_freeze 35 = .ok (.ldc 114, 2) := by decide +kernel
theorem dX3_freeze_37 : decode cX3_freeze 37 = .ok (.invokespecial 71, 3) := by decide +kernel
theorem dX3_freeze_40 : decode cX3_freeze 40 = .ok (.athrow, 1) := by decide +kernel
theorem dX3_freeze_41 : decode cX3_freeze 41 = .ok (.aload_n 2, 1) := by decide +kernel
theorem dX3_freeze_42 : decode cX3_freeze 42 = .ok (.iconst 1, 1) := by decide +kernel
theorem dX3_freeze_43 : decode cX3_freeze 43 = .ok (.putfield 105, 3) := by decide +kernel
theorem dX3_freeze_46 : decode cX3_freeze 46 = .ok (.return_, 1) := by decide +kernel
theorem dX3_thaw_0 : decode cX3_thaw 0 = .ok (.aload_n 0, 1) := by decide +kernel
theorem dX3_thaw_1 : decode cX3_thaw 1 = .ok (.iload_n 1, 1) := by decide +kernel
theorem dX3_thaw_2 : decode cX3_thaw 2 = .ok (.invokevirtual 101, 3) := by decide +kernel
theorem dX3_thaw_5 : decode cX3_thaw 5 = .ok (.astore_n 2, 1) := by decide +kernel
theorem dX3_thaw_6 : decode cX3_thaw 6 = .ok (.aload_n 2, 1) := by decide +kernel
theorem dX3_thaw_7 : decode cX3_thaw 7 = .ok (.getfield 105, 3) := by decide +kernel
theorem dX3_thaw_10 : decode cX3_thaw 10 = .ok (.ifCond .ne 13, 3) := by decide +kernel
theorem dX3_thaw_13 : decode cX3_thaw 13 = .ok (.new 67, 3) := by decide +kernel
theorem dX3_thaw_16 : decode cX3_thaw 16 = .ok (.dup, 1) := by decide +kernel
theorem dX3_thaw_17 : decode cX3_thaw 17 = .ok (.ldc 116, 2) := by decide +kernel
theorem dX3_thaw_19 : decode cX3_thaw 19 = .ok (.invokespecial 71, 3) := by decide +kernel
theorem dX3_thaw_22 : decode cX3_thaw 22 = .ok (.athrow, 1) := by decide +kernel
theorem dX3_thaw_23 : decode cX3_thaw 23 = .ok (.aload_n 2, 1) := by decide +kernel
theorem dX3_thaw_24 : decode cX3_thaw 24 = .ok (.iconst 0, 1) := by decide +kernel
theorem dX3_thaw_25 : decode cX3_thaw 25 = .ok (.putfield 105, 3) := by decide +kernel
theorem dX3_thaw_28 : decode cX3_thaw 28 = .ok (.aload_n 2, 1) := by decide +kernel
theorem dX3_thaw_29 : decode cX3_thaw 29 = .ok (.aload_n 0, 1) := by decide +kernel
theorem dX3_thaw_30 : decode cX3_thaw 30 = .ok (.getfield 78, 3) := by decide +kernel
theorem dX3_thaw_33 : decode cX3_thaw 33 = .ok (.invokevirtual 118, 3) := by decide +kernel
theorem dX3_thaw_36 : decode cX3_thaw 36 = .ok (.return_, 1) := by decide +kernel
theorem dX3_exclude_0 : decode cX3_exclude 0 = .ok (.aload_n 0, 1) := by decide +kernel
theorem dX3_exclude_1 : decode cX3_exclude 1 = .ok (.iload_n 1, 1) := by decide +kernel
theorem dX3_exclude_2 : decode cX3_exclude 2 = .ok (.invokevirtual 121, 3) := by decide +kernel
theorem dX3_exclude_5 : decode cX3_exclude 5 = .ok (.iload_n 2, 1) := by decide +kernel
theorem dX3_exclude_6 : decode cX3_exclude 6 = .ok (.ifCond .lt 9, 3) := by decide +kernel
theorem dX3_exclude_9 : decode cX3_exclude 9 = .ok (.iload_n 2, 1) := by decide +kernel
theorem dX3_exclude_10 : decode cX3_exclude 10 = .ok (.bipush 9, 2) := by decide +kernel
theorem dX3_exclude_12 : decode cX3_exclude 12 = .ok (.if_icmp .le 13, 3) := by decide +kernel
theorem dX3_exclude_15 : decode cX3_exclude 15 = .ok (.new 50, 3) := by decide +kernel
theorem dX3_exclude_18 : decode cX3_exclude 18 = .ok (.dup, 1) := by decide +kernel
theorem dX3_exclude_19 : decode cX3_exclude 19 = .ok (.ldc 124, 2) := by decide +kernel
theorem dX3_exclude_21 : decode cX3_exclude 21 = .ok (.invokespecial 54, 3) := by decide +kernel
theorem dX3_exclude_24 : decode cX3_exclude 24 = .ok (.athrow, 1) := by decide +kernel
theorem dX3_exclude_25 : decode cX3_exclude 25 = .ok (.aload_n 0, 1) := by decide +kernel
theorem dX3_exclude_26 : decode cX3_exclude 26 = .ok (.getfield 19, 3) := by decide +kernel
theorem dX3_exclude_29 : decode cX3_exclude 29 = .ok (.iload_n 1, 1) := by decide +kernel
theorem dX3_exclude_30 : decode cX3_exclude 30 = .ok (.iaload, 1) := by decide +kernel
theorem dX3_exclude_31 : decode cX3_exclude 31 = .ok (.istore_n 3, 1) := by decide +kernel
theorem dX3_exclude_32 : decode cX3_exclude 32 = .ok (.aload_n 0, 1) := by decide +kernel
theorem dX3_exclude_33 : decode cX3_exclude 33 = .ok (.getfield 19, 3) := by decide +kernel
theorem dX3_exclude_36 : decode cX3_exclude 36 = .ok (.iload_n 1, 1) := by decide +kernel
theorem dX3_exclude_37 : decode cX3_exclude 37 = .ok (.iload_n 2, 1) := by decide +kernel
theorem dX3_exclude_38 : decode cX3_exclude 38 = .ok (.iastore, 1) := by decide +kernel
theorem dX3_exclude_39 : decode cX3_exclude 39 = .ok (.iload_n 3, 1) := by decide +kernel
theorem dX3_exclude_40 : decode cX3_exclude 40 = .ok (.ifCond .ne 16, 3) := by decide +kernel
theorem dX3_exclude_43 : decode cX3_exclude 43 = .ok (.iload_n 2, 1) := by decide +kernel
theorem dX3_exclude_44 : decode cX3_exclude 44 = .ok (.ifCond .eq 12, 3) := by decide +kernel
theorem dX3_exclude_47 : decode cX3_exclude 47 = .ok (.aload_n 0, 1) := by decide +kernel
theorem dX3_exclude_48 : decode cX3_exclude 48 = .ok (.iload_n 1, 1) := by decide +kernel
theorem dX3_exclude_49 : decode cX3_exclude 49 = .ok (.iconst (-1), 1) := by decide +kernel
theorem dX3_exclude_50 : decode cX3_exclude 50 = .ok (.invokevirtual 126, 3) := by decide +kernel
theorem dX3_exclude_53 : decode cX3_exclude 53 = .ok (.goto 17, 3) := by decide +kernel
theorem dX3_exclude_56 : decode cX3_exclude 56 = .ok (.iload_n 3, 1) := by decide +kernel
theorem dX3_exclude_57 : decode cX3_exclude 57 = .ok (.ifCond .eq 13, 3) := by decide +kernel
theorem dX3_exclude_60 : decode cX3_exclude 60 = .ok (.iload_n 2, 1) := by decide +kernel
theorem dX3_exclude_61 : decode cX3_exclude 61 = .ok (.ifCond .ne 9, 3) := by decide +kernel
theorem dX3_exclude_64 : decode cX3_exclude 64 = .ok (.aload_n 0, 1) := by decide +kernel
theorem dX3_exclude_65 : decode cX3_exclude 65 = .ok (.iload_n 1, 1) := by decide +kernel
theorem dX3_exclude_66 : decode cX3_exclude 66 = .ok (.iconst 1, 1) := by decide +kernel
theorem dX3_exclude_67 : decode cX3_exclude 67 = .ok (.invokevirtual 126, 3) := by decide +kernel
theorem dX3_exclude_70 : decode cX3_exclude 70 = .ok (.iload_n 3, 1) := by decide +kernel
theorem dX3_exclude_71 : decode cX3_exclude 71 = .ok (.ireturn, 1) := by decide +kernel
theorem dX3_subgroups_0 : decode cX3_subgroups 0 = .ok (.aload_n 0, 1) := by decide +kernel
theorem dX3_subgroups_1 : decode cX3_subgroups 1 = .ok (.getfield 63, 3) := by decide +kernel
theorem dX3_subgroups_4 : decode cX3_subgroups 4 = .ok (.ireturn, 1) := by decide +kernel
theorem dX3_phases_0 : decode cX3_phases 0 = .ok (.aload_n 0, 1) := by decide +kernel
theorem dX3_phases_1 : decode cX3_phases 1 = .ok (.getfield 84, 3) := by decide +kernel
theorem dX3_phases_4 : decode cX3_phases 4 = .ok (.ireturn, 1) := by decide +kernel
theorem dX3_mean_0 : decode cX3_mean 0 = .ok (.aload_n 0, 1) := by decide +kernel
theorem dX3_mean_1 : decode cX3_mean 1 = .ok (.iload_n 1, 1) := by decide +kernel
theorem dX3_mean_2 : decode cX3_mean 2 = .ok (.invokevirtual 121, 3) := by decide +kernel
theorem dX3_mean_5 : decode cX3_mean 5 = .ok (.aload_n 0, 1) := by decide +kernel
theorem dX3_mean_6 : decode cX3_mean 6 = .ok (.getfield 16, 3) := by decide +kernel
theorem dX3_mean_9 : decode cX3_mean 9 = .ok (.iload_n 1, 1) := by decide +kernel
theorem dX3_mean_10 : decode cX3_mean 10 = .ok (.iaload, 1) := by decide +kernel
theorem dX3_mean_11 : decode cX3_mean 11 = .ok (.ireturn, 1) := by decide +kernel
theorem dX3_range_0 : decode cX3_range 0 = .ok (.aload_n 0, 1) := by decide +kernel
theorem dX3_range_1 : decode cX3_range 1 = .ok (.iload_n 1, 1) := by decide +kernel
theorem dX3_range_2 : decode cX3_range 2 = .ok (.invokevirtual 121, 3) := by decide +kernel
theorem dX3_range_5 : decode cX3_range 5 = .ok (.aload_n 0, 1) := by decide +kernel
theorem dX3_range_6 : decode cX3_range 6 = .ok (.getfield 13, 3) := by decide +kernel
theorem dX3_range_9 : decode cX3_range 9 = .ok (.iload_n 1, 1) := by decide +kernel
theorem dX3_range_10 : decode cX3_range 10 = .ok (.iaload, 1) := by decide +kernel
theorem dX3_range_11 : decode cX3_range 11 = .ok (.ireturn, 1) := by decide +kernel
theorem dX3_phaseOf_0 : decode cX3_phaseOf 0 = .ok (.aload_n 0, 1) := by decide +kernel
theorem dX3_phaseOf_1 : decode cX3_phaseOf 1 = .ok (.iload_n 1, 1) := by decide +kernel
theorem dX3_phaseOf_2 : decode cX3_phaseOf 2 = .ok (.invokevirtual 121, 3) := by decide +kernel
theorem dX3_phaseOf_5 : decode cX3_phaseOf 5 = .ok (.aload_n 0, 1) := by decide +kernel
theorem dX3_phaseOf_6 : decode cX3_phaseOf 6 = .ok (.getfield 22, 3) := by decide +kernel
theorem dX3_phaseOf_9 : decode cX3_phaseOf 9 = .ok (.iload_n 1, 1) := by decide +kernel
theorem dX3_phaseOf_10 : decode cX3_phaseOf 10 = .ok (.iaload, 1) := by decide +kernel
theorem dX3_phaseOf_11 : decode cX3_phaseOf 11 = .ok (.ireturn, 1) := by decide +kernel
theorem dX3_points_0 : decode cX3_points 0 = .ok (.aload_n 0, 1) := by decide +kernel
theorem dX3_points_1 : decode cX3_points 1 = .ok (.iload_n 1, 1) := by decide +kernel
theorem dX3_points_2 : decode cX3_points 2 = .ok (.invokevirtual 101, 3) := by decide +kernel
theorem dX3_points_5 : decode cX3_points 5 = .ok (.getfield 111, 3) := by decide +kernel
theorem dX3_points_8 : decode cX3_points 8 = .ok (.ireturn, 1) := by decide +kernel
theorem dX3_center_0 : decode cX3_center 0 = .ok (.aload_n 0, 1) := by decide +kernel
theorem dX3_center_1 : decode cX3_center 1 = .ok (.iload_n 1, 1) := by decide +kernel
theorem dX3_center_2 : decode cX3_center 2 = .ok (.invokevirtual 130, 3) := by decide +kernel
theorem dX3_center_5 : decode cX3_center 5 = .ok (.getfield 133, 3) := by decide +kernel
theorem dX3_center_8 : decode cX3_center 8 = .ok (.ireturn, 1) := by decide +kernel
theorem dX3_width_0 : decode cX3_width 0 = .ok (.aload_n 0, 1) := by decide +kernel
theorem dX3_width_1 : decode cX3_width 1 = .ok (.iload_n 1, 1) := by decide +kernel
theorem dX3_width_2 : decode cX3_width 2 = .ok (.invokevirtual 130, 3) := by decide +kernel
theorem dX3_width_5 : decode cX3_width 5 = .ok (.getfield 136, 3) := by decide +kernel
theorem dX3_width_8 : decode cX3_width 8 = .ok (.ireturn, 1) := by decide +kernel
theorem dX3_rangeLimit_0 : decode cX3_rangeLimit 0 = .ok (.aload_n 0, 1) := by decide +kernel
theorem dX3_rangeLimit_1 : decode cX3_rangeLimit 1 = .ok (.iload_n 1, 1) := by decide +kernel
theorem dX3_rangeLimit_2 : decode cX3_rangeLimit 2 = .ok (.invokevirtual 130, 3) := by decide +kernel
theorem dX3_rangeLimit_5 : decode cX3_rangeLimit 5 = .ok (.getfield 139, 3) := by decide +kernel
theorem dX3_rangeLimit_8 : decode cX3_rangeLimit 8 = .ok (.ireturn, 1) := by decide +kernel
theorem dX3_signals_0 : decode cX3_signals 0 = .ok (.aload_n 0, 1) := by decide +kernel
theorem dX3_signals_1 : decode cX3_signals 1 = .ok (.iload_n 1, 1) := by decide +kernel
theorem dX3_signals_2 : decode cX3_signals 2 = .ok (.invokevirtual 121, 3) := by decide +kernel
theorem dX3_signals_5 : decode cX3_signals 5 = .ok (.aload_n 0, 1) := by decide +kernel
theorem dX3_signals_6 : decode cX3_signals 6 = .ok (.iload_n 1, 1) := by decide +kernel
theorem dX3_signals_7 : decode cX3_signals 7 = .ok (.invokevirtual 142, 3) := by decide +kernel
theorem dX3_signals_10 : decode cX3_signals 10 = .ok (.ifCond .ne 5, 3) := by decide +kernel
theorem dX3_signals_13 : decode cX3_signals 13 = .ok (.iconst 0, 1) := by decide +kernel
theorem dX3_signals_14 : decode cX3_signals 14 = .ok (.ireturn, 1) := by decide +kernel
theorem dX3_signals_15 : decode cX3_signals 15 = .ok (.aload_n 0, 1) := by decide +kernel
theorem dX3_signals_16 : decode cX3_signals 16 = .ok (.iload_n 1, 1) := by decide +kernel
theorem dX3_signals_17 : decode cX3_signals 17 = .ok (.invokevirtual 145, 3) := by decide +kernel
theorem dX3_signals_20 : decode cX3_signals 20 = .ok (.astore_n 2, 1) := by decide +kernel
theorem dX3_signals_21 : decode cX3_signals 21 = .ok (.aload_n 0, 1) := by decide +kernel
theorem dX3_signals_22 : decode cX3_signals 22 = .ok (.getfield 35, 3) := by decide +kernel
theorem dX3_signals_25 : decode cX3_signals 25 = .ok (.invokevirtual 148, 3) := by decide +kernel
theorem dX3_signals_28 : decode cX3_signals 28 = .ok (.aload_n 2, 1) := by decide +kernel
theorem dX3_signals_29 : decode cX3_signals 29 = .ok (.getfield 95, 3) := by decide +kernel
theorem dX3_signals_32 : decode cX3_signals 32 = .ok (.istore_n 3, 1) := by decide +kernel
theorem dX3_signals_33 : decode cX3_signals 33 = .ok (.iload_n 3, 1) := by decide +kernel
theorem dX3_signals_34 : decode cX3_signals 34 = .ok (.iload_n 1, 1) := by decide +kernel
theorem dX3_signals_35 : decode cX3_signals 35 = .ok (.if_icmp .gt 31, 3) := by decide +kernel
theorem dX3_signals_38 : decode cX3_signals 38 = .ok (.aload_n 0, 1) := by decide +kernel
theorem dX3_signals_39 : decode cX3_signals 39 = .ok (.iload_n 3, 1) := by decide +kernel
theorem dX3_signals_40 : decode cX3_signals 40 = .ok (.invokevirtual 142, 3) := by decide +kernel
theorem dX3_signals_43 : decode cX3_signals 43 = .ok (.ifCond .eq 17, 3) := by decide +kernel
theorem dX3_signals_46 : decode cX3_signals 46 = .ok (.aload_n 0, 1) := by decide +kernel
theorem dX3_signals_47 : decode cX3_signals 47 = .ok (.getfield 35, 3) := by decide +kernel
theorem dX3_signals_50 : decode cX3_signals 50 = .ok (.aload_n 0, 1) := by decide +kernel
theorem dX3_signals_51 : decode cX3_signals 51 = .ok (.getfield 16, 3) := by decide +kernel
theorem dX3_signals_54 : decode cX3_signals 54 = .ok (.iload_n 3, 1) := by decide +kernel
theorem dX3_signals_55 : decode cX3_signals 55 = .ok (.iaload, 1) := by decide +kernel
theorem dX3_signals_56 : decode cX3_signals 56 = .ok (.aload_n 2, 1) := by decide +kernel
theorem dX3_signals_57 : decode cX3_signals 57 = .ok (.invokevirtual 150, 3) := by decide +kernel
theorem dX3_signals_60 : decode cX3_signals 60 = .ok (.iinc 3 1, 3) := by decide +kernel
theorem dX3_signals_63 : decode cX3_signals 63 = .ok (.goto (-30), 3) := by decide +kernel
theorem dX3_signals_66 : decode cX3_signals 66 = .ok (.aload_n 0, 1) := by decide +kernel
theorem dX3_signals_67 : decode cX3_signals 67 = .ok (.getfield 35, 3) := by decide +kernel
theorem dX3_signals_70 : decode cX3_signals 70 = .ok (.invokevirtual 154, 3) := by decide +kernel
theorem dX3_signals_73 : decode cX3_signals 73 = .ok (.ireturn, 1) := by decide +kernel
theorem dX3_signalsByWindows_0 : decode cX3_signalsByWindows 0 = .ok (.aload_n 0, 1) := by decide +kernel
theorem dX3_signalsByWindows_1 : decode cX3_signalsByWindows 1 = .ok (.iload_n 1, 1) := by decide +kernel
theorem dX3_signalsByWindows_2 : decode cX3_signalsByWindows 2 = .ok (.invokevirtual 121, 3) := by decide +kernel
theorem dX3_signalsByWindows_5 : decode cX3_signalsByWindows 5 = .ok (.aload_n 0, 1) := by decide +kernel
theorem dX3_signalsByWindows_6 : decode cX3_signalsByWindows 6 = .ok (.iload_n 1, 1) := by decide +kernel
theorem dX3_signalsByWindows_7 : decode cX3_signalsByWindows 7 = .ok (.invokevirtual 142, 3) := by decide +kernel
theorem dX3_signalsByWindows_10 : decode cX3_signalsByWindows 10 = .ok (.ifCond .ne 5, 3) := by decide +kernel
theorem dX3_signalsByWindows_13 : decode cX3_signalsByWindows 13 = .ok (.iconst 0, 1) := by decide +kernel
theorem dX3_signalsByWindows_14 : decode cX3_signalsByWindows 14 = .ok (.ireturn, 1) := by decide +kernel
theorem dX3_signalsByWindows_15 : decode cX3_signalsByWindows 15 = .ok (.aload_n 0, 1) := by decide +kernel
theorem dX3_signalsByWindows_16 : decode cX3_signalsByWindows 16 = .ok (.iload_n 1, 1) := by decide +kernel
theorem dX3_signalsByWindows_17 : decode cX3_signalsByWindows 17 = .ok (.invokevirtual 145, 3) := by decide +kernel
theorem dX3_signalsByWindows_20 : decode cX3_signalsByWindows 20 = .ok (.astore_n 2, 1) := by decide +kernel
theorem dX3_signalsByWindows_21 : decode cX3_signalsByWindows 21 = .ok (.aload_n 0, 1) := by decide +kernel
theorem dX3_signalsByWindows_22 : decode cX3_signalsByWindows 22 = .ok (.iload_n 1, 1) := by decide +kernel
theorem dX3_signalsByWindows_23 : decode cX3_signalsByWindows 23 = .ok (.aload_n 2, 1) := by decide +kernel
theorem dX3_signalsByWindows_24 : decode cX3_signalsByWindows 24 = .ok (.invokevirtual 158, 3) := by decide +kernel
theorem dX3_signalsByWindows_27 : decode cX3_signalsByWindows 27 = .ok (.iconst 0, 1) := by decide +kernel
theorem dX3_signalsByWindows_28 : decode cX3_signalsByWindows 28 = .ok (.istore_n 3, 1) := by decide +kernel
theorem dX3_signalsByWindows_29 : decode cX3_signalsByWindows 29 = .ok (.iconst 1, 1) := by decide +kernel
theorem dX3_signalsByWindows_30 : decode cX3_signalsByWindows 30 = .ok (.istore 4, 2) := by decide +kernel
theorem dX3_signalsByWindows_32 : decode cX3_signalsByWindows 32 = .ok (.iload 4, 2) := by decide +kernel
theorem dX3_signalsByWindows_34 : decode cX3_signalsByWindows 34 = .ok (.bipush 8, 2) := by decide +kernel
theorem dX3_signalsByWindows_36 : decode cX3_signalsByWindows 36 = .ok (.if_icmp .gt 29, 3) := by decide +kernel
theorem dX3_signalsByWindows_39 : decode cX3_signalsByWindows 39 = .ok (.aload_n 0, 1) := by decide +kernel
theorem dX3_signalsByWindows_40 : decode cX3_signalsByWindows 40 = .ok (.getfield 42, 3) := by decide +kernel
theorem dX3_signalsByWindows_43 : decode cX3_signalsByWindows 43 = .ok (.iload 4, 2) := by decide +kernel
theorem dX3_signalsByWindows_45 : decode cX3_signalsByWindows 45 = .ok (.aload_n 2, 1) := by decide +kernel
theorem dX3_signalsByWindows_46 : decode cX3_signalsByWindows 46 = .ok (.invokevirtual 161, 3) := by decide +kernel
theorem dX3_signalsByWindows_49 : decode cX3_signalsByWindows 49 = .ok (.ifCond .eq 10, 3) := by decide +kernel
theorem dX3_signalsByWindows_52 : decode cX3_signalsByWindows 52 = .ok (.iload_n 3, 1) := by decide +kernel
theorem dX3_signalsByWindows_53 : decode cX3_signalsByWindows 53 = .ok (.iconst 1, 1) := by decide +kernel
theorem dX3_signalsByWindows_54 : decode cX3_signalsByWindows 54 = .ok (.iload 4, 2) := by decide +kernel
theorem dX3_signalsByWindows_56 : decode cX3_signalsByWindows 56 = .ok (.ishl, 1) := by decide +kernel
theorem dX3_signalsByWindows_57 : decode cX3_signalsByWindows 57 = .ok (.ior, 1) := by decide +kernel
theorem dX3_signalsByWindows_58 : decode cX3_signalsByWindows 58 = .ok (.istore_n 3, 1) := by decide +kernel
theorem dX3_signalsByWindows_59 : decode cX3_signalsByWindows 59 = .ok (.iinc 4 1, 3) := by decide +kernel
theorem dX3_signalsByWindows_62 : decode cX3_signalsByWindows 62 = .ok (.goto (-30), 3) := by decide +kernel
theorem dX3_signalsByWindows_65 : decode cX3_signalsByWindows 65 = .ok (.iload_n 3, 1) := by decide +kernel
theorem dX3_signalsByWindows_66 : decode cX3_signalsByWindows 66 = .ok (.ireturn, 1) := by decide +kernel
theorem dX3_firstOf_0 : decode cX3_firstOf 0 = .ok (.aload_n 0, 1) := by decide +kernel
theorem dX3_firstOf_1 : decode cX3_firstOf 1 = .ok (.iload_n 1, 1) := by decide +kernel
theorem dX3_firstOf_2 : decode cX3_firstOf 2 = .ok (.invokevirtual 121, 3) := by decide +kernel
theorem dX3_firstOf_5 : decode cX3_firstOf 5 = .ok (.iload_n 2, 1) := by decide +kernel
theorem dX3_firstOf_6 : decode cX3_firstOf 6 = .ok (.iconst 1, 1) := by decide +kernel
theorem dX3_firstOf_7 : decode cX3_firstOf 7 = .ok (.if_icmp .lt 9, 3) := by decide +kernel
theorem dX3_firstOf_10 : decode cX3_firstOf 10 = .ok (.iload_n 2, 1) := by decide +kernel
theorem dX3_firstOf_11 : decode cX3_firstOf 11 = .ok (.bipush 8, 2) := by decide +kernel
theorem dX3_firstOf_13 : decode cX3_firstOf 13 = .ok (.if_icmp .le 13, 3) := by decide +kernel
theorem dX3_firstOf_16 : decode cX3_firstOf 16 = .ok (.new 165, 3) := by decide +kernel
theorem dX3_firstOf_19 : decode cX3_firstOf 19 = .ok (.dup, 1) := by decide +kernel
theorem dX3_firstOf_20 : decode cX3_firstOf 20 = .ok (.ldc 167, 2) := by decide +kernel
theorem dX3_firstOf_22 : decode cX3_firstOf 22 = .ok (.invokespecial 169, 3) := by decide +kernel
theorem dX3_firstOf_25 : decode cX3_firstOf 25 = .ok (.athrow, 1) := by decide +kernel
theorem dX3_firstOf_26 : decode cX3_firstOf 26 = .ok (.aload_n 0, 1) := by decide +kernel
theorem dX3_firstOf_27 : decode cX3_firstOf 27 = .ok (.iload_n 1, 1) := by decide +kernel
theorem dX3_firstOf_28 : decode cX3_firstOf 28 = .ok (.invokevirtual 142, 3) := by decide +kernel
theorem dX3_firstOf_31 : decode cX3_firstOf 31 = .ok (.ifCond .ne 5, 3) := by decide +kernel
theorem dX3_firstOf_34 : decode cX3_firstOf 34 = .ok (.iconst (-1), 1) := by decide +kernel
theorem dX3_firstOf_35 : decode cX3_firstOf 35 = .ok (.ireturn, 1) := by decide +kernel
theorem dX3_firstOf_36 : decode cX3_firstOf 36 = .ok (.aload_n 0, 1) := by decide +kernel
theorem dX3_firstOf_37 : decode cX3_firstOf 37 = .ok (.iload_n 1, 1) := by decide +kernel
theorem dX3_firstOf_38 : decode cX3_firstOf 38 = .ok (.invokevirtual 145, 3) := by decide +kernel
theorem dX3_firstOf_41 : decode cX3_firstOf 41 = .ok (.astore_n 3, 1) := by decide +kernel
theorem dX3_firstOf_42 : decode cX3_firstOf 42 = .ok (.aload_n 0, 1) := by decide +kernel
theorem dX3_firstOf_43 : decode cX3_firstOf 43 = .ok (.iload_n 1, 1) := by decide +kernel
theorem dX3_firstOf_44 : decode cX3_firstOf 44 = .ok (.aload_n 3, 1) := by decide +kernel
theorem dX3_firstOf_45 : decode cX3_firstOf 45 = .ok (.invokevirtual 158, 3) := by decide +kernel
theorem dX3_firstOf_48 : decode cX3_firstOf 48 = .ok (.aload_n 0, 1) := by decide +kernel
theorem dX3_firstOf_49 : decode cX3_firstOf 49 = .ok (.getfield 42, 3) := by decide +kernel
theorem dX3_firstOf_52 : decode cX3_firstOf 52 = .ok (.iload_n 2, 1) := by decide +kernel
theorem dX3_firstOf_53 : decode cX3_firstOf 53 = .ok (.aload_n 3, 1) := by decide +kernel
theorem dX3_firstOf_54 : decode cX3_firstOf 54 = .ok (.invokevirtual 161, 3) := by decide +kernel
theorem dX3_firstOf_57 : decode cX3_firstOf 57 = .ok (.ifCond .eq 19, 3) := by decide +kernel
theorem dX3_firstOf_60 : decode cX3_firstOf 60 = .ok (.aload_n 0, 1) := by decide +kernel
theorem dX3_firstOf_61 : decode cX3_firstOf 61 = .ok (.getfield 42, 3) := by decide +kernel
theorem dX3_firstOf_64 : decode cX3_firstOf 64 = .ok (.iload_n 2, 1) := by decide +kernel
theorem dX3_firstOf_65 : decode cX3_firstOf 65 = .ok (.invokestatic 170, 3) := by decide +kernel
theorem dX3_firstOf_68 : decode cX3_firstOf 68 = .ok (.iconst 1, 1) := by decide +kernel
theorem dX3_firstOf_69 : decode cX3_firstOf 69 = .ok (.isub, 1) := by decide +kernel
theorem dX3_firstOf_70 : decode cX3_firstOf 70 = .ok (.invokevirtual 174, 3) := by decide +kernel
theorem dX3_firstOf_73 : decode cX3_firstOf 73 = .ok (.goto 4, 3) := by decide +kernel
theorem dX3_firstOf_76 : decode cX3_firstOf 76 = .ok (.iconst (-1), 1) := by decide +kernel
theorem dX3_firstOf_77 : decode cX3_firstOf 77 = .ok (.ireturn, 1) := by decide +kernel
theorem dX3_isWide_0 : decode cX3_isWide 0 = .ok (.aload_n 0, 1) := by decide +kernel
theorem dX3_isWide_1 : decode cX3_isWide 1 = .ok (.iload_n 1, 1) := by decide +kernel
theorem dX3_isWide_2 : decode cX3_isWide 2 = .ok (.invokevirtual 121, 3) := by decide +kernel
theorem dX3_isWide_5 : decode cX3_isWide 5 = .ok (.aload_n 0, 1) := by decide +kernel
theorem dX3_isWide_6 : decode cX3_isWide 6 = .ok (.iload_n 1, 1) := by decide +kernel
theorem dX3_isWide_7 : decode cX3_isWide 7 = .ok (.invokevirtual 142, 3) := by decide +kernel
theorem dX3_isWide_10 : decode cX3_isWide 10 = .ok (.ifCond .ne 5, 3) := by decide +kernel
theorem dX3_isWide_13 : decode cX3_isWide 13 = .ok (.iconst 0, 1) := by decide +kernel
theorem dX3_isWide_14 : decode cX3_isWide 14 = .ok (.ireturn, 1) := by decide +kernel
theorem dX3_isWide_15 : decode cX3_isWide 15 = .ok (.sipush 1000, 3) := by decide +kernel
theorem dX3_isWide_18 : decode cX3_isWide 18 = .ok (.aload_n 0, 1) := by decide +kernel
theorem dX3_isWide_19 : decode cX3_isWide 19 = .ok (.getfield 13, 3) := by decide +kernel
theorem dX3_isWide_22 : decode cX3_isWide 22 = .ok (.iload_n 1, 1) := by decide +kernel
theorem dX3_isWide_23 : decode cX3_isWide 23 = .ok (.iaload, 1) := by decide +kernel
theorem dX3_isWide_24 : decode cX3_isWide 24 = .ok (.imul, 1) := by decide +kernel
theorem dX3_isWide_25 : decode cX3_isWide 25 = .ok (.aload_n 0, 1) := by decide +kernel
theorem dX3_isWide_26 : decode cX3_isWide 26 = .ok (.iload_n 1, 1) := by decide +kernel
theorem dX3_isWide_27 : decode cX3_isWide 27 = .ok (.invokevirtual 145, 3) := by decide +kernel
theorem dX3_isWide_30 : decode cX3_isWide 30 = .ok (.getfield 139, 3) := by decide +kernel
theorem dX3_isWide_33 : decode cX3_isWide 33 = .ok (.if_icmp .le 7, 3) := by decide +kernel
theorem dX3_isWide_36 : decode cX3_isWide 36 = .ok (.iconst 1, 1) := by decide +kernel
theorem dX3_isWide_37 : decode cX3_isWide 37 = .ok (.goto 4, 3) := by decide +kernel
theorem dX3_isWide_40 : decode cX3_isWide 40 = .ok (.iconst 0, 1) := by decide +kernel
theorem dX3_isWide_41 : decode cX3_isWide 41 = .ok (.ireturn, 1) := by decide +kernel
theorem dX3_alarms_0 : decode cX3_alarms 0 = .ok (.iconst 0, 1) := by decide +kernel
theorem dX3_alarms_1 : decode cX3_alarms 1 = .ok (.istore_n 1, 1) := by decide +kernel
theorem dX3_alarms_2 : decode cX3_alarms 2 = .ok (.iconst (-1), 1) := by decide +kernel
theorem dX3_alarms_3 : decode cX3_alarms 3 = .ok (.istore_n 2, 1) := by decide +kernel
theorem dX3_alarms_4 : decode cX3_alarms 4 = .ok (.iconst 0, 1) := by decide +kernel
theorem dX3_alarms_5 : decode cX3_alarms 5 = .ok (.istore_n 3, 1) := by decide +kernel
theorem dX3_alarms_6 : decode cX3_alarms 6 = .ok (.iload_n 3, 1) := by decide +kernel
theorem dX3_alarms_7 : decode cX3_alarms 7 = .ok (.aload_n 0, 1) := by decide +kernel
theorem dX3_alarms_8 : decode cX3_alarms 8 = .ok (.getfield 63, 3) := by decide +kernel
theorem dX3_alarms_11 : decode cX3_alarms 11 = .ok (.if_icmp .ge 77, 3) := by decide +kernel
theorem dX3_alarms_14 : decode cX3_alarms 14 = .ok (.aload_n 0, 1) := by decide +kernel
theorem dX3_alarms_15 : decode cX3_alarms 15 = .ok (.getfield 22, 3) := by decide +kernel
theorem dX3_alarms_18 : decode cX3_alarms 18 = .ok (.iload_n 3, 1) := by decide +kernel
theorem dX3_alarms_19 : decode cX3_alarms 19 = .ok (.iaload, 1) := by decide +kernel
theorem dX3_alarms_20 : decode cX3_alarms 20 = .ok (.iload_n 2, 1) := by decide +kernel
theorem dX3_alarms_21 : decode cX3_alarms 21 = .ok (.if_icmp .eq 17, 3) := by decide +kernel
theorem dX3_alarms_24 : decode cX3_alarms 24 = .ok (.aload_n 0, 1) := by decide +kernel
theorem dX3_alarms_25 : decode cX3_alarms 25 = .ok (.getfield 22, 3) := by decide +kernel
theorem dX3_alarms_28 : decode cX3_alarms 28 = .ok (.iload_n 3, 1) := by decide +kernel
theorem dX3_alarms_29 : decode cX3_alarms 29 = .ok (.iaload, 1) := by decide +kernel
theorem dX3_alarms_30 : decode cX3_alarms 30 = .ok (.istore_n 2, 1) := by decide +kernel
theorem dX3_alarms_31 : decode cX3_alarms 31 = .ok (.aload_n 0, 1) := by decide +kernel
theorem dX3_alarms_32 : decode cX3_alarms 32 = .ok (.getfield 35, 3) := by decide +kernel
theorem dX3_alarms_35 : decode cX3_alarms 35 = .ok (.invokevirtual 148, 3) := by decide +kernel
theorem dX3_alarms_38 : decode cX3_alarms 38 = .ok (.aload_n 0, 1) := by decide +kernel
theorem dX3_alarms_39 : decode cX3_alarms 39 = .ok (.iload_n 3, 1) := by decide +kernel
theorem dX3_alarms_40 : decode cX3_alarms 40 = .ok (.invokevirtual 142, 3) := by decide +kernel
theorem dX3_alarms_43 : decode cX3_alarms 43 = .ok (.ifCond .eq 39, 3) := by decide +kernel
theorem dX3_alarms_46 : decode cX3_alarms 46 = .ok (.aload_n 0, 1) := by decide +kernel
theorem dX3_alarms_47 : decode cX3_alarms 47 = .ok (.getfield 35, 3) := by decide +kernel
theorem dX3_alarms_50 : decode cX3_alarms 50 = .ok (.aload_n 0, 1) := by decide +kernel
theorem dX3_alarms_51 : decode cX3_alarms 51 = .ok (.getfield 16, 3) := by decide +kernel
theorem dX3_alarms_54 : decode cX3_alarms 54 = .ok (.iload_n 3, 1) := by decide +kernel
theorem dX3_alarms_55 : decode cX3_alarms 55 = .ok (.iaload, 1) := by decide +kernel
theorem dX3_alarms_56 : decode cX3_alarms 56 = .ok (.aload_n 0, 1) := by decide +kernel
theorem dX3_alarms_57 : decode cX3_alarms 57 = .ok (.iload_n 3, 1) := by decide +kernel
theorem dX3_alarms_58 : decode cX3_alarms 58 = .ok (.invokevirtual 145, 3) := by decide +kernel
theorem dX3_alarms_61 : decode cX3_alarms 61 = .ok (.invokevirtual 150, 3) := by decide +kernel
theorem dX3_alarms_64 : decode cX3_alarms 64 = .ok (.iload_n 1, 1) := by decide +kernel
theorem dX3_alarms_65 : decode cX3_alarms 65 = .ok (.aload_n 0, 1) := by decide +kernel
theorem dX3_alarms_66 : decode cX3_alarms 66 = .ok (.getfield 35, 3) := by decide +kernel
theorem dX3_alarms_69 : decode cX3_alarms 69 = .ok (.invokevirtual 154, 3) := by decide +kernel
theorem dX3_alarms_72 : decode cX3_alarms 72 = .ok (.ifCond .eq 7, 3) := by decide +kernel
theorem dX3_alarms_75 : decode cX3_alarms 75 = .ok (.iconst 1, 1) := by decide +kernel
theorem dX3_alarms_76 : decode cX3_alarms 76 = .ok (.goto 4, 3) := by decide +kernel
theorem dX3_alarms_79 : decode cX3_alarms 79 = .ok (.iconst 0, 1) := by decide +kernel
theorem dX3_alarms_80 : decode cX3_alarms 80 = .ok (.iadd, 1) := by decide +kernel
theorem dX3_alarms_81 : decode cX3_alarms 81 = .ok (.istore_n 1, 1) := by decide +kernel
theorem dX3_alarms_82 : decode cX3_alarms 82 = .ok (.iinc 3 1, 3) := by decide +kernel
theorem dX3_alarms_85 : decode cX3_alarms 85 = .ok (.goto (-79), 3) := by decide +kernel
theorem dX3_alarms_88 : decode cX3_alarms 88 = .ok (.iload_n 1, 1) := by decide +kernel
theorem dX3_alarms_89 : decode cX3_alarms 89 = .ok (.ireturn, 1) := by decide +kernel
theorem dX3_setWeight_0 : decode cX3_setWeight 0 = .ok (.iload_n 1, 1) := by decide +kernel
theorem dX3_setWeight_1 : decode cX3_setWeight 1 = .ok (.iconst 1, 1) := by decide +kernel
theorem dX3_setWeight_2 : decode cX3_setWeight 2 = .ok (.if_icmp .lt 9, 3) := by decide +kernel
theorem dX3_setWeight_5 : decode cX3_setWeight 5 = .ok (.iload_n 1, 1) := by decide +kernel
theorem dX3_setWeight_6 : decode cX3_setWeight 6 = .ok (.bipush 10, 2) := by decide +kernel
theorem dX3_setWeight_8 : decode cX3_setWeight 8 = .ok (.if_icmp .le 13, 3) := by decide +kernel
theorem dX3_setWeight_11 : decode cX3_setWeight 11 = .ok (.new 50, 3) := by decide +kernel
theorem dX3_setWeight_14 : decode cX3_setWeight 14 = .ok (.dup, 1) := by decide +kernel
theorem dX3_setWeight_15 : decode cX3_setWeight 15 = .ok (.ldc 177, 2) := by decide +kernel
theorem dX3_setWeight_17 : decode cX3_setWeight 17 = .ok (.invokespecial 54, 3) := by decide +kernel
theorem dX3_setWeight_20 : decode cX3_setWeight 20 = .ok (.athrow, 1) := by decide +kernel
theorem dX3_setWeight_21 : decode cX3_setWeight 21 = .ok (.aload_n 0, 1) := by decide +kernel
theorem dX3_setWeight_22 : decode cX3_setWeight 22 = .ok (.getfield 179, 3) := by decide +kernel
theorem dX3_setWeight_25 : decode cX3_setWeight 25 = .ok (.istore_n 2, 1) := by decide +kernel
theorem dX3_setWeight_26 : decode cX3_setWeight 26 = .ok (.aload_n 0, 1) := by decide +kernel
theorem dX3_setWeight_27 : decode cX3_setWeight 27 = .ok (.iload_n 1, 1) := by decide +kernel
theorem dX3_setWeight_28 : decode cX3_setWeight 28 = .ok (.putfield 179, 3) := by decide +kernel
theorem dX3_setWeight_31 : decode cX3_setWeight 31 = .ok (.iload_n 2, 1) := by decide +kernel
theorem dX3_setWeight_32 : decode cX3_setWeight 32 = .ok (.ireturn, 1) := by decide +kernel
theorem dX3_weighted_0 : decode cX3_weighted 0 = .ok (.aload_n 0, 1) := by decide +kernel
theorem dX3_weighted_1 : decode cX3_weighted 1 = .ok (.iload_n 1, 1) := by decide +kernel
theorem dX3_weighted_2 : decode cX3_weighted 2 = .ok (.invokevirtual 182, 3) := by decide +kernel
theorem dX3_weighted_5 : decode cX3_weighted 5 = .ok (.aload_n 0, 1) := by decide +kernel
theorem dX3_weighted_6 : decode cX3_weighted 6 = .ok (.iload_n 1, 1) := by decide +kernel
theorem dX3_weighted_7 : decode cX3_weighted 7 = .ok (.invokevirtual 145, 3) := by decide +kernel
theorem dX3_weighted_10 : decode cX3_weighted 10 = .ok (.astore_n 2, 1) := by decide +kernel
theorem dX3_weighted_11 : decode cX3_weighted 11 = .ok (.aload_n 2, 1) := by decide +kernel
theorem dX3_weighted_12 : decode cX3_weighted 12 = .ok (.getfield 133, 3) := by decide +kernel
theorem dX3_weighted_15 : decode cX3_weighted 15 = .ok (.istore_n 3, 1) := by decide +kernel
theorem dX3_weighted_16 : decode cX3_weighted 16 = .ok (.aload_n 2, 1) := by decide +kernel
theorem dX3_weighted_17 : decode cX3_weighted 17 = .ok (.getfield 95, 3) := by decide +kernel
theorem dX3_weighted_20 : decode cX3_weighted 20 = .ok (.istore 4, 2) := by decide +kernel
theorem dX3_weighted_22 : decode cX3_weighted 22 = .ok (.iload 4, 2) := by decide +kernel
theorem dX3_weighted_24 : decode cX3_weighted 24 = .ok (.iload_n 1, 1) := by decide +kernel
theorem dX3_weighted_25 : decode cX3_weighted 25 = .ok (.if_icmp .gt 40, 3) := by decide +kernel
theorem dX3_weighted_28 : decode cX3_weighted 28 = .ok (.aload_n 0, 1) := by decide +kernel
theorem dX3_weighted_29 : decode cX3_weighted 29 = .ok (.iload 4, 2) := by decide +kernel
theorem dX3_weighted_31 : decode cX3_weighted 31 = .ok (.invokevirtual 142, 3) := by decide +kernel
theorem dX3_weighted_34 : decode cX3_weighted 34 = .ok (.ifCond .eq 25, 3) := by decide +kernel
theorem dX3_weighted_37 : decode cX3_weighted 37 = .ok (.iload_n 3, 1) := by decide +kernel
theorem dX3_weighted_38 : decode cX3_weighted 38 = .ok (.aload_n 0, 1) := by decide +kernel
theorem dX3_weighted_39 : decode cX3_weighted 39 = .ok (.getfield 179, 3) := by decide +kernel
theorem dX3_weighted_42 : decode cX3_weighted 42 = .ok (.aload_n 0, 1) := by decide +kernel
theorem dX3_weighted_43 : decode cX3_weighted 43 = .ok (.getfield 16, 3) := by decide +kernel
theorem dX3_weighted_46 : decode cX3_weighted 46 = .ok (.iload 4, 2) := by decide +kernel
theorem dX3_weighted_48 : decode cX3_weighted 48 = .ok (.iaload, 1) := by decide +kernel
theorem dX3_weighted_49 : decode cX3_weighted 49 = .ok (.iload_n 3, 1) := by decide +kernel
theorem dX3_weighted_50 : decode cX3_weighted 50 = .ok (.isub, 1) := by decide +kernel
theorem dX3_weighted_51 : decode cX3_weighted 51 = .ok (.imul, 1) := by decide +kernel
theorem dX3_weighted_52 : decode cX3_weighted 52 = .ok (.bipush 10, 2) := by decide +kernel
theorem dX3_weighted_54 : decode cX3_weighted 54 = .ok (.invokestatic 185, 3) := by decide +kernel
theorem dX3_weighted_57 : decode cX3_weighted 57 = .ok (.iadd, 1) := by decide +kernel
theorem dX3_weighted_58 : decode cX3_weighted 58 = .ok (.istore_n 3, 1) := by decide +kernel
theorem dX3_weighted_59 : decode cX3_weighted 59 = .ok (.iinc 4 1, 3) := by decide +kernel
theorem dX3_weighted_62 : decode cX3_weighted 62 = .ok (.goto (-40), 3) := by decide +kernel
theorem dX3_weighted_65 : decode cX3_weighted 65 = .ok (.iload_n 3, 1) := by decide +kernel
theorem dX3_weighted_66 : decode cX3_weighted 66 = .ok (.ireturn, 1) := by decide +kernel
theorem dX3_cumulative_0 : decode cX3_cumulative 0 = .ok (.aload_n 0, 1) := by decide +kernel
theorem dX3_cumulative_1 : decode cX3_cumulative 1 = .ok (.iload_n 1, 1) := by decide +kernel
theorem dX3_cumulative_2 : decode cX3_cumulative 2 = .ok (.invokevirtual 182, 3) := by decide +kernel
theorem dX3_cumulative_5 : decode cX3_cumulative 5 = .ok (.aload_n 0, 1) := by decide +kernel
theorem dX3_cumulative_6 : decode cX3_cumulative 6 = .ok (.iload_n 1, 1) := by decide +kernel
theorem dX3_cumulative_7 : decode cX3_cumulative 7 = .ok (.invokevirtual 145, 3) := by decide +kernel
theorem dX3_cumulative_10 : decode cX3_cumulative 10 = .ok (.astore_n 3, 1) := by decide +kernel
theorem dX3_cumulative_11 : decode cX3_cumulative 11 = .ok (.aload_n 3, 1) := by decide +kernel
theorem dX3_cumulative_12 : decode cX3_cumulative 12 = .ok (.getfield 136, 3) := by decide +kernel
theorem dX3_cumulative_15 : decode cX3_cumulative 15 = .ok (.iconst 3, 1) := by decide +kernel
theorem dX3_cumulative_16 : decode cX3_cumulative 16 = .ok (.invokestatic 185, 3) := by decide +kernel
theorem dX3_cumulative_19 : decode cX3_cumulative 19 = .ok (.iconst 2, 1) := by decide +kernel
theorem dX3_cumulative_20 : decode cX3_cumulative 20 = .ok (.invokestatic 185, 3) := by decide +kernel
theorem dX3_cumulative_23 : decode cX3_cumulative 23 = .ok (.istore 4, 2) := by decide +kernel
theorem dX3_cumulative_25 : decode cX3_cumulative 25 = .ok (.iconst 0, 1) := by decide +kernel
theorem dX3_cumulative_26 : decode cX3_cumulative 26 = .ok (.istore 5, 2) := by decide +kernel
theorem dX3_cumulative_28 : decode cX3_cumulative 28 = .ok (.aload_n 3, 1) := by decide +kernel
theorem dX3_cumulative_29 : decode cX3_cumulative 29 = .ok (.getfield 95, 3) := by decide +kernel
theorem dX3_cumulative_32 : decode cX3_cumulative 32 = .ok (.istore 6, 2) := by decide +kernel
theorem dX3_cumulative_34 : decode cX3_cumulative 34 = .ok (.iload 6, 2) := by decide +kernel
theorem dX3_cumulative_36 : decode cX3_cumulative 36 = .ok (.iload_n 1, 1) := by decide +kernel
theorem dX3_cumulative_37 : decode cX3_cumulative 37 = .ok (.if_icmp .gt 65, 3) := by decide +kernel
theorem dX3_cumulative_40 : decode cX3_cumulative 40 = .ok (.aload_n 0, 1) := by decide +kernel
theorem dX3_cumulative_41 : decode cX3_cumulative 41 = .ok (.iload 6, 2) := by decide +kernel
theorem dX3_cumulative_43 : decode cX3_cumulative 43 = .ok (.invokevirtual 142, 3) := by decide +kernel
theorem dX3_cumulative_46 : decode cX3_cumulative 46 = .ok (.ifCond .eq 50, 3) := by decide +kernel
theorem dX3_cumulative_49 : decode cX3_cumulative 49 = .ok (.iload_n 2, 1) := by decide +kernel
theorem dX3_cumulative_50 : decode cX3_cumulative 50 = .ok (.ifCond .eq 18, 3) := by decide +kernel
theorem dX3_cumulative_53 : decode cX3_cumulative 53 = .ok (.aload_n 0, 1) := by decide +kernel
theorem dX3_cumulative_54 : decode cX3_cumulative 54 = .ok (.getfield 16, 3) := by decide +kernel
theorem dX3_cumulative_57 : decode cX3_cumulative 57 = .ok (.iload 6, 2) := by decide +kernel
theorem dX3_cumulative_59 : decode cX3_cumulative 59 = .ok (.iaload, 1) := by decide +kernel
theorem dX3_cumulative_60 : decode cX3_cumulative 60 = .ok (.aload_n 3, 1) := by decide +kernel
theorem dX3_cumulative_61 : decode cX3_cumulative 61 = .ok (.getfield 133, 3) := by decide +kernel
theorem dX3_cumulative_64 : decode cX3_cumulative 64 = .ok (.isub, 1) := by decide +kernel
theorem dX3_cumulative_65 : decode cX3_cumulative 65 = .ok (.goto 15, 3) := by decide +kernel
theorem dX3_cumulative_68 : decode cX3_cumulative 68 = .ok (.aload_n 3, 1) := by decide +kernel
theorem dX3_cumulative_69 : decode cX3_cumulative 69 = .ok (.getfield 133, 3) := by decide +kernel
theorem dX3_cumulative_72 : decode cX3_cumulative 72 = .ok (.aload_n 0, 1) := by decide +kernel
theorem dX3_cumulative_73 : decode cX3_cumulative 73 = .ok (.getfield 16, 3) := by decide +kernel
theorem dX3_cumulative_76 : decode cX3_cumulative 76 = .ok (.iload 6, 2) := by decide +kernel
theorem dX3_cumulative_78 : decode cX3_cumulative 78 = .ok (.iaload, 1) := by decide +kernel
theorem dX3_cumulative_79 : decode cX3_cumulative 79 = .ok (.isub, 1) := by decide +kernel
theorem dX3_cumulative_80 : decode cX3_cumulative 80 = .ok (.istore 7, 2) := by decide +kernel
theorem dX3_cumulative_82 : decode cX3_cumulative 82 = .ok (.iconst 0, 1) := by decide +kernel
theorem dX3_cumulative_83 : decode cX3_cumulative 83 = .ok (.iload 5, 2) := by decide +kernel
theorem dX3_cumulative_85 : decode cX3_cumulative 85 = .ok (.iload 7, 2) := by decide +kernel
theorem dX3_cumulative_87 : decode cX3_cumulative 87 = .ok (.iadd, 1) := by decide +kernel
theorem dX3_cumulative_88 : decode cX3_cumulative 88 = .ok (.iload 4, 2) := by decide +kernel
theorem dX3_cumulative_90 : decode cX3_cumulative 90 = .ok (.isub, 1) := by decide +kernel
theorem dX3_cumulative_91 : decode cX3_cumulative 91 = .ok (.invokestatic 191, 3) := by decide +kernel
theorem dX3_cumulative_94 : decode cX3_cumulative 94 = .ok (.istore 5, 2) := by decide +kernel
theorem dX3_cumulative_96 : decode cX3_cumulative 96 = .ok (.iinc 6 1, 3) := by decide +kernel
theorem dX3_cumulative_99 : decode cX3_cumulative 99 = .ok (.goto (-65), 3) := by decide +kernel
theorem dX3_cumulative_102 : decode cX3_cumulative 102 = .ok (.iload 5, 2) := by decide +kernel
theorem dX3_cumulative_104 : decode cX3_cumulative 104 = .ok (.ireturn, 1) := by decide +kernel
theorem dX3_capability_0 : decode cX3_capability 0 = .ok (.aload_n 0, 1) := by decide +kernel
theorem dX3_capability_1 : decode cX3_capability 1 = .ok (.iload_n 1, 1) := by decide +kernel
theorem dX3_capability_2 : decode cX3_capability 2 = .ok (.invokevirtual 101, 3) := by decide +kernel
theorem dX3_capability_5 : decode cX3_capability 5 = .ok (.astore 5, 2) := by decide +kernel
theorem dX3_capability_7 : decode cX3_capability 7 = .ok (.iload_n 2, 1) := by decide +kernel
theorem dX3_capability_8 : decode cX3_capability 8 = .ok (.invokestatic 57, 3) := by decide +kernel
theorem dX3_capability_11 : decode cX3_capability 11 = .ok (.ifCond .eq 15, 3) := by decide +kernel
theorem dX3_capability_14 : decode cX3_capability 14 = .ok (.iload_n 3, 1) := by decide +kernel
theorem dX3_capability_15 : decode cX3_capability 15 = .ok (.invokestatic 57, 3) := by decide +kernel
theorem dX3_capability_18 : decode cX3_capability 18 = .ok (.ifCond .eq 8, 3) := by decide +kernel
theorem dX3_capability_21 : decode cX3_capability 21 = .ok (.iload_n 3, 1) := by decide +kernel
theorem dX3_capability_22 : decode cX3_capability 22 = .ok (.iload_n 2, 1) := by decide +kernel
theorem dX3_capability_23 : decode cX3_capability 23 = .ok (.if_icmp .ge 13, 3) := by decide +kernel
theorem dX3_capability_26 : decode cX3_capability 26 = .ok (.new 50, 3) := by decide +kernel
theorem dX3_capability_29 : decode cX3_capability 29 = .ok (.dup, 1) := by decide +kernel
theorem dX3_capability_30 : decode cX3_capability 30 = .ok (.ldc 194, 2) := by decide +kernel
theorem dX3_capability_32 : decode cX3_capability 32 = .ok (.invokespecial 54, 3) := by decide +kernel
theorem dX3_capability_35 : decode cX3_capability 35 = .ok (.athrow, 1) := by decide +kernel
theorem dX3_capability_36 : decode cX3_capability 36 = .ok (.aload 5, 2) := by decide +kernel
theorem dX3_capability_38 : decode cX3_capability 38 = .ok (.invokevirtual 196, 3) := by decide +kernel
theorem dX3_capability_41 : decode cX3_capability 41 = .ok (.ifCond .ne 13, 3) := by decide +kernel
theorem dX3_capability_44 : decode cX3_capability 44 = .ok (.new 67, 3) := by decide +kernel
theorem dX3_capability_47 : decode cX3_capability 47 = .ok (.dup, 1) := by decide +kernel
theorem dX3_capability_48 : decode cX3_capability 48 = .ok (.ldc 200, 2) := by decide +kernel
theorem dX3_capability_50 : decode cX3_capability 50 = .ok (.invokespecial 71, 3) := by decide +kernel
theorem dX3_capability_53 : decode cX3_capability 53 = .ok (.athrow, 1) := by decide +kernel
theorem dX3_capability_54 : decode cX3_capability 54 = .ok (.ldc2_w 202, 3) := by decide +kernel
theorem dX3_capability_57 : decode cX3_capability 57 = .ok (.aload 5, 2) := by decide +kernel
theorem dX3_capability_59 : decode cX3_capability 59 = .ok (.getfield 204, 3) := by decide +kernel
theorem dX3_capability_62 : decode cX3_capability 62 = .ok (.i2l, 1) := by decide +kernel
theorem dX3_capability_63 : decode cX3_capability 63 = .ok (.lmul, 1) := by decide +kernel
theorem dX3_capability_64 : decode cX3_capability 64 = .ok (.getstatic 207, 3) := by decide +kernel
theorem dX3_capability_67 : decode cX3_capability 67 = .ok (.aload_n 0, 1) := by decide +kernel
theorem dX3_capability_68 : decode cX3_capability 68 = .ok (.getfield 78, 3) := by decide +kernel
theorem dX3_capability_71 : decode cX3_capability 71 = .ok (.invokestatic 210, 3) := by decide +kernel
theorem dX3_capability_74 : decode cX3_capability 74 = .ok (.i2l, 1) := by decide +kernel
theorem dX3_capability_75 : decode cX3_capability 75 = .ok (.invokestatic 214, 3) := by decide +kernel
theorem dX3_capability_78 : decode cX3_capability 78 = .ok (.lstore 6, 2) := by decide +kernel
theorem dX3_capability_80 : decode cX3_capability 80 = .ok (.lload 6, 2) := by decide +kernel
theorem dX3_capability_82 : decode cX3_capability 82 = .ok (.lconst 0, 1) := by decide +kernel
theorem dX3_capability_83 : decode cX3_capability 83 = .ok (.lcmp, 1) := by decide +kernel
theorem dX3_capability_84 : decode cX3_capability 84 = .ok (.ifCond .ne 13, 3) := by decide +kernel
theorem dX3_capability_87 : decode cX3_capability 87 = .ok (.new 67, 3) := by decide +kernel
theorem dX3_capability_90 : decode cX3_capability 90 = .ok (.dup, 1) := by decide +kernel
theorem dX3_capability_91 : decode cX3_capability 91 = .ok (.ldc 218, 2) := by decide +kernel
theorem dX3_capability_93 : decode cX3_capability 93 = .ok (.invokespecial 71, 3) := by decide +kernel
theorem dX3_capability_96 : decode cX3_capability 96 = .ok (.athrow, 1) := by decide +kernel
theorem dX3_capability_97 : decode cX3_capability 97 = .ok (.ldc2_w 202, 3) := by decide +kernel
theorem dX3_capability_100 : decode cX3_capability 100 = .ok (.iload_n 2, 1) := by decide +kernel
theorem dX3_capability_101 : decode cX3_capability 101 = .ok (.i2l, 1) := by decide +kernel
theorem dX3_capability_102 : decode cX3_capability 102 = .ok (.lmul, 1) := by decide +kernel
theorem dX3_capability_103 : decode cX3_capability 103 = .ok (.lstore 8, 2) := by decide +kernel
theorem dX3_capability_105 : decode cX3_capability 105 = .ok (.ldc2_w 202, 3) := by decide +kernel
theorem dX3_capability_108 : decode cX3_capability 108 = .ok (.iload_n 3, 1) := by decide +kernel
theorem dX3_capability_109 : decode cX3_capability 109 = .ok (.i2l, 1) := by decide +kernel
theorem dX3_capability_110 : decode cX3_capability 110 = .ok (.lmul, 1) := by decide +kernel
theorem dX3_capability_111 : decode cX3_capability 111 = .ok (.lstore 10, 2) := by decide +kernel
theorem dX3_capability_113 : decode cX3_capability 113 = .ok (.iload 4, 2) := by decide +kernel
theorem dX3_capability_115 : decode cX3_capability 115 = .ok (.ifCond .ne 22, 3) := by decide +kernel
theorem dX3_capability_118 : decode cX3_capability 118 = .ok (.ldc2_w 202, 3) := by decide +kernel
theorem dX3_capability_121 : decode cX3_capability 121 = .ok (.lload 10, 2) := by decide +kernel
theorem dX3_capability_123 : decode cX3_capability 123 = .ok (.lload 8, 2) := by decide +kernel
theorem dX3_capability_125 : decode cX3_capability 125 = .ok (.lsub, 1) := by decide +kernel
theorem dX3_capability_126 : decode cX3_capability 126 = .ok (.lmul, 1) := by decide +kernel
theorem dX3_capability_127 : decode cX3_capability 127 = .ok (.ldc2_w 220, 3) := by decide +kernel
theorem dX3_capability_130 : decode cX3_capability 130 = .ok (.lload 6, 2) := by decide +kernel
theorem dX3_capability_132 : decode cX3_capability 132 = .ok (.lmul, 1) := by decide +kernel
theorem dX3_capability_133 : decode cX3_capability 133 = .ok (.invokestatic 214, 3) := by decide +kernel
theorem dX3_capability_136 : decode cX3_capability 136 = .ok (.lreturn, 1) := by decide +kernel
theorem dX3_capability_137 : decode cX3_capability 137 = .ok (.ldc2_w 202, 3) := by decide +kernel
theorem dX3_capability_140 : decode cX3_capability 140 = .ok (.lload 10, 2) := by decide +kernel
theorem dX3_capability_142 : decode cX3_capability 142 = .ok (.aload 5, 2) := by decide +kernel
theorem dX3_capability_144 : decode cX3_capability 144 = .ok (.getfield 133, 3) := by decide +kernel
theorem dX3_capability_147 : decode cX3_capability 147 = .ok (.i2l, 1) := by decide +kernel
theorem dX3_capability_148 : decode cX3_capability 148 = .ok (.lsub, 1) := by decide +kernel
theorem dX3_capability_149 : decode cX3_capability 149 = .ok (.aload 5, 2) := by decide +kernel
theorem dX3_capability_151 : decode cX3_capability 151 = .ok (.getfield 133, 3) := by decide +kernel
theorem dX3_capability_154 : decode cX3_capability 154 = .ok (.i2l, 1) := by decide +kernel
theorem dX3_capability_155 : decode cX3_capability 155 = .ok (.lload 8, 2) := by decide +kernel
theorem dX3_capability_157 : decode cX3_capability 157 = .ok (.lsub, 1) := by decide +kernel
theorem dX3_capability_158 : decode cX3_capability 158 = .ok (.invokestatic 222, 3) := by decide +kernel
theorem dX3_capability_161 : decode cX3_capability 161 = .ok (.lmul, 1) := by decide +kernel
theorem dX3_capability_162 : decode cX3_capability 162 = .ok (.ldc2_w 225, 3) := by decide +kernel
theorem dX3_capability_165 : decode cX3_capability 165 = .ok (.lload 6, 2) := by decide +kernel
theorem dX3_capability_167 : decode cX3_capability 167 = .ok (.lmul, 1) := by decide +kernel
theorem dX3_capability_168 : decode cX3_capability 168 = .ok (.invokestatic 214, 3) := by decide +kernel
theorem dX3_capability_171 : decode cX3_capability 171 = .ok (.lreturn, 1) := by decide +kernel
theorem dX3_restart_0 : decode cX3_restart 0 = .ok (.aload_n 0, 1) := by decide +kernel
theorem dX3_restart_1 : decode cX3_restart 1 = .ok (.iload_n 1, 1) := by decide +kernel
theorem dX3_restart_2 : decode cX3_restart 2 = .ok (.putfield 78, 3) := by decide +kernel
theorem dX3_restart_5 : decode cX3_restart 5 = .ok (.aload_n 0, 1) := by decide +kernel
theorem dX3_restart_6 : decode cX3_restart 6 = .ok (.iconst 2, 1) := by decide +kernel
theorem dX3_restart_7 : decode cX3_restart 7 = .ok (.putfield 179, 3) := by decide +kernel
theorem dX3_restart_10 : decode cX3_restart 10 = .ok (.aload_n 0, 1) := by decide +kernel
theorem dX3_restart_11 : decode cX3_restart 11 = .ok (.iconst 0, 1) := by decide +kernel
theorem dX3_restart_12 : decode cX3_restart 12 = .ok (.putfield 75, 3) := by decide +kernel
theorem dX3_restart_15 : decode cX3_restart 15 = .ok (.aload_n 0, 1) := by decide +kernel
theorem dX3_restart_16 : decode cX3_restart 16 = .ok (.iconst 0, 1) := by decide +kernel
theorem dX3_restart_17 : decode cX3_restart 17 = .ok (.putfield 63, 3) := by decide +kernel
theorem dX3_restart_20 : decode cX3_restart 20 = .ok (.aload_n 0, 1) := by decide +kernel
theorem dX3_restart_21 : decode cX3_restart 21 = .ok (.iconst 1, 1) := by decide +kernel
theorem dX3_restart_22 : decode cX3_restart 22 = .ok (.putfield 84, 3) := by decide +kernel
theorem dX3_restart_25 : decode cX3_restart 25 = .ok (.aload_n 0, 1) := by decide +kernel
theorem dX3_restart_26 : decode cX3_restart 26 = .ok (.getfield 27, 3) := by decide +kernel
theorem dX3_restart_29 : decode cX3_restart 29 = .ok (.iconst 0, 1) := by decide +kernel
theorem dX3_restart_30 : decode cX3_restart 30 = .ok (.aaload, 1) := by decide +kernel
theorem dX3_restart_31 : decode cX3_restart 31 = .ok (.iconst 0, 1) := by decide +kernel
theorem dX3_restart_32 : decode cX3_restart 32 = .ok (.invokevirtual 100, 3) := by decide +kernel
theorem dX3_restart_35 : decode cX3_restart 35 = .ok (.return_, 1) := by decide +kernel
theorem dX3_takeMeasurement_0 : decode cX3_takeMeasurement 0 = .ok (.aload_n 0, 1) := by decide +kernel
theorem dX3_takeMeasurement_1 : decode cX3_takeMeasurement 1 = .ok (.getfield 75, 3) := by decide +kernel
theorem dX3_takeMeasurement_4 : decode cX3_takeMeasurement 4 = .ok (.ifCond .ne 7, 3) := by decide +kernel
theorem dX3_takeMeasurement_7 : decode cX3_takeMeasurement 7 = .ok (.iconst 1, 1) := by decide +kernel
theorem dX3_takeMeasurement_8 : decode cX3_takeMeasurement 8 = .ok (.goto 4, 3) := by decide +kernel
theorem dX3_takeMeasurement_11 : decode cX3_takeMeasurement 11 = .ok (.iconst 0, 1) := by decide +kernel
theorem dX3_takeMeasurement_12 : decode cX3_takeMeasurement 12 = .ok (.istore_n 2, 1) := by decide +kernel
theorem dX3_takeMeasurement_13 : decode cX3_takeMeasurement 13 = .ok (.aload_n 0, 1) := by decide +kernel
theorem dX3_takeMeasurement_14 : decode cX3_takeMeasurement 14 = .ok (.iload_n 2, 1) := by decide +kernel
theorem dX3_takeMeasurement_15 : decode cX3_takeMeasurement 15 = .ok (.ifCond .eq 7, 3) := by decide +kernel
theorem dX3_takeMeasurement_18 : decode cX3_takeMeasurement 18 = .ok (.iload_n 1, 1) := by decide +kernel
theorem dX3_takeMeasurement_19 : decode cX3_takeMeasurement 19 = .ok (.goto 9, 3) := by decide +kernel
theorem dX3_takeMeasurement_22 : decode cX3_takeMeasurement 22 = .ok (.aload_n 0, 1) := by decide +kernel
theorem dX3_takeMeasurement_23 : decode cX3_takeMeasurement 23 = .ok (.getfield 227, 3) := by decide +kernel
theorem dX3_takeMeasurement_26 : decode cX3_takeMeasurement 26 = .ok (.iload_n 1, 1) := by decide +kernel
theorem dX3_takeMeasurement_27 : decode cX3_takeMeasurement 27 = .ok (.iadd, 1) := by decide +kernel
theorem dX3_takeMeasurement_28 : decode cX3_takeMeasurement 28 = .ok (.putfield 227, 3) := by decide +kernel
theorem dX3_takeMeasurement_31 : decode cX3_takeMeasurement 31 = .ok (.aload_n 0, 1) := by decide +kernel
theorem dX3_takeMeasurement_32 : decode cX3_takeMeasurement 32 = .ok (.iload_n 2, 1) := by decide +kernel
theorem dX3_takeMeasurement_33 : decode cX3_takeMeasurement 33 = .ok (.ifCond .eq 7, 3) := by decide +kernel
theorem dX3_takeMeasurement_36 : decode cX3_takeMeasurement 36 = .ok (.iload_n 1, 1) := by decide +kernel
theorem dX3_takeMeasurement_37 : decode cX3_takeMeasurement 37 = .ok (.goto 11, 3) := by decide +kernel
theorem dX3_takeMeasurement_40 : decode cX3_takeMeasurement 40 = .ok (.aload_n 0, 1) := by decide +kernel
theorem dX3_takeMeasurement_41 : decode cX3_takeMeasurement 41 = .ok (.getfield 230, 3) := by decide +kernel
theorem dX3_takeMeasurement_44 : decode cX3_takeMeasurement 44 = .ok (.iload_n 1, 1) := by decide +kernel
theorem dX3_takeMeasurement_45 : decode cX3_takeMeasurement 45 = .ok (.invokestatic 233, 3) := by decide +kernel
theorem dX3_takeMeasurement_48 : decode cX3_takeMeasurement 48 = .ok (.putfield 230, 3) := by decide +kernel
theorem dX3_takeMeasurement_51 : decode cX3_takeMeasurement 51 = .ok (.aload_n 0, 1) := by decide +kernel
theorem dX3_takeMeasurement_52 : decode cX3_takeMeasurement 52 = .ok (.iload_n 2, 1) := by decide +kernel
theorem dX3_takeMeasurement_53 : decode cX3_takeMeasurement 53 = .ok (.ifCond .eq 7, 3) := by decide +kernel
theorem dX3_takeMeasurement_56 : decode cX3_takeMeasurement 56 = .ok (.iload_n 1, 1) := by decide +kernel
theorem dX3_takeMeasurement_57 : decode cX3_takeMeasurement 57 = .ok (.goto 11, 3) := by decide +kernel
theorem dX3_takeMeasurement_60 : decode cX3_takeMeasurement 60 = .ok (.aload_n 0, 1) := by decide +kernel
theorem dX3_takeMeasurement_61 : decode cX3_takeMeasurement 61 = .ok (.getfield 235, 3) := by decide +kernel
theorem dX3_takeMeasurement_64 : decode cX3_takeMeasurement 64 = .ok (.iload_n 1, 1) := by decide +kernel
theorem dX3_takeMeasurement_65 : decode cX3_takeMeasurement 65 = .ok (.invokestatic 191, 3) := by decide +kernel
theorem dX3_takeMeasurement_68 : decode cX3_takeMeasurement 68 = .ok (.putfield 235, 3) := by decide +kernel
theorem dX3_takeMeasurement_71 : decode cX3_takeMeasurement 71 = .ok (.aload_n 0, 1) := by decide +kernel
theorem dX3_takeMeasurement_72 : decode cX3_takeMeasurement 72 = .ok (.dup, 1) := by decide +kernel
theorem dX3_takeMeasurement_73 : decode cX3_takeMeasurement 73 = .ok (.getfield 75, 3) := by decide +kernel
theorem dX3_takeMeasurement_76 : decode cX3_takeMeasurement 76 = .ok (.iconst 1, 1) := by decide +kernel
theorem dX3_takeMeasurement_77 : decode cX3_takeMeasurement 77 = .ok (.iadd, 1) := by decide +kernel
theorem dX3_takeMeasurement_78 : decode cX3_takeMeasurement 78 = .ok (.putfield 75, 3) := by decide +kernel
theorem dX3_takeMeasurement_81 : decode cX3_takeMeasurement 81 = .ok (.return_, 1) := by decide +kernel
theorem dX3_finishSubgroup_0 : decode cX3_finishSubgroup 0 = .ok (.aload_n 0, 1) := by decide +kernel
theorem dX3_finishSubgroup_1 : decode cX3_finishSubgroup 1 = .ok (.getfield 63, 3) := by decide +kernel
theorem dX3_finishSubgroup_4 : decode cX3_finishSubgroup 4 = .ok (.istore_n 1, 1) := by decide +kernel
theorem dX3_finishSubgroup_5 : decode cX3_finishSubgroup 5 = .ok (.aload_n 0, 1) := by decide +kernel
theorem dX3_finishSubgroup_6 : decode cX3_finishSubgroup 6 = .ok (.getfield 9, 3) := by decide +kernel
theorem dX3_finishSubgroup_9 : decode cX3_finishSubgroup 9 = .ok (.iload_n 1, 1) := by decide +kernel
theorem dX3_finishSubgroup_10 : decode cX3_finishSubgroup 10 = .ok (.aload_n 0, 1) := by decide +kernel
theorem dX3_finishSubgroup_11 : decode cX3_finishSubgroup 11 = .ok (.getfield 227, 3) := by decide +kernel
theorem dX3_finishSubgroup_14 : decode cX3_finishSubgroup 14 = .ok (.iastore, 1) := by decide +kernel
theorem dX3_finishSubgroup_15 : decode cX3_finishSubgroup 15 = .ok (.aload_n 0, 1) := by decide +kernel
theorem dX3_finishSubgroup_16 : decode cX3_finishSubgroup 16 = .ok (.getfield 13, 3) := by decide +kernel
theorem dX3_finishSubgroup_19 : decode cX3_finishSubgroup 19 = .ok (.iload_n 1, 1) := by decide +kernel
theorem dX3_finishSubgroup_20 : decode cX3_finishSubgroup 20 = .ok (.aload_n 0, 1) := by decide +kernel
theorem dX3_finishSubgroup_21 : decode cX3_finishSubgroup 21 = .ok (.getfield 235, 3) := by decide +kernel
theorem dX3_finishSubgroup_24 : decode cX3_finishSubgroup 24 = .ok (.aload_n 0, 1) := by decide +kernel
theorem dX3_finishSubgroup_25 : decode cX3_finishSubgroup 25 = .ok (.getfield 230, 3) := by decide +kernel
theorem dX3_finishSubgroup_28 : decode cX3_finishSubgroup 28 = .ok (.isub, 1) := by decide +kernel
theorem dX3_finishSubgroup_29 : decode cX3_finishSubgroup 29 = .ok (.iastore, 1) := by decide +kernel
theorem dX3_finishSubgroup_30 : decode cX3_finishSubgroup 30 = .ok (.aload_n 0, 1) := by decide +kernel
theorem dX3_finishSubgroup_31 : decode cX3_finishSubgroup 31 = .ok (.getfield 16, 3) := by decide +kernel
theorem dX3_finishSubgroup_34 : decode cX3_finishSubgroup 34 = .ok (.iload_n 1, 1) := by decide +kernel
theorem dX3_finishSubgroup_35 : decode cX3_finishSubgroup 35 = .ok (.ldc2_w 202, 3) := by decide +kernel
theorem dX3_finishSubgroup_38 : decode cX3_finishSubgroup 38 = .ok (.aload_n 0, 1) := by decide +kernel
theorem dX3_finishSubgroup_39 : decode cX3_finishSubgroup 39 = .ok (.getfield 227, 3) := by decide +kernel
theorem dX3_finishSubgroup_42 : decode cX3_finishSubgroup 42 = .ok (.i2l, 1) := by decide +kernel
theorem dX3_finishSubgroup_43 : decode cX3_finishSubgroup 43 = .ok (.lmul, 1) := by decide +kernel
theorem dX3_finishSubgroup_44 : decode cX3_finishSubgroup 44 = .ok (.aload_n 0, 1) := by decide +kernel
theorem dX3_finishSubgroup_45 : decode cX3_finishSubgroup 45 = .ok (.getfield 78, 3) := by decide +kernel
theorem dX3_finishSubgroup_48 : decode cX3_finishSubgroup 48 = .ok (.i2l, 1) := by decide +kernel
theorem dX3_finishSubgroup_49 : decode cX3_finishSubgroup 49 = .ok (.invokestatic 238, 3) := by decide +kernel
theorem dX3_finishSubgroup_52 : decode cX3_finishSubgroup 52 = .ok (.l2i, 1) := by decide +kernel
theorem dX3_finishSubgroup_53 : decode cX3_finishSubgroup 53 = .ok (.iastore, 1) := by decide +kernel
theorem dX3_finishSubgroup_54 : decode cX3_finishSubgroup 54 = .ok (.aload_n 0, 1) := by decide +kernel
theorem dX3_finishSubgroup_55 : decode cX3_finishSubgroup 55 = .ok (.getfield 19, 3) := by decide +kernel
theorem dX3_finishSubgroup_58 : decode cX3_finishSubgroup 58 = .ok (.iload_n 1, 1) := by decide +kernel
theorem dX3_finishSubgroup_59 : decode cX3_finishSubgroup 59 = .ok (.iconst 0, 1) := by decide +kernel
theorem dX3_finishSubgroup_60 : decode cX3_finishSubgroup 60 = .ok (.iastore, 1) := by decide +kernel
theorem dX3_finishSubgroup_61 : decode cX3_finishSubgroup 61 = .ok (.aload_n 0, 1) := by decide +kernel
theorem dX3_finishSubgroup_62 : decode cX3_finishSubgroup 62 = .ok (.getfield 22, 3) := by decide +kernel
theorem dX3_finishSubgroup_65 : decode cX3_finishSubgroup 65 = .ok (.iload_n 1, 1) := by decide +kernel
theorem dX3_finishSubgroup_66 : decode cX3_finishSubgroup 66 = .ok (.aload_n 0, 1) := by decide +kernel
theorem dX3_finishSubgroup_67 : decode cX3_finishSubgroup 67 = .ok (.getfield 84, 3) := by decide +kernel
theorem dX3_finishSubgroup_70 : decode cX3_finishSubgroup 70 = .ok (.iconst 1, 1) := by decide +kernel
theorem dX3_finishSubgroup_71 : decode cX3_finishSubgroup 71 = .ok (.isub, 1) := by decide +kernel
theorem dX3_finishSubgroup_72 : decode cX3_finishSubgroup 72 = .ok (.iastore, 1) := by decide +kernel
theorem dX3_finishSubgroup_73 : decode cX3_finishSubgroup 73 = .ok (.aload_n 0, 1) := by decide +kernel
theorem dX3_finishSubgroup_74 : decode cX3_finishSubgroup 74 = .ok (.iconst 0, 1) := by decide +kernel
theorem dX3_finishSubgroup_75 : decode cX3_finishSubgroup 75 = .ok (.putfield 75, 3) := by decide +kernel
theorem dX3_finishSubgroup_78 : decode cX3_finishSubgroup 78 = .ok (.aload_n 0, 1) := by decide +kernel
theorem dX3_finishSubgroup_79 : decode cX3_finishSubgroup 79 = .ok (.dup, 1) := by decide +kernel
theorem dX3_finishSubgroup_80 : decode cX3_finishSubgroup 80 = .ok (.getfield 63, 3) := by decide +kernel
theorem dX3_finishSubgroup_83 : decode cX3_finishSubgroup 83 = .ok (.iconst 1, 1) := by decide +kernel
theorem dX3_finishSubgroup_84 : decode cX3_finishSubgroup 84 = .ok (.iadd, 1) := by decide +kernel
theorem dX3_finishSubgroup_85 : decode cX3_finishSubgroup 85 = .ok (.putfield 63, 3) := by decide +kernel
theorem dX3_finishSubgroup_88 : decode cX3_finishSubgroup 88 = .ok (.aload_n 0, 1) := by decide +kernel
theorem dX3_finishSubgroup_89 : decode cX3_finishSubgroup 89 = .ok (.iload_n 1, 1) := by decide +kernel
theorem dX3_finishSubgroup_90 : decode cX3_finishSubgroup 90 = .ok (.iconst 1, 1) := by decide +kernel
theorem dX3_finishSubgroup_91 : decode cX3_finishSubgroup 91 = .ok (.invokevirtual 126, 3) := by decide +kernel
theorem dX3_finishSubgroup_94 : decode cX3_finishSubgroup 94 = .ok (.return_, 1) := by decide +kernel
theorem dX3_countPoint_0 : decode cX3_countPoint 0 = .ok (.aload_n 0, 1) := by decide +kernel
theorem dX3_countPoint_1 : decode cX3_countPoint 1 = .ok (.iload_n 1, 1) := by decide +kernel
theorem dX3_countPoint_2 : decode cX3_countPoint 2 = .ok (.invokevirtual 145, 3) := by decide +kernel
theorem dX3_countPoint_5 : decode cX3_countPoint 5 = .ok (.astore_n 3, 1) := by decide +kernel
theorem dX3_countPoint_6 : decode cX3_countPoint 6 = .ok (.aload_n 3, 1) := by decide +kernel
theorem dX3_countPoint_7 : decode cX3_countPoint 7 = .ok (.dup, 1) := by decide +kernel
theorem dX3_countPoint_8 : decode cX3_countPoint 8 = .ok (.getfield 111, 3) := by decide +kernel
theorem dX3_countPoint_11 : decode cX3_countPoint 11 = .ok (.iload_n 2, 1) := by decide +kernel
theorem dX3_countPoint_12 : decode cX3_countPoint 12 = .ok (.iadd, 1) := by decide +kernel
theorem dX3_countPoint_13 : decode cX3_countPoint 13 = .ok (.putfield 111, 3) := by decide +kernel
theorem dX3_countPoint_16 : decode cX3_countPoint 16 = .ok (.aload_n 3, 1) := by decide +kernel
theorem dX3_countPoint_17 : decode cX3_countPoint 17 = .ok (.dup, 1) := by decide +kernel
theorem dX3_countPoint_18 : decode cX3_countPoint 18 = .ok (.getfield 241, 3) := by decide +kernel
theorem dX3_countPoint_21 : decode cX3_countPoint 21 = .ok (.iload_n 2, 1) := by decide +kernel
theorem dX3_countPoint_22 : decode cX3_countPoint 22 = .ok (.aload_n 0, 1) := by decide +kernel
theorem dX3_countPoint_23 : decode cX3_countPoint 23 = .ok (.getfield 9, 3) := by decide +kernel
theorem dX3_countPoint_26 : decode cX3_countPoint 26 = .ok (.iload_n 1, 1) := by decide +kernel
theorem dX3_countPoint_27 : decode cX3_countPoint 27 = .ok (.iaload, 1) := by decide +kernel
theorem dX3_countPoint_28 : decode cX3_countPoint 28 = .ok (.imul, 1) := by decide +kernel
theorem dX3_countPoint_29 : decode cX3_countPoint 29 = .ok (.iadd, 1) := by decide +kernel
theorem dX3_countPoint_30 : decode cX3_countPoint 30 = .ok (.putfield 241, 3) := by decide +kernel
theorem dX3_countPoint_33 : decode cX3_countPoint 33 = .ok (.aload_n 3, 1) := by decide +kernel
theorem dX3_countPoint_34 : decode cX3_countPoint 34 = .ok (.dup, 1) := by decide +kernel
theorem dX3_countPoint_35 : decode cX3_countPoint 35 = .ok (.getfield 244, 3) := by decide +kernel
theorem dX3_countPoint_38 : decode cX3_countPoint 38 = .ok (.iload_n 2, 1) := by decide +kernel
theorem dX3_countPoint_39 : decode cX3_countPoint 39 = .ok (.aload_n 0, 1) := by decide +kernel
theorem dX3_countPoint_40 : decode cX3_countPoint 40 = .ok (.getfield 13, 3) := by decide +kernel
theorem dX3_countPoint_43 : decode cX3_countPoint 43 = .ok (.iload_n 1, 1) := by decide +kernel
theorem dX3_countPoint_44 : decode cX3_countPoint 44 = .ok (.iaload, 1) := by decide +kernel
theorem dX3_countPoint_45 : decode cX3_countPoint 45 = .ok (.imul, 1) := by decide +kernel
theorem dX3_countPoint_46 : decode cX3_countPoint 46 = .ok (.iadd, 1) := by decide +kernel
theorem dX3_countPoint_47 : decode cX3_countPoint 47 = .ok (.putfield 244, 3) := by decide +kernel
theorem dX3_countPoint_50 : decode cX3_countPoint 50 = .ok (.aload_n 3, 1) := by decide +kernel
theorem dX3_countPoint_51 : decode cX3_countPoint 51 = .ok (.aload_n 0, 1) := by decide +kernel
theorem dX3_countPoint_52 : decode cX3_countPoint 52 = .ok (.getfield 78, 3) := by decide +kernel
theorem dX3_countPoint_55 : decode cX3_countPoint 55 = .ok (.invokevirtual 118, 3) := by decide +kernel
theorem dX3_countPoint_58 : decode cX3_countPoint 58 = .ok (.return_, 1) := by decide +kernel
theorem dX3_lookBack_0 : decode cX3_lookBack 0 = .ok (.aload_n 0, 1) := by decide +kernel
theorem dX3_lookBack_1 : decode cX3_lookBack 1 = .ok (.getfield 42, 3) := by decide +kernel
theorem dX3_lookBack_4 : decode cX3_lookBack 4 = .ok (.invokevirtual 247, 3) := by decide +kernel
theorem dX3_lookBack_7 : decode cX3_lookBack 7 = .ok (.iload_n 1, 1) := by decide +kernel
theorem dX3_lookBack_8 : decode cX3_lookBack 8 = .ok (.istore_n 3, 1) := by decide +kernel
theorem dX3_lookBack_9 : decode cX3_lookBack 9 = .ok (.iload_n 3, 1) := by decide +kernel
theorem dX3_lookBack_10 : decode cX3_lookBack 10 = .ok (.aload_n 2, 1) := by decide +kernel
theorem dX3_lookBack_11 : decode cX3_lookBack 11 = .ok (.getfield 95, 3) := by decide +kernel
theorem dX3_lookBack_14 : decode cX3_lookBack 14 = .ok (.if_icmp .lt 41, 3) := by decide +kernel
theorem dX3_lookBack_17 : decode cX3_lookBack 17 = .ok (.aload_n 0, 1) := by decide +kernel
theorem dX3_lookBack_18 : decode cX3_lookBack 18 = .ok (.getfield 42, 3) := by decide +kernel
theorem dX3_lookBack_21 : decode cX3_lookBack 21 = .ok (.invokevirtual 248, 3) := by decide +kernel
theorem dX3_lookBack_24 : decode cX3_lookBack 24 = .ok (.ifCond .ne 31, 3) := by decide +kernel
theorem dX3_lookBack_27 : decode cX3_lookBack 27 = .ok (.aload_n 0, 1) := by decide +kernel
theorem dX3_lookBack_28 : decode cX3_lookBack 28 = .ok (.iload_n 3, 1) := by decide +kernel
theorem dX3_lookBack_29 : decode cX3_lookBack 29 = .ok (.invokevirtual 142, 3) := by decide +kernel
theorem dX3_lookBack_32 : decode cX3_lookBack 32 = .ok (.ifCond .eq 17, 3) := by decide +kernel
theorem dX3_lookBack_35 : decode cX3_lookBack 35 = .ok (.aload_n 0, 1) := by decide +kernel
theorem dX3_lookBack_36 : decode cX3_lookBack 36 = .ok (.getfield 42, 3) := by decide +kernel
theorem dX3_lookBack_39 : decode cX3_lookBack 39 = .ok (.iload_n 3, 1) := by decide +kernel
theorem dX3_lookBack_40 : decode cX3_lookBack 40 = .ok (.aload_n 0, 1) := by decide +kernel
theorem dX3_lookBack_41 : decode cX3_lookBack 41 = .ok (.getfield 16, 3) := by decide +kernel
theorem dX3_lookBack_44 : decode cX3_lookBack 44 = .ok (.iload_n 3, 1) := by decide +kernel
theorem dX3_lookBack_45 : decode cX3_lookBack 45 = .ok (.iaload, 1) := by decide +kernel
theorem dX3_lookBack_46 : decode cX3_lookBack 46 = .ok (.invokevirtual 251, 3) := by decide +kernel
theorem dX3_lookBack_49 : decode cX3_lookBack 49 = .ok (.iinc 3 (-1), 3) := by decide +kernel
theorem dX3_lookBack_52 : decode cX3_lookBack 52 = .ok (.goto (-43), 3) := by decide +kernel
theorem dX3_lookBack_55 : decode cX3_lookBack 55 = .ok (.return_, 1) := by decide +kernel
theorem dX3_checkSubgroup_0 : decode cX3_checkSubgroup 0 = .ok (.iload_n 1, 1) := by decide +kernel
theorem dX3_checkSubgroup_1 : decode cX3_checkSubgroup 1 = .ok (.ifCond .lt 11, 3) := by decide +kernel
theorem dX3_checkSubgroup_4 : decode cX3_checkSubgroup 4 = .ok (.iload_n 1, 1) := by decide +kernel
theorem dX3_checkSubgroup_5 : decode cX3_checkSubgroup 5 = .ok (.aload_n 0, 1) := by decide +kernel
theorem dX3_checkSubgroup_6 : decode cX3_checkSubgroup 6 = .ok (.getfield 63, 3) := by decide +kernel
theorem dX3_checkSubgroup_9 : decode cX3_checkSubgroup 9 = .ok (.if_icmp .lt 13, 3) := by decide +kernel
theorem dX3_checkSubgroup_12 : decode cX3_checkSubgroup 12 = .ok (.new 165, 3) := by decide +kernel
theorem dX3_checkSubgroup_15 : decode cX3_checkSubgroup 15 = .ok (.dup, 1) := by decide +kernel
theorem dX3_checkSubgroup_16 : decode cX3_checkSubgroup 16 = .ok (.ldc 254, 2) := by decide +kernel
theorem dX3_checkSubgroup_18 : decode cX3_checkSubgroup 18 = .ok (.invokespecial 169, 3) := by decide +kernel
theorem dX3_checkSubgroup_21 : decode cX3_checkSubgroup 21 = .ok (.athrow, 1) := by decide +kernel
theorem dX3_checkSubgroup_22 : decode cX3_checkSubgroup 22 = .ok (.return_, 1) := by decide +kernel
theorem dX3_checkPoint_0 : decode cX3_checkPoint 0 = .ok (.aload_n 0, 1) := by decide +kernel
theorem dX3_checkPoint_1 : decode cX3_checkPoint 1 = .ok (.iload_n 1, 1) := by decide +kernel
theorem dX3_checkPoint_2 : decode cX3_checkPoint 2 = .ok (.invokevirtual 121, 3) := by decide +kernel
theorem dX3_checkPoint_5 : decode cX3_checkPoint 5 = .ok (.aload_n 0, 1) := by decide +kernel
theorem dX3_checkPoint_6 : decode cX3_checkPoint 6 = .ok (.iload_n 1, 1) := by decide +kernel
theorem dX3_checkPoint_7 : decode cX3_checkPoint 7 = .ok (.invokevirtual 142, 3) := by decide +kernel
theorem dX3_checkPoint_10 : decode cX3_checkPoint 10 = .ok (.ifCond .ne 14, 3) := by decide +kernel
theorem dX3_checkPoint_13 : decode cX3_checkPoint 13 = .ok (.new 67, 3) := by decide +kernel
theorem dX3_checkPoint_16 : decode cX3_checkPoint 16 = .ok (.dup, 1) := by decide +kernel
theorem dX3_checkPoint_17 : decode cX3_checkPoint 17 = .ok (.ldc_w 256, 3) := by decide +kernel
theorem dX3_checkPoint_20 : decode cX3_checkPoint 20 = .ok (.invokespecial 71, 3) := by decide +kernel
theorem dX3_checkPoint_23 : decode cX3_checkPoint 23 = .ok (.athrow, 1) := by decide +kernel
theorem dX3_checkPoint_24 : decode cX3_checkPoint 24 = .ok (.return_, 1) := by decide +kernel
theorem dX3_isPoint_0 : decode cX3_isPoint 0 = .ok (.iload_n 1, 1) := by decide +kernel
theorem dX3_isPoint_1 : decode cX3_isPoint 1 = .ok (.ifCond .lt 24, 3) := by decide +kernel
theorem dX3_isPoint_4 : decode cX3_isPoint 4 = .ok (.iload_n 1, 1) := by decide +kernel
theorem dX3_isPoint_5 : decode cX3_isPoint 5 = .ok (.aload_n 0, 1) := by decide +kernel
theorem dX3_isPoint_6 : decode cX3_isPoint 6 = .ok (.getfield 63, 3) := by decide +kernel
theorem dX3_isPoint_9 : decode cX3_isPoint 9 = .ok (.if_icmp .ge 16, 3) := by decide +kernel
theorem dX3_isPoint_12 : decode cX3_isPoint 12 = .ok (.aload_n 0, 1) := by decide +kernel
theorem dX3_isPoint_13 : decode cX3_isPoint 13 = .ok (.getfield 19, 3) := by decide +kernel
theorem dX3_isPoint_16 : decode cX3_isPoint 16 = .ok (.iload_n 1, 1) := by decide +kernel
theorem dX3_isPoint_17 : decode cX3_isPoint 17 = .ok (.iaload, 1) := by decide +kernel
theorem dX3_isPoint_18 : decode cX3_isPoint 18 = .ok (.ifCond .ne 7, 3) := by decide +kernel
theorem dX3_isPoint_21 : decode cX3_isPoint 21 = .ok (.iconst 1, 1) := by decide +kernel
theorem dX3_isPoint_22 : decode cX3_isPoint 22 = .ok (.goto 4, 3) := by decide +kernel
theorem dX3_isPoint_25 : decode cX3_isPoint 25 = .ok (.iconst 0, 1) := by decide +kernel
theorem dX3_isPoint_26 : decode cX3_isPoint 26 = .ok (.ireturn, 1) := by decide +kernel
theorem dX3_findPhase_0 : decode cX3_findPhase 0 = .ok (.iload_n 1, 1) := by decide +kernel
theorem dX3_findPhase_1 : decode cX3_findPhase 1 = .ok (.ifCond .lt 11, 3) := by decide +kernel
theorem dX3_findPhase_4 : decode cX3_findPhase 4 = .ok (.iload_n 1, 1) := by decide +kernel
theorem dX3_findPhase_5 : decode cX3_findPhase 5 = .ok (.aload_n 0, 1) := by decide +kernel
theorem dX3_findPhase_6 : decode cX3_findPhase 6 = .ok (.getfield 84, 3) := by decide +kernel
theorem dX3_findPhase_9 : decode cX3_findPhase 9 = .ok (.if_icmp .lt 14, 3) := by decide +kernel
theorem dX3_findPhase_12 : decode cX3_findPhase 12 = .ok (.new 165, 3) := by decide +kernel
theorem dX3_findPhase_15 : decode cX3_findPhase 15 = .ok (.dup, 1) := by decide +kernel
theorem dX3_findPhase_16 : decode cX3_findPhase 16 = .ok (.ldc_w 258, 3) := by decide +kernel
theorem dX3_findPhase_19 : decode cX3_findPhase 19 = .ok (.invokespecial 169, 3) := by decide +kernel
theorem dX3_findPhase_22 : decode cX3_findPhase 22 = .ok (.athrow, 1) := by decide +kernel
theorem dX3_findPhase_23 : decode cX3_findPhase 23 = .ok (.aload_n 0, 1) := by decide +kernel
theorem dX3_findPhase_24 : decode cX3_findPhase 24 = .ok (.getfield 27, 3) := by decide +kernel
theorem dX3_findPhase_27 : decode cX3_findPhase 27 = .ok (.iload_n 1, 1) := by decide +kernel
theorem dX3_findPhase_28 : decode cX3_findPhase 28 = .ok (.aaload, 1) := by decide +kernel
theorem dX3_findPhase_29 : decode cX3_findPhase 29 = .ok (.areturn, 1) := by decide +kernel
theorem dX3_findLimits_0 : decode cX3_findLimits 0 = .ok (.aload_n 0, 1) := by decide +kernel
theorem dX3_findLimits_1 : decode cX3_findLimits 1 = .ok (.iload_n 1, 1) := by decide +kernel
theorem dX3_findLimits_2 : decode cX3_findLimits 2 = .ok (.invokevirtual 101, 3) := by decide +kernel
theorem dX3_findLimits_5 : decode cX3_findLimits 5 = .ok (.astore_n 2, 1) := by decide +kernel
theorem dX3_findLimits_6 : decode cX3_findLimits 6 = .ok (.aload_n 2, 1) := by decide +kernel
theorem dX3_findLimits_7 : decode cX3_findLimits 7 = .ok (.invokevirtual 196, 3) := by decide +kernel
theorem dX3_findLimits_10 : decode cX3_findLimits 10 = .ok (.ifCond .ne 13, 3) := by decide +kernel
theorem dX3_findLimits_13 : decode cX3_findLimits 13 = .ok (.new 67, 3) := by decide +kernel
theorem dX3_findLimits_16 : decode cX3_findLimits 16 = .ok (.dup, 1) := by decide +kernel
theorem dX3_findLimits_17 : decode cX3_findLimits 17 = .ok (.ldc 200, 2) := by decide +kernel
theorem dX3_findLimits_19 : decode cX3_findLimits 19 = .ok (.invokespecial 71, 3) := by decide +kernel
theorem dX3_findLimits_22 : decode cX3_findLimits 22 = .ok (.athrow, 1) := by decide +kernel
theorem dX3_findLimits_23 : decode cX3_findLimits 23 = .ok (.aload_n 2, 1) := by decide +kernel
theorem dX3_findLimits_24 : decode cX3_findLimits 24 = .ok (.areturn, 1) := by decide +kernel
theorem dX3_phaseHolding_0 : decode cX3_phaseHolding 0 = .ok (.aload_n 0, 1) := by decide +kernel
theorem dX3_phaseHolding_1 : decode cX3_phaseHolding 1 = .ok (.getfield 22, 3) := by decide +kernel
theorem dX3_phaseHolding_4 : decode cX3_phaseHolding 4 = .ok (.iload_n 1, 1) := by decide +kernel
theorem dX3_phaseHolding_5 : decode cX3_phaseHolding 5 = .ok (.iaload, 1) := by decide +kernel
theorem dX3_phaseHolding_6 : decode cX3_phaseHolding 6 = .ok (.istore_n 2, 1) := by decide +kernel
theorem dX3_phaseHolding_7 : decode cX3_phaseHolding 7 = .ok (.iload_n 2, 1) := by decide +kernel
theorem dX3_phaseHolding_8 : decode cX3_phaseHolding 8 = .ok (.ifCond .lt 20, 3) := by decide +kernel
theorem dX3_phaseHolding_11 : decode cX3_phaseHolding 11 = .ok (.iload_n 2, 1) := by decide +kernel
theorem dX3_phaseHolding_12 : decode cX3_phaseHolding 12 = .ok (.aload_n 0, 1) := by decide +kernel
theorem dX3_phaseHolding_13 : decode cX3_phaseHolding 13 = .ok (.getfield 84, 3) := by decide +kernel
theorem dX3_phaseHolding_16 : decode cX3_phaseHolding 16 = .ok (.if_icmp .ge 12, 3) := by decide +kernel
theorem dX3_phaseHolding_19 : decode cX3_phaseHolding 19 = .ok (.aload_n 0, 1) := by decide +kernel
theorem dX3_phaseHolding_20 : decode cX3_phaseHolding 20 = .ok (.getfield 27, 3) := by decide +kernel
theorem dX3_phaseHolding_23 : decode cX3_phaseHolding 23 = .ok (.iload_n 2, 1) := by decide +kernel
theorem dX3_phaseHolding_24 : decode cX3_phaseHolding 24 = .ok (.aaload, 1) := by decide +kernel
theorem dX3_phaseHolding_25 : decode cX3_phaseHolding 25 = .ok (.goto 9, 3) := by decide +kernel
theorem dX3_phaseHolding_28 : decode cX3_phaseHolding 28 = .ok (.aload_n 0, 1) := by decide +kernel
theorem dX3_phaseHolding_29 : decode cX3_phaseHolding 29 = .ok (.getfield 27, 3) := by decide +kernel
theorem dX3_phaseHolding_32 : decode cX3_phaseHolding 32 = .ok (.iconst 0, 1) := by decide +kernel
theorem dX3_phaseHolding_33 : decode cX3_phaseHolding 33 = .ok (.aaload, 1) := by decide +kernel
theorem dX3_phaseHolding_34 : decode cX3_phaseHolding 34 = .ok (.areturn, 1) := by decide +kernel
theorem dX3_lastPhase_0 : decode cX3_lastPhase 0 = .ok (.aload_n 0, 1) := by decide +kernel
theorem dX3_lastPhase_1 : decode cX3_lastPhase 1 = .ok (.getfield 27, 3) := by decide +kernel
theorem dX3_lastPhase_4 : decode cX3_lastPhase 4 = .ok (.aload_n 0, 1) := by decide +kernel
theorem dX3_lastPhase_5 : decode cX3_lastPhase 5 = .ok (.getfield 84, 3) := by decide +kernel
theorem dX3_lastPhase_8 : decode cX3_lastPhase 8 = .ok (.iconst 1, 1) := by decide +kernel
theorem dX3_lastPhase_9 : decode cX3_lastPhase 9 = .ok (.isub, 1) := by decide +kernel
theorem dX3_lastPhase_10 : decode cX3_lastPhase 10 = .ok (.aaload, 1) := by decide +kernel
theorem dX3_lastPhase_11 : decode cX3_lastPhase 11 = .ok (.areturn, 1) := by decide +kernel
theorem dX3_isMeasurement_0 : decode cX3_isMeasurement 0 = .ok (.iload_n 0, 1) := by decide +kernel
theorem dX3_isMeasurement_1 : decode cX3_isMeasurement 1 = .ok (.sipush (-9999), 3) := by decide +kernel
theorem dX3_isMeasurement_4 : decode cX3_isMeasurement 4 = .ok (.if_icmp .lt 14, 3) := by decide +kernel
theorem dX3_isMeasurement_7 : decode cX3_isMeasurement 7 = .ok (.iload_n 0, 1) := by decide +kernel
theorem dX3_isMeasurement_8 : decode cX3_isMeasurement 8 = .ok (.sipush 9999, 3) := by decide +kernel
theorem dX3_isMeasurement_11 : decode cX3_isMeasurement 11 = .ok (.if_icmp .gt 7, 3) := by decide +kernel
theorem dX3_isMeasurement_14 : decode cX3_isMeasurement 14 = .ok (.iconst 1, 1) := by decide +kernel
theorem dX3_isMeasurement_15 : decode cX3_isMeasurement 15 = .ok (.goto 4, 3) := by decide +kernel
theorem dX3_isMeasurement_18 : decode cX3_isMeasurement 18 = .ok (.iconst 0, 1) := by decide +kernel
theorem dX3_isMeasurement_19 : decode cX3_isMeasurement 19 = .ok (.ireturn, 1) := by decide +kernel
theorem dX3_bySize_0 : decode cX3_bySize 0 = .ok (.iload_n 1, 1) := by decide +kernel
theorem dX3_bySize_1 : decode cX3_bySize 1 = .ok (.iconst 2, 1) := by decide +kernel
theorem dX3_bySize_2 : decode cX3_bySize 2 = .ok (.isub, 1) := by decide +kernel
theorem dX3_bySize_3 : decode cX3_bySize 3 = .ok (.istore_n 2, 1) := by decide +kernel
theorem dX3_bySize_4 : decode cX3_bySize 4 = .ok (.iload_n 2, 1) := by decide +kernel
theorem dX3_bySize_5 : decode cX3_bySize 5 = .ok (.ifCond .lt 15, 3) := by decide +kernel
theorem dX3_bySize_8 : decode cX3_bySize 8 = .ok (.iload_n 2, 1) := by decide +kernel
theorem dX3_bySize_9 : decode cX3_bySize 9 = .ok (.aload_n 0, 1) := by decide +kernel
theorem dX3_bySize_10 : decode cX3_bySize 10 = .ok (.arraylength, 1) := by decide +kernel
theorem dX3_bySize_11 : decode cX3_bySize 11 = .ok (.if_icmp .ge 9, 3) := by decide +kernel
theorem dX3_bySize_14 : decode cX3_bySize 14 = .ok (.aload_n 0, 1) := by decide +kernel
theorem dX3_bySize_15 : decode cX3_bySize 15 = .ok (.iload_n 2, 1) := by decide +kernel
theorem dX3_bySize_16 : decode cX3_bySize 16 = .ok (.iaload, 1) := by decide +kernel
theorem dX3_bySize_17 : decode cX3_bySize 17 = .ok (.goto 4, 3) := by decide +kernel
theorem dX3_bySize_20 : decode cX3_bySize 20 = .ok (.iconst 0, 1) := by decide +kernel
theorem dX3_bySize_21 : decode cX3_bySize 21 = .ok (.ireturn, 1) := by decide +kernel
theorem dX3_pointsOfRule_0 : decode cX3_pointsOfRule 0 = .ok (.iload_n 0, 1) := by decide +kernel
theorem dX3_pointsOfRule_1 : decode cX3_pointsOfRule 1 = .ok (.iconst 1, 1) := by decide +kernel
theorem dX3_pointsOfRule_2 : decode cX3_pointsOfRule 2 = .ok (.if_icmp .lt 21, 3) := by decide +kernel
theorem dX3_pointsOfRule_5 : decode cX3_pointsOfRule 5 = .ok (.iload_n 0, 1) := by decide +kernel
theorem dX3_pointsOfRule_6 : decode cX3_pointsOfRule 6 = .ok (.getstatic 260, 3) := by decide +kernel
theorem dX3_pointsOfRule_9 : decode cX3_pointsOfRule 9 = .ok (.arraylength, 1) := by decide +kernel
theorem dX3_pointsOfRule_10 : decode cX3_pointsOfRule 10 = .ok (.if_icmp .gt 13, 3) := by decide +kernel
theorem dX3_pointsOfRule_13 : decode cX3_pointsOfRule 13 = .ok (.getstatic 260, 3) := by decide +kernel
theorem dX3_pointsOfRule_16 : decode cX3_pointsOfRule 16 = .ok (.iload_n 0, 1) := by decide +kernel
theorem dX3_pointsOfRule_17 : decode cX3_pointsOfRule 17 = .ok (.iconst 1, 1) := by decide +kernel
theorem dX3_pointsOfRule_18 : decode cX3_pointsOfRule 18 = .ok (.isub, 1) := by decide +kernel
theorem dX3_pointsOfRule_19 : decode cX3_pointsOfRule 19 = .ok (.iaload, 1) := by decide +kernel
theorem dX3_pointsOfRule_20 : decode cX3_pointsOfRule 20 = .ok (.goto 4, 3) := by decide +kernel
theorem dX3_pointsOfRule_23 : decode cX3_pointsOfRule 23 = .ok (.iconst 0, 1) := by decide +kernel
theorem dX3_pointsOfRule_24 : decode cX3_pointsOfRule 24 = .ok (.ireturn, 1) := by decide +kernel
theorem dX3_floored_0 : decode cX3_floored 0 = .ok (.lload_n 2, 1) := by decide +kernel
theorem dX3_floored_1 : decode cX3_floored 1 = .ok (.lconst 0, 1) := by decide +kernel
theorem dX3_floored_2 : decode cX3_floored 2 = .ok (.lcmp, 1) := by decide +kernel
theorem dX3_floored_3 : decode cX3_floored 3 = .ok (.ifCond .le 11, 3) := by decide +kernel
theorem dX3_floored_6 : decode cX3_floored 6 = .ok (.lload_n 0, 1) := by decide +kernel
theorem dX3_floored_7 : decode cX3_floored 7 = .ok (.lload_n 2, 1) := by decide +kernel
theorem dX3_floored_8 : decode cX3_floored 8 = .ok (.invokestatic 263, 3) := by decide +kernel
theorem dX3_floored_11 : decode cX3_floored 11 = .ok (.goto 4, 3) := by decide +kernel
theorem dX3_floored_14 : decode cX3_floored 14 = .ok (.lconst 0, 1) := by decide +kernel
theorem dX3_floored_15 : decode cX3_floored 15 = .ok (.lreturn, 1) := by decide +kernel
theorem dX3_rounded_0 : decode cX3_rounded 0 = .ok (.ldc2_w 265, 3) := by decide +kernel
theorem dX3_rounded_3 : decode cX3_rounded 3 = .ok (.lload_n 0, 1) := by decide +kernel
theorem dX3_rounded_4 : decode cX3_rounded 4 = .ok (.lmul, 1) := by decide +kernel
theorem dX3_rounded_5 : decode cX3_rounded 5 = .ok (.lload_n 2, 1) := by decide +kernel
theorem dX3_rounded_6 : decode cX3_rounded 6 = .ok (.ladd, 1) := by decide +kernel
theorem dX3_rounded_7 : decode cX3_rounded 7 = .ok (.ldc2_w 265, 3) := by decide +kernel
theorem dX3_rounded_10 : decode cX3_rounded 10 = .ok (.lload_n 2, 1) := by decide +kernel
theorem dX3_rounded_11 : decode cX3_rounded 11 = .ok (.lmul, 1) := by decide +kernel
theorem dX3_rounded_12 : decode cX3_rounded 12 = .ok (.invokestatic 214, 3) := by decide +kernel
theorem dX3_rounded_15 : decode cX3_rounded 15 = .ok (.lreturn, 1) := by decide +kernel
theorem dX3_direction_0 : decode cX3_direction 0 = .ok (.iload_n 1, 1) := by decide +kernel
theorem dX3_direction_1 : decode cX3_direction 1 = .ok (.iload_n 0, 1) := by decide +kernel
theorem dX3_direction_2 : decode cX3_direction 2 = .ok (.if_icmp .le 7, 3) := by decide +kernel
theorem dX3_direction_5 : decode cX3_direction 5 = .ok (.iconst 1, 1) := by decide +kernel
theorem dX3_direction_6 : decode cX3_direction 6 = .ok (.goto 13, 3) := by decide +kernel
theorem dX3_direction_9 : decode cX3_direction 9 = .ok (.iload_n 1, 1) := by decide +kernel
theorem dX3_direction_10 : decode cX3_direction 10 = .ok (.iload_n 0, 1) := by decide +kernel
theorem dX3_direction_11 : decode cX3_direction 11 = .ok (.if_icmp .ge 7, 3) := by decide +kernel
theorem dX3_direction_14 : decode cX3_direction 14 = .ok (.iconst (-1), 1) := by decide +kernel
theorem dX3_direction_15 : decode cX3_direction 15 = .ok (.goto 4, 3) := by decide +kernel
theorem dX3_direction_18 : decode cX3_direction 18 = .ok (.iconst 0, 1) := by decide +kernel
theorem dX3_direction_19 : decode cX3_direction 19 = .ok (.ireturn, 1) := by decide +kernel
