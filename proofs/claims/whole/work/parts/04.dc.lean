theorem dX4_init_0 : decode cX4_init 0 = .ok (.aload_n 0, 1) := by decide +kernel
theorem dX4_init_1 : decode cX4_init 1 = .ok (.invokespecial 1, 3) := by decide +kernel
theorem dX4_init_4 : decode cX4_init 4 = .ok (.aload_n 0, 1) := by decide +kernel
theorem dX4_init_5 : decode cX4_init 5 = .ok (.iconst 5, 1) := by decide +kernel
theorem dX4_init_6 : decode cX4_init 6 = .ok (.putfield 7, 3) := by decide +kernel
theorem dX4_init_9 : decode cX4_init 9 = .ok (.aload_n 0, 1) := by decide +kernel
theorem dX4_init_10 : decode cX4_init 10 = .ok (.bipush 60, 2) := by decide +kernel
theorem dX4_init_12 : decode cX4_init 12 = .ok (.newarray .int, 2) := by decide +kernel
theorem dX4_init_14 : decode cX4_init 14 = .ok (.putfield 13, 3) := by decide +kernel
theorem dX4_init_17 : decode cX4_init 17 = .ok (.aload_n 0, 1) := by decide +kernel
theorem dX4_init_18 : decode cX4_init 18 = .ok (.bipush 60, 2) := by decide +kernel
theorem dX4_init_20 : decode cX4_init 20 = .ok (.newarray .int, 2) := by decide +kernel
theorem dX4_init_22 : decode cX4_init 22 = .ok (.putfield 17, 3) := by decide +kernel
theorem dX4_init_25 : decode cX4_init 25 = .ok (.aload_n 0, 1) := by decide +kernel
theorem dX4_init_26 : decode cX4_init 26 = .ok (.bipush 60, 2) := by decide +kernel
theorem dX4_init_28 : decode cX4_init 28 = .ok (.newarray .int, 2) := by decide +kernel
theorem dX4_init_30 : decode cX4_init 30 = .ok (.putfield 20, 3) := by decide +kernel
theorem dX4_init_33 : decode cX4_init 33 = .ok (.aload_n 0, 1) := by decide +kernel
theorem dX4_init_34 : decode cX4_init 34 = .ok (.iconst 1, 1) := by decide +kernel
theorem dX4_init_35 : decode cX4_init 35 = .ok (.putfield 23, 3) := by decide +kernel
theorem dX4_init_38 : decode cX4_init 38 = .ok (.aload_n 0, 1) := by decide +kernel
theorem dX4_init_39 : decode cX4_init 39 = .ok (.bipush 10, 2) := by decide +kernel
theorem dX4_init_41 : decode cX4_init 41 = .ok (.newarray .int, 2) := by decide +kernel
theorem dX4_init_43 : decode cX4_init 43 = .ok (.putfield 26, 3) := by decide +kernel
theorem dX4_init_46 : decode cX4_init 46 = .ok (.aload_n 0, 1) := by decide +kernel
theorem dX4_init_47 : decode cX4_init 47 = .ok (.bipush 10, 2) := by decide +kernel
theorem dX4_init_49 : decode cX4_init 49 = .ok (.newarray .boolean, 2) := by decide +kernel
theorem dX4_init_51 : decode cX4_init 51 = .ok (.putfield 29, 3) := by decide +kernel
theorem dX4_init_54 : decode cX4_init 54 = .ok (.aload_n 0, 1) := by decide +kernel
theorem dX4_init_55 : decode cX4_init 55 = .ok (.bipush 10, 2) := by decide +kernel
theorem dX4_init_57 : decode cX4_init 57 = .ok (.newarray .int, 2) := by decide +kernel
theorem dX4_init_59 : decode cX4_init 59 = .ok (.putfield 33, 3) := by decide +kernel
theorem dX4_init_62 : decode cX4_init 62 = .ok (.aload_n 0, 1) := by decide +kernel
theorem dX4_init_63 : decode cX4_init 63 = .ok (.bipush 10, 2) := by decide +kernel
theorem dX4_init_65 : decode cX4_init 65 = .ok (.newarray .int, 2) := by decide +kernel
theorem dX4_init_67 : decode cX4_init 67 = .ok (.putfield 36, 3) := by decide +kernel
theorem dX4_init_70 : decode cX4_init 70 = .ok (.aload_n 0, 1) := by decide +kernel
theorem dX4_init_71 : decode cX4_init 71 = .ok (.iconst 2, 1) := by decide +kernel
theorem dX4_init_72 : decode cX4_init 72 = .ok (.putfield 39, 3) := by decide +kernel
theorem dX4_init_75 : decode cX4_init 75 = .ok (.aload_n 0, 1) := by decide +kernel
theorem dX4_init_76 : decode cX4_init 76 = .ok (.bipush 60, 2) := by decide +kernel
theorem dX4_init_78 : decode cX4_init 78 = .ok (.newarray .int, 2) := by decide +kernel
theorem dX4_init_80 : decode cX4_init 80 = .ok (.putfield 42, 3) := by decide +kernel
theorem dX4_init_83 : decode cX4_init 83 = .ok (.aload_n 0, 1) := by decide +kernel
theorem dX4_init_84 : decode cX4_init 84 = .ok (.bipush 60, 2) := by decide +kernel
theorem dX4_init_86 : decode cX4_init 86 = .ok (.newarray .int, 2) := by decide +kernel
theorem dX4_init_88 : decode cX4_init 88 = .ok (.putfield 45, 3) := by decide +kernel
theorem dX4_init_91 : decode cX4_init 91 = .ok (.return_, 1) := by decide +kernel
theorem dX4_thrown_0 : decode cX4_thrown 0 = .ok (.aload_n 0, 1) := by decide +kernel
theorem dX4_thrown_1 : decode cX4_thrown 1 = .ok (.getfield 48, 3) := by decide +kernel
theorem dX4_thrown_4 : decode cX4_thrown 4 = .ok (.ireturn, 1) := by decide +kernel
theorem dX4_isIn_0 : decode cX4_isIn 0 = .ok (.iload_n 0, 1) := by decide +kernel
theorem dX4_isIn_1 : decode cX4_isIn 1 = .ok (.iload_n 1, 1) := by decide +kernel
theorem dX4_isIn_2 : decode cX4_isIn 2 = .ok (.if_icmp .lt 12, 3) := by decide +kernel
theorem dX4_isIn_5 : decode cX4_isIn 5 = .ok (.iload_n 0, 1) := by decide +kernel
theorem dX4_isIn_6 : decode cX4_isIn 6 = .ok (.iload_n 2, 1) := by decide +kernel
theorem dX4_isIn_7 : decode cX4_isIn 7 = .ok (.if_icmp .gt 7, 3) := by decide +kernel
theorem dX4_isIn_10 : decode cX4_isIn 10 = .ok (.iconst 1, 1) := by decide +kernel
theorem dX4_isIn_11 : decode cX4_isIn 11 = .ok (.goto 4, 3) := by decide +kernel
theorem dX4_isIn_14 : decode cX4_isIn 14 = .ok (.iconst 0, 1) := by decide +kernel
theorem dX4_isIn_15 : decode cX4_isIn 15 = .ok (.ireturn, 1) := by decide +kernel
theorem dX4_floored_0 : decode cX4_floored 0 = .ok (.lload_n 0, 1) := by decide +kernel
theorem dX4_floored_1 : decode cX4_floored 1 = .ok (.lload_n 2, 1) := by decide +kernel
theorem dX4_floored_2 : decode cX4_floored 2 = .ok (.ldiv, 1) := by decide +kernel
theorem dX4_floored_3 : decode cX4_floored 3 = .ok (.lstore 4, 2) := by decide +kernel
theorem dX4_floored_5 : decode cX4_floored 5 = .ok (.lload 4, 2) := by decide +kernel
theorem dX4_floored_7 : decode cX4_floored 7 = .ok (.lload_n 2, 1) := by decide +kernel
theorem dX4_floored_8 : decode cX4_floored 8 = .ok (.lmul, 1) := by decide +kernel
theorem dX4_floored_9 : decode cX4_floored 9 = .ok (.lload_n 0, 1) := by decide +kernel
theorem dX4_floored_10 : decode cX4_floored 10 = .ok (.lcmp, 1) := by decide +kernel
theorem dX4_floored_11 : decode cX4_floored 11 = .ok (.ifCond .le 10, 3) := by decide +kernel
theorem dX4_floored_14 : decode cX4_floored 14 = .ok (.lload 4, 2) := by decide +kernel
theorem dX4_floored_16 : decode cX4_floored 16 = .ok (.lconst 1, 1) := by decide +kernel
theorem dX4_floored_17 : decode cX4_floored 17 = .ok (.lsub, 1) := by decide +kernel
theorem dX4_floored_18 : decode cX4_floored 18 = .ok (.goto 5, 3) := by decide +kernel
theorem dX4_floored_21 : decode cX4_floored 21 = .ok (.lload 4, 2) := by decide +kernel
theorem dX4_floored_23 : decode cX4_floored 23 = .ok (.lreturn, 1) := by decide +kernel
theorem dX4_rounded_0 : decode cX4_rounded 0 = .ok (.ldc2_w 51, 3) := by decide +kernel
theorem dX4_rounded_3 : decode cX4_rounded 3 = .ok (.lload_n 0, 1) := by decide +kernel
theorem dX4_rounded_4 : decode cX4_rounded 4 = .ok (.lmul, 1) := by decide +kernel
theorem dX4_rounded_5 : decode cX4_rounded 5 = .ok (.lload_n 2, 1) := by decide +kernel
theorem dX4_rounded_6 : decode cX4_rounded 6 = .ok (.ladd, 1) := by decide +kernel
theorem dX4_rounded_7 : decode cX4_rounded 7 = .ok (.ldc2_w 51, 3) := by decide +kernel
theorem dX4_rounded_10 : decode cX4_rounded 10 = .ok (.lload_n 2, 1) := by decide +kernel
theorem dX4_rounded_11 : decode cX4_rounded 11 = .ok (.lmul, 1) := by decide +kernel
theorem dX4_rounded_12 : decode cX4_rounded 12 = .ok (.invokestatic 53, 3) := by decide +kernel
theorem dX4_rounded_15 : decode cX4_rounded 15 = .ok (.l2i, 1) := by decide +kernel
theorem dX4_rounded_16 : decode cX4_rounded 16 = .ok (.ireturn, 1) := by decide +kernel
theorem dX4_factor_0 : decode cX4_factor 0 = .ok (.iload_n 0, 1) := by decide +kernel
theorem dX4_factor_1 : decode cX4_factor 1 = .ok (.iconst 2, 1) := by decide +kernel
theorem dX4_factor_2 : decode cX4_factor 2 = .ok (.if_icmp .ne 7, 3) := by decide +kernel
theorem dX4_factor_5 : decode cX4_factor 5 = .ok (.iload_n 1, 1) := by decide +kernel
theorem dX4_factor_6 : decode cX4_factor 6 = .ok (.goto 33, 3) := by decide +kernel
theorem dX4_factor_9 : decode cX4_factor 9 = .ok (.iload_n 0, 1) := by decide +kernel
theorem dX4_factor_10 : decode cX4_factor 10 = .ok (.iconst 3, 1) := by decide +kernel
theorem dX4_factor_11 : decode cX4_factor 11 = .ok (.if_icmp .ne 7, 3) := by decide +kernel
theorem dX4_factor_14 : decode cX4_factor 14 = .ok (.iload_n 2, 1) := by decide +kernel
theorem dX4_factor_15 : decode cX4_factor 15 = .ok (.goto 24, 3) := by decide +kernel
theorem dX4_factor_18 : decode cX4_factor 18 = .ok (.iload_n 0, 1) := by decide +kernel
theorem dX4_factor_19 : decode cX4_factor 19 = .ok (.iconst 4, 1) := by decide +kernel
theorem dX4_factor_20 : decode cX4_factor 20 = .ok (.if_icmp .ne 7, 3) := by decide +kernel
theorem dX4_factor_23 : decode cX4_factor 23 = .ok (.iload_n 3, 1) := by decide +kernel
theorem dX4_factor_24 : decode cX4_factor 24 = .ok (.goto 15, 3) := by decide +kernel
theorem dX4_factor_27 : decode cX4_factor 27 = .ok (.iload_n 0, 1) := by decide +kernel
theorem dX4_factor_28 : decode cX4_factor 28 = .ok (.iconst 5, 1) := by decide +kernel
theorem dX4_factor_29 : decode cX4_factor 29 = .ok (.if_icmp .ne 8, 3) := by decide +kernel
theorem dX4_factor_32 : decode cX4_factor 32 = .ok (.iload 4, 2) := by decide +kernel
theorem dX4_factor_34 : decode cX4_factor 34 = .ok (.goto 5, 3) := by decide +kernel
theorem dX4_factor_37 : decode cX4_factor 37 = .ok (.iload 5, 2) := by decide +kernel
theorem dX4_factor_39 : decode cX4_factor 39 = .ok (.ireturn, 1) := by decide +kernel
theorem dX4_begin_0 : decode cX4_begin 0 = .ok (.aload_n 0, 1) := by decide +kernel
theorem dX4_begin_1 : decode cX4_begin 1 = .ok (.iload_n 1, 1) := by decide +kernel
theorem dX4_begin_2 : decode cX4_begin 2 = .ok (.iconst 2, 1) := by decide +kernel
theorem dX4_begin_3 : decode cX4_begin 3 = .ok (.bipush 6, 2) := by decide +kernel
theorem dX4_begin_5 : decode cX4_begin 5 = .ok (.invokestatic 57, 3) := by decide +kernel
theorem dX4_begin_8 : decode cX4_begin 8 = .ok (.ifCond .eq 7, 3) := by decide +kernel
theorem dX4_begin_11 : decode cX4_begin 11 = .ok (.iconst 0, 1) := by decide +kernel
theorem dX4_begin_12 : decode cX4_begin 12 = .ok (.goto 4, 3) := by decide +kernel
theorem dX4_begin_15 : decode cX4_begin 15 = .ok (.iconst 1, 1) := by decide +kernel
theorem dX4_begin_16 : decode cX4_begin 16 = .ok (.putfield 48, 3) := by decide +kernel
theorem dX4_begin_19 : decode cX4_begin 19 = .ok (.aload_n 0, 1) := by decide +kernel
theorem dX4_begin_20 : decode cX4_begin 20 = .ok (.getfield 48, 3) := by decide +kernel
theorem dX4_begin_23 : decode cX4_begin 23 = .ok (.ifCond .le 4, 3) := by decide +kernel
theorem dX4_begin_26 : decode cX4_begin 26 = .ok (.return_, 1) := by decide +kernel
theorem dX4_begin_27 : decode cX4_begin 27 = .ok (.aload_n 0, 1) := by decide +kernel
theorem dX4_begin_28 : decode cX4_begin 28 = .ok (.iload_n 1, 1) := by decide +kernel
theorem dX4_begin_29 : decode cX4_begin 29 = .ok (.putfield 7, 3) := by decide +kernel
theorem dX4_begin_32 : decode cX4_begin 32 = .ok (.aload_n 0, 1) := by decide +kernel
theorem dX4_begin_33 : decode cX4_begin 33 = .ok (.iconst 0, 1) := by decide +kernel
theorem dX4_begin_34 : decode cX4_begin 34 = .ok (.putfield 61, 3) := by decide +kernel
theorem dX4_begin_37 : decode cX4_begin 37 = .ok (.aload_n 0, 1) := by decide +kernel
theorem dX4_begin_38 : decode cX4_begin 38 = .ok (.iconst 0, 1) := by decide +kernel
theorem dX4_begin_39 : decode cX4_begin 39 = .ok (.putfield 64, 3) := by decide +kernel
theorem dX4_begin_42 : decode cX4_begin 42 = .ok (.aload_n 0, 1) := by decide +kernel
theorem dX4_begin_43 : decode cX4_begin 43 = .ok (.iconst 1, 1) := by decide +kernel
theorem dX4_begin_44 : decode cX4_begin 44 = .ok (.putfield 23, 3) := by decide +kernel
theorem dX4_begin_47 : decode cX4_begin 47 = .ok (.aload_n 0, 1) := by decide +kernel
theorem dX4_begin_48 : decode cX4_begin 48 = .ok (.iconst 2, 1) := by decide +kernel
theorem dX4_begin_49 : decode cX4_begin 49 = .ok (.putfield 39, 3) := by decide +kernel
theorem dX4_begin_52 : decode cX4_begin 52 = .ok (.iconst 0, 1) := by decide +kernel
theorem dX4_begin_53 : decode cX4_begin 53 = .ok (.istore_n 2, 1) := by decide +kernel
theorem dX4_begin_54 : decode cX4_begin 54 = .ok (.iload_n 2, 1) := by decide +kernel
theorem dX4_begin_55 : decode cX4_begin 55 = .ok (.bipush 10, 2) := by decide +kernel
theorem dX4_begin_57 : decode cX4_begin 57 = .ok (.if_icmp .ge 23, 3) := by decide +kernel
theorem dX4_begin_60 : decode cX4_begin 60 = .ok (.aload_n 0, 1) := by decide +kernel
theorem dX4_begin_61 : decode cX4_begin 61 = .ok (.getfield 26, 3) := by decide +kernel
theorem dX4_begin_64 : decode cX4_begin 64 = .ok (.iload_n 2, 1) := by decide +kernel
theorem dX4_begin_65 : decode cX4_begin 65 = .ok (.iconst 0, 1) := by decide +kernel
theorem dX4_begin_66 : decode cX4_begin 66 = .ok (.iastore, 1) := by decide +kernel
theorem dX4_begin_67 : decode cX4_begin 67 = .ok (.aload_n 0, 1) := by decide +kernel
theorem dX4_begin_68 : decode cX4_begin 68 = .ok (.getfield 29, 3) := by decide +kernel
theorem dX4_begin_71 : decode cX4_begin 71 = .ok (.iload_n 2, 1) := by decide +kernel
theorem dX4_begin_72 : decode cX4_begin 72 = .ok (.iconst 0, 1) := by decide +kernel
theorem dX4_begin_73 : decode cX4_begin 73 = .ok (.bastore, 1) := by decide +kernel
theorem dX4_begin_74 : decode cX4_begin 74 = .ok (.iinc 2 1, 3) := by decide +kernel
theorem dX4_begin_77 : decode cX4_begin 77 = .ok (.goto (-23), 3) := by decide +kernel
theorem dX4_begin_80 : decode cX4_begin 80 = .ok (.return_, 1) := by decide +kernel
theorem dX4_put_0 : decode cX4_put 0 = .ok (.aload_n 0, 1) := by decide +kernel
theorem dX4_put_1 : decode cX4_put 1 = .ok (.iload_n 1, 1) := by decide +kernel
theorem dX4_put_2 : decode cX4_put 2 = .ok (.sipush (-9999), 3) := by decide +kernel
theorem dX4_put_5 : decode cX4_put 5 = .ok (.sipush 9999, 3) := by decide +kernel
theorem dX4_put_8 : decode cX4_put 8 = .ok (.invokestatic 57, 3) := by decide +kernel
theorem dX4_put_11 : decode cX4_put 11 = .ok (.ifCond .ne 7, 3) := by decide +kernel
theorem dX4_put_14 : decode cX4_put 14 = .ok (.iconst 1, 1) := by decide +kernel
theorem dX4_put_15 : decode cX4_put 15 = .ok (.goto 17, 3) := by decide +kernel
theorem dX4_put_18 : decode cX4_put 18 = .ok (.aload_n 0, 1) := by decide +kernel
theorem dX4_put_19 : decode cX4_put 19 = .ok (.getfield 61, 3) := by decide +kernel
theorem dX4_put_22 : decode cX4_put 22 = .ok (.bipush 60, 2) := by decide +kernel
theorem dX4_put_24 : decode cX4_put 24 = .ok (.if_icmp .ne 7, 3) := by decide +kernel
theorem dX4_put_27 : decode cX4_put 27 = .ok (.iconst 2, 1) := by decide +kernel
theorem dX4_put_28 : decode cX4_put 28 = .ok (.goto 4, 3) := by decide +kernel
theorem dX4_put_31 : decode cX4_put 31 = .ok (.iconst 0, 1) := by decide +kernel
theorem dX4_put_32 : decode cX4_put 32 = .ok (.putfield 48, 3) := by decide +kernel
theorem dX4_put_35 : decode cX4_put 35 = .ok (.aload_n 0, 1) := by decide +kernel
theorem dX4_put_36 : decode cX4_put 36 = .ok (.getfield 48, 3) := by decide +kernel
theorem dX4_put_39 : decode cX4_put 39 = .ok (.ifCond .le 5, 3) := by decide +kernel
theorem dX4_put_42 : decode cX4_put 42 = .ok (.iconst 0, 1) := by decide +kernel
theorem dX4_put_43 : decode cX4_put 43 = .ok (.ireturn, 1) := by decide +kernel
theorem dX4_put_44 : decode cX4_put 44 = .ok (.aload_n 0, 1) := by decide +kernel
theorem dX4_put_45 : decode cX4_put 45 = .ok (.aload_n 0, 1) := by decide +kernel
theorem dX4_put_46 : decode cX4_put 46 = .ok (.getfield 64, 3) := by decide +kernel
theorem dX4_put_49 : decode cX4_put 49 = .ok (.ifCond .ne 7, 3) := by decide +kernel
theorem dX4_put_52 : decode cX4_put 52 = .ok (.iload_n 1, 1) := by decide +kernel
theorem dX4_put_53 : decode cX4_put 53 = .ok (.goto 9, 3) := by decide +kernel
theorem dX4_put_56 : decode cX4_put 56 = .ok (.aload_n 0, 1) := by decide +kernel
theorem dX4_put_57 : decode cX4_put 57 = .ok (.getfield 67, 3) := by decide +kernel
theorem dX4_put_60 : decode cX4_put 60 = .ok (.iload_n 1, 1) := by decide +kernel
theorem dX4_put_61 : decode cX4_put 61 = .ok (.iadd, 1) := by decide +kernel
theorem dX4_put_62 : decode cX4_put 62 = .ok (.putfield 67, 3) := by decide +kernel
theorem dX4_put_65 : decode cX4_put 65 = .ok (.aload_n 0, 1) := by decide +kernel
theorem dX4_put_66 : decode cX4_put 66 = .ok (.aload_n 0, 1) := by decide +kernel
theorem dX4_put_67 : decode cX4_put 67 = .ok (.getfield 64, 3) := by decide +kernel
theorem dX4_put_70 : decode cX4_put 70 = .ok (.ifCond .eq 11, 3) := by decide +kernel
theorem dX4_put_73 : decode cX4_put 73 = .ok (.iload_n 1, 1) := by decide +kernel
theorem dX4_put_74 : decode cX4_put 74 = .ok (.aload_n 0, 1) := by decide +kernel
theorem dX4_put_75 : decode cX4_put 75 = .ok (.getfield 70, 3) := by decide +kernel
theorem dX4_put_78 : decode cX4_put 78 = .ok (.if_icmp .ge 7, 3) := by decide +kernel
theorem dX4_put_81 : decode cX4_put 81 = .ok (.iload_n 1, 1) := by decide +kernel
theorem dX4_put_82 : decode cX4_put 82 = .ok (.goto 7, 3) := by decide +kernel
theorem dX4_put_85 : decode cX4_put 85 = .ok (.aload_n 0, 1) := by decide +kernel
theorem dX4_put_86 : decode cX4_put 86 = .ok (.getfield 70, 3) := by decide +kernel
theorem dX4_put_89 : decode cX4_put 89 = .ok (.putfield 70, 3) := by decide +kernel
theorem dX4_put_92 : decode cX4_put 92 = .ok (.aload_n 0, 1) := by decide +kernel
theorem dX4_put_93 : decode cX4_put 93 = .ok (.aload_n 0, 1) := by decide +kernel
theorem dX4_put_94 : decode cX4_put 94 = .ok (.getfield 64, 3) := by decide +kernel
theorem dX4_put_97 : decode cX4_put 97 = .ok (.ifCond .eq 11, 3) := by decide +kernel
theorem dX4_put_100 : decode cX4_put 100 = .ok (.iload_n 1, 1) := by decide +kernel
theorem dX4_put_101 : decode cX4_put 101 = .ok (.aload_n 0, 1) := by decide +kernel
theorem dX4_put_102 : decode cX4_put 102 = .ok (.getfield 73, 3) := by decide +kernel
theorem dX4_put_105 : decode cX4_put 105 = .ok (.if_icmp .le 7, 3) := by decide +kernel
theorem dX4_put_108 : decode cX4_put 108 = .ok (.iload_n 1, 1) := by decide +kernel
theorem dX4_put_109 : decode cX4_put 109 = .ok (.goto 7, 3) := by decide +kernel
theorem dX4_put_112 : decode cX4_put 112 = .ok (.aload_n 0, 1) := by decide +kernel
theorem dX4_put_113 : decode cX4_put 113 = .ok (.getfield 73, 3) := by decide +kernel
theorem dX4_put_116 : decode cX4_put 116 = .ok (.putfield 73, 3) := by decide +kernel
theorem dX4_put_119 : decode cX4_put 119 = .ok (.aload_n 0, 1) := by decide +kernel
theorem dX4_put_120 : decode cX4_put 120 = .ok (.dup, 1) := by decide +kernel
theorem dX4_put_121 : decode cX4_put 121 = .ok (.getfield 64, 3) := by decide +kernel
theorem dX4_put_124 : decode cX4_put 124 = .ok (.iconst 1, 1) := by decide +kernel
theorem dX4_put_125 : decode cX4_put 125 = .ok (.iadd, 1) := by decide +kernel
theorem dX4_put_126 : decode cX4_put 126 = .ok (.putfield 64, 3) := by decide +kernel
theorem dX4_put_129 : decode cX4_put 129 = .ok (.aload_n 0, 1) := by decide +kernel
theorem dX4_put_130 : decode cX4_put 130 = .ok (.getfield 64, 3) := by decide +kernel
theorem dX4_put_133 : decode cX4_put 133 = .ok (.aload_n 0, 1) := by decide +kernel
theorem dX4_put_134 : decode cX4_put 134 = .ok (.getfield 7, 3) := by decide +kernel
theorem dX4_put_137 : decode cX4_put 137 = .ok (.if_icmp .ge 5, 3) := by decide +kernel
theorem dX4_put_140 : decode cX4_put 140 = .ok (.iconst 0, 1) := by decide +kernel
theorem dX4_put_141 : decode cX4_put 141 = .ok (.ireturn, 1) := by decide +kernel
theorem dX4_put_142 : decode cX4_put 142 = .ok (.aload_n 0, 1) := by decide +kernel
theorem dX4_put_143 : decode cX4_put 143 = .ok (.getfield 13, 3) := by decide +kernel
theorem dX4_put_146 : decode cX4_put 146 = .ok (.aload_n 0, 1) := by decide +kernel
theorem dX4_put_147 : decode cX4_put 147 = .ok (.getfield 61, 3) := by decide +kernel
theorem dX4_put_150 : decode cX4_put 150 = .ok (.aload_n 0, 1) := by decide +kernel
theorem dX4_put_151 : decode cX4_put 151 = .ok (.getfield 67, 3) := by decide +kernel
theorem dX4_put_154 : decode cX4_put 154 = .ok (.iastore, 1) := by decide +kernel
theorem dX4_put_155 : decode cX4_put 155 = .ok (.aload_n 0, 1) := by decide +kernel
theorem dX4_put_156 : decode cX4_put 156 = .ok (.getfield 17, 3) := by decide +kernel
theorem dX4_put_159 : decode cX4_put 159 = .ok (.aload_n 0, 1) := by decide +kernel
theorem dX4_put_160 : decode cX4_put 160 = .ok (.getfield 61, 3) := by decide +kernel
theorem dX4_put_163 : decode cX4_put 163 = .ok (.aload_n 0, 1) := by decide +kernel
theorem dX4_put_164 : decode cX4_put 164 = .ok (.getfield 73, 3) := by decide +kernel
theorem dX4_put_167 : decode cX4_put 167 = .ok (.aload_n 0, 1) := by decide +kernel
theorem dX4_put_168 : decode cX4_put 168 = .ok (.getfield 70, 3) := by decide +kernel
theorem dX4_put_171 : decode cX4_put 171 = .ok (.isub, 1) := by decide +kernel
theorem dX4_put_172 : decode cX4_put 172 = .ok (.iastore, 1) := by decide +kernel
theorem dX4_put_173 : decode cX4_put 173 = .ok (.aload_n 0, 1) := by decide +kernel
theorem dX4_put_174 : decode cX4_put 174 = .ok (.getfield 20, 3) := by decide +kernel
theorem dX4_put_177 : decode cX4_put 177 = .ok (.aload_n 0, 1) := by decide +kernel
theorem dX4_put_178 : decode cX4_put 178 = .ok (.getfield 61, 3) := by decide +kernel
theorem dX4_put_181 : decode cX4_put 181 = .ok (.iconst 0, 1) := by decide +kernel
theorem dX4_put_182 : decode cX4_put 182 = .ok (.iastore, 1) := by decide +kernel
theorem dX4_put_183 : decode cX4_put 183 = .ok (.aload_n 0, 1) := by decide +kernel
theorem dX4_put_184 : decode cX4_put 184 = .ok (.dup, 1) := by decide +kernel
theorem dX4_put_185 : decode cX4_put 185 = .ok (.getfield 61, 3) := by decide +kernel
theorem dX4_put_188 : decode cX4_put 188 = .ok (.iconst 1, 1) := by decide +kernel
theorem dX4_put_189 : decode cX4_put 189 = .ok (.iadd, 1) := by decide +kernel
theorem dX4_put_190 : decode cX4_put 190 = .ok (.putfield 61, 3) := by decide +kernel
theorem dX4_put_193 : decode cX4_put 193 = .ok (.aload_n 0, 1) := by decide +kernel
theorem dX4_put_194 : decode cX4_put 194 = .ok (.iconst 0, 1) := by decide +kernel
theorem dX4_put_195 : decode cX4_put 195 = .ok (.putfield 64, 3) := by decide +kernel
theorem dX4_put_198 : decode cX4_put 198 = .ok (.iconst 1, 1) := by decide +kernel
theorem dX4_put_199 : decode cX4_put 199 = .ok (.ireturn, 1) := by decide +kernel
theorem dX4_newPhase_0 : decode cX4_newPhase 0 = .ok (.aload_n 0, 1) := by decide +kernel
theorem dX4_newPhase_1 : decode cX4_newPhase 1 = .ok (.aload_n 0, 1) := by decide +kernel
theorem dX4_newPhase_2 : decode cX4_newPhase 2 = .ok (.getfield 26, 3) := by decide +kernel
theorem dX4_newPhase_5 : decode cX4_newPhase 5 = .ok (.aload_n 0, 1) := by decide +kernel
theorem dX4_newPhase_6 : decode cX4_newPhase 6 = .ok (.getfield 23, 3) := by decide +kernel
theorem dX4_newPhase_9 : decode cX4_newPhase 9 = .ok (.iconst 1, 1) := by decide +kernel
theorem dX4_newPhase_10 : decode cX4_newPhase 10 = .ok (.isub, 1) := by decide +kernel
theorem dX4_newPhase_11 : decode cX4_newPhase 11 = .ok (.iaload, 1) := by decide +kernel
theorem dX4_newPhase_12 : decode cX4_newPhase 12 = .ok (.aload_n 0, 1) := by decide +kernel
theorem dX4_newPhase_13 : decode cX4_newPhase 13 = .ok (.getfield 61, 3) := by decide +kernel
theorem dX4_newPhase_16 : decode cX4_newPhase 16 = .ok (.if_icmp .eq 19, 3) := by decide +kernel
theorem dX4_newPhase_19 : decode cX4_newPhase 19 = .ok (.aload_n 0, 1) := by decide +kernel
theorem dX4_newPhase_20 : decode cX4_newPhase 20 = .ok (.getfield 64, 3) := by decide +kernel
theorem dX4_newPhase_23 : decode cX4_newPhase 23 = .ok (.ifCond .gt 12, 3) := by decide +kernel
theorem dX4_newPhase_26 : decode cX4_newPhase 26 = .ok (.aload_n 0, 1) := by decide +kernel
theorem dX4_newPhase_27 : decode cX4_newPhase 27 = .ok (.getfield 23, 3) := by decide +kernel
theorem dX4_newPhase_30 : decode cX4_newPhase 30 = .ok (.bipush 10, 2) := by decide +kernel
theorem dX4_newPhase_32 : decode cX4_newPhase 32 = .ok (.if_icmp .ne 7, 3) := by decide +kernel
theorem dX4_newPhase_35 : decode cX4_newPhase 35 = .ok (.iconst 1, 1) := by decide +kernel
theorem dX4_newPhase_36 : decode cX4_newPhase 36 = .ok (.goto 4, 3) := by decide +kernel
theorem dX4_newPhase_39 : decode cX4_newPhase 39 = .ok (.iconst 0, 1) := by decide +kernel
theorem dX4_newPhase_40 : decode cX4_newPhase 40 = .ok (.putfield 48, 3) := by decide +kernel
theorem dX4_newPhase_43 : decode cX4_newPhase 43 = .ok (.aload_n 0, 1) := by decide +kernel
theorem dX4_newPhase_44 : decode cX4_newPhase 44 = .ok (.getfield 48, 3) := by decide +kernel
theorem dX4_newPhase_47 : decode cX4_newPhase 47 = .ok (.ifCond .le 5, 3) := by decide +kernel
theorem dX4_newPhase_50 : decode cX4_newPhase 50 = .ok (.iconst 0, 1) := by decide +kernel
theorem dX4_newPhase_51 : decode cX4_newPhase 51 = .ok (.ireturn, 1) := by decide +kernel
theorem dX4_newPhase_52 : decode cX4_newPhase 52 = .ok (.aload_n 0, 1) := by decide +kernel
theorem dX4_newPhase_53 : decode cX4_newPhase 53 = .ok (.getfield 26, 3) := by decide +kernel
theorem dX4_newPhase_56 : decode cX4_newPhase 56 = .ok (.aload_n 0, 1) := by decide +kernel
theorem dX4_newPhase_57 : decode cX4_newPhase 57 = .ok (.getfield 23, 3) := by decide +kernel
theorem dX4_newPhase_60 : decode cX4_newPhase 60 = .ok (.aload_n 0, 1) := by decide +kernel
theorem dX4_newPhase_61 : decode cX4_newPhase 61 = .ok (.getfield 61, 3) := by decide +kernel
theorem dX4_newPhase_64 : decode cX4_newPhase 64 = .ok (.iastore, 1) := by decide +kernel
theorem dX4_newPhase_65 : decode cX4_newPhase 65 = .ok (.aload_n 0, 1) := by decide +kernel
theorem dX4_newPhase_66 : decode cX4_newPhase 66 = .ok (.getfield 29, 3) := by decide +kernel
theorem dX4_newPhase_69 : decode cX4_newPhase 69 = .ok (.aload_n 0, 1) := by decide +kernel
theorem dX4_newPhase_70 : decode cX4_newPhase 70 = .ok (.getfield 23, 3) := by decide +kernel
theorem dX4_newPhase_73 : decode cX4_newPhase 73 = .ok (.iconst 0, 1) := by decide +kernel
theorem dX4_newPhase_74 : decode cX4_newPhase 74 = .ok (.bastore, 1) := by decide +kernel
theorem dX4_newPhase_75 : decode cX4_newPhase 75 = .ok (.aload_n 0, 1) := by decide +kernel
theorem dX4_newPhase_76 : decode cX4_newPhase 76 = .ok (.dup, 1) := by decide +kernel
theorem dX4_newPhase_77 : decode cX4_newPhase 77 = .ok (.getfield 23, 3) := by decide +kernel
theorem dX4_newPhase_80 : decode cX4_newPhase 80 = .ok (.iconst 1, 1) := by decide +kernel
theorem dX4_newPhase_81 : decode cX4_newPhase 81 = .ok (.iadd, 1) := by decide +kernel
theorem dX4_newPhase_82 : decode cX4_newPhase 82 = .ok (.putfield 23, 3) := by decide +kernel
theorem dX4_newPhase_85 : decode cX4_newPhase 85 = .ok (.aload_n 0, 1) := by decide +kernel
theorem dX4_newPhase_86 : decode cX4_newPhase 86 = .ok (.getfield 23, 3) := by decide +kernel
theorem dX4_newPhase_89 : decode cX4_newPhase 89 = .ok (.iconst 1, 1) := by decide +kernel
theorem dX4_newPhase_90 : decode cX4_newPhase 90 = .ok (.isub, 1) := by decide +kernel
theorem dX4_newPhase_91 : decode cX4_newPhase 91 = .ok (.ireturn, 1) := by decide +kernel
theorem dX4_phase_0 : decode cX4_phase 0 = .ok (.iconst 0, 1) := by decide +kernel
theorem dX4_phase_1 : decode cX4_phase 1 = .ok (.istore_n 2, 1) := by decide +kernel
theorem dX4_phase_2 : decode cX4_phase 2 = .ok (.iconst 0, 1) := by decide +kernel
theorem dX4_phase_3 : decode cX4_phase 3 = .ok (.istore_n 3, 1) := by decide +kernel
theorem dX4_phase_4 : decode cX4_phase 4 = .ok (.iload_n 3, 1) := by decide +kernel
theorem dX4_phase_5 : decode cX4_phase 5 = .ok (.aload_n 0, 1) := by decide +kernel
theorem dX4_phase_6 : decode cX4_phase 6 = .ok (.getfield 23, 3) := by decide +kernel
theorem dX4_phase_9 : decode cX4_phase 9 = .ok (.if_icmp .ge 25, 3) := by decide +kernel
theorem dX4_phase_12 : decode cX4_phase 12 = .ok (.aload_n 0, 1) := by decide +kernel
theorem dX4_phase_13 : decode cX4_phase 13 = .ok (.getfield 26, 3) := by decide +kernel
theorem dX4_phase_16 : decode cX4_phase 16 = .ok (.iload_n 3, 1) := by decide +kernel
theorem dX4_phase_17 : decode cX4_phase 17 = .ok (.iaload, 1) := by decide +kernel
theorem dX4_phase_18 : decode cX4_phase 18 = .ok (.iload_n 1, 1) := by decide +kernel
theorem dX4_phase_19 : decode cX4_phase 19 = .ok (.if_icmp .gt 7, 3) := by decide +kernel
theorem dX4_phase_22 : decode cX4_phase 22 = .ok (.iload_n 3, 1) := by decide +kernel
theorem dX4_phase_23 : decode cX4_phase 23 = .ok (.goto 4, 3) := by decide +kernel
theorem dX4_phase_26 : decode cX4_phase 26 = .ok (.iload_n 2, 1) := by decide +kernel
theorem dX4_phase_27 : decode cX4_phase 27 = .ok (.istore_n 2, 1) := by decide +kernel
theorem dX4_phase_28 : decode cX4_phase 28 = .ok (.iinc 3 1, 3) := by decide +kernel
theorem dX4_phase_31 : decode cX4_phase 31 = .ok (.goto (-27), 3) := by decide +kernel
theorem dX4_phase_34 : decode cX4_phase 34 = .ok (.iload_n 2, 1) := by decide +kernel
theorem dX4_phase_35 : decode cX4_phase 35 = .ok (.ireturn, 1) := by decide +kernel
theorem dX4_laysPoints_0 : decode cX4_laysPoints 0 = .ok (.aload_n 0, 1) := by decide +kernel
theorem dX4_laysPoints_1 : decode cX4_laysPoints 1 = .ok (.iconst 0, 1) := by decide +kernel
theorem dX4_laysPoints_2 : decode cX4_laysPoints 2 = .ok (.putfield 76, 3) := by decide +kernel
theorem dX4_laysPoints_5 : decode cX4_laysPoints 5 = .ok (.iconst 0, 1) := by decide +kernel
theorem dX4_laysPoints_6 : decode cX4_laysPoints 6 = .ok (.istore_n 3, 1) := by decide +kernel
theorem dX4_laysPoints_7 : decode cX4_laysPoints 7 = .ok (.iload_n 3, 1) := by decide +kernel
theorem dX4_laysPoints_8 : decode cX4_laysPoints 8 = .ok (.iload_n 2, 1) := by decide +kernel
theorem dX4_laysPoints_9 : decode cX4_laysPoints 9 = .ok (.if_icmp .gt 83, 3) := by decide +kernel
theorem dX4_laysPoints_12 : decode cX4_laysPoints 12 = .ok (.iload_n 3, 1) := by decide +kernel
theorem dX4_laysPoints_13 : decode cX4_laysPoints 13 = .ok (.aload_n 0, 1) := by decide +kernel
theorem dX4_laysPoints_14 : decode cX4_laysPoints 14 = .ok (.getfield 61, 3) := by decide +kernel
theorem dX4_laysPoints_17 : decode cX4_laysPoints 17 = .ok (.if_icmp .ge 75, 3) := by decide +kernel
theorem dX4_laysPoints_20 : decode cX4_laysPoints 20 = .ok (.aload_n 0, 1) := by decide +kernel
theorem dX4_laysPoints_21 : decode cX4_laysPoints 21 = .ok (.iload_n 3, 1) := by decide +kernel
theorem dX4_laysPoints_22 : decode cX4_laysPoints 22 = .ok (.invokevirtual 79, 3) := by decide +kernel
theorem dX4_laysPoints_25 : decode cX4_laysPoints 25 = .ok (.iload_n 1, 1) := by decide +kernel
theorem dX4_laysPoints_26 : decode cX4_laysPoints 26 = .ok (.if_icmp .ne 60, 3) := by decide +kernel
theorem dX4_laysPoints_29 : decode cX4_laysPoints 29 = .ok (.aload_n 0, 1) := by decide +kernel
theorem dX4_laysPoints_30 : decode cX4_laysPoints 30 = .ok (.getfield 20, 3) := by decide +kernel
theorem dX4_laysPoints_33 : decode cX4_laysPoints 33 = .ok (.iload_n 3, 1) := by decide +kernel
theorem dX4_laysPoints_34 : decode cX4_laysPoints 34 = .ok (.iaload, 1) := by decide +kernel
theorem dX4_laysPoints_35 : decode cX4_laysPoints 35 = .ok (.ifCond .ne 51, 3) := by decide +kernel
theorem dX4_laysPoints_38 : decode cX4_laysPoints 38 = .ok (.aload_n 0, 1) := by decide +kernel
theorem dX4_laysPoints_39 : decode cX4_laysPoints 39 = .ok (.getfield 42, 3) := by decide +kernel
theorem dX4_laysPoints_42 : decode cX4_laysPoints 42 = .ok (.aload_n 0, 1) := by decide +kernel
theorem dX4_laysPoints_43 : decode cX4_laysPoints 43 = .ok (.getfield 76, 3) := by decide +kernel
theorem dX4_laysPoints_46 : decode cX4_laysPoints 46 = .ok (.iload_n 3, 1) := by decide +kernel
theorem dX4_laysPoints_47 : decode cX4_laysPoints 47 = .ok (.iastore, 1) := by decide +kernel
theorem dX4_laysPoints_48 : decode cX4_laysPoints 48 = .ok (.aload_n 0, 1) := by decide +kernel
theorem dX4_laysPoints_49 : decode cX4_laysPoints 49 = .ok (.getfield 45, 3) := by decide +kernel
theorem dX4_laysPoints_52 : decode cX4_laysPoints 52 = .ok (.aload_n 0, 1) := by decide +kernel
theorem dX4_laysPoints_53 : decode cX4_laysPoints 53 = .ok (.getfield 76, 3) := by decide +kernel
theorem dX4_laysPoints_56 : decode cX4_laysPoints 56 = .ok (.ldc2_w 83, 3) := by decide +kernel
theorem dX4_laysPoints_59 : decode cX4_laysPoints 59 = .ok (.aload_n 0, 1) := by decide +kernel
theorem dX4_laysPoints_60 : decode cX4_laysPoints 60 = .ok (.getfield 13, 3) := by decide +kernel
theorem dX4_laysPoints_63 : decode cX4_laysPoints 63 = .ok (.iload_n 3, 1) := by decide +kernel
theorem dX4_laysPoints_64 : decode cX4_laysPoints 64 = .ok (.iaload, 1) := by decide +kernel
theorem dX4_laysPoints_65 : decode cX4_laysPoints 65 = .ok (.i2l, 1) := by decide +kernel
theorem dX4_laysPoints_66 : decode cX4_laysPoints 66 = .ok (.lmul, 1) := by decide +kernel
theorem dX4_laysPoints_67 : decode cX4_laysPoints 67 = .ok (.aload_n 0, 1) := by decide +kernel
theorem dX4_laysPoints_68 : decode cX4_laysPoints 68 = .ok (.getfield 7, 3) := by decide +kernel
theorem dX4_laysPoints_71 : decode cX4_laysPoints 71 = .ok (.i2l, 1) := by decide +kernel
theorem dX4_laysPoints_72 : decode cX4_laysPoints 72 = .ok (.invokestatic 85, 3) := by decide +kernel
theorem dX4_laysPoints_75 : decode cX4_laysPoints 75 = .ok (.iastore, 1) := by decide +kernel
theorem dX4_laysPoints_76 : decode cX4_laysPoints 76 = .ok (.aload_n 0, 1) := by decide +kernel
theorem dX4_laysPoints_77 : decode cX4_laysPoints 77 = .ok (.dup, 1) := by decide +kernel
theorem dX4_laysPoints_78 : decode cX4_laysPoints 78 = .ok (.getfield 76, 3) := by decide +kernel
theorem dX4_laysPoints_81 : decode cX4_laysPoints 81 = .ok (.iconst 1, 1) := by decide +kernel
theorem dX4_laysPoints_82 : decode cX4_laysPoints 82 = .ok (.iadd, 1) := by decide +kernel
theorem dX4_laysPoints_83 : decode cX4_laysPoints 83 = .ok (.putfield 76, 3) := by decide +kernel
theorem dX4_laysPoints_86 : decode cX4_laysPoints 86 = .ok (.iinc 3 1, 3) := by decide +kernel
theorem dX4_laysPoints_89 : decode cX4_laysPoints 89 = .ok (.goto (-82), 3) := by decide +kernel
theorem dX4_laysPoints_92 : decode cX4_laysPoints 92 = .ok (.return_, 1) := by decide +kernel
theorem dX4_laysLimits_0 : decode cX4_laysLimits 0 = .ok (.aload_n 0, 1) := by decide +kernel
theorem dX4_laysLimits_1 : decode cX4_laysLimits 1 = .ok (.iload_n 1, 1) := by decide +kernel
theorem dX4_laysLimits_2 : decode cX4_laysLimits 2 = .ok (.bipush 59, 2) := by decide +kernel
theorem dX4_laysLimits_4 : decode cX4_laysLimits 4 = .ok (.invokevirtual 89, 3) := by decide +kernel
theorem dX4_laysLimits_7 : decode cX4_laysLimits 7 = .ok (.lconst 0, 1) := by decide +kernel
theorem dX4_laysLimits_8 : decode cX4_laysLimits 8 = .ok (.lstore_n 2, 1) := by decide +kernel
theorem dX4_laysLimits_9 : decode cX4_laysLimits 9 = .ok (.lconst 0, 1) := by decide +kernel
theorem dX4_laysLimits_10 : decode cX4_laysLimits 10 = .ok (.lstore 4, 2) := by decide +kernel
theorem dX4_laysLimits_12 : decode cX4_laysLimits 12 = .ok (.iconst 0, 1) := by decide +kernel
theorem dX4_laysLimits_13 : decode cX4_laysLimits 13 = .ok (.istore 6, 2) := by decide +kernel
theorem dX4_laysLimits_15 : decode cX4_laysLimits 15 = .ok (.iload 6, 2) := by decide +kernel
theorem dX4_laysLimits_17 : decode cX4_laysLimits 17 = .ok (.aload_n 0, 1) := by decide +kernel
theorem dX4_laysLimits_18 : decode cX4_laysLimits 18 = .ok (.getfield 76, 3) := by decide +kernel
theorem dX4_laysLimits_21 : decode cX4_laysLimits 21 = .ok (.if_icmp .ge 43, 3) := by decide +kernel
theorem dX4_laysLimits_24 : decode cX4_laysLimits 24 = .ok (.lload_n 2, 1) := by decide +kernel
theorem dX4_laysLimits_25 : decode cX4_laysLimits 25 = .ok (.aload_n 0, 1) := by decide +kernel
theorem dX4_laysLimits_26 : decode cX4_laysLimits 26 = .ok (.getfield 13, 3) := by decide +kernel
theorem dX4_laysLimits_29 : decode cX4_laysLimits 29 = .ok (.aload_n 0, 1) := by decide +kernel
theorem dX4_laysLimits_30 : decode cX4_laysLimits 30 = .ok (.getfield 42, 3) := by decide +kernel
theorem dX4_laysLimits_33 : decode cX4_laysLimits 33 = .ok (.iload 6, 2) := by decide +kernel
theorem dX4_laysLimits_35 : decode cX4_laysLimits 35 = .ok (.iaload, 1) := by decide +kernel
theorem dX4_laysLimits_36 : decode cX4_laysLimits 36 = .ok (.iaload, 1) := by decide +kernel
theorem dX4_laysLimits_37 : decode cX4_laysLimits 37 = .ok (.i2l, 1) := by decide +kernel
theorem dX4_laysLimits_38 : decode cX4_laysLimits 38 = .ok (.ladd, 1) := by decide +kernel
theorem dX4_laysLimits_39 : decode cX4_laysLimits 39 = .ok (.lstore_n 2, 1) := by decide +kernel
theorem dX4_laysLimits_40 : decode cX4_laysLimits 40 = .ok (.lload 4, 2) := by decide +kernel
theorem dX4_laysLimits_42 : decode cX4_laysLimits 42 = .ok (.aload_n 0, 1) := by decide +kernel
theorem dX4_laysLimits_43 : decode cX4_laysLimits 43 = .ok (.getfield 17, 3) := by decide +kernel
theorem dX4_laysLimits_46 : decode cX4_laysLimits 46 = .ok (.aload_n 0, 1) := by decide +kernel
theorem dX4_laysLimits_47 : decode cX4_laysLimits 47 = .ok (.getfield 42, 3) := by decide +kernel
theorem dX4_laysLimits_50 : decode cX4_laysLimits 50 = .ok (.iload 6, 2) := by decide +kernel
theorem dX4_laysLimits_52 : decode cX4_laysLimits 52 = .ok (.iaload, 1) := by decide +kernel
theorem dX4_laysLimits_53 : decode cX4_laysLimits 53 = .ok (.iaload, 1) := by decide +kernel
theorem dX4_laysLimits_54 : decode cX4_laysLimits 54 = .ok (.i2l, 1) := by decide +kernel
theorem dX4_laysLimits_55 : decode cX4_laysLimits 55 = .ok (.ladd, 1) := by decide +kernel
theorem dX4_laysLimits_56 : decode cX4_laysLimits 56 = .ok (.lstore 4, 2) := by decide +kernel
theorem dX4_laysLimits_58 : decode cX4_laysLimits 58 = .ok (.iinc 6 1, 3) := by decide +kernel
theorem dX4_laysLimits_61 : decode cX4_laysLimits 61 = .ok (.goto (-46), 3) := by decide +kernel
theorem dX4_laysLimits_64 : decode cX4_laysLimits 64 = .ok (.aload_n 0, 1) := by decide +kernel
theorem dX4_laysLimits_65 : decode cX4_laysLimits 65 = .ok (.aload_n 0, 1) := by decide +kernel
theorem dX4_laysLimits_66 : decode cX4_laysLimits 66 = .ok (.getfield 29, 3) := by decide +kernel
theorem dX4_laysLimits_69 : decode cX4_laysLimits 69 = .ok (.iload_n 1, 1) := by decide +kernel
theorem dX4_laysLimits_70 : decode cX4_laysLimits 70 = .ok (.baload, 1) := by decide +kernel
theorem dX4_laysLimits_71 : decode cX4_laysLimits 71 = .ok (.ifCond .ne 10, 3) := by decide +kernel
theorem dX4_laysLimits_74 : decode cX4_laysLimits 74 = .ok (.aload_n 0, 1) := by decide +kernel
theorem dX4_laysLimits_75 : decode cX4_laysLimits 75 = .ok (.getfield 76, 3) := by decide +kernel
theorem dX4_laysLimits_78 : decode cX4_laysLimits 78 = .ok (.ifCond .le 7, 3) := by decide +kernel
theorem dX4_laysLimits_81 : decode cX4_laysLimits 81 = .ok (.iconst 1, 1) := by decide +kernel
theorem dX4_laysLimits_82 : decode cX4_laysLimits 82 = .ok (.goto 4, 3) := by decide +kernel
theorem dX4_laysLimits_85 : decode cX4_laysLimits 85 = .ok (.iconst 0, 1) := by decide +kernel
theorem dX4_laysLimits_86 : decode cX4_laysLimits 86 = .ok (.putfield 93, 3) := by decide +kernel
theorem dX4_laysLimits_89 : decode cX4_laysLimits 89 = .ok (.aload_n 0, 1) := by decide +kernel
theorem dX4_laysLimits_90 : decode cX4_laysLimits 90 = .ok (.getfield 93, 3) := by decide +kernel
theorem dX4_laysLimits_93 : decode cX4_laysLimits 93 = .ok (.ifCond .eq 158, 3) := by decide +kernel
theorem dX4_laysLimits_96 : decode cX4_laysLimits 96 = .ok (.aload_n 0, 1) := by decide +kernel
theorem dX4_laysLimits_97 : decode cX4_laysLimits 97 = .ok (.aload_n 0, 1) := by decide +kernel
theorem dX4_laysLimits_98 : decode cX4_laysLimits 98 = .ok (.getfield 29, 3) := by decide +kernel
theorem dX4_laysLimits_101 : decode cX4_laysLimits 101 = .ok (.iload_n 1, 1) := by decide +kernel
theorem dX4_laysLimits_102 : decode cX4_laysLimits 102 = .ok (.baload, 1) := by decide +kernel
theorem dX4_laysLimits_103 : decode cX4_laysLimits 103 = .ok (.ifCond .eq 12, 3) := by decide +kernel
theorem dX4_laysLimits_106 : decode cX4_laysLimits 106 = .ok (.aload_n 0, 1) := by decide +kernel
theorem dX4_laysLimits_107 : decode cX4_laysLimits 107 = .ok (.getfield 33, 3) := by decide +kernel
theorem dX4_laysLimits_110 : decode cX4_laysLimits 110 = .ok (.iload_n 1, 1) := by decide +kernel
theorem dX4_laysLimits_111 : decode cX4_laysLimits 111 = .ok (.iaload, 1) := by decide +kernel
theorem dX4_laysLimits_112 : decode cX4_laysLimits 112 = .ok (.goto 22, 3) := by decide +kernel
theorem dX4_laysLimits_115 : decode cX4_laysLimits 115 = .ok (.ldc2_w 83, 3) := by decide +kernel
theorem dX4_laysLimits_118 : decode cX4_laysLimits 118 = .ok (.lload_n 2, 1) := by decide +kernel
theorem dX4_laysLimits_119 : decode cX4_laysLimits 119 = .ok (.lmul, 1) := by decide +kernel
theorem dX4_laysLimits_120 : decode cX4_laysLimits 120 = .ok (.aload_n 0, 1) := by decide +kernel
theorem dX4_laysLimits_121 : decode cX4_laysLimits 121 = .ok (.getfield 7, 3) := by decide +kernel
theorem dX4_laysLimits_124 : decode cX4_laysLimits 124 = .ok (.i2l, 1) := by decide +kernel
theorem dX4_laysLimits_125 : decode cX4_laysLimits 125 = .ok (.aload_n 0, 1) := by decide +kernel
theorem dX4_laysLimits_126 : decode cX4_laysLimits 126 = .ok (.getfield 76, 3) := by decide +kernel
theorem dX4_laysLimits_129 : decode cX4_laysLimits 129 = .ok (.i2l, 1) := by decide +kernel
theorem dX4_laysLimits_130 : decode cX4_laysLimits 130 = .ok (.lmul, 1) := by decide +kernel
theorem dX4_laysLimits_131 : decode cX4_laysLimits 131 = .ok (.invokestatic 85, 3) := by decide +kernel
theorem dX4_laysLimits_134 : decode cX4_laysLimits 134 = .ok (.putfield 97, 3) := by decide +kernel
theorem dX4_laysLimits_137 : decode cX4_laysLimits 137 = .ok (.aload_n 0, 1) := by decide +kernel
theorem dX4_laysLimits_138 : decode cX4_laysLimits 138 = .ok (.aload_n 0, 1) := by decide +kernel
theorem dX4_laysLimits_139 : decode cX4_laysLimits 139 = .ok (.getfield 29, 3) := by decide +kernel
theorem dX4_laysLimits_142 : decode cX4_laysLimits 142 = .ok (.iload_n 1, 1) := by decide +kernel
theorem dX4_laysLimits_143 : decode cX4_laysLimits 143 = .ok (.baload, 1) := by decide +kernel
theorem dX4_laysLimits_144 : decode cX4_laysLimits 144 = .ok (.ifCond .eq 12, 3) := by decide +kernel
theorem dX4_laysLimits_147 : decode cX4_laysLimits 147 = .ok (.aload_n 0, 1) := by decide +kernel
theorem dX4_laysLimits_148 : decode cX4_laysLimits 148 = .ok (.getfield 36, 3) := by decide +kernel
theorem dX4_laysLimits_151 : decode cX4_laysLimits 151 = .ok (.iload_n 1, 1) := by decide +kernel
theorem dX4_laysLimits_152 : decode cX4_laysLimits 152 = .ok (.iaload, 1) := by decide +kernel
theorem dX4_laysLimits_153 : decode cX4_laysLimits 153 = .ok (.goto 17, 3) := by decide +kernel
theorem dX4_laysLimits_156 : decode cX4_laysLimits 156 = .ok (.ldc2_w 83, 3) := by decide +kernel
theorem dX4_laysLimits_159 : decode cX4_laysLimits 159 = .ok (.lload 4, 2) := by decide +kernel
theorem dX4_laysLimits_161 : decode cX4_laysLimits 161 = .ok (.lmul, 1) := by decide +kernel
theorem dX4_laysLimits_162 : decode cX4_laysLimits 162 = .ok (.aload_n 0, 1) := by decide +kernel
theorem dX4_laysLimits_163 : decode cX4_laysLimits 163 = .ok (.getfield 76, 3) := by decide +kernel
theorem dX4_laysLimits_166 : decode cX4_laysLimits 166 = .ok (.i2l, 1) := by decide +kernel
theorem dX4_laysLimits_167 : decode cX4_laysLimits 167 = .ok (.invokestatic 85, 3) := by decide +kernel
theorem dX4_laysLimits_170 : decode cX4_laysLimits 170 = .ok (.putfield 100, 3) := by decide +kernel
theorem dX4_laysLimits_173 : decode cX4_laysLimits 173 = .ok (.aload_n 0, 1) := by decide +kernel
theorem dX4_laysLimits_174 : decode cX4_laysLimits 174 = .ok (.aload_n 0, 1) := by decide +kernel
theorem dX4_laysLimits_175 : decode cX4_laysLimits 175 = .ok (.getfield 7, 3) := by decide +kernel
theorem dX4_laysLimits_178 : decode cX4_laysLimits 178 = .ok (.sipush 1880, 3) := by decide +kernel
theorem dX4_laysLimits_181 : decode cX4_laysLimits 181 = .ok (.sipush 1023, 3) := by decide +kernel
theorem dX4_laysLimits_184 : decode cX4_laysLimits 184 = .ok (.sipush 729, 3) := by decide +kernel
theorem dX4_laysLimits_187 : decode cX4_laysLimits 187 = .ok (.sipush 577, 3) := by decide +kernel
theorem dX4_laysLimits_190 : decode cX4_laysLimits 190 = .ok (.sipush 483, 3) := by decide +kernel
theorem dX4_laysLimits_193 : decode cX4_laysLimits 193 = .ok (.invokestatic 103, 3) := by decide +kernel
theorem dX4_laysLimits_196 : decode cX4_laysLimits 196 = .ok (.i2l, 1) := by decide +kernel
theorem dX4_laysLimits_197 : decode cX4_laysLimits 197 = .ok (.aload_n 0, 1) := by decide +kernel
theorem dX4_laysLimits_198 : decode cX4_laysLimits 198 = .ok (.getfield 100, 3) := by decide +kernel
theorem dX4_laysLimits_201 : decode cX4_laysLimits 201 = .ok (.i2l, 1) := by decide +kernel
theorem dX4_laysLimits_202 : decode cX4_laysLimits 202 = .ok (.lmul, 1) := by decide +kernel
theorem dX4_laysLimits_203 : decode cX4_laysLimits 203 = .ok (.ldc2_w 83, 3) := by decide +kernel
theorem dX4_laysLimits_206 : decode cX4_laysLimits 206 = .ok (.invokestatic 85, 3) := by decide +kernel
theorem dX4_laysLimits_209 : decode cX4_laysLimits 209 = .ok (.putfield 107, 3) := by decide +kernel
theorem dX4_laysLimits_212 : decode cX4_laysLimits 212 = .ok (.aload_n 0, 1) := by decide +kernel
theorem dX4_laysLimits_213 : decode cX4_laysLimits 213 = .ok (.aload_n 0, 1) := by decide +kernel
theorem dX4_laysLimits_214 : decode cX4_laysLimits 214 = .ok (.getfield 7, 3) := by decide +kernel
theorem dX4_laysLimits_217 : decode cX4_laysLimits 217 = .ok (.sipush 3267, 3) := by decide +kernel
theorem dX4_laysLimits_220 : decode cX4_laysLimits 220 = .ok (.sipush 2574, 3) := by decide +kernel
theorem dX4_laysLimits_223 : decode cX4_laysLimits 223 = .ok (.sipush 2282, 3) := by decide +kernel
theorem dX4_laysLimits_226 : decode cX4_laysLimits 226 = .ok (.sipush 2114, 3) := by decide +kernel
theorem dX4_laysLimits_229 : decode cX4_laysLimits 229 = .ok (.sipush 2004, 3) := by decide +kernel
theorem dX4_laysLimits_232 : decode cX4_laysLimits 232 = .ok (.invokestatic 103, 3) := by decide +kernel
theorem dX4_laysLimits_235 : decode cX4_laysLimits 235 = .ok (.i2l, 1) := by decide +kernel
theorem dX4_laysLimits_236 : decode cX4_laysLimits 236 = .ok (.aload_n 0, 1) := by decide +kernel
theorem dX4_laysLimits_237 : decode cX4_laysLimits 237 = .ok (.getfield 100, 3) := by decide +kernel
theorem dX4_laysLimits_240 : decode cX4_laysLimits 240 = .ok (.i2l, 1) := by decide +kernel
theorem dX4_laysLimits_241 : decode cX4_laysLimits 241 = .ok (.lmul, 1) := by decide +kernel
theorem dX4_laysLimits_242 : decode cX4_laysLimits 242 = .ok (.ldc2_w 83, 3) := by decide +kernel
theorem dX4_laysLimits_245 : decode cX4_laysLimits 245 = .ok (.invokestatic 85, 3) := by decide +kernel
theorem dX4_laysLimits_248 : decode cX4_laysLimits 248 = .ok (.putfield 110, 3) := by decide +kernel
theorem dX4_laysLimits_251 : decode cX4_laysLimits 251 = .ok (.return_, 1) := by decide +kernel
theorem dX4_isPhase_0 : decode cX4_isPhase 0 = .ok (.aload_n 0, 1) := by decide +kernel
theorem dX4_isPhase_1 : decode cX4_isPhase 1 = .ok (.iload_n 1, 1) := by decide +kernel
theorem dX4_isPhase_2 : decode cX4_isPhase 2 = .ok (.iconst 0, 1) := by decide +kernel
theorem dX4_isPhase_3 : decode cX4_isPhase 3 = .ok (.aload_n 0, 1) := by decide +kernel
theorem dX4_isPhase_4 : decode cX4_isPhase 4 = .ok (.getfield 23, 3) := by decide +kernel
theorem dX4_isPhase_7 : decode cX4_isPhase 7 = .ok (.iconst 1, 1) := by decide +kernel
theorem dX4_isPhase_8 : decode cX4_isPhase 8 = .ok (.isub, 1) := by decide +kernel
theorem dX4_isPhase_9 : decode cX4_isPhase 9 = .ok (.invokestatic 57, 3) := by decide +kernel
theorem dX4_isPhase_12 : decode cX4_isPhase 12 = .ok (.ifCond .eq 7, 3) := by decide +kernel
theorem dX4_isPhase_15 : decode cX4_isPhase 15 = .ok (.iconst 0, 1) := by decide +kernel
theorem dX4_isPhase_16 : decode cX4_isPhase 16 = .ok (.goto 4, 3) := by decide +kernel
theorem dX4_isPhase_19 : decode cX4_isPhase 19 = .ok (.iconst 1, 1) := by decide +kernel
theorem dX4_isPhase_20 : decode cX4_isPhase 20 = .ok (.putfield 48, 3) := by decide +kernel
theorem dX4_isPhase_23 : decode cX4_isPhase 23 = .ok (.aload_n 0, 1) := by decide +kernel
theorem dX4_isPhase_24 : decode cX4_isPhase 24 = .ok (.getfield 48, 3) := by decide +kernel
theorem dX4_isPhase_27 : decode cX4_isPhase 27 = .ok (.ifCond .ne 7, 3) := by decide +kernel
theorem dX4_isPhase_30 : decode cX4_isPhase 30 = .ok (.iconst 1, 1) := by decide +kernel
theorem dX4_isPhase_31 : decode cX4_isPhase 31 = .ok (.goto 4, 3) := by decide +kernel
theorem dX4_isPhase_34 : decode cX4_isPhase 34 = .ok (.iconst 0, 1) := by decide +kernel
theorem dX4_isPhase_35 : decode cX4_isPhase 35 = .ok (.ireturn, 1) := by decide +kernel
theorem dX4_freeze_0 : decode cX4_freeze 0 = .ok (.aload_n 0, 1) := by decide +kernel
theorem dX4_freeze_1 : decode cX4_freeze 1 = .ok (.iload_n 1, 1) := by decide +kernel
theorem dX4_freeze_2 : decode cX4_freeze 2 = .ok (.invokevirtual 113, 3) := by decide +kernel
theorem dX4_freeze_5 : decode cX4_freeze 5 = .ok (.ifCond .ne 4, 3) := by decide +kernel
theorem dX4_freeze_8 : decode cX4_freeze 8 = .ok (.return_, 1) := by decide +kernel
theorem dX4_freeze_9 : decode cX4_freeze 9 = .ok (.aload_n 0, 1) := by decide +kernel
theorem dX4_freeze_10 : decode cX4_freeze 10 = .ok (.iload_n 1, 1) := by decide +kernel
theorem dX4_freeze_11 : decode cX4_freeze 11 = .ok (.invokevirtual 117, 3) := by decide +kernel
theorem dX4_freeze_14 : decode cX4_freeze 14 = .ok (.aload_n 0, 1) := by decide +kernel
theorem dX4_freeze_15 : decode cX4_freeze 15 = .ok (.aload_n 0, 1) := by decide +kernel
theorem dX4_freeze_16 : decode cX4_freeze 16 = .ok (.getfield 29, 3) := by decide +kernel
theorem dX4_freeze_19 : decode cX4_freeze 19 = .ok (.iload_n 1, 1) := by decide +kernel
theorem dX4_freeze_20 : decode cX4_freeze 20 = .ok (.baload, 1) := by decide +kernel
theorem dX4_freeze_21 : decode cX4_freeze 21 = .ok (.ifCond .ne 11, 3) := by decide +kernel
theorem dX4_freeze_24 : decode cX4_freeze 24 = .ok (.aload_n 0, 1) := by decide +kernel
theorem dX4_freeze_25 : decode cX4_freeze 25 = .ok (.getfield 76, 3) := by decide +kernel
theorem dX4_freeze_28 : decode cX4_freeze 28 = .ok (.iconst 2, 1) := by decide +kernel
theorem dX4_freeze_29 : decode cX4_freeze 29 = .ok (.if_icmp .ge 7, 3) := by decide +kernel
theorem dX4_freeze_32 : decode cX4_freeze 32 = .ok (.iconst 2, 1) := by decide +kernel
theorem dX4_freeze_33 : decode cX4_freeze 33 = .ok (.goto 4, 3) := by decide +kernel
theorem dX4_freeze_36 : decode cX4_freeze 36 = .ok (.iconst 0, 1) := by decide +kernel
theorem dX4_freeze_37 : decode cX4_freeze 37 = .ok (.putfield 48, 3) := by decide +kernel
theorem dX4_freeze_40 : decode cX4_freeze 40 = .ok (.aload_n 0, 1) := by decide +kernel
theorem dX4_freeze_41 : decode cX4_freeze 41 = .ok (.getfield 48, 3) := by decide +kernel
theorem dX4_freeze_44 : decode cX4_freeze 44 = .ok (.ifCond .ne 30, 3) := by decide +kernel
theorem dX4_freeze_47 : decode cX4_freeze 47 = .ok (.aload_n 0, 1) := by decide +kernel
theorem dX4_freeze_48 : decode cX4_freeze 48 = .ok (.getfield 33, 3) := by decide +kernel
theorem dX4_freeze_51 : decode cX4_freeze 51 = .ok (.iload_n 1, 1) := by decide +kernel
theorem dX4_freeze_52 : decode cX4_freeze 52 = .ok (.aload_n 0, 1) := by decide +kernel
theorem dX4_freeze_53 : decode cX4_freeze 53 = .ok (.getfield 97, 3) := by decide +kernel
theorem dX4_freeze_56 : decode cX4_freeze 56 = .ok (.iastore, 1) := by decide +kernel
theorem dX4_freeze_57 : decode cX4_freeze 57 = .ok (.aload_n 0, 1) := by decide +kernel
theorem dX4_freeze_58 : decode cX4_freeze 58 = .ok (.getfield 36, 3) := by decide +kernel
theorem dX4_freeze_61 : decode cX4_freeze 61 = .ok (.iload_n 1, 1) := by decide +kernel
theorem dX4_freeze_62 : decode cX4_freeze 62 = .ok (.aload_n 0, 1) := by decide +kernel
theorem dX4_freeze_63 : decode cX4_freeze 63 = .ok (.getfield 100, 3) := by decide +kernel
theorem dX4_freeze_66 : decode cX4_freeze 66 = .ok (.iastore, 1) := by decide +kernel
theorem dX4_freeze_67 : decode cX4_freeze 67 = .ok (.aload_n 0, 1) := by decide +kernel
theorem dX4_freeze_68 : decode cX4_freeze 68 = .ok (.getfield 29, 3) := by decide +kernel
theorem dX4_freeze_71 : decode cX4_freeze 71 = .ok (.iload_n 1, 1) := by decide +kernel
theorem dX4_freeze_72 : decode cX4_freeze 72 = .ok (.iconst 1, 1) := by decide +kernel
theorem dX4_freeze_73 : decode cX4_freeze 73 = .ok (.bastore, 1) := by decide +kernel
theorem dX4_freeze_74 : decode cX4_freeze 74 = .ok (.return_, 1) := by decide +kernel
theorem dX4_thaw_0 : decode cX4_thaw 0 = .ok (.aload_n 0, 1) := by decide +kernel
theorem dX4_thaw_1 : decode cX4_thaw 1 = .ok (.iload_n 1, 1) := by decide +kernel
theorem dX4_thaw_2 : decode cX4_thaw 2 = .ok (.invokevirtual 113, 3) := by decide +kernel
theorem dX4_thaw_5 : decode cX4_thaw 5 = .ok (.ifCond .ne 4, 3) := by decide +kernel
theorem dX4_thaw_8 : decode cX4_thaw 8 = .ok (.return_, 1) := by decide +kernel
theorem dX4_thaw_9 : decode cX4_thaw 9 = .ok (.aload_n 0, 1) := by decide +kernel
theorem dX4_thaw_10 : decode cX4_thaw 10 = .ok (.aload_n 0, 1) := by decide +kernel
theorem dX4_thaw_11 : decode cX4_thaw 11 = .ok (.getfield 29, 3) := by decide +kernel
theorem dX4_thaw_14 : decode cX4_thaw 14 = .ok (.iload_n 1, 1) := by decide +kernel
theorem dX4_thaw_15 : decode cX4_thaw 15 = .ok (.baload, 1) := by decide +kernel
theorem dX4_thaw_16 : decode cX4_thaw 16 = .ok (.ifCond .eq 7, 3) := by decide +kernel
theorem dX4_thaw_19 : decode cX4_thaw 19 = .ok (.iconst 0, 1) := by decide +kernel
theorem dX4_thaw_20 : decode cX4_thaw 20 = .ok (.goto 4, 3) := by decide +kernel
theorem dX4_thaw_23 : decode cX4_thaw 23 = .ok (.iconst 2, 1) := by decide +kernel
theorem dX4_thaw_24 : decode cX4_thaw 24 = .ok (.putfield 48, 3) := by decide +kernel
theorem dX4_thaw_27 : decode cX4_thaw 27 = .ok (.aload_n 0, 1) := by decide +kernel
theorem dX4_thaw_28 : decode cX4_thaw 28 = .ok (.getfield 48, 3) := by decide +kernel
theorem dX4_thaw_31 : decode cX4_thaw 31 = .ok (.ifCond .ne 10, 3) := by decide +kernel
theorem dX4_thaw_34 : decode cX4_thaw 34 = .ok (.aload_n 0, 1) := by decide +kernel
theorem dX4_thaw_35 : decode cX4_thaw 35 = .ok (.getfield 29, 3) := by decide +kernel
theorem dX4_thaw_38 : decode cX4_thaw 38 = .ok (.iload_n 1, 1) := by decide +kernel
theorem dX4_thaw_39 : decode cX4_thaw 39 = .ok (.iconst 0, 1) := by decide +kernel
theorem dX4_thaw_40 : decode cX4_thaw 40 = .ok (.bastore, 1) := by decide +kernel
theorem dX4_thaw_41 : decode cX4_thaw 41 = .ok (.return_, 1) := by decide +kernel
theorem dX4_isDone_0 : decode cX4_isDone 0 = .ok (.aload_n 0, 1) := by decide +kernel
theorem dX4_isDone_1 : decode cX4_isDone 1 = .ok (.iload_n 1, 1) := by decide +kernel
theorem dX4_isDone_2 : decode cX4_isDone 2 = .ok (.iconst 0, 1) := by decide +kernel
theorem dX4_isDone_3 : decode cX4_isDone 3 = .ok (.aload_n 0, 1) := by decide +kernel
theorem dX4_isDone_4 : decode cX4_isDone 4 = .ok (.getfield 61, 3) := by decide +kernel
theorem dX4_isDone_7 : decode cX4_isDone 7 = .ok (.iconst 1, 1) := by decide +kernel
theorem dX4_isDone_8 : decode cX4_isDone 8 = .ok (.isub, 1) := by decide +kernel
theorem dX4_isDone_9 : decode cX4_isDone 9 = .ok (.invokestatic 57, 3) := by decide +kernel
theorem dX4_isDone_12 : decode cX4_isDone 12 = .ok (.ifCond .eq 7, 3) := by decide +kernel
theorem dX4_isDone_15 : decode cX4_isDone 15 = .ok (.iconst 0, 1) := by decide +kernel
theorem dX4_isDone_16 : decode cX4_isDone 16 = .ok (.goto 4, 3) := by decide +kernel
theorem dX4_isDone_19 : decode cX4_isDone 19 = .ok (.iconst 1, 1) := by decide +kernel
theorem dX4_isDone_20 : decode cX4_isDone 20 = .ok (.putfield 48, 3) := by decide +kernel
theorem dX4_isDone_23 : decode cX4_isDone 23 = .ok (.aload_n 0, 1) := by decide +kernel
theorem dX4_isDone_24 : decode cX4_isDone 24 = .ok (.getfield 48, 3) := by decide +kernel
theorem dX4_isDone_27 : decode cX4_isDone 27 = .ok (.ifCond .ne 7, 3) := by decide +kernel
theorem dX4_isDone_30 : decode cX4_isDone 30 = .ok (.iconst 1, 1) := by decide +kernel
theorem dX4_isDone_31 : decode cX4_isDone 31 = .ok (.goto 4, 3) := by decide +kernel
theorem dX4_isDone_34 : decode cX4_isDone 34 = .ok (.iconst 0, 1) := by decide +kernel
theorem dX4_isDone_35 : decode cX4_isDone 35 = .ok (.ireturn, 1) := by decide +kernel
theorem dX4_exclude_0 : decode cX4_exclude 0 = .ok (.aload_n 0, 1) := by decide +kernel
theorem dX4_exclude_1 : decode cX4_exclude 1 = .ok (.iload_n 1, 1) := by decide +kernel
theorem dX4_exclude_2 : decode cX4_exclude 2 = .ok (.invokevirtual 121, 3) := by decide +kernel
theorem dX4_exclude_5 : decode cX4_exclude 5 = .ok (.ifCond .ne 5, 3) := by decide +kernel
theorem dX4_exclude_8 : decode cX4_exclude 8 = .ok (.iconst 0, 1) := by decide +kernel
theorem dX4_exclude_9 : decode cX4_exclude 9 = .ok (.ireturn, 1) := by decide +kernel
theorem dX4_exclude_10 : decode cX4_exclude 10 = .ok (.aload_n 0, 1) := by decide +kernel
theorem dX4_exclude_11 : decode cX4_exclude 11 = .ok (.iload_n 2, 1) := by decide +kernel
theorem dX4_exclude_12 : decode cX4_exclude 12 = .ok (.iconst 0, 1) := by decide +kernel
theorem dX4_exclude_13 : decode cX4_exclude 13 = .ok (.bipush 9, 2) := by decide +kernel
theorem dX4_exclude_15 : decode cX4_exclude 15 = .ok (.invokestatic 57, 3) := by decide +kernel
theorem dX4_exclude_18 : decode cX4_exclude 18 = .ok (.ifCond .eq 7, 3) := by decide +kernel
theorem dX4_exclude_21 : decode cX4_exclude 21 = .ok (.iconst 0, 1) := by decide +kernel
theorem dX4_exclude_22 : decode cX4_exclude 22 = .ok (.goto 4, 3) := by decide +kernel
theorem dX4_exclude_25 : decode cX4_exclude 25 = .ok (.iconst 2, 1) := by decide +kernel
theorem dX4_exclude_26 : decode cX4_exclude 26 = .ok (.putfield 48, 3) := by decide +kernel
theorem dX4_exclude_29 : decode cX4_exclude 29 = .ok (.aload_n 0, 1) := by decide +kernel
theorem dX4_exclude_30 : decode cX4_exclude 30 = .ok (.getfield 48, 3) := by decide +kernel
theorem dX4_exclude_33 : decode cX4_exclude 33 = .ok (.ifCond .le 5, 3) := by decide +kernel
theorem dX4_exclude_36 : decode cX4_exclude 36 = .ok (.iconst 0, 1) := by decide +kernel
theorem dX4_exclude_37 : decode cX4_exclude 37 = .ok (.ireturn, 1) := by decide +kernel
theorem dX4_exclude_38 : decode cX4_exclude 38 = .ok (.aload_n 0, 1) := by decide +kernel
theorem dX4_exclude_39 : decode cX4_exclude 39 = .ok (.getfield 20, 3) := by decide +kernel
theorem dX4_exclude_42 : decode cX4_exclude 42 = .ok (.iload_n 1, 1) := by decide +kernel
theorem dX4_exclude_43 : decode cX4_exclude 43 = .ok (.iaload, 1) := by decide +kernel
theorem dX4_exclude_44 : decode cX4_exclude 44 = .ok (.istore_n 3, 1) := by decide +kernel
theorem dX4_exclude_45 : decode cX4_exclude 45 = .ok (.aload_n 0, 1) := by decide +kernel
theorem dX4_exclude_46 : decode cX4_exclude 46 = .ok (.getfield 20, 3) := by decide +kernel
theorem dX4_exclude_49 : decode cX4_exclude 49 = .ok (.iload_n 1, 1) := by decide +kernel
theorem dX4_exclude_50 : decode cX4_exclude 50 = .ok (.iload_n 2, 1) := by decide +kernel
theorem dX4_exclude_51 : decode cX4_exclude 51 = .ok (.iastore, 1) := by decide +kernel
theorem dX4_exclude_52 : decode cX4_exclude 52 = .ok (.iload_n 3, 1) := by decide +kernel
theorem dX4_exclude_53 : decode cX4_exclude 53 = .ok (.ireturn, 1) := by decide +kernel
theorem dX4_subgroups_0 : decode cX4_subgroups 0 = .ok (.aload_n 0, 1) := by decide +kernel
theorem dX4_subgroups_1 : decode cX4_subgroups 1 = .ok (.iconst 0, 1) := by decide +kernel
theorem dX4_subgroups_2 : decode cX4_subgroups 2 = .ok (.putfield 48, 3) := by decide +kernel
theorem dX4_subgroups_5 : decode cX4_subgroups 5 = .ok (.aload_n 0, 1) := by decide +kernel
theorem dX4_subgroups_6 : decode cX4_subgroups 6 = .ok (.getfield 61, 3) := by decide +kernel
theorem dX4_subgroups_9 : decode cX4_subgroups 9 = .ok (.ireturn, 1) := by decide +kernel
theorem dX4_phases_0 : decode cX4_phases 0 = .ok (.aload_n 0, 1) := by decide +kernel
theorem dX4_phases_1 : decode cX4_phases 1 = .ok (.iconst 0, 1) := by decide +kernel
theorem dX4_phases_2 : decode cX4_phases 2 = .ok (.putfield 48, 3) := by decide +kernel
theorem dX4_phases_5 : decode cX4_phases 5 = .ok (.aload_n 0, 1) := by decide +kernel
theorem dX4_phases_6 : decode cX4_phases 6 = .ok (.getfield 23, 3) := by decide +kernel
theorem dX4_phases_9 : decode cX4_phases 9 = .ok (.ireturn, 1) := by decide +kernel
theorem dX4_mean_0 : decode cX4_mean 0 = .ok (.aload_n 0, 1) := by decide +kernel
theorem dX4_mean_1 : decode cX4_mean 1 = .ok (.iload_n 1, 1) := by decide +kernel
theorem dX4_mean_2 : decode cX4_mean 2 = .ok (.invokevirtual 121, 3) := by decide +kernel
theorem dX4_mean_5 : decode cX4_mean 5 = .ok (.ifCond .eq 25, 3) := by decide +kernel
theorem dX4_mean_8 : decode cX4_mean 8 = .ok (.ldc2_w 83, 3) := by decide +kernel
theorem dX4_mean_11 : decode cX4_mean 11 = .ok (.aload_n 0, 1) := by decide +kernel
theorem dX4_mean_12 : decode cX4_mean 12 = .ok (.getfield 13, 3) := by decide +kernel
theorem dX4_mean_15 : decode cX4_mean 15 = .ok (.iload_n 1, 1) := by decide +kernel
theorem dX4_mean_16 : decode cX4_mean 16 = .ok (.iaload, 1) := by decide +kernel
theorem dX4_mean_17 : decode cX4_mean 17 = .ok (.i2l, 1) := by decide +kernel
theorem dX4_mean_18 : decode cX4_mean 18 = .ok (.lmul, 1) := by decide +kernel
theorem dX4_mean_19 : decode cX4_mean 19 = .ok (.aload_n 0, 1) := by decide +kernel
theorem dX4_mean_20 : decode cX4_mean 20 = .ok (.getfield 7, 3) := by decide +kernel
theorem dX4_mean_23 : decode cX4_mean 23 = .ok (.i2l, 1) := by decide +kernel
theorem dX4_mean_24 : decode cX4_mean 24 = .ok (.invokestatic 85, 3) := by decide +kernel
theorem dX4_mean_27 : decode cX4_mean 27 = .ok (.goto 4, 3) := by decide +kernel
theorem dX4_mean_30 : decode cX4_mean 30 = .ok (.iconst 0, 1) := by decide +kernel
theorem dX4_mean_31 : decode cX4_mean 31 = .ok (.ireturn, 1) := by decide +kernel
theorem dX4_range_0 : decode cX4_range 0 = .ok (.aload_n 0, 1) := by decide +kernel
theorem dX4_range_1 : decode cX4_range 1 = .ok (.iload_n 1, 1) := by decide +kernel
theorem dX4_range_2 : decode cX4_range 2 = .ok (.invokevirtual 121, 3) := by decide +kernel
theorem dX4_range_5 : decode cX4_range 5 = .ok (.ifCond .eq 12, 3) := by decide +kernel
theorem dX4_range_8 : decode cX4_range 8 = .ok (.aload_n 0, 1) := by decide +kernel
theorem dX4_range_9 : decode cX4_range 9 = .ok (.getfield 17, 3) := by decide +kernel
theorem dX4_range_12 : decode cX4_range 12 = .ok (.iload_n 1, 1) := by decide +kernel
theorem dX4_range_13 : decode cX4_range 13 = .ok (.iaload, 1) := by decide +kernel
theorem dX4_range_14 : decode cX4_range 14 = .ok (.goto 4, 3) := by decide +kernel
theorem dX4_range_17 : decode cX4_range 17 = .ok (.iconst 0, 1) := by decide +kernel
theorem dX4_range_18 : decode cX4_range 18 = .ok (.ireturn, 1) := by decide +kernel
theorem dX4_phaseOf_0 : decode cX4_phaseOf 0 = .ok (.aload_n 0, 1) := by decide +kernel
theorem dX4_phaseOf_1 : decode cX4_phaseOf 1 = .ok (.iload_n 1, 1) := by decide +kernel
theorem dX4_phaseOf_2 : decode cX4_phaseOf 2 = .ok (.invokevirtual 121, 3) := by decide +kernel
theorem dX4_phaseOf_5 : decode cX4_phaseOf 5 = .ok (.ifCond .eq 11, 3) := by decide +kernel
theorem dX4_phaseOf_8 : decode cX4_phaseOf 8 = .ok (.aload_n 0, 1) := by decide +kernel
theorem dX4_phaseOf_9 : decode cX4_phaseOf 9 = .ok (.iload_n 1, 1) := by decide +kernel
theorem dX4_phaseOf_10 : decode cX4_phaseOf 10 = .ok (.invokevirtual 79, 3) := by decide +kernel
theorem dX4_phaseOf_13 : decode cX4_phaseOf 13 = .ok (.goto 4, 3) := by decide +kernel
theorem dX4_phaseOf_16 : decode cX4_phaseOf 16 = .ok (.iconst 0, 1) := by decide +kernel
theorem dX4_phaseOf_17 : decode cX4_phaseOf 17 = .ok (.ireturn, 1) := by decide +kernel
theorem dX4_points_0 : decode cX4_points 0 = .ok (.aload_n 0, 1) := by decide +kernel
theorem dX4_points_1 : decode cX4_points 1 = .ok (.iload_n 1, 1) := by decide +kernel
theorem dX4_points_2 : decode cX4_points 2 = .ok (.invokevirtual 113, 3) := by decide +kernel
theorem dX4_points_5 : decode cX4_points 5 = .ok (.ifCond .ne 5, 3) := by decide +kernel
theorem dX4_points_8 : decode cX4_points 8 = .ok (.iconst 0, 1) := by decide +kernel
theorem dX4_points_9 : decode cX4_points 9 = .ok (.ireturn, 1) := by decide +kernel
theorem dX4_points_10 : decode cX4_points 10 = .ok (.aload_n 0, 1) := by decide +kernel
theorem dX4_points_11 : decode cX4_points 11 = .ok (.iload_n 1, 1) := by decide +kernel
theorem dX4_points_12 : decode cX4_points 12 = .ok (.bipush 59, 2) := by decide +kernel
theorem dX4_points_14 : decode cX4_points 14 = .ok (.invokevirtual 89, 3) := by decide +kernel
theorem dX4_points_17 : decode cX4_points 17 = .ok (.aload_n 0, 1) := by decide +kernel
theorem dX4_points_18 : decode cX4_points 18 = .ok (.getfield 76, 3) := by decide +kernel
theorem dX4_points_21 : decode cX4_points 21 = .ok (.ireturn, 1) := by decide +kernel
theorem dX4_isLimited_0 : decode cX4_isLimited 0 = .ok (.aload_n 0, 1) := by decide +kernel
theorem dX4_isLimited_1 : decode cX4_isLimited 1 = .ok (.iload_n 1, 1) := by decide +kernel
theorem dX4_isLimited_2 : decode cX4_isLimited 2 = .ok (.invokevirtual 113, 3) := by decide +kernel
theorem dX4_isLimited_5 : decode cX4_isLimited 5 = .ok (.ifCond .ne 5, 3) := by decide +kernel
theorem dX4_isLimited_8 : decode cX4_isLimited 8 = .ok (.iconst 0, 1) := by decide +kernel
theorem dX4_isLimited_9 : decode cX4_isLimited 9 = .ok (.ireturn, 1) := by decide +kernel
theorem dX4_isLimited_10 : decode cX4_isLimited 10 = .ok (.aload_n 0, 1) := by decide +kernel
theorem dX4_isLimited_11 : decode cX4_isLimited 11 = .ok (.iload_n 1, 1) := by decide +kernel
theorem dX4_isLimited_12 : decode cX4_isLimited 12 = .ok (.invokevirtual 117, 3) := by decide +kernel
theorem dX4_isLimited_15 : decode cX4_isLimited 15 = .ok (.aload_n 0, 1) := by decide +kernel
theorem dX4_isLimited_16 : decode cX4_isLimited 16 = .ok (.aload_n 0, 1) := by decide +kernel
theorem dX4_isLimited_17 : decode cX4_isLimited 17 = .ok (.getfield 93, 3) := by decide +kernel
theorem dX4_isLimited_20 : decode cX4_isLimited 20 = .ok (.ifCond .eq 7, 3) := by decide +kernel
theorem dX4_isLimited_23 : decode cX4_isLimited 23 = .ok (.iconst 0, 1) := by decide +kernel
theorem dX4_isLimited_24 : decode cX4_isLimited 24 = .ok (.goto 4, 3) := by decide +kernel
theorem dX4_isLimited_27 : decode cX4_isLimited 27 = .ok (.iconst 2, 1) := by decide +kernel
theorem dX4_isLimited_28 : decode cX4_isLimited 28 = .ok (.putfield 48, 3) := by decide +kernel
theorem dX4_isLimited_31 : decode cX4_isLimited 31 = .ok (.aload_n 0, 1) := by decide +kernel
theorem dX4_isLimited_32 : decode cX4_isLimited 32 = .ok (.getfield 93, 3) := by decide +kernel
theorem dX4_isLimited_35 : decode cX4_isLimited 35 = .ok (.ireturn, 1) := by decide +kernel
theorem dX4_center_0 : decode cX4_center 0 = .ok (.aload_n 0, 1) := by decide +kernel
theorem dX4_center_1 : decode cX4_center 1 = .ok (.iload_n 1, 1) := by decide +kernel
theorem dX4_center_2 : decode cX4_center 2 = .ok (.invokevirtual 124, 3) := by decide +kernel
theorem dX4_center_5 : decode cX4_center 5 = .ok (.ifCond .eq 10, 3) := by decide +kernel
theorem dX4_center_8 : decode cX4_center 8 = .ok (.aload_n 0, 1) := by decide +kernel
theorem dX4_center_9 : decode cX4_center 9 = .ok (.getfield 97, 3) := by decide +kernel
theorem dX4_center_12 : decode cX4_center 12 = .ok (.goto 4, 3) := by decide +kernel
theorem dX4_center_15 : decode cX4_center 15 = .ok (.iconst 0, 1) := by decide +kernel
theorem dX4_center_16 : decode cX4_center 16 = .ok (.ireturn, 1) := by decide +kernel
theorem dX4_width_0 : decode cX4_width 0 = .ok (.aload_n 0, 1) := by decide +kernel
theorem dX4_width_1 : decode cX4_width 1 = .ok (.iload_n 1, 1) := by decide +kernel
theorem dX4_width_2 : decode cX4_width 2 = .ok (.invokevirtual 124, 3) := by decide +kernel
theorem dX4_width_5 : decode cX4_width 5 = .ok (.ifCond .eq 10, 3) := by decide +kernel
theorem dX4_width_8 : decode cX4_width 8 = .ok (.aload_n 0, 1) := by decide +kernel
theorem dX4_width_9 : decode cX4_width 9 = .ok (.getfield 107, 3) := by decide +kernel
theorem dX4_width_12 : decode cX4_width 12 = .ok (.goto 4, 3) := by decide +kernel
theorem dX4_width_15 : decode cX4_width 15 = .ok (.iconst 0, 1) := by decide +kernel
theorem dX4_width_16 : decode cX4_width 16 = .ok (.ireturn, 1) := by decide +kernel
theorem dX4_rangeLimit_0 : decode cX4_rangeLimit 0 = .ok (.aload_n 0, 1) := by decide +kernel
theorem dX4_rangeLimit_1 : decode cX4_rangeLimit 1 = .ok (.iload_n 1, 1) := by decide +kernel
theorem dX4_rangeLimit_2 : decode cX4_rangeLimit 2 = .ok (.invokevirtual 124, 3) := by decide +kernel
theorem dX4_rangeLimit_5 : decode cX4_rangeLimit 5 = .ok (.ifCond .eq 10, 3) := by decide +kernel
theorem dX4_rangeLimit_8 : decode cX4_rangeLimit 8 = .ok (.aload_n 0, 1) := by decide +kernel
theorem dX4_rangeLimit_9 : decode cX4_rangeLimit 9 = .ok (.getfield 110, 3) := by decide +kernel
theorem dX4_rangeLimit_12 : decode cX4_rangeLimit 12 = .ok (.goto 4, 3) := by decide +kernel
theorem dX4_rangeLimit_15 : decode cX4_rangeLimit 15 = .ok (.iconst 0, 1) := by decide +kernel
theorem dX4_rangeLimit_16 : decode cX4_rangeLimit 16 = .ok (.ireturn, 1) := by decide +kernel
theorem dX4_back_0 : decode cX4_back 0 = .ok (.aload_n 0, 1) := by decide +kernel
theorem dX4_back_1 : decode cX4_back 1 = .ok (.getfield 45, 3) := by decide +kernel
theorem dX4_back_4 : decode cX4_back 4 = .ok (.aload_n 0, 1) := by decide +kernel
theorem dX4_back_5 : decode cX4_back 5 = .ok (.getfield 76, 3) := by decide +kernel
theorem dX4_back_8 : decode cX4_back 8 = .ok (.iconst 1, 1) := by decide +kernel
theorem dX4_back_9 : decode cX4_back 9 = .ok (.isub, 1) := by decide +kernel
theorem dX4_back_10 : decode cX4_back 10 = .ok (.iload_n 1, 1) := by decide +kernel
theorem dX4_back_11 : decode cX4_back 11 = .ok (.isub, 1) := by decide +kernel
theorem dX4_back_12 : decode cX4_back 12 = .ok (.iaload, 1) := by decide +kernel
theorem dX4_back_13 : decode cX4_back 13 = .ok (.ireturn, 1) := by decide +kernel
theorem dX4_isBeyond_0 : decode cX4_isBeyond 0 = .ok (.ldc2_w 127, 3) := by decide +kernel
theorem dX4_isBeyond_3 : decode cX4_isBeyond 3 = .ok (.aload_n 0, 1) := by decide +kernel
theorem dX4_isBeyond_4 : decode cX4_isBeyond 4 = .ok (.iload_n 1, 1) := by decide +kernel
theorem dX4_isBeyond_5 : decode cX4_isBeyond 5 = .ok (.invokevirtual 129, 3) := by decide +kernel
theorem dX4_isBeyond_8 : decode cX4_isBeyond 8 = .ok (.aload_n 0, 1) := by decide +kernel
theorem dX4_isBeyond_9 : decode cX4_isBeyond 9 = .ok (.getfield 97, 3) := by decide +kernel
theorem dX4_isBeyond_12 : decode cX4_isBeyond 12 = .ok (.isub, 1) := by decide +kernel
theorem dX4_isBeyond_13 : decode cX4_isBeyond 13 = .ok (.i2l, 1) := by decide +kernel
theorem dX4_isBeyond_14 : decode cX4_isBeyond 14 = .ok (.lmul, 1) := by decide +kernel
theorem dX4_isBeyond_15 : decode cX4_isBeyond 15 = .ok (.iload_n 3, 1) := by decide +kernel
theorem dX4_isBeyond_16 : decode cX4_isBeyond 16 = .ok (.i2l, 1) := by decide +kernel
theorem dX4_isBeyond_17 : decode cX4_isBeyond 17 = .ok (.lmul, 1) := by decide +kernel
theorem dX4_isBeyond_18 : decode cX4_isBeyond 18 = .ok (.iload_n 2, 1) := by decide +kernel
theorem dX4_isBeyond_19 : decode cX4_isBeyond 19 = .ok (.i2l, 1) := by decide +kernel
theorem dX4_isBeyond_20 : decode cX4_isBeyond 20 = .ok (.aload_n 0, 1) := by decide +kernel
theorem dX4_isBeyond_21 : decode cX4_isBeyond 21 = .ok (.getfield 107, 3) := by decide +kernel
theorem dX4_isBeyond_24 : decode cX4_isBeyond 24 = .ok (.i2l, 1) := by decide +kernel
theorem dX4_isBeyond_25 : decode cX4_isBeyond 25 = .ok (.lmul, 1) := by decide +kernel
theorem dX4_isBeyond_26 : decode cX4_isBeyond 26 = .ok (.lcmp, 1) := by decide +kernel
theorem dX4_isBeyond_27 : decode cX4_isBeyond 27 = .ok (.ifCond .le 7, 3) := by decide +kernel
theorem dX4_isBeyond_30 : decode cX4_isBeyond 30 = .ok (.iconst 1, 1) := by decide +kernel
theorem dX4_isBeyond_31 : decode cX4_isBeyond 31 = .ok (.goto 4, 3) := by decide +kernel
theorem dX4_isBeyond_34 : decode cX4_isBeyond 34 = .ok (.iconst 0, 1) := by decide +kernel
theorem dX4_isBeyond_35 : decode cX4_isBeyond 35 = .ok (.ireturn, 1) := by decide +kernel
theorem dX4_beyond_0 : decode cX4_beyond 0 = .ok (.iconst 0, 1) := by decide +kernel
theorem dX4_beyond_1 : decode cX4_beyond 1 = .ok (.istore 4, 2) := by decide +kernel
theorem dX4_beyond_3 : decode cX4_beyond 3 = .ok (.iconst 0, 1) := by decide +kernel
theorem dX4_beyond_4 : decode cX4_beyond 4 = .ok (.istore 5, 2) := by decide +kernel
theorem dX4_beyond_6 : decode cX4_beyond 6 = .ok (.iload 5, 2) := by decide +kernel
theorem dX4_beyond_8 : decode cX4_beyond 8 = .ok (.iload_n 1, 1) := by decide +kernel
theorem dX4_beyond_9 : decode cX4_beyond 9 = .ok (.if_icmp .ge 30, 3) := by decide +kernel
theorem dX4_beyond_12 : decode cX4_beyond 12 = .ok (.iload 4, 2) := by decide +kernel
theorem dX4_beyond_14 : decode cX4_beyond 14 = .ok (.aload_n 0, 1) := by decide +kernel
theorem dX4_beyond_15 : decode cX4_beyond 15 = .ok (.iload 5, 2) := by decide +kernel
theorem dX4_beyond_17 : decode cX4_beyond 17 = .ok (.iload_n 2, 1) := by decide +kernel
theorem dX4_beyond_18 : decode cX4_beyond 18 = .ok (.iload_n 3, 1) := by decide +kernel
theorem dX4_beyond_19 : decode cX4_beyond 19 = .ok (.invokevirtual 132, 3) := by decide +kernel
theorem dX4_beyond_22 : decode cX4_beyond 22 = .ok (.ifCond .eq 7, 3) := by decide +kernel
theorem dX4_beyond_25 : decode cX4_beyond 25 = .ok (.iconst 1, 1) := by decide +kernel
theorem dX4_beyond_26 : decode cX4_beyond 26 = .ok (.goto 4, 3) := by decide +kernel
theorem dX4_beyond_29 : decode cX4_beyond 29 = .ok (.iconst 0, 1) := by decide +kernel
theorem dX4_beyond_30 : decode cX4_beyond 30 = .ok (.iadd, 1) := by decide +kernel
theorem dX4_beyond_31 : decode cX4_beyond 31 = .ok (.istore 4, 2) := by decide +kernel
theorem dX4_beyond_33 : decode cX4_beyond 33 = .ok (.iinc 5 1, 3) := by decide +kernel
theorem dX4_beyond_36 : decode cX4_beyond 36 = .ok (.goto (-30), 3) := by decide +kernel
theorem dX4_beyond_39 : decode cX4_beyond 39 = .ok (.iload 4, 2) := by decide +kernel
theorem dX4_beyond_41 : decode cX4_beyond 41 = .ok (.ireturn, 1) := by decide +kernel
theorem dX4_steps_0 : decode cX4_steps 0 = .ok (.iconst 0, 1) := by decide +kernel
theorem dX4_steps_1 : decode cX4_steps 1 = .ok (.istore_n 3, 1) := by decide +kernel
theorem dX4_steps_2 : decode cX4_steps 2 = .ok (.iconst 0, 1) := by decide +kernel
theorem dX4_steps_3 : decode cX4_steps 3 = .ok (.istore 4, 2) := by decide +kernel
theorem dX4_steps_5 : decode cX4_steps 5 = .ok (.iload 4, 2) := by decide +kernel
theorem dX4_steps_7 : decode cX4_steps 7 = .ok (.iload_n 1, 1) := by decide +kernel
theorem dX4_steps_8 : decode cX4_steps 8 = .ok (.if_icmp .ge 37, 3) := by decide +kernel
theorem dX4_steps_11 : decode cX4_steps 11 = .ok (.iload_n 3, 1) := by decide +kernel
theorem dX4_steps_12 : decode cX4_steps 12 = .ok (.aload_n 0, 1) := by decide +kernel
theorem dX4_steps_13 : decode cX4_steps 13 = .ok (.iload 4, 2) := by decide +kernel
theorem dX4_steps_15 : decode cX4_steps 15 = .ok (.invokevirtual 129, 3) := by decide +kernel
theorem dX4_steps_18 : decode cX4_steps 18 = .ok (.aload_n 0, 1) := by decide +kernel
theorem dX4_steps_19 : decode cX4_steps 19 = .ok (.iload 4, 2) := by decide +kernel
theorem dX4_steps_21 : decode cX4_steps 21 = .ok (.iconst 1, 1) := by decide +kernel
theorem dX4_steps_22 : decode cX4_steps 22 = .ok (.iadd, 1) := by decide +kernel
theorem dX4_steps_23 : decode cX4_steps 23 = .ok (.invokevirtual 129, 3) := by decide +kernel
theorem dX4_steps_26 : decode cX4_steps 26 = .ok (.isub, 1) := by decide +kernel
theorem dX4_steps_27 : decode cX4_steps 27 = .ok (.iload_n 2, 1) := by decide +kernel
theorem dX4_steps_28 : decode cX4_steps 28 = .ok (.imul, 1) := by decide +kernel
theorem dX4_steps_29 : decode cX4_steps 29 = .ok (.ifCond .le 7, 3) := by decide +kernel
theorem dX4_steps_32 : decode cX4_steps 32 = .ok (.iconst 1, 1) := by decide +kernel
theorem dX4_steps_33 : decode cX4_steps 33 = .ok (.goto 4, 3) := by decide +kernel
theorem dX4_steps_36 : decode cX4_steps 36 = .ok (.iconst 0, 1) := by decide +kernel
theorem dX4_steps_37 : decode cX4_steps 37 = .ok (.iadd, 1) := by decide +kernel
theorem dX4_steps_38 : decode cX4_steps 38 = .ok (.istore_n 3, 1) := by decide +kernel
theorem dX4_steps_39 : decode cX4_steps 39 = .ok (.iinc 4 1, 3) := by decide +kernel
theorem dX4_steps_42 : decode cX4_steps 42 = .ok (.goto (-37), 3) := by decide +kernel
theorem dX4_steps_45 : decode cX4_steps 45 = .ok (.iload_n 3, 1) := by decide +kernel
theorem dX4_steps_46 : decode cX4_steps 46 = .ok (.ireturn, 1) := by decide +kernel
theorem dX4_isTurning_0 : decode cX4_isTurning 0 = .ok (.iconst 1, 1) := by decide +kernel
theorem dX4_isTurning_1 : decode cX4_isTurning 1 = .ok (.istore_n 1, 1) := by decide +kernel
theorem dX4_isTurning_2 : decode cX4_isTurning 2 = .ok (.iconst 0, 1) := by decide +kernel
theorem dX4_isTurning_3 : decode cX4_isTurning 3 = .ok (.istore_n 2, 1) := by decide +kernel
theorem dX4_isTurning_4 : decode cX4_isTurning 4 = .ok (.iload_n 2, 1) := by decide +kernel
theorem dX4_isTurning_5 : decode cX4_isTurning 5 = .ok (.bipush 13, 2) := by decide +kernel
theorem dX4_isTurning_7 : decode cX4_isTurning 7 = .ok (.if_icmp .ge 32, 3) := by decide +kernel
theorem dX4_isTurning_10 : decode cX4_isTurning 10 = .ok (.iload_n 1, 1) := by decide +kernel
theorem dX4_isTurning_11 : decode cX4_isTurning 11 = .ok (.aload_n 0, 1) := by decide +kernel
theorem dX4_isTurning_12 : decode cX4_isTurning 12 = .ok (.iload_n 2, 1) := by decide +kernel
theorem dX4_isTurning_13 : decode cX4_isTurning 13 = .ok (.invokevirtual 129, 3) := by decide +kernel
theorem dX4_isTurning_16 : decode cX4_isTurning 16 = .ok (.aload_n 0, 1) := by decide +kernel
theorem dX4_isTurning_17 : decode cX4_isTurning 17 = .ok (.iload_n 2, 1) := by decide +kernel
theorem dX4_isTurning_18 : decode cX4_isTurning 18 = .ok (.iconst 1, 1) := by decide +kernel
theorem dX4_isTurning_19 : decode cX4_isTurning 19 = .ok (.iadd, 1) := by decide +kernel
theorem dX4_isTurning_20 : decode cX4_isTurning 20 = .ok (.invokevirtual 129, 3) := by decide +kernel
theorem dX4_isTurning_23 : decode cX4_isTurning 23 = .ok (.if_icmp .eq 7, 3) := by decide +kernel
theorem dX4_isTurning_26 : decode cX4_isTurning 26 = .ok (.iconst 1, 1) := by decide +kernel
theorem dX4_isTurning_27 : decode cX4_isTurning 27 = .ok (.goto 4, 3) := by decide +kernel
theorem dX4_isTurning_30 : decode cX4_isTurning 30 = .ok (.iconst 0, 1) := by decide +kernel
theorem dX4_isTurning_31 : decode cX4_isTurning 31 = .ok (.iand, 1) := by decide +kernel
theorem dX4_isTurning_32 : decode cX4_isTurning 32 = .ok (.istore_n 1, 1) := by decide +kernel
theorem dX4_isTurning_33 : decode cX4_isTurning 33 = .ok (.iinc 2 1, 3) := by decide +kernel
theorem dX4_isTurning_36 : decode cX4_isTurning 36 = .ok (.goto (-32), 3) := by decide +kernel
theorem dX4_isTurning_39 : decode cX4_isTurning 39 = .ok (.iconst 0, 1) := by decide +kernel
theorem dX4_isTurning_40 : decode cX4_isTurning 40 = .ok (.istore_n 2, 1) := by decide +kernel
theorem dX4_isTurning_41 : decode cX4_isTurning 41 = .ok (.iload_n 2, 1) := by decide +kernel
theorem dX4_isTurning_42 : decode cX4_isTurning 42 = .ok (.bipush 12, 2) := by decide +kernel
theorem dX4_isTurning_44 : decode cX4_isTurning 44 = .ok (.if_icmp .ge 62, 3) := by decide +kernel
theorem dX4_isTurning_47 : decode cX4_isTurning 47 = .ok (.iload_n 1, 1) := by decide +kernel
theorem dX4_isTurning_48 : decode cX4_isTurning 48 = .ok (.aload_n 0, 1) := by decide +kernel
theorem dX4_isTurning_49 : decode cX4_isTurning 49 = .ok (.iload_n 2, 1) := by decide +kernel
theorem dX4_isTurning_50 : decode cX4_isTurning 50 = .ok (.invokevirtual 129, 3) := by decide +kernel
theorem dX4_isTurning_53 : decode cX4_isTurning 53 = .ok (.aload_n 0, 1) := by decide +kernel
theorem dX4_isTurning_54 : decode cX4_isTurning 54 = .ok (.iload_n 2, 1) := by decide +kernel
theorem dX4_isTurning_55 : decode cX4_isTurning 55 = .ok (.iconst 1, 1) := by decide +kernel
theorem dX4_isTurning_56 : decode cX4_isTurning 56 = .ok (.iadd, 1) := by decide +kernel
theorem dX4_isTurning_57 : decode cX4_isTurning 57 = .ok (.invokevirtual 129, 3) := by decide +kernel
theorem dX4_isTurning_60 : decode cX4_isTurning 60 = .ok (.if_icmp .ge 7, 3) := by decide +kernel
theorem dX4_isTurning_63 : decode cX4_isTurning 63 = .ok (.iconst 1, 1) := by decide +kernel
theorem dX4_isTurning_64 : decode cX4_isTurning 64 = .ok (.goto 4, 3) := by decide +kernel
theorem dX4_isTurning_67 : decode cX4_isTurning 67 = .ok (.iconst 0, 1) := by decide +kernel
theorem dX4_isTurning_68 : decode cX4_isTurning 68 = .ok (.aload_n 0, 1) := by decide +kernel
theorem dX4_isTurning_69 : decode cX4_isTurning 69 = .ok (.iload_n 2, 1) := by decide +kernel
theorem dX4_isTurning_70 : decode cX4_isTurning 70 = .ok (.iconst 2, 1) := by decide +kernel
theorem dX4_isTurning_71 : decode cX4_isTurning 71 = .ok (.iadd, 1) := by decide +kernel
theorem dX4_isTurning_72 : decode cX4_isTurning 72 = .ok (.invokevirtual 129, 3) := by decide +kernel
theorem dX4_isTurning_75 : decode cX4_isTurning 75 = .ok (.aload_n 0, 1) := by decide +kernel
theorem dX4_isTurning_76 : decode cX4_isTurning 76 = .ok (.iload_n 2, 1) := by decide +kernel
theorem dX4_isTurning_77 : decode cX4_isTurning 77 = .ok (.iconst 1, 1) := by decide +kernel
theorem dX4_isTurning_78 : decode cX4_isTurning 78 = .ok (.iadd, 1) := by decide +kernel
theorem dX4_isTurning_79 : decode cX4_isTurning 79 = .ok (.invokevirtual 129, 3) := by decide +kernel
theorem dX4_isTurning_82 : decode cX4_isTurning 82 = .ok (.if_icmp .ge 7, 3) := by decide +kernel
theorem dX4_isTurning_85 : decode cX4_isTurning 85 = .ok (.iconst 1, 1) := by decide +kernel
theorem dX4_isTurning_86 : decode cX4_isTurning 86 = .ok (.goto 4, 3) := by decide +kernel
theorem dX4_isTurning_89 : decode cX4_isTurning 89 = .ok (.iconst 0, 1) := by decide +kernel
theorem dX4_isTurning_90 : decode cX4_isTurning 90 = .ok (.if_icmp .ne 7, 3) := by decide +kernel
theorem dX4_isTurning_93 : decode cX4_isTurning 93 = .ok (.iconst 1, 1) := by decide +kernel
theorem dX4_isTurning_94 : decode cX4_isTurning 94 = .ok (.goto 4, 3) := by decide +kernel
theorem dX4_isTurning_97 : decode cX4_isTurning 97 = .ok (.iconst 0, 1) := by decide +kernel
theorem dX4_isTurning_98 : decode cX4_isTurning 98 = .ok (.iand, 1) := by decide +kernel
theorem dX4_isTurning_99 : decode cX4_isTurning 99 = .ok (.istore_n 1, 1) := by decide +kernel
theorem dX4_isTurning_100 : decode cX4_isTurning 100 = .ok (.iinc 2 1, 3) := by decide +kernel
theorem dX4_isTurning_103 : decode cX4_isTurning 103 = .ok (.goto (-62), 3) := by decide +kernel
theorem dX4_isTurning_106 : decode cX4_isTurning 106 = .ok (.iload_n 1, 1) := by decide +kernel
theorem dX4_isTurning_107 : decode cX4_isTurning 107 = .ok (.ireturn, 1) := by decide +kernel
theorem dX4_aboveOf_0 : decode cX4_aboveOf 0 = .ok (.iconst 0, 1) := by decide +kernel
theorem dX4_aboveOf_1 : decode cX4_aboveOf 1 = .ok (.istore_n 3, 1) := by decide +kernel
theorem dX4_aboveOf_2 : decode cX4_aboveOf 2 = .ok (.iconst 0, 1) := by decide +kernel
theorem dX4_aboveOf_3 : decode cX4_aboveOf 3 = .ok (.istore 4, 2) := by decide +kernel
theorem dX4_aboveOf_5 : decode cX4_aboveOf 5 = .ok (.iload 4, 2) := by decide +kernel
theorem dX4_aboveOf_7 : decode cX4_aboveOf 7 = .ok (.iload_n 1, 1) := by decide +kernel
theorem dX4_aboveOf_8 : decode cX4_aboveOf 8 = .ok (.if_icmp .ge 33, 3) := by decide +kernel
theorem dX4_aboveOf_11 : decode cX4_aboveOf 11 = .ok (.iload_n 3, 1) := by decide +kernel
theorem dX4_aboveOf_12 : decode cX4_aboveOf 12 = .ok (.aload_n 0, 1) := by decide +kernel
theorem dX4_aboveOf_13 : decode cX4_aboveOf 13 = .ok (.iload 4, 2) := by decide +kernel
theorem dX4_aboveOf_15 : decode cX4_aboveOf 15 = .ok (.invokevirtual 129, 3) := by decide +kernel
theorem dX4_aboveOf_18 : decode cX4_aboveOf 18 = .ok (.aload_n 0, 1) := by decide +kernel
theorem dX4_aboveOf_19 : decode cX4_aboveOf 19 = .ok (.getfield 97, 3) := by decide +kernel
theorem dX4_aboveOf_22 : decode cX4_aboveOf 22 = .ok (.isub, 1) := by decide +kernel
theorem dX4_aboveOf_23 : decode cX4_aboveOf 23 = .ok (.iload_n 2, 1) := by decide +kernel
theorem dX4_aboveOf_24 : decode cX4_aboveOf 24 = .ok (.imul, 1) := by decide +kernel
theorem dX4_aboveOf_25 : decode cX4_aboveOf 25 = .ok (.ifCond .le 7, 3) := by decide +kernel
theorem dX4_aboveOf_28 : decode cX4_aboveOf 28 = .ok (.iconst 1, 1) := by decide +kernel
theorem dX4_aboveOf_29 : decode cX4_aboveOf 29 = .ok (.goto 4, 3) := by decide +kernel
theorem dX4_aboveOf_32 : decode cX4_aboveOf 32 = .ok (.iconst 0, 1) := by decide +kernel
theorem dX4_aboveOf_33 : decode cX4_aboveOf 33 = .ok (.iadd, 1) := by decide +kernel
theorem dX4_aboveOf_34 : decode cX4_aboveOf 34 = .ok (.istore_n 3, 1) := by decide +kernel
theorem dX4_aboveOf_35 : decode cX4_aboveOf 35 = .ok (.iinc 4 1, 3) := by decide +kernel
theorem dX4_aboveOf_38 : decode cX4_aboveOf 38 = .ok (.goto (-33), 3) := by decide +kernel
theorem dX4_aboveOf_41 : decode cX4_aboveOf 41 = .ok (.iload_n 3, 1) := by decide +kernel
theorem dX4_aboveOf_42 : decode cX4_aboveOf 42 = .ok (.ireturn, 1) := by decide +kernel
theorem dX4_named_0 : decode cX4_named 0 = .ok (.iload_n 0, 1) := by decide +kernel
theorem dX4_named_1 : decode cX4_named 1 = .ok (.iconst 1, 1) := by decide +kernel
theorem dX4_named_2 : decode cX4_named 2 = .ok (.if_icmp .ne 7, 3) := by decide +kernel
theorem dX4_named_5 : decode cX4_named 5 = .ok (.iconst 1, 1) := by decide +kernel
theorem dX4_named_6 : decode cX4_named 6 = .ok (.goto 65, 3) := by decide +kernel
theorem dX4_named_9 : decode cX4_named 9 = .ok (.iload_n 0, 1) := by decide +kernel
theorem dX4_named_10 : decode cX4_named 10 = .ok (.iconst 2, 1) := by decide +kernel
theorem dX4_named_11 : decode cX4_named 11 = .ok (.if_icmp .ne 8, 3) := by decide +kernel
theorem dX4_named_14 : decode cX4_named 14 = .ok (.bipush 9, 2) := by decide +kernel
theorem dX4_named_16 : decode cX4_named 16 = .ok (.goto 55, 3) := by decide +kernel
theorem dX4_named_19 : decode cX4_named 19 = .ok (.iload_n 0, 1) := by decide +kernel
theorem dX4_named_20 : decode cX4_named 20 = .ok (.iconst 3, 1) := by decide +kernel
theorem dX4_named_21 : decode cX4_named 21 = .ok (.if_icmp .ne 8, 3) := by decide +kernel
theorem dX4_named_24 : decode cX4_named 24 = .ok (.bipush 6, 2) := by decide +kernel
theorem dX4_named_26 : decode cX4_named 26 = .ok (.goto 45, 3) := by decide +kernel
theorem dX4_named_29 : decode cX4_named 29 = .ok (.iload_n 0, 1) := by decide +kernel
theorem dX4_named_30 : decode cX4_named 30 = .ok (.iconst 4, 1) := by decide +kernel
theorem dX4_named_31 : decode cX4_named 31 = .ok (.if_icmp .ne 8, 3) := by decide +kernel
theorem dX4_named_34 : decode cX4_named 34 = .ok (.bipush 14, 2) := by decide +kernel
theorem dX4_named_36 : decode cX4_named 36 = .ok (.goto 35, 3) := by decide +kernel
theorem dX4_named_39 : decode cX4_named 39 = .ok (.iload_n 0, 1) := by decide +kernel
theorem dX4_named_40 : decode cX4_named 40 = .ok (.iconst 5, 1) := by decide +kernel
theorem dX4_named_41 : decode cX4_named 41 = .ok (.if_icmp .ne 7, 3) := by decide +kernel
theorem dX4_named_44 : decode cX4_named 44 = .ok (.iconst 3, 1) := by decide +kernel
theorem dX4_named_45 : decode cX4_named 45 = .ok (.goto 26, 3) := by decide +kernel
theorem dX4_named_48 : decode cX4_named 48 = .ok (.iload_n 0, 1) := by decide +kernel
theorem dX4_named_49 : decode cX4_named 49 = .ok (.bipush 6, 2) := by decide +kernel
theorem dX4_named_51 : decode cX4_named 51 = .ok (.if_icmp .ne 7, 3) := by decide +kernel
theorem dX4_named_54 : decode cX4_named 54 = .ok (.iconst 5, 1) := by decide +kernel
theorem dX4_named_55 : decode cX4_named 55 = .ok (.goto 16, 3) := by decide +kernel
theorem dX4_named_58 : decode cX4_named 58 = .ok (.iload_n 0, 1) := by decide +kernel
theorem dX4_named_59 : decode cX4_named 59 = .ok (.bipush 7, 2) := by decide +kernel
theorem dX4_named_61 : decode cX4_named 61 = .ok (.if_icmp .ne 8, 3) := by decide +kernel
theorem dX4_named_64 : decode cX4_named 64 = .ok (.bipush 15, 2) := by decide +kernel
theorem dX4_named_66 : decode cX4_named 66 = .ok (.goto 5, 3) := by decide +kernel
theorem dX4_named_69 : decode cX4_named 69 = .ok (.bipush 8, 2) := by decide +kernel
theorem dX4_named_71 : decode cX4_named 71 = .ok (.ireturn, 1) := by decide +kernel
theorem dX4_breaks_0 : decode cX4_breaks 0 = .ok (.aload_n 0, 1) := by decide +kernel
theorem dX4_breaks_1 : decode cX4_breaks 1 = .ok (.getfield 76, 3) := by decide +kernel
theorem dX4_breaks_4 : decode cX4_breaks 4 = .ok (.iload_n 1, 1) := by decide +kernel
theorem dX4_breaks_5 : decode cX4_breaks 5 = .ok (.invokestatic 135, 3) := by decide +kernel
theorem dX4_breaks_8 : decode cX4_breaks 8 = .ok (.if_icmp .ge 5, 3) := by decide +kernel
theorem dX4_breaks_11 : decode cX4_breaks 11 = .ok (.iconst 0, 1) := by decide +kernel
theorem dX4_breaks_12 : decode cX4_breaks 12 = .ok (.ireturn, 1) := by decide +kernel
theorem dX4_breaks_13 : decode cX4_breaks 13 = .ok (.iload_n 1, 1) := by decide +kernel
theorem dX4_breaks_14 : decode cX4_breaks 14 = .ok (.iconst 1, 1) := by decide +kernel
theorem dX4_breaks_15 : decode cX4_breaks 15 = .ok (.if_icmp .ne 11, 3) := by decide +kernel
theorem dX4_breaks_18 : decode cX4_breaks 18 = .ok (.aload_n 0, 1) := by decide +kernel
theorem dX4_breaks_19 : decode cX4_breaks 19 = .ok (.iconst 0, 1) := by decide +kernel
theorem dX4_breaks_20 : decode cX4_breaks 20 = .ok (.iconst 3, 1) := by decide +kernel
theorem dX4_breaks_21 : decode cX4_breaks 21 = .ok (.iload_n 2, 1) := by decide +kernel
theorem dX4_breaks_22 : decode cX4_breaks 22 = .ok (.invokevirtual 132, 3) := by decide +kernel
theorem dX4_breaks_25 : decode cX4_breaks 25 = .ok (.ireturn, 1) := by decide +kernel
theorem dX4_breaks_26 : decode cX4_breaks 26 = .ok (.iload_n 1, 1) := by decide +kernel
theorem dX4_breaks_27 : decode cX4_breaks 27 = .ok (.iconst 2, 1) := by decide +kernel
theorem dX4_breaks_28 : decode cX4_breaks 28 = .ok (.if_icmp .ne 21, 3) := by decide +kernel
theorem dX4_breaks_31 : decode cX4_breaks 31 = .ok (.aload_n 0, 1) := by decide +kernel
theorem dX4_breaks_32 : decode cX4_breaks 32 = .ok (.bipush 9, 2) := by decide +kernel
theorem dX4_breaks_34 : decode cX4_breaks 34 = .ok (.iload_n 2, 1) := by decide +kernel
theorem dX4_breaks_35 : decode cX4_breaks 35 = .ok (.invokevirtual 138, 3) := by decide +kernel
theorem dX4_breaks_38 : decode cX4_breaks 38 = .ok (.bipush 9, 2) := by decide +kernel
theorem dX4_breaks_40 : decode cX4_breaks 40 = .ok (.if_icmp .ne 7, 3) := by decide +kernel
theorem dX4_breaks_43 : decode cX4_breaks 43 = .ok (.iconst 1, 1) := by decide +kernel
theorem dX4_breaks_44 : decode cX4_breaks 44 = .ok (.goto 4, 3) := by decide +kernel
theorem dX4_breaks_47 : decode cX4_breaks 47 = .ok (.iconst 0, 1) := by decide +kernel
theorem dX4_breaks_48 : decode cX4_breaks 48 = .ok (.ireturn, 1) := by decide +kernel
theorem dX4_breaks_49 : decode cX4_breaks 49 = .ok (.iload_n 1, 1) := by decide +kernel
theorem dX4_breaks_50 : decode cX4_breaks 50 = .ok (.iconst 3, 1) := by decide +kernel
theorem dX4_breaks_51 : decode cX4_breaks 51 = .ok (.if_icmp .ne 19, 3) := by decide +kernel
theorem dX4_breaks_54 : decode cX4_breaks 54 = .ok (.aload_n 0, 1) := by decide +kernel
theorem dX4_breaks_55 : decode cX4_breaks 55 = .ok (.iconst 5, 1) := by decide +kernel
theorem dX4_breaks_56 : decode cX4_breaks 56 = .ok (.iload_n 2, 1) := by decide +kernel
theorem dX4_breaks_57 : decode cX4_breaks 57 = .ok (.invokevirtual 142, 3) := by decide +kernel
theorem dX4_breaks_60 : decode cX4_breaks 60 = .ok (.iconst 5, 1) := by decide +kernel
theorem dX4_breaks_61 : decode cX4_breaks 61 = .ok (.if_icmp .ne 7, 3) := by decide +kernel
theorem dX4_breaks_64 : decode cX4_breaks 64 = .ok (.iconst 1, 1) := by decide +kernel
theorem dX4_breaks_65 : decode cX4_breaks 65 = .ok (.goto 4, 3) := by decide +kernel
theorem dX4_breaks_68 : decode cX4_breaks 68 = .ok (.iconst 0, 1) := by decide +kernel
theorem dX4_breaks_69 : decode cX4_breaks 69 = .ok (.ireturn, 1) := by decide +kernel
theorem dX4_breaks_70 : decode cX4_breaks 70 = .ok (.iload_n 1, 1) := by decide +kernel
theorem dX4_breaks_71 : decode cX4_breaks 71 = .ok (.iconst 4, 1) := by decide +kernel
theorem dX4_breaks_72 : decode cX4_breaks 72 = .ok (.if_icmp .ne 8, 3) := by decide +kernel
theorem dX4_breaks_75 : decode cX4_breaks 75 = .ok (.aload_n 0, 1) := by decide +kernel
theorem dX4_breaks_76 : decode cX4_breaks 76 = .ok (.invokevirtual 145, 3) := by decide +kernel
theorem dX4_breaks_79 : decode cX4_breaks 79 = .ok (.ireturn, 1) := by decide +kernel
theorem dX4_breaks_80 : decode cX4_breaks 80 = .ok (.iload_n 1, 1) := by decide +kernel
theorem dX4_breaks_81 : decode cX4_breaks 81 = .ok (.iconst 5, 1) := by decide +kernel
theorem dX4_breaks_82 : decode cX4_breaks 82 = .ok (.if_icmp .ne 30, 3) := by decide +kernel
theorem dX4_breaks_85 : decode cX4_breaks 85 = .ok (.aload_n 0, 1) := by decide +kernel
theorem dX4_breaks_86 : decode cX4_breaks 86 = .ok (.iconst 0, 1) := by decide +kernel
theorem dX4_breaks_87 : decode cX4_breaks 87 = .ok (.iconst 2, 1) := by decide +kernel
theorem dX4_breaks_88 : decode cX4_breaks 88 = .ok (.iload_n 2, 1) := by decide +kernel
theorem dX4_breaks_89 : decode cX4_breaks 89 = .ok (.invokevirtual 132, 3) := by decide +kernel
theorem dX4_breaks_92 : decode cX4_breaks 92 = .ok (.ifCond .eq 18, 3) := by decide +kernel
theorem dX4_breaks_95 : decode cX4_breaks 95 = .ok (.aload_n 0, 1) := by decide +kernel
theorem dX4_breaks_96 : decode cX4_breaks 96 = .ok (.iconst 3, 1) := by decide +kernel
theorem dX4_breaks_97 : decode cX4_breaks 97 = .ok (.iconst 2, 1) := by decide +kernel
theorem dX4_breaks_98 : decode cX4_breaks 98 = .ok (.iload_n 2, 1) := by decide +kernel
theorem dX4_breaks_99 : decode cX4_breaks 99 = .ok (.invokevirtual 149, 3) := by decide +kernel
theorem dX4_breaks_102 : decode cX4_breaks 102 = .ok (.iconst 2, 1) := by decide +kernel
theorem dX4_breaks_103 : decode cX4_breaks 103 = .ok (.if_icmp .lt 7, 3) := by decide +kernel
theorem dX4_breaks_106 : decode cX4_breaks 106 = .ok (.iconst 1, 1) := by decide +kernel
theorem dX4_breaks_107 : decode cX4_breaks 107 = .ok (.goto 4, 3) := by decide +kernel
theorem dX4_breaks_110 : decode cX4_breaks 110 = .ok (.iconst 0, 1) := by decide +kernel
theorem dX4_breaks_111 : decode cX4_breaks 111 = .ok (.ireturn, 1) := by decide +kernel
theorem dX4_breaks_112 : decode cX4_breaks 112 = .ok (.iload_n 1, 1) := by decide +kernel
theorem dX4_breaks_113 : decode cX4_breaks 113 = .ok (.bipush 6, 2) := by decide +kernel
theorem dX4_breaks_115 : decode cX4_breaks 115 = .ok (.if_icmp .ne 30, 3) := by decide +kernel
theorem dX4_breaks_118 : decode cX4_breaks 118 = .ok (.aload_n 0, 1) := by decide +kernel
theorem dX4_breaks_119 : decode cX4_breaks 119 = .ok (.iconst 0, 1) := by decide +kernel
theorem dX4_breaks_120 : decode cX4_breaks 120 = .ok (.iconst 1, 1) := by decide +kernel
theorem dX4_breaks_121 : decode cX4_breaks 121 = .ok (.iload_n 2, 1) := by decide +kernel
theorem dX4_breaks_122 : decode cX4_breaks 122 = .ok (.invokevirtual 132, 3) := by decide +kernel
theorem dX4_breaks_125 : decode cX4_breaks 125 = .ok (.ifCond .eq 18, 3) := by decide +kernel
theorem dX4_breaks_128 : decode cX4_breaks 128 = .ok (.aload_n 0, 1) := by decide +kernel
theorem dX4_breaks_129 : decode cX4_breaks 129 = .ok (.iconst 5, 1) := by decide +kernel
theorem dX4_breaks_130 : decode cX4_breaks 130 = .ok (.iconst 1, 1) := by decide +kernel
theorem dX4_breaks_131 : decode cX4_breaks 131 = .ok (.iload_n 2, 1) := by decide +kernel
theorem dX4_breaks_132 : decode cX4_breaks 132 = .ok (.invokevirtual 149, 3) := by decide +kernel
theorem dX4_breaks_135 : decode cX4_breaks 135 = .ok (.iconst 4, 1) := by decide +kernel
theorem dX4_breaks_136 : decode cX4_breaks 136 = .ok (.if_icmp .lt 7, 3) := by decide +kernel
theorem dX4_breaks_139 : decode cX4_breaks 139 = .ok (.iconst 1, 1) := by decide +kernel
theorem dX4_breaks_140 : decode cX4_breaks 140 = .ok (.goto 4, 3) := by decide +kernel
theorem dX4_breaks_143 : decode cX4_breaks 143 = .ok (.iconst 0, 1) := by decide +kernel
theorem dX4_breaks_144 : decode cX4_breaks 144 = .ok (.ireturn, 1) := by decide +kernel
theorem dX4_breaks_145 : decode cX4_breaks 145 = .ok (.iload_n 1, 1) := by decide +kernel
theorem dX4_breaks_146 : decode cX4_breaks 146 = .ok (.bipush 7, 2) := by decide +kernel
theorem dX4_breaks_148 : decode cX4_breaks 148 = .ok (.if_icmp .ne 29, 3) := by decide +kernel
theorem dX4_breaks_151 : decode cX4_breaks 151 = .ok (.aload_n 0, 1) := by decide +kernel
theorem dX4_breaks_152 : decode cX4_breaks 152 = .ok (.bipush 15, 2) := by decide +kernel
theorem dX4_breaks_154 : decode cX4_breaks 154 = .ok (.iconst 1, 1) := by decide +kernel
theorem dX4_breaks_155 : decode cX4_breaks 155 = .ok (.iconst 1, 1) := by decide +kernel
theorem dX4_breaks_156 : decode cX4_breaks 156 = .ok (.invokevirtual 149, 3) := by decide +kernel
theorem dX4_breaks_159 : decode cX4_breaks 159 = .ok (.aload_n 0, 1) := by decide +kernel
theorem dX4_breaks_160 : decode cX4_breaks 160 = .ok (.bipush 15, 2) := by decide +kernel
theorem dX4_breaks_162 : decode cX4_breaks 162 = .ok (.iconst 1, 1) := by decide +kernel
theorem dX4_breaks_163 : decode cX4_breaks 163 = .ok (.iconst (-1), 1) := by decide +kernel
theorem dX4_breaks_164 : decode cX4_breaks 164 = .ok (.invokevirtual 149, 3) := by decide +kernel
theorem dX4_breaks_167 : decode cX4_breaks 167 = .ok (.iadd, 1) := by decide +kernel
theorem dX4_breaks_168 : decode cX4_breaks 168 = .ok (.ifCond .ne 7, 3) := by decide +kernel
theorem dX4_breaks_171 : decode cX4_breaks 171 = .ok (.iconst 1, 1) := by decide +kernel
theorem dX4_breaks_172 : decode cX4_breaks 172 = .ok (.goto 4, 3) := by decide +kernel
theorem dX4_breaks_175 : decode cX4_breaks 175 = .ok (.iconst 0, 1) := by decide +kernel
theorem dX4_breaks_176 : decode cX4_breaks 176 = .ok (.ireturn, 1) := by decide +kernel
theorem dX4_breaks_177 : decode cX4_breaks 177 = .ok (.aload_n 0, 1) := by decide +kernel
theorem dX4_breaks_178 : decode cX4_breaks 178 = .ok (.bipush 8, 2) := by decide +kernel
theorem dX4_breaks_180 : decode cX4_breaks 180 = .ok (.iconst 1, 1) := by decide +kernel
theorem dX4_breaks_181 : decode cX4_breaks 181 = .ok (.iconst 1, 1) := by decide +kernel
theorem dX4_breaks_182 : decode cX4_breaks 182 = .ok (.invokevirtual 149, 3) := by decide +kernel
theorem dX4_breaks_185 : decode cX4_breaks 185 = .ok (.aload_n 0, 1) := by decide +kernel
theorem dX4_breaks_186 : decode cX4_breaks 186 = .ok (.bipush 8, 2) := by decide +kernel
theorem dX4_breaks_188 : decode cX4_breaks 188 = .ok (.iconst 1, 1) := by decide +kernel
theorem dX4_breaks_189 : decode cX4_breaks 189 = .ok (.iconst (-1), 1) := by decide +kernel
theorem dX4_breaks_190 : decode cX4_breaks 190 = .ok (.invokevirtual 149, 3) := by decide +kernel
theorem dX4_breaks_193 : decode cX4_breaks 193 = .ok (.iadd, 1) := by decide +kernel
theorem dX4_breaks_194 : decode cX4_breaks 194 = .ok (.bipush 8, 2) := by decide +kernel
theorem dX4_breaks_196 : decode cX4_breaks 196 = .ok (.if_icmp .ne 7, 3) := by decide +kernel
theorem dX4_breaks_199 : decode cX4_breaks 199 = .ok (.iconst 1, 1) := by decide +kernel
theorem dX4_breaks_200 : decode cX4_breaks 200 = .ok (.goto 4, 3) := by decide +kernel
theorem dX4_breaks_203 : decode cX4_breaks 203 = .ok (.iconst 0, 1) := by decide +kernel
theorem dX4_breaks_204 : decode cX4_breaks 204 = .ok (.ireturn, 1) := by decide +kernel
theorem dX4_broken_0 : decode cX4_broken 0 = .ok (.aload_n 0, 1) := by decide +kernel
theorem dX4_broken_1 : decode cX4_broken 1 = .ok (.getfield 20, 3) := by decide +kernel
theorem dX4_broken_4 : decode cX4_broken 4 = .ok (.iload_n 1, 1) := by decide +kernel
theorem dX4_broken_5 : decode cX4_broken 5 = .ok (.iaload, 1) := by decide +kernel
theorem dX4_broken_6 : decode cX4_broken 6 = .ok (.ifCond .le 5, 3) := by decide +kernel
theorem dX4_broken_9 : decode cX4_broken 9 = .ok (.iconst 0, 1) := by decide +kernel
theorem dX4_broken_10 : decode cX4_broken 10 = .ok (.ireturn, 1) := by decide +kernel
theorem dX4_broken_11 : decode cX4_broken 11 = .ok (.aload_n 0, 1) := by decide +kernel
theorem dX4_broken_12 : decode cX4_broken 12 = .ok (.aload_n 0, 1) := by decide +kernel
theorem dX4_broken_13 : decode cX4_broken 13 = .ok (.iload_n 1, 1) := by decide +kernel
theorem dX4_broken_14 : decode cX4_broken 14 = .ok (.invokevirtual 79, 3) := by decide +kernel
theorem dX4_broken_17 : decode cX4_broken 17 = .ok (.invokevirtual 117, 3) := by decide +kernel
theorem dX4_broken_20 : decode cX4_broken 20 = .ok (.aload_n 0, 1) := by decide +kernel
theorem dX4_broken_21 : decode cX4_broken 21 = .ok (.aload_n 0, 1) := by decide +kernel
theorem dX4_broken_22 : decode cX4_broken 22 = .ok (.iload_n 1, 1) := by decide +kernel
theorem dX4_broken_23 : decode cX4_broken 23 = .ok (.invokevirtual 79, 3) := by decide +kernel
theorem dX4_broken_26 : decode cX4_broken 26 = .ok (.iload_n 1, 1) := by decide +kernel
theorem dX4_broken_27 : decode cX4_broken 27 = .ok (.invokevirtual 89, 3) := by decide +kernel
theorem dX4_broken_30 : decode cX4_broken 30 = .ok (.iconst 0, 1) := by decide +kernel
theorem dX4_broken_31 : decode cX4_broken 31 = .ok (.istore_n 2, 1) := by decide +kernel
theorem dX4_broken_32 : decode cX4_broken 32 = .ok (.iconst 1, 1) := by decide +kernel
theorem dX4_broken_33 : decode cX4_broken 33 = .ok (.istore_n 3, 1) := by decide +kernel
theorem dX4_broken_34 : decode cX4_broken 34 = .ok (.iload_n 3, 1) := by decide +kernel
theorem dX4_broken_35 : decode cX4_broken 35 = .ok (.bipush 9, 2) := by decide +kernel
theorem dX4_broken_37 : decode cX4_broken 37 = .ok (.if_icmp .ge 37, 3) := by decide +kernel
theorem dX4_broken_40 : decode cX4_broken 40 = .ok (.iload_n 2, 1) := by decide +kernel
theorem dX4_broken_41 : decode cX4_broken 41 = .ok (.aload_n 0, 1) := by decide +kernel
theorem dX4_broken_42 : decode cX4_broken 42 = .ok (.iload_n 3, 1) := by decide +kernel
theorem dX4_broken_43 : decode cX4_broken 43 = .ok (.iconst 1, 1) := by decide +kernel
theorem dX4_broken_44 : decode cX4_broken 44 = .ok (.invokevirtual 153, 3) := by decide +kernel
theorem dX4_broken_47 : decode cX4_broken 47 = .ok (.ifCond .ne 12, 3) := by decide +kernel
theorem dX4_broken_50 : decode cX4_broken 50 = .ok (.aload_n 0, 1) := by decide +kernel
theorem dX4_broken_51 : decode cX4_broken 51 = .ok (.iload_n 3, 1) := by decide +kernel
theorem dX4_broken_52 : decode cX4_broken 52 = .ok (.iconst (-1), 1) := by decide +kernel
theorem dX4_broken_53 : decode cX4_broken 53 = .ok (.invokevirtual 153, 3) := by decide +kernel
theorem dX4_broken_56 : decode cX4_broken 56 = .ok (.ifCond .eq 9, 3) := by decide +kernel
theorem dX4_broken_59 : decode cX4_broken 59 = .ok (.iconst 1, 1) := by decide +kernel
theorem dX4_broken_60 : decode cX4_broken 60 = .ok (.iload_n 3, 1) := by decide +kernel
theorem dX4_broken_61 : decode cX4_broken 61 = .ok (.ishl, 1) := by decide +kernel
theorem dX4_broken_62 : decode cX4_broken 62 = .ok (.goto 4, 3) := by decide +kernel
theorem dX4_broken_65 : decode cX4_broken 65 = .ok (.iconst 0, 1) := by decide +kernel
theorem dX4_broken_66 : decode cX4_broken 66 = .ok (.ior, 1) := by decide +kernel
theorem dX4_broken_67 : decode cX4_broken 67 = .ok (.istore_n 2, 1) := by decide +kernel
theorem dX4_broken_68 : decode cX4_broken 68 = .ok (.iinc 3 1, 3) := by decide +kernel
theorem dX4_broken_71 : decode cX4_broken 71 = .ok (.goto (-37), 3) := by decide +kernel
theorem dX4_broken_74 : decode cX4_broken 74 = .ok (.iload_n 2, 1) := by decide +kernel
theorem dX4_broken_75 : decode cX4_broken 75 = .ok (.ireturn, 1) := by decide +kernel
theorem dX4_signals_0 : decode cX4_signals 0 = .ok (.aload_n 0, 1) := by decide +kernel
theorem dX4_signals_1 : decode cX4_signals 1 = .ok (.iload_n 1, 1) := by decide +kernel
theorem dX4_signals_2 : decode cX4_signals 2 = .ok (.invokevirtual 121, 3) := by decide +kernel
theorem dX4_signals_5 : decode cX4_signals 5 = .ok (.ifCond .eq 11, 3) := by decide +kernel
theorem dX4_signals_8 : decode cX4_signals 8 = .ok (.aload_n 0, 1) := by decide +kernel
theorem dX4_signals_9 : decode cX4_signals 9 = .ok (.iload_n 1, 1) := by decide +kernel
theorem dX4_signals_10 : decode cX4_signals 10 = .ok (.invokevirtual 157, 3) := by decide +kernel
theorem dX4_signals_13 : decode cX4_signals 13 = .ok (.goto 4, 3) := by decide +kernel
theorem dX4_signals_16 : decode cX4_signals 16 = .ok (.iconst 0, 1) := by decide +kernel
theorem dX4_signals_17 : decode cX4_signals 17 = .ok (.ireturn, 1) := by decide +kernel
theorem dX4_signalsByWindows_0 : decode cX4_signalsByWindows 0 = .ok (.aload_n 0, 1) := by decide +kernel
theorem dX4_signalsByWindows_1 : decode cX4_signalsByWindows 1 = .ok (.iload_n 1, 1) := by decide +kernel
theorem dX4_signalsByWindows_2 : decode cX4_signalsByWindows 2 = .ok (.invokevirtual 121, 3) := by decide +kernel
theorem dX4_signalsByWindows_5 : decode cX4_signalsByWindows 5 = .ok (.ifCond .eq 11, 3) := by decide +kernel
theorem dX4_signalsByWindows_8 : decode cX4_signalsByWindows 8 = .ok (.aload_n 0, 1) := by decide +kernel
theorem dX4_signalsByWindows_9 : decode cX4_signalsByWindows 9 = .ok (.iload_n 1, 1) := by decide +kernel
theorem dX4_signalsByWindows_10 : decode cX4_signalsByWindows 10 = .ok (.invokevirtual 157, 3) := by decide +kernel
theorem dX4_signalsByWindows_13 : decode cX4_signalsByWindows 13 = .ok (.goto 4, 3) := by decide +kernel
theorem dX4_signalsByWindows_16 : decode cX4_signalsByWindows 16 = .ok (.iconst 0, 1) := by decide +kernel
theorem dX4_signalsByWindows_17 : decode cX4_signalsByWindows 17 = .ok (.ireturn, 1) := by decide +kernel
theorem dX4_firstOf_0 : decode cX4_firstOf 0 = .ok (.aload_n 0, 1) := by decide +kernel
theorem dX4_firstOf_1 : decode cX4_firstOf 1 = .ok (.iload_n 1, 1) := by decide +kernel
theorem dX4_firstOf_2 : decode cX4_firstOf 2 = .ok (.iconst 0, 1) := by decide +kernel
theorem dX4_firstOf_3 : decode cX4_firstOf 3 = .ok (.aload_n 0, 1) := by decide +kernel
theorem dX4_firstOf_4 : decode cX4_firstOf 4 = .ok (.getfield 61, 3) := by decide +kernel
theorem dX4_firstOf_7 : decode cX4_firstOf 7 = .ok (.iconst 1, 1) := by decide +kernel
theorem dX4_firstOf_8 : decode cX4_firstOf 8 = .ok (.isub, 1) := by decide +kernel
theorem dX4_firstOf_9 : decode cX4_firstOf 9 = .ok (.invokestatic 57, 3) := by decide +kernel
theorem dX4_firstOf_12 : decode cX4_firstOf 12 = .ok (.ifCond .eq 17, 3) := by decide +kernel
theorem dX4_firstOf_15 : decode cX4_firstOf 15 = .ok (.iload_n 2, 1) := by decide +kernel
theorem dX4_firstOf_16 : decode cX4_firstOf 16 = .ok (.iconst 1, 1) := by decide +kernel
theorem dX4_firstOf_17 : decode cX4_firstOf 17 = .ok (.bipush 8, 2) := by decide +kernel
theorem dX4_firstOf_19 : decode cX4_firstOf 19 = .ok (.invokestatic 57, 3) := by decide +kernel
theorem dX4_firstOf_22 : decode cX4_firstOf 22 = .ok (.ifCond .eq 7, 3) := by decide +kernel
theorem dX4_firstOf_25 : decode cX4_firstOf 25 = .ok (.iconst 0, 1) := by decide +kernel
theorem dX4_firstOf_26 : decode cX4_firstOf 26 = .ok (.goto 4, 3) := by decide +kernel
theorem dX4_firstOf_29 : decode cX4_firstOf 29 = .ok (.iconst 1, 1) := by decide +kernel
theorem dX4_firstOf_30 : decode cX4_firstOf 30 = .ok (.putfield 48, 3) := by decide +kernel
theorem dX4_firstOf_33 : decode cX4_firstOf 33 = .ok (.aload_n 0, 1) := by decide +kernel
theorem dX4_firstOf_34 : decode cX4_firstOf 34 = .ok (.getfield 48, 3) := by decide +kernel
theorem dX4_firstOf_37 : decode cX4_firstOf 37 = .ok (.ifCond .le 5, 3) := by decide +kernel
theorem dX4_firstOf_40 : decode cX4_firstOf 40 = .ok (.iconst 0, 1) := by decide +kernel
theorem dX4_firstOf_41 : decode cX4_firstOf 41 = .ok (.ireturn, 1) := by decide +kernel
theorem dX4_firstOf_42 : decode cX4_firstOf 42 = .ok (.aload_n 0, 1) := by decide +kernel
theorem dX4_firstOf_43 : decode cX4_firstOf 43 = .ok (.iload_n 1, 1) := by decide +kernel
theorem dX4_firstOf_44 : decode cX4_firstOf 44 = .ok (.invokevirtual 157, 3) := by decide +kernel
theorem dX4_firstOf_47 : decode cX4_firstOf 47 = .ok (.iload_n 2, 1) := by decide +kernel
theorem dX4_firstOf_48 : decode cX4_firstOf 48 = .ok (.ishr, 1) := by decide +kernel
theorem dX4_firstOf_49 : decode cX4_firstOf 49 = .ok (.iconst 1, 1) := by decide +kernel
theorem dX4_firstOf_50 : decode cX4_firstOf 50 = .ok (.iand, 1) := by decide +kernel
theorem dX4_firstOf_51 : decode cX4_firstOf 51 = .ok (.iconst 1, 1) := by decide +kernel
theorem dX4_firstOf_52 : decode cX4_firstOf 52 = .ok (.if_icmp .ne 20, 3) := by decide +kernel
theorem dX4_firstOf_55 : decode cX4_firstOf 55 = .ok (.aload_n 0, 1) := by decide +kernel
theorem dX4_firstOf_56 : decode cX4_firstOf 56 = .ok (.getfield 42, 3) := by decide +kernel
theorem dX4_firstOf_59 : decode cX4_firstOf 59 = .ok (.aload_n 0, 1) := by decide +kernel
theorem dX4_firstOf_60 : decode cX4_firstOf 60 = .ok (.getfield 76, 3) := by decide +kernel
theorem dX4_firstOf_63 : decode cX4_firstOf 63 = .ok (.iload_n 2, 1) := by decide +kernel
theorem dX4_firstOf_64 : decode cX4_firstOf 64 = .ok (.invokestatic 135, 3) := by decide +kernel
theorem dX4_firstOf_67 : decode cX4_firstOf 67 = .ok (.isub, 1) := by decide +kernel
theorem dX4_firstOf_68 : decode cX4_firstOf 68 = .ok (.iaload, 1) := by decide +kernel
theorem dX4_firstOf_69 : decode cX4_firstOf 69 = .ok (.goto 4, 3) := by decide +kernel
theorem dX4_firstOf_72 : decode cX4_firstOf 72 = .ok (.iconst (-1), 1) := by decide +kernel
theorem dX4_firstOf_73 : decode cX4_firstOf 73 = .ok (.ireturn, 1) := by decide +kernel
theorem dX4_isWide_0 : decode cX4_isWide 0 = .ok (.aload_n 0, 1) := by decide +kernel
theorem dX4_isWide_1 : decode cX4_isWide 1 = .ok (.iload_n 1, 1) := by decide +kernel
theorem dX4_isWide_2 : decode cX4_isWide 2 = .ok (.invokevirtual 121, 3) := by decide +kernel
theorem dX4_isWide_5 : decode cX4_isWide 5 = .ok (.ifCond .eq 12, 3) := by decide +kernel
theorem dX4_isWide_8 : decode cX4_isWide 8 = .ok (.aload_n 0, 1) := by decide +kernel
theorem dX4_isWide_9 : decode cX4_isWide 9 = .ok (.getfield 20, 3) := by decide +kernel
theorem dX4_isWide_12 : decode cX4_isWide 12 = .ok (.iload_n 1, 1) := by decide +kernel
theorem dX4_isWide_13 : decode cX4_isWide 13 = .ok (.iaload, 1) := by decide +kernel
theorem dX4_isWide_14 : decode cX4_isWide 14 = .ok (.ifCond .le 5, 3) := by decide +kernel
theorem dX4_isWide_17 : decode cX4_isWide 17 = .ok (.iconst 0, 1) := by decide +kernel
theorem dX4_isWide_18 : decode cX4_isWide 18 = .ok (.ireturn, 1) := by decide +kernel
theorem dX4_isWide_19 : decode cX4_isWide 19 = .ok (.aload_n 0, 1) := by decide +kernel
theorem dX4_isWide_20 : decode cX4_isWide 20 = .ok (.aload_n 0, 1) := by decide +kernel
theorem dX4_isWide_21 : decode cX4_isWide 21 = .ok (.iload_n 1, 1) := by decide +kernel
theorem dX4_isWide_22 : decode cX4_isWide 22 = .ok (.invokevirtual 79, 3) := by decide +kernel
theorem dX4_isWide_25 : decode cX4_isWide 25 = .ok (.invokevirtual 117, 3) := by decide +kernel
theorem dX4_isWide_28 : decode cX4_isWide 28 = .ok (.sipush 1000, 3) := by decide +kernel
theorem dX4_isWide_31 : decode cX4_isWide 31 = .ok (.aload_n 0, 1) := by decide +kernel
theorem dX4_isWide_32 : decode cX4_isWide 32 = .ok (.getfield 17, 3) := by decide +kernel
theorem dX4_isWide_35 : decode cX4_isWide 35 = .ok (.iload_n 1, 1) := by decide +kernel
theorem dX4_isWide_36 : decode cX4_isWide 36 = .ok (.iaload, 1) := by decide +kernel
theorem dX4_isWide_37 : decode cX4_isWide 37 = .ok (.imul, 1) := by decide +kernel
theorem dX4_isWide_38 : decode cX4_isWide 38 = .ok (.aload_n 0, 1) := by decide +kernel
theorem dX4_isWide_39 : decode cX4_isWide 39 = .ok (.getfield 110, 3) := by decide +kernel
theorem dX4_isWide_42 : decode cX4_isWide 42 = .ok (.if_icmp .le 7, 3) := by decide +kernel
theorem dX4_isWide_45 : decode cX4_isWide 45 = .ok (.iconst 1, 1) := by decide +kernel
theorem dX4_isWide_46 : decode cX4_isWide 46 = .ok (.goto 4, 3) := by decide +kernel
theorem dX4_isWide_49 : decode cX4_isWide 49 = .ok (.iconst 0, 1) := by decide +kernel
theorem dX4_isWide_50 : decode cX4_isWide 50 = .ok (.ireturn, 1) := by decide +kernel
theorem dX4_alarms_0 : decode cX4_alarms 0 = .ok (.aload_n 0, 1) := by decide +kernel
theorem dX4_alarms_1 : decode cX4_alarms 1 = .ok (.iconst 0, 1) := by decide +kernel
theorem dX4_alarms_2 : decode cX4_alarms 2 = .ok (.putfield 48, 3) := by decide +kernel
theorem dX4_alarms_5 : decode cX4_alarms 5 = .ok (.iconst 0, 1) := by decide +kernel
theorem dX4_alarms_6 : decode cX4_alarms 6 = .ok (.istore_n 1, 1) := by decide +kernel
theorem dX4_alarms_7 : decode cX4_alarms 7 = .ok (.iconst 0, 1) := by decide +kernel
theorem dX4_alarms_8 : decode cX4_alarms 8 = .ok (.istore_n 2, 1) := by decide +kernel
theorem dX4_alarms_9 : decode cX4_alarms 9 = .ok (.iload_n 2, 1) := by decide +kernel
theorem dX4_alarms_10 : decode cX4_alarms 10 = .ok (.aload_n 0, 1) := by decide +kernel
theorem dX4_alarms_11 : decode cX4_alarms 11 = .ok (.getfield 61, 3) := by decide +kernel
theorem dX4_alarms_14 : decode cX4_alarms 14 = .ok (.if_icmp .ge 25, 3) := by decide +kernel
theorem dX4_alarms_17 : decode cX4_alarms 17 = .ok (.iload_n 1, 1) := by decide +kernel
theorem dX4_alarms_18 : decode cX4_alarms 18 = .ok (.aload_n 0, 1) := by decide +kernel
theorem dX4_alarms_19 : decode cX4_alarms 19 = .ok (.iload_n 2, 1) := by decide +kernel
theorem dX4_alarms_20 : decode cX4_alarms 20 = .ok (.invokevirtual 157, 3) := by decide +kernel
theorem dX4_alarms_23 : decode cX4_alarms 23 = .ok (.ifCond .le 7, 3) := by decide +kernel
theorem dX4_alarms_26 : decode cX4_alarms 26 = .ok (.iconst 1, 1) := by decide +kernel
theorem dX4_alarms_27 : decode cX4_alarms 27 = .ok (.goto 4, 3) := by decide +kernel
theorem dX4_alarms_30 : decode cX4_alarms 30 = .ok (.iconst 0, 1) := by decide +kernel
theorem dX4_alarms_31 : decode cX4_alarms 31 = .ok (.iadd, 1) := by decide +kernel
theorem dX4_alarms_32 : decode cX4_alarms 32 = .ok (.istore_n 1, 1) := by decide +kernel
theorem dX4_alarms_33 : decode cX4_alarms 33 = .ok (.iinc 2 1, 3) := by decide +kernel
theorem dX4_alarms_36 : decode cX4_alarms 36 = .ok (.goto (-27), 3) := by decide +kernel
theorem dX4_alarms_39 : decode cX4_alarms 39 = .ok (.iload_n 1, 1) := by decide +kernel
theorem dX4_alarms_40 : decode cX4_alarms 40 = .ok (.ireturn, 1) := by decide +kernel
theorem dX4_setWeight_0 : decode cX4_setWeight 0 = .ok (.aload_n 0, 1) := by decide +kernel
theorem dX4_setWeight_1 : decode cX4_setWeight 1 = .ok (.iload_n 1, 1) := by decide +kernel
theorem dX4_setWeight_2 : decode cX4_setWeight 2 = .ok (.iconst 1, 1) := by decide +kernel
theorem dX4_setWeight_3 : decode cX4_setWeight 3 = .ok (.bipush 10, 2) := by decide +kernel
theorem dX4_setWeight_5 : decode cX4_setWeight 5 = .ok (.invokestatic 57, 3) := by decide +kernel
theorem dX4_setWeight_8 : decode cX4_setWeight 8 = .ok (.ifCond .eq 7, 3) := by decide +kernel
theorem dX4_setWeight_11 : decode cX4_setWeight 11 = .ok (.iconst 0, 1) := by decide +kernel
theorem dX4_setWeight_12 : decode cX4_setWeight 12 = .ok (.goto 4, 3) := by decide +kernel
theorem dX4_setWeight_15 : decode cX4_setWeight 15 = .ok (.iconst 1, 1) := by decide +kernel
theorem dX4_setWeight_16 : decode cX4_setWeight 16 = .ok (.putfield 48, 3) := by decide +kernel
theorem dX4_setWeight_19 : decode cX4_setWeight 19 = .ok (.aload_n 0, 1) := by decide +kernel
theorem dX4_setWeight_20 : decode cX4_setWeight 20 = .ok (.getfield 48, 3) := by decide +kernel
theorem dX4_setWeight_23 : decode cX4_setWeight 23 = .ok (.ifCond .le 5, 3) := by decide +kernel
theorem dX4_setWeight_26 : decode cX4_setWeight 26 = .ok (.iconst 0, 1) := by decide +kernel
theorem dX4_setWeight_27 : decode cX4_setWeight 27 = .ok (.ireturn, 1) := by decide +kernel
theorem dX4_setWeight_28 : decode cX4_setWeight 28 = .ok (.aload_n 0, 1) := by decide +kernel
theorem dX4_setWeight_29 : decode cX4_setWeight 29 = .ok (.getfield 39, 3) := by decide +kernel
theorem dX4_setWeight_32 : decode cX4_setWeight 32 = .ok (.istore_n 2, 1) := by decide +kernel
theorem dX4_setWeight_33 : decode cX4_setWeight 33 = .ok (.aload_n 0, 1) := by decide +kernel
theorem dX4_setWeight_34 : decode cX4_setWeight 34 = .ok (.iload_n 1, 1) := by decide +kernel
theorem dX4_setWeight_35 : decode cX4_setWeight 35 = .ok (.putfield 39, 3) := by decide +kernel
theorem dX4_setWeight_38 : decode cX4_setWeight 38 = .ok (.iload_n 2, 1) := by decide +kernel
theorem dX4_setWeight_39 : decode cX4_setWeight 39 = .ok (.ireturn, 1) := by decide +kernel
theorem dX4_isPoint_0 : decode cX4_isPoint 0 = .ok (.aload_n 0, 1) := by decide +kernel
theorem dX4_isPoint_1 : decode cX4_isPoint 1 = .ok (.iload_n 1, 1) := by decide +kernel
theorem dX4_isPoint_2 : decode cX4_isPoint 2 = .ok (.invokevirtual 121, 3) := by decide +kernel
theorem dX4_isPoint_5 : decode cX4_isPoint 5 = .ok (.ifCond .ne 5, 3) := by decide +kernel
theorem dX4_isPoint_8 : decode cX4_isPoint 8 = .ok (.iconst 0, 1) := by decide +kernel
theorem dX4_isPoint_9 : decode cX4_isPoint 9 = .ok (.ireturn, 1) := by decide +kernel
theorem dX4_isPoint_10 : decode cX4_isPoint 10 = .ok (.aload_n 0, 1) := by decide +kernel
theorem dX4_isPoint_11 : decode cX4_isPoint 11 = .ok (.aload_n 0, 1) := by decide +kernel
theorem dX4_isPoint_12 : decode cX4_isPoint 12 = .ok (.getfield 20, 3) := by decide +kernel
theorem dX4_isPoint_15 : decode cX4_isPoint 15 = .ok (.iload_n 1, 1) := by decide +kernel
theorem dX4_isPoint_16 : decode cX4_isPoint 16 = .ok (.iaload, 1) := by decide +kernel
theorem dX4_isPoint_17 : decode cX4_isPoint 17 = .ok (.ifCond .le 7, 3) := by decide +kernel
theorem dX4_isPoint_20 : decode cX4_isPoint 20 = .ok (.iconst 2, 1) := by decide +kernel
theorem dX4_isPoint_21 : decode cX4_isPoint 21 = .ok (.goto 4, 3) := by decide +kernel
theorem dX4_isPoint_24 : decode cX4_isPoint 24 = .ok (.iconst 0, 1) := by decide +kernel
theorem dX4_isPoint_25 : decode cX4_isPoint 25 = .ok (.putfield 48, 3) := by decide +kernel
theorem dX4_isPoint_28 : decode cX4_isPoint 28 = .ok (.aload_n 0, 1) := by decide +kernel
theorem dX4_isPoint_29 : decode cX4_isPoint 29 = .ok (.getfield 48, 3) := by decide +kernel
theorem dX4_isPoint_32 : decode cX4_isPoint 32 = .ok (.ifCond .ne 22, 3) := by decide +kernel
theorem dX4_isPoint_35 : decode cX4_isPoint 35 = .ok (.aload_n 0, 1) := by decide +kernel
theorem dX4_isPoint_36 : decode cX4_isPoint 36 = .ok (.aload_n 0, 1) := by decide +kernel
theorem dX4_isPoint_37 : decode cX4_isPoint 37 = .ok (.iload_n 1, 1) := by decide +kernel
theorem dX4_isPoint_38 : decode cX4_isPoint 38 = .ok (.invokevirtual 79, 3) := by decide +kernel
theorem dX4_isPoint_41 : decode cX4_isPoint 41 = .ok (.invokevirtual 117, 3) := by decide +kernel
theorem dX4_isPoint_44 : decode cX4_isPoint 44 = .ok (.aload_n 0, 1) := by decide +kernel
theorem dX4_isPoint_45 : decode cX4_isPoint 45 = .ok (.aload_n 0, 1) := by decide +kernel
theorem dX4_isPoint_46 : decode cX4_isPoint 46 = .ok (.iload_n 1, 1) := by decide +kernel
theorem dX4_isPoint_47 : decode cX4_isPoint 47 = .ok (.invokevirtual 79, 3) := by decide +kernel
theorem dX4_isPoint_50 : decode cX4_isPoint 50 = .ok (.iload_n 1, 1) := by decide +kernel
theorem dX4_isPoint_51 : decode cX4_isPoint 51 = .ok (.invokevirtual 89, 3) := by decide +kernel
theorem dX4_isPoint_54 : decode cX4_isPoint 54 = .ok (.aload_n 0, 1) := by decide +kernel
theorem dX4_isPoint_55 : decode cX4_isPoint 55 = .ok (.getfield 48, 3) := by decide +kernel
theorem dX4_isPoint_58 : decode cX4_isPoint 58 = .ok (.ifCond .ne 7, 3) := by decide +kernel
theorem dX4_isPoint_61 : decode cX4_isPoint 61 = .ok (.iconst 1, 1) := by decide +kernel
theorem dX4_isPoint_62 : decode cX4_isPoint 62 = .ok (.goto 4, 3) := by decide +kernel
theorem dX4_isPoint_65 : decode cX4_isPoint 65 = .ok (.iconst 0, 1) := by decide +kernel
theorem dX4_isPoint_66 : decode cX4_isPoint 66 = .ok (.ireturn, 1) := by decide +kernel
theorem dX4_weighted_0 : decode cX4_weighted 0 = .ok (.aload_n 0, 1) := by decide +kernel
theorem dX4_weighted_1 : decode cX4_weighted 1 = .ok (.iload_n 1, 1) := by decide +kernel
theorem dX4_weighted_2 : decode cX4_weighted 2 = .ok (.invokevirtual 160, 3) := by decide +kernel
theorem dX4_weighted_5 : decode cX4_weighted 5 = .ok (.ifCond .ne 5, 3) := by decide +kernel
theorem dX4_weighted_8 : decode cX4_weighted 8 = .ok (.iconst 0, 1) := by decide +kernel
theorem dX4_weighted_9 : decode cX4_weighted 9 = .ok (.ireturn, 1) := by decide +kernel
theorem dX4_weighted_10 : decode cX4_weighted 10 = .ok (.aload_n 0, 1) := by decide +kernel
theorem dX4_weighted_11 : decode cX4_weighted 11 = .ok (.getfield 97, 3) := by decide +kernel
theorem dX4_weighted_14 : decode cX4_weighted 14 = .ok (.i2l, 1) := by decide +kernel
theorem dX4_weighted_15 : decode cX4_weighted 15 = .ok (.lstore_n 2, 1) := by decide +kernel
theorem dX4_weighted_16 : decode cX4_weighted 16 = .ok (.iconst 0, 1) := by decide +kernel
theorem dX4_weighted_17 : decode cX4_weighted 17 = .ok (.istore 4, 2) := by decide +kernel
theorem dX4_weighted_19 : decode cX4_weighted 19 = .ok (.iload 4, 2) := by decide +kernel
theorem dX4_weighted_21 : decode cX4_weighted 21 = .ok (.aload_n 0, 1) := by decide +kernel
theorem dX4_weighted_22 : decode cX4_weighted 22 = .ok (.getfield 76, 3) := by decide +kernel
theorem dX4_weighted_25 : decode cX4_weighted 25 = .ok (.if_icmp .ge 34, 3) := by decide +kernel
theorem dX4_weighted_28 : decode cX4_weighted 28 = .ok (.lload_n 2, 1) := by decide +kernel
theorem dX4_weighted_29 : decode cX4_weighted 29 = .ok (.aload_n 0, 1) := by decide +kernel
theorem dX4_weighted_30 : decode cX4_weighted 30 = .ok (.getfield 39, 3) := by decide +kernel
theorem dX4_weighted_33 : decode cX4_weighted 33 = .ok (.i2l, 1) := by decide +kernel
theorem dX4_weighted_34 : decode cX4_weighted 34 = .ok (.aload_n 0, 1) := by decide +kernel
theorem dX4_weighted_35 : decode cX4_weighted 35 = .ok (.getfield 45, 3) := by decide +kernel
theorem dX4_weighted_38 : decode cX4_weighted 38 = .ok (.iload 4, 2) := by decide +kernel
theorem dX4_weighted_40 : decode cX4_weighted 40 = .ok (.iaload, 1) := by decide +kernel
theorem dX4_weighted_41 : decode cX4_weighted 41 = .ok (.i2l, 1) := by decide +kernel
theorem dX4_weighted_42 : decode cX4_weighted 42 = .ok (.lload_n 2, 1) := by decide +kernel
theorem dX4_weighted_43 : decode cX4_weighted 43 = .ok (.lsub, 1) := by decide +kernel
theorem dX4_weighted_44 : decode cX4_weighted 44 = .ok (.lmul, 1) := by decide +kernel
theorem dX4_weighted_45 : decode cX4_weighted 45 = .ok (.ldc2_w 163, 3) := by decide +kernel
theorem dX4_weighted_48 : decode cX4_weighted 48 = .ok (.invokestatic 53, 3) := by decide +kernel
theorem dX4_weighted_51 : decode cX4_weighted 51 = .ok (.ladd, 1) := by decide +kernel
theorem dX4_weighted_52 : decode cX4_weighted 52 = .ok (.lstore_n 2, 1) := by decide +kernel
theorem dX4_weighted_53 : decode cX4_weighted 53 = .ok (.iinc 4 1, 3) := by decide +kernel
theorem dX4_weighted_56 : decode cX4_weighted 56 = .ok (.goto (-37), 3) := by decide +kernel
theorem dX4_weighted_59 : decode cX4_weighted 59 = .ok (.lload_n 2, 1) := by decide +kernel
theorem dX4_weighted_60 : decode cX4_weighted 60 = .ok (.l2i, 1) := by decide +kernel
theorem dX4_weighted_61 : decode cX4_weighted 61 = .ok (.ireturn, 1) := by decide +kernel
theorem dX4_cumulative_0 : decode cX4_cumulative 0 = .ok (.aload_n 0, 1) := by decide +kernel
theorem dX4_cumulative_1 : decode cX4_cumulative 1 = .ok (.iload_n 1, 1) := by decide +kernel
theorem dX4_cumulative_2 : decode cX4_cumulative 2 = .ok (.invokevirtual 160, 3) := by decide +kernel
theorem dX4_cumulative_5 : decode cX4_cumulative 5 = .ok (.ifCond .ne 5, 3) := by decide +kernel
theorem dX4_cumulative_8 : decode cX4_cumulative 8 = .ok (.iconst 0, 1) := by decide +kernel
theorem dX4_cumulative_9 : decode cX4_cumulative 9 = .ok (.ireturn, 1) := by decide +kernel
theorem dX4_cumulative_10 : decode cX4_cumulative 10 = .ok (.aload_n 0, 1) := by decide +kernel
theorem dX4_cumulative_11 : decode cX4_cumulative 11 = .ok (.getfield 107, 3) := by decide +kernel
theorem dX4_cumulative_14 : decode cX4_cumulative 14 = .ok (.iconst 3, 1) := by decide +kernel
theorem dX4_cumulative_15 : decode cX4_cumulative 15 = .ok (.idiv, 1) := by decide +kernel
theorem dX4_cumulative_16 : decode cX4_cumulative 16 = .ok (.iconst 2, 1) := by decide +kernel
theorem dX4_cumulative_17 : decode cX4_cumulative 17 = .ok (.idiv, 1) := by decide +kernel
theorem dX4_cumulative_18 : decode cX4_cumulative 18 = .ok (.istore_n 3, 1) := by decide +kernel
theorem dX4_cumulative_19 : decode cX4_cumulative 19 = .ok (.iload_n 2, 1) := by decide +kernel
theorem dX4_cumulative_20 : decode cX4_cumulative 20 = .ok (.ifCond .eq 7, 3) := by decide +kernel
theorem dX4_cumulative_23 : decode cX4_cumulative 23 = .ok (.iconst 1, 1) := by decide +kernel
theorem dX4_cumulative_24 : decode cX4_cumulative 24 = .ok (.goto 4, 3) := by decide +kernel
theorem dX4_cumulative_27 : decode cX4_cumulative 27 = .ok (.iconst (-1), 1) := by decide +kernel
theorem dX4_cumulative_28 : decode cX4_cumulative 28 = .ok (.istore 4, 2) := by decide +kernel
theorem dX4_cumulative_30 : decode cX4_cumulative 30 = .ok (.iconst 0, 1) := by decide +kernel
theorem dX4_cumulative_31 : decode cX4_cumulative 31 = .ok (.istore 5, 2) := by decide +kernel
theorem dX4_cumulative_33 : decode cX4_cumulative 33 = .ok (.iconst 0, 1) := by decide +kernel
theorem dX4_cumulative_34 : decode cX4_cumulative 34 = .ok (.istore 6, 2) := by decide +kernel
theorem dX4_cumulative_36 : decode cX4_cumulative 36 = .ok (.iload 6, 2) := by decide +kernel
theorem dX4_cumulative_38 : decode cX4_cumulative 38 = .ok (.aload_n 0, 1) := by decide +kernel
theorem dX4_cumulative_39 : decode cX4_cumulative 39 = .ok (.getfield 76, 3) := by decide +kernel
theorem dX4_cumulative_42 : decode cX4_cumulative 42 = .ok (.if_icmp .ge 44, 3) := by decide +kernel
theorem dX4_cumulative_45 : decode cX4_cumulative 45 = .ok (.iload 5, 2) := by decide +kernel
theorem dX4_cumulative_47 : decode cX4_cumulative 47 = .ok (.aload_n 0, 1) := by decide +kernel
theorem dX4_cumulative_48 : decode cX4_cumulative 48 = .ok (.getfield 45, 3) := by decide +kernel
theorem dX4_cumulative_51 : decode cX4_cumulative 51 = .ok (.iload 6, 2) := by decide +kernel
theorem dX4_cumulative_53 : decode cX4_cumulative 53 = .ok (.iaload, 1) := by decide +kernel
theorem dX4_cumulative_54 : decode cX4_cumulative 54 = .ok (.aload_n 0, 1) := by decide +kernel
theorem dX4_cumulative_55 : decode cX4_cumulative 55 = .ok (.getfield 97, 3) := by decide +kernel
theorem dX4_cumulative_58 : decode cX4_cumulative 58 = .ok (.isub, 1) := by decide +kernel
theorem dX4_cumulative_59 : decode cX4_cumulative 59 = .ok (.iload 4, 2) := by decide +kernel
theorem dX4_cumulative_61 : decode cX4_cumulative 61 = .ok (.imul, 1) := by decide +kernel
theorem dX4_cumulative_62 : decode cX4_cumulative 62 = .ok (.iload_n 3, 1) := by decide +kernel
theorem dX4_cumulative_63 : decode cX4_cumulative 63 = .ok (.isub, 1) := by decide +kernel
theorem dX4_cumulative_64 : decode cX4_cumulative 64 = .ok (.iadd, 1) := by decide +kernel
theorem dX4_cumulative_65 : decode cX4_cumulative 65 = .ok (.istore 5, 2) := by decide +kernel
theorem dX4_cumulative_67 : decode cX4_cumulative 67 = .ok (.iload 5, 2) := by decide +kernel
theorem dX4_cumulative_69 : decode cX4_cumulative 69 = .ok (.ifCond .le 8, 3) := by decide +kernel
theorem dX4_cumulative_72 : decode cX4_cumulative 72 = .ok (.iload 5, 2) := by decide +kernel
theorem dX4_cumulative_74 : decode cX4_cumulative 74 = .ok (.goto 4, 3) := by decide +kernel
theorem dX4_cumulative_77 : decode cX4_cumulative 77 = .ok (.iconst 0, 1) := by decide +kernel
theorem dX4_cumulative_78 : decode cX4_cumulative 78 = .ok (.istore 5, 2) := by decide +kernel
theorem dX4_cumulative_80 : decode cX4_cumulative 80 = .ok (.iinc 6 1, 3) := by decide +kernel
theorem dX4_cumulative_83 : decode cX4_cumulative 83 = .ok (.goto (-47), 3) := by decide +kernel
theorem dX4_cumulative_86 : decode cX4_cumulative 86 = .ok (.iload 5, 2) := by decide +kernel
theorem dX4_cumulative_88 : decode cX4_cumulative 88 = .ok (.ireturn, 1) := by decide +kernel
theorem dX4_capability_0 : decode cX4_capability 0 = .ok (.aload_n 0, 1) := by decide +kernel
theorem dX4_capability_1 : decode cX4_capability 1 = .ok (.iload_n 1, 1) := by decide +kernel
theorem dX4_capability_2 : decode cX4_capability 2 = .ok (.invokevirtual 113, 3) := by decide +kernel
theorem dX4_capability_5 : decode cX4_capability 5 = .ok (.ifCond .ne 5, 3) := by decide +kernel
theorem dX4_capability_8 : decode cX4_capability 8 = .ok (.lconst 0, 1) := by decide +kernel
theorem dX4_capability_9 : decode cX4_capability 9 = .ok (.lreturn, 1) := by decide +kernel
theorem dX4_capability_10 : decode cX4_capability 10 = .ok (.aload_n 0, 1) := by decide +kernel
theorem dX4_capability_11 : decode cX4_capability 11 = .ok (.iload_n 2, 1) := by decide +kernel
theorem dX4_capability_12 : decode cX4_capability 12 = .ok (.sipush (-9999), 3) := by decide +kernel
theorem dX4_capability_15 : decode cX4_capability 15 = .ok (.sipush 9999, 3) := by decide +kernel
theorem dX4_capability_18 : decode cX4_capability 18 = .ok (.invokestatic 57, 3) := by decide +kernel
theorem dX4_capability_21 : decode cX4_capability 21 = .ok (.ifCond .eq 18, 3) := by decide +kernel
theorem dX4_capability_24 : decode cX4_capability 24 = .ok (.iload_n 3, 1) := by decide +kernel
theorem dX4_capability_25 : decode cX4_capability 25 = .ok (.iload_n 2, 1) := by decide +kernel
theorem dX4_capability_26 : decode cX4_capability 26 = .ok (.sipush 9999, 3) := by decide +kernel
theorem dX4_capability_29 : decode cX4_capability 29 = .ok (.invokestatic 57, 3) := by decide +kernel
theorem dX4_capability_32 : decode cX4_capability 32 = .ok (.ifCond .eq 7, 3) := by decide +kernel
theorem dX4_capability_35 : decode cX4_capability 35 = .ok (.iconst 0, 1) := by decide +kernel
theorem dX4_capability_36 : decode cX4_capability 36 = .ok (.goto 4, 3) := by decide +kernel
theorem dX4_capability_39 : decode cX4_capability 39 = .ok (.iconst 2, 1) := by decide +kernel
theorem dX4_capability_40 : decode cX4_capability 40 = .ok (.putfield 48, 3) := by decide +kernel
theorem dX4_capability_43 : decode cX4_capability 43 = .ok (.aload_n 0, 1) := by decide +kernel
theorem dX4_capability_44 : decode cX4_capability 44 = .ok (.getfield 48, 3) := by decide +kernel
theorem dX4_capability_47 : decode cX4_capability 47 = .ok (.ifCond .le 5, 3) := by decide +kernel
theorem dX4_capability_50 : decode cX4_capability 50 = .ok (.lconst 0, 1) := by decide +kernel
theorem dX4_capability_51 : decode cX4_capability 51 = .ok (.lreturn, 1) := by decide +kernel
theorem dX4_capability_52 : decode cX4_capability 52 = .ok (.aload_n 0, 1) := by decide +kernel
theorem dX4_capability_53 : decode cX4_capability 53 = .ok (.iload_n 1, 1) := by decide +kernel
theorem dX4_capability_54 : decode cX4_capability 54 = .ok (.invokevirtual 117, 3) := by decide +kernel
theorem dX4_capability_57 : decode cX4_capability 57 = .ok (.aload_n 0, 1) := by decide +kernel
theorem dX4_capability_58 : decode cX4_capability 58 = .ok (.getfield 93, 3) := by decide +kernel
theorem dX4_capability_61 : decode cX4_capability 61 = .ok (.ifCond .eq 39, 3) := by decide +kernel
theorem dX4_capability_64 : decode cX4_capability 64 = .ok (.ldc2_w 83, 3) := by decide +kernel
theorem dX4_capability_67 : decode cX4_capability 67 = .ok (.aload_n 0, 1) := by decide +kernel
theorem dX4_capability_68 : decode cX4_capability 68 = .ok (.getfield 100, 3) := by decide +kernel
theorem dX4_capability_71 : decode cX4_capability 71 = .ok (.i2l, 1) := by decide +kernel
theorem dX4_capability_72 : decode cX4_capability 72 = .ok (.lmul, 1) := by decide +kernel
theorem dX4_capability_73 : decode cX4_capability 73 = .ok (.aload_n 0, 1) := by decide +kernel
theorem dX4_capability_74 : decode cX4_capability 74 = .ok (.getfield 7, 3) := by decide +kernel
theorem dX4_capability_77 : decode cX4_capability 77 = .ok (.sipush 1128, 3) := by decide +kernel
theorem dX4_capability_80 : decode cX4_capability 80 = .ok (.sipush 1693, 3) := by decide +kernel
theorem dX4_capability_83 : decode cX4_capability 83 = .ok (.sipush 2059, 3) := by decide +kernel
theorem dX4_capability_86 : decode cX4_capability 86 = .ok (.sipush 2326, 3) := by decide +kernel
theorem dX4_capability_89 : decode cX4_capability 89 = .ok (.sipush 2534, 3) := by decide +kernel
theorem dX4_capability_92 : decode cX4_capability 92 = .ok (.invokestatic 103, 3) := by decide +kernel
theorem dX4_capability_95 : decode cX4_capability 95 = .ok (.i2l, 1) := by decide +kernel
theorem dX4_capability_96 : decode cX4_capability 96 = .ok (.ldiv, 1) := by decide +kernel
theorem dX4_capability_97 : decode cX4_capability 97 = .ok (.goto 4, 3) := by decide +kernel
theorem dX4_capability_100 : decode cX4_capability 100 = .ok (.lconst 0, 1) := by decide +kernel
theorem dX4_capability_101 : decode cX4_capability 101 = .ok (.lstore 5, 2) := by decide +kernel
theorem dX4_capability_103 : decode cX4_capability 103 = .ok (.aload_n 0, 1) := by decide +kernel
theorem dX4_capability_104 : decode cX4_capability 104 = .ok (.lload 5, 2) := by decide +kernel
theorem dX4_capability_106 : decode cX4_capability 106 = .ok (.lconst 0, 1) := by decide +kernel
theorem dX4_capability_107 : decode cX4_capability 107 = .ok (.lcmp, 1) := by decide +kernel
theorem dX4_capability_108 : decode cX4_capability 108 = .ok (.ifCond .ne 7, 3) := by decide +kernel
theorem dX4_capability_111 : decode cX4_capability 111 = .ok (.iconst 3, 1) := by decide +kernel
theorem dX4_capability_112 : decode cX4_capability 112 = .ok (.goto 4, 3) := by decide +kernel
theorem dX4_capability_115 : decode cX4_capability 115 = .ok (.iconst 0, 1) := by decide +kernel
theorem dX4_capability_116 : decode cX4_capability 116 = .ok (.putfield 48, 3) := by decide +kernel
theorem dX4_capability_119 : decode cX4_capability 119 = .ok (.aload_n 0, 1) := by decide +kernel
theorem dX4_capability_120 : decode cX4_capability 120 = .ok (.getfield 48, 3) := by decide +kernel
theorem dX4_capability_123 : decode cX4_capability 123 = .ok (.ifCond .le 5, 3) := by decide +kernel
theorem dX4_capability_126 : decode cX4_capability 126 = .ok (.lconst 0, 1) := by decide +kernel
theorem dX4_capability_127 : decode cX4_capability 127 = .ok (.lreturn, 1) := by decide +kernel
theorem dX4_capability_128 : decode cX4_capability 128 = .ok (.ldc2_w 83, 3) := by decide +kernel
theorem dX4_capability_131 : decode cX4_capability 131 = .ok (.iload_n 3, 1) := by decide +kernel
theorem dX4_capability_132 : decode cX4_capability 132 = .ok (.i2l, 1) := by decide +kernel
theorem dX4_capability_133 : decode cX4_capability 133 = .ok (.lmul, 1) := by decide +kernel
theorem dX4_capability_134 : decode cX4_capability 134 = .ok (.aload_n 0, 1) := by decide +kernel
theorem dX4_capability_135 : decode cX4_capability 135 = .ok (.getfield 97, 3) := by decide +kernel
theorem dX4_capability_138 : decode cX4_capability 138 = .ok (.i2l, 1) := by decide +kernel
theorem dX4_capability_139 : decode cX4_capability 139 = .ok (.lsub, 1) := by decide +kernel
theorem dX4_capability_140 : decode cX4_capability 140 = .ok (.lstore 7, 2) := by decide +kernel
theorem dX4_capability_142 : decode cX4_capability 142 = .ok (.aload_n 0, 1) := by decide +kernel
theorem dX4_capability_143 : decode cX4_capability 143 = .ok (.getfield 97, 3) := by decide +kernel
theorem dX4_capability_146 : decode cX4_capability 146 = .ok (.i2l, 1) := by decide +kernel
theorem dX4_capability_147 : decode cX4_capability 147 = .ok (.ldc2_w 83, 3) := by decide +kernel
theorem dX4_capability_150 : decode cX4_capability 150 = .ok (.iload_n 2, 1) := by decide +kernel
theorem dX4_capability_151 : decode cX4_capability 151 = .ok (.i2l, 1) := by decide +kernel
theorem dX4_capability_152 : decode cX4_capability 152 = .ok (.lmul, 1) := by decide +kernel
theorem dX4_capability_153 : decode cX4_capability 153 = .ok (.lsub, 1) := by decide +kernel
theorem dX4_capability_154 : decode cX4_capability 154 = .ok (.lstore 9, 2) := by decide +kernel
theorem dX4_capability_156 : decode cX4_capability 156 = .ok (.lload 7, 2) := by decide +kernel
theorem dX4_capability_158 : decode cX4_capability 158 = .ok (.lload 9, 2) := by decide +kernel
theorem dX4_capability_160 : decode cX4_capability 160 = .ok (.lcmp, 1) := by decide +kernel
theorem dX4_capability_161 : decode cX4_capability 161 = .ok (.ifCond .ge 8, 3) := by decide +kernel
theorem dX4_capability_164 : decode cX4_capability 164 = .ok (.lload 7, 2) := by decide +kernel
theorem dX4_capability_166 : decode cX4_capability 166 = .ok (.goto 5, 3) := by decide +kernel
theorem dX4_capability_169 : decode cX4_capability 169 = .ok (.lload 9, 2) := by decide +kernel
theorem dX4_capability_171 : decode cX4_capability 171 = .ok (.lstore 11, 2) := by decide +kernel
theorem dX4_capability_173 : decode cX4_capability 173 = .ok (.iload 4, 2) := by decide +kernel
theorem dX4_capability_175 : decode cX4_capability 175 = .ok (.ifCond .eq 21, 3) := by decide +kernel
theorem dX4_capability_178 : decode cX4_capability 178 = .ok (.ldc2_w 83, 3) := by decide +kernel
theorem dX4_capability_181 : decode cX4_capability 181 = .ok (.lload 11, 2) := by decide +kernel
theorem dX4_capability_183 : decode cX4_capability 183 = .ok (.lmul, 1) := by decide +kernel
theorem dX4_capability_184 : decode cX4_capability 184 = .ok (.ldc2_w 127, 3) := by decide +kernel
theorem dX4_capability_187 : decode cX4_capability 187 = .ok (.lload 5, 2) := by decide +kernel
theorem dX4_capability_189 : decode cX4_capability 189 = .ok (.lmul, 1) := by decide +kernel
theorem dX4_capability_190 : decode cX4_capability 190 = .ok (.invokestatic 53, 3) := by decide +kernel
theorem dX4_capability_193 : decode cX4_capability 193 = .ok (.goto 27, 3) := by decide +kernel
theorem dX4_capability_196 : decode cX4_capability 196 = .ok (.ldc2_w 83, 3) := by decide +kernel
theorem dX4_capability_199 : decode cX4_capability 199 = .ok (.ldc2_w 83, 3) := by decide +kernel
theorem dX4_capability_202 : decode cX4_capability 202 = .ok (.iload_n 3, 1) := by decide +kernel
theorem dX4_capability_203 : decode cX4_capability 203 = .ok (.i2l, 1) := by decide +kernel
theorem dX4_capability_204 : decode cX4_capability 204 = .ok (.lmul, 1) := by decide +kernel
theorem dX4_capability_205 : decode cX4_capability 205 = .ok (.ldc2_w 83, 3) := by decide +kernel
theorem dX4_capability_208 : decode cX4_capability 208 = .ok (.iload_n 2, 1) := by decide +kernel
theorem dX4_capability_209 : decode cX4_capability 209 = .ok (.i2l, 1) := by decide +kernel
theorem dX4_capability_210 : decode cX4_capability 210 = .ok (.lmul, 1) := by decide +kernel
theorem dX4_capability_211 : decode cX4_capability 211 = .ok (.lsub, 1) := by decide +kernel
theorem dX4_capability_212 : decode cX4_capability 212 = .ok (.lmul, 1) := by decide +kernel
theorem dX4_capability_213 : decode cX4_capability 213 = .ok (.ldc2_w 165, 3) := by decide +kernel
theorem dX4_capability_216 : decode cX4_capability 216 = .ok (.lload 5, 2) := by decide +kernel
theorem dX4_capability_218 : decode cX4_capability 218 = .ok (.lmul, 1) := by decide +kernel
theorem dX4_capability_219 : decode cX4_capability 219 = .ok (.ldiv, 1) := by decide +kernel
theorem dX4_capability_220 : decode cX4_capability 220 = .ok (.lreturn, 1) := by decide +kernel
