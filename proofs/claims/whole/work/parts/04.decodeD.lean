theorem d_D_init_0 : decode prog_2_method_1_code 0 = .ok (.aload_n 0, 1) := by decide +kernel
theorem d_D_init_1 : decode prog_2_method_1_code 1 = .ok (.invokespecial 3, 3) := by decide +kernel
theorem d_D_init_4 : decode prog_2_method_1_code 4 = .ok (.aload_n 0, 1) := by decide +kernel
theorem d_D_init_5 : decode prog_2_method_1_code 5 = .ok (.lconst 0, 1) := by decide +kernel
theorem d_D_init_6 : decode prog_2_method_1_code 6 = .ok (.putfield 9, 3) := by decide +kernel
theorem d_D_init_9 : decode prog_2_method_1_code 9 = .ok (.aload_n 0, 1) := by decide +kernel
theorem d_D_init_10 : decode prog_2_method_1_code 10 = .ok (.iconst 0, 1) := by decide +kernel
theorem d_D_init_11 : decode prog_2_method_1_code 11 = .ok (.putfield 15, 3) := by decide +kernel
theorem d_D_init_14 : decode prog_2_method_1_code 14 = .ok (.aload_n 0, 1) := by decide +kernel
theorem d_D_init_15 : decode prog_2_method_1_code 15 = .ok (.iconst 0, 1) := by decide +kernel
theorem d_D_init_16 : decode prog_2_method_1_code 16 = .ok (.putfield 19, 3) := by decide +kernel
theorem d_D_init_19 : decode prog_2_method_1_code 19 = .ok (.aload_n 0, 1) := by decide +kernel
theorem d_D_init_20 : decode prog_2_method_1_code 20 = .ok (.iconst (-1), 1) := by decide +kernel
theorem d_D_init_21 : decode prog_2_method_1_code 21 = .ok (.putfield 22, 3) := by decide +kernel
theorem d_D_init_24 : decode prog_2_method_1_code 24 = .ok (.aload_n 0, 1) := by decide +kernel
theorem d_D_init_25 : decode prog_2_method_1_code 25 = .ok (.iconst 0, 1) := by decide +kernel
theorem d_D_init_26 : decode prog_2_method_1_code 26 = .ok (.putfield 25, 3) := by decide +kernel
theorem d_D_init_29 : decode prog_2_method_1_code 29 = .ok (.aload_n 0, 1) := by decide +kernel
theorem d_D_init_30 : decode prog_2_method_1_code 30 = .ok (.iconst 0, 1) := by decide +kernel
theorem d_D_init_31 : decode prog_2_method_1_code 31 = .ok (.putfield 28, 3) := by decide +kernel
theorem d_D_init_34 : decode prog_2_method_1_code 34 = .ok (.aload_n 0, 1) := by decide +kernel
theorem d_D_init_35 : decode prog_2_method_1_code 35 = .ok (.iconst 0, 1) := by decide +kernel
theorem d_D_init_36 : decode prog_2_method_1_code 36 = .ok (.putfield 31, 3) := by decide +kernel
theorem d_D_init_39 : decode prog_2_method_1_code 39 = .ok (.aload_n 0, 1) := by decide +kernel
theorem d_D_init_40 : decode prog_2_method_1_code 40 = .ok (.iconst (-1), 1) := by decide +kernel
theorem d_D_init_41 : decode prog_2_method_1_code 41 = .ok (.putfield 34, 3) := by decide +kernel
theorem d_D_init_44 : decode prog_2_method_1_code 44 = .ok (.aload_n 0, 1) := by decide +kernel
theorem d_D_init_45 : decode prog_2_method_1_code 45 = .ok (.iconst 0, 1) := by decide +kernel
theorem d_D_init_46 : decode prog_2_method_1_code 46 = .ok (.putfield 37, 3) := by decide +kernel
theorem d_D_init_49 : decode prog_2_method_1_code 49 = .ok (.return_, 1) := by decide +kernel
theorem d_D_begin_0 : decode prog_2_method_2_code 0 = .ok (.aload_n 0, 1) := by decide +kernel
theorem d_D_begin_1 : decode prog_2_method_2_code 1 = .ok (.lload_n 1, 1) := by decide +kernel
theorem d_D_begin_2 : decode prog_2_method_2_code 2 = .ok (.iload_n 3, 1) := by decide +kernel
theorem d_D_begin_3 : decode prog_2_method_2_code 3 = .ok (.i2l, 1) := by decide +kernel
theorem d_D_begin_4 : decode prog_2_method_2_code 4 = .ok (.lxor, 1) := by decide +kernel
theorem d_D_begin_5 : decode prog_2_method_2_code 5 = .ok (.ldc2_w 40, 3) := by decide +kernel
theorem d_D_begin_8 : decode prog_2_method_2_code 8 = .ok (.lmul, 1) := by decide +kernel
theorem d_D_begin_9 : decode prog_2_method_2_code 9 = .ok (.iload 4, 2) := by decide +kernel
theorem d_D_begin_11 : decode prog_2_method_2_code 11 = .ok (.i2l, 1) := by decide +kernel
theorem d_D_begin_12 : decode prog_2_method_2_code 12 = .ok (.ladd, 1) := by decide +kernel
theorem d_D_begin_13 : decode prog_2_method_2_code 13 = .ok (.putfield 9, 3) := by decide +kernel
theorem d_D_begin_16 : decode prog_2_method_2_code 16 = .ok (.aload_n 0, 1) := by decide +kernel
theorem d_D_begin_17 : decode prog_2_method_2_code 17 = .ok (.iload_n 3, 1) := by decide +kernel
theorem d_D_begin_18 : decode prog_2_method_2_code 18 = .ok (.ifCond .lt 19, 3) := by decide +kernel
theorem d_D_begin_21 : decode prog_2_method_2_code 21 = .ok (.iload_n 3, 1) := by decide +kernel
theorem d_D_begin_22 : decode prog_2_method_2_code 22 = .ok (.getstatic 42, 3) := by decide +kernel
theorem d_D_begin_25 : decode prog_2_method_2_code 25 = .ok (.arraylength, 1) := by decide +kernel
theorem d_D_begin_26 : decode prog_2_method_2_code 26 = .ok (.if_icmp .ge 11, 3) := by decide +kernel
theorem d_D_begin_29 : decode prog_2_method_2_code 29 = .ok (.getstatic 42, 3) := by decide +kernel
theorem d_D_begin_32 : decode prog_2_method_2_code 32 = .ok (.iload_n 3, 1) := by decide +kernel
theorem d_D_begin_33 : decode prog_2_method_2_code 33 = .ok (.iaload, 1) := by decide +kernel
theorem d_D_begin_34 : decode prog_2_method_2_code 34 = .ok (.goto 4, 3) := by decide +kernel
theorem d_D_begin_37 : decode prog_2_method_2_code 37 = .ok (.iconst 0, 1) := by decide +kernel
theorem d_D_begin_38 : decode prog_2_method_2_code 38 = .ok (.putfield 15, 3) := by decide +kernel
theorem d_D_begin_41 : decode prog_2_method_2_code 41 = .ok (.aload_n 0, 1) := by decide +kernel
theorem d_D_begin_42 : decode prog_2_method_2_code 42 = .ok (.iload_n 3, 1) := by decide +kernel
theorem d_D_begin_43 : decode prog_2_method_2_code 43 = .ok (.iconst 1, 1) := by decide +kernel
theorem d_D_begin_44 : decode prog_2_method_2_code 44 = .ok (.if_icmp .ne 15, 3) := by decide +kernel
theorem d_D_begin_47 : decode prog_2_method_2_code 47 = .ok (.aload_n 0, 1) := by decide +kernel
theorem d_D_begin_48 : decode prog_2_method_2_code 48 = .ok (.bipush 16, 2) := by decide +kernel
theorem d_D_begin_50 : decode prog_2_method_2_code 50 = .ok (.invokevirtual 46, 3) := by decide +kernel
theorem d_D_begin_53 : decode prog_2_method_2_code 53 = .ok (.invokestatic 50, 3) := by decide +kernel
theorem d_D_begin_56 : decode prog_2_method_2_code 56 = .ok (.goto 4, 3) := by decide +kernel
theorem d_D_begin_59 : decode prog_2_method_2_code 59 = .ok (.iconst 0, 1) := by decide +kernel
theorem d_D_begin_60 : decode prog_2_method_2_code 60 = .ok (.putfield 19, 3) := by decide +kernel
theorem d_D_begin_63 : decode prog_2_method_2_code 63 = .ok (.aload_n 0, 1) := by decide +kernel
theorem d_D_begin_64 : decode prog_2_method_2_code 64 = .ok (.iconst (-1), 1) := by decide +kernel
theorem d_D_begin_65 : decode prog_2_method_2_code 65 = .ok (.putfield 22, 3) := by decide +kernel
theorem d_D_begin_68 : decode prog_2_method_2_code 68 = .ok (.return_, 1) := by decide +kernel
theorem d_D_chance_0 : decode prog_2_method_10_code 0 = .ok (.aload_n 0, 1) := by decide +kernel
theorem d_D_chance_1 : decode prog_2_method_10_code 1 = .ok (.aload_n 0, 1) := by decide +kernel
theorem d_D_chance_2 : decode prog_2_method_10_code 2 = .ok (.getfield 9, 3) := by decide +kernel
theorem d_D_chance_5 : decode prog_2_method_10_code 5 = .ok (.ldc2_w 66, 3) := by decide +kernel
theorem d_D_chance_8 : decode prog_2_method_10_code 8 = .ok (.lmul, 1) := by decide +kernel
theorem d_D_chance_9 : decode prog_2_method_10_code 9 = .ok (.ldc2_w 68, 3) := by decide +kernel
theorem d_D_chance_12 : decode prog_2_method_10_code 12 = .ok (.ladd, 1) := by decide +kernel
theorem d_D_chance_13 : decode prog_2_method_10_code 13 = .ok (.putfield 9, 3) := by decide +kernel
theorem d_D_chance_16 : decode prog_2_method_10_code 16 = .ok (.aload_n 0, 1) := by decide +kernel
theorem d_D_chance_17 : decode prog_2_method_10_code 17 = .ok (.getfield 9, 3) := by decide +kernel
theorem d_D_chance_20 : decode prog_2_method_10_code 20 = .ok (.bipush 33, 2) := by decide +kernel
theorem d_D_chance_22 : decode prog_2_method_10_code 22 = .ok (.lushr, 1) := by decide +kernel
theorem d_D_chance_23 : decode prog_2_method_10_code 23 = .ok (.l2i, 1) := by decide +kernel
theorem d_D_chance_24 : decode prog_2_method_10_code 24 = .ok (.istore_n 2, 1) := by decide +kernel
theorem d_D_chance_25 : decode prog_2_method_10_code 25 = .ok (.iload_n 1, 1) := by decide +kernel
theorem d_D_chance_26 : decode prog_2_method_10_code 26 = .ok (.ifCond .le 9, 3) := by decide +kernel
theorem d_D_chance_29 : decode prog_2_method_10_code 29 = .ok (.iload_n 2, 1) := by decide +kernel
theorem d_D_chance_30 : decode prog_2_method_10_code 30 = .ok (.iload_n 1, 1) := by decide +kernel
theorem d_D_chance_31 : decode prog_2_method_10_code 31 = .ok (.irem, 1) := by decide +kernel
theorem d_D_chance_32 : decode prog_2_method_10_code 32 = .ok (.goto 4, 3) := by decide +kernel
theorem d_D_chance_35 : decode prog_2_method_10_code 35 = .ok (.iconst 0, 1) := by decide +kernel
theorem d_D_chance_36 : decode prog_2_method_10_code 36 = .ok (.ireturn, 1) := by decide +kernel
theorem d_D_bitOrNone_0 : decode prog_2_method_5_code 0 = .ok (.iload_n 0, 1) := by decide +kernel
theorem d_D_bitOrNone_1 : decode prog_2_method_5_code 1 = .ok (.bipush 8, 2) := by decide +kernel
theorem d_D_bitOrNone_3 : decode prog_2_method_5_code 3 = .ok (.if_icmp .ge 9, 3) := by decide +kernel
theorem d_D_bitOrNone_6 : decode prog_2_method_5_code 6 = .ok (.iconst 1, 1) := by decide +kernel
theorem d_D_bitOrNone_7 : decode prog_2_method_5_code 7 = .ok (.iload_n 0, 1) := by decide +kernel
theorem d_D_bitOrNone_8 : decode prog_2_method_5_code 8 = .ok (.ishl, 1) := by decide +kernel
theorem d_D_bitOrNone_9 : decode prog_2_method_5_code 9 = .ok (.goto 4, 3) := by decide +kernel
theorem d_D_bitOrNone_12 : decode prog_2_method_5_code 12 = .ok (.iconst 0, 1) := by decide +kernel
theorem d_D_bitOrNone_13 : decode prog_2_method_5_code 13 = .ok (.ireturn, 1) := by decide +kernel
theorem d_D_next_0 : decode prog_2_method_3_code 0 = .ok (.aload_n 0, 1) := by decide +kernel
theorem d_D_next_1 : decode prog_2_method_3_code 1 = .ok (.dup, 1) := by decide +kernel
theorem d_D_next_2 : decode prog_2_method_3_code 2 = .ok (.getfield 22, 3) := by decide +kernel
theorem d_D_next_5 : decode prog_2_method_3_code 5 = .ok (.iconst 1, 1) := by decide +kernel
theorem d_D_next_6 : decode prog_2_method_3_code 6 = .ok (.iadd, 1) := by decide +kernel
theorem d_D_next_7 : decode prog_2_method_3_code 7 = .ok (.putfield 22, 3) := by decide +kernel
theorem d_D_next_10 : decode prog_2_method_3_code 10 = .ok (.aload_n 0, 1) := by decide +kernel
theorem d_D_next_11 : decode prog_2_method_3_code 11 = .ok (.aload_n 0, 1) := by decide +kernel
theorem d_D_next_12 : decode prog_2_method_3_code 12 = .ok (.invokevirtual 53, 3) := by decide +kernel
theorem d_D_next_15 : decode prog_2_method_3_code 15 = .ok (.putfield 25, 3) := by decide +kernel
theorem d_D_next_18 : decode prog_2_method_3_code 18 = .ok (.aload_n 0, 1) := by decide +kernel
theorem d_D_next_19 : decode prog_2_method_3_code 19 = .ok (.aload_n 0, 1) := by decide +kernel
theorem d_D_next_20 : decode prog_2_method_3_code 20 = .ok (.sipush 1000, 3) := by decide +kernel
theorem d_D_next_23 : decode prog_2_method_3_code 23 = .ok (.invokevirtual 46, 3) := by decide +kernel
theorem d_D_next_26 : decode prog_2_method_3_code 26 = .ok (.putfield 28, 3) := by decide +kernel
theorem d_D_next_29 : decode prog_2_method_3_code 29 = .ok (.aload_n 0, 1) := by decide +kernel
theorem d_D_next_30 : decode prog_2_method_3_code 30 = .ok (.aload_n 0, 1) := by decide +kernel
theorem d_D_next_31 : decode prog_2_method_3_code 31 = .ok (.invokevirtual 57, 3) := by decide +kernel
theorem d_D_next_34 : decode prog_2_method_3_code 34 = .ok (.putfield 31, 3) := by decide +kernel
theorem d_D_next_37 : decode prog_2_method_3_code 37 = .ok (.aload_n 0, 1) := by decide +kernel
theorem d_D_next_38 : decode prog_2_method_3_code 38 = .ok (.iconst 1, 1) := by decide +kernel
theorem d_D_next_39 : decode prog_2_method_3_code 39 = .ok (.aload_n 0, 1) := by decide +kernel
theorem d_D_next_40 : decode prog_2_method_3_code 40 = .ok (.bipush 8, 2) := by decide +kernel
theorem d_D_next_42 : decode prog_2_method_3_code 42 = .ok (.invokevirtual 46, 3) := by decide +kernel
theorem d_D_next_45 : decode prog_2_method_3_code 45 = .ok (.ishl, 1) := by decide +kernel
theorem d_D_next_46 : decode prog_2_method_3_code 46 = .ok (.putfield 37, 3) := by decide +kernel
theorem d_D_next_49 : decode prog_2_method_3_code 49 = .ok (.aload_n 0, 1) := by decide +kernel
theorem d_D_next_50 : decode prog_2_method_3_code 50 = .ok (.aload_n 0, 1) := by decide +kernel
theorem d_D_next_51 : decode prog_2_method_3_code 51 = .ok (.invokevirtual 60, 3) := by decide +kernel
theorem d_D_next_54 : decode prog_2_method_3_code 54 = .ok (.putfield 34, 3) := by decide +kernel
theorem d_D_next_57 : decode prog_2_method_3_code 57 = .ok (.return_, 1) := by decide +kernel
theorem d_D_nextSort_0 : decode prog_2_method_6_code 0 = .ok (.aload_n 0, 1) := by decide +kernel
theorem d_D_nextSort_1 : decode prog_2_method_6_code 1 = .ok (.getfield 22, 3) := by decide +kernel
theorem d_D_nextSort_4 : decode prog_2_method_6_code 4 = .ok (.ifCond .ne 5, 3) := by decide +kernel
theorem d_D_nextSort_7 : decode prog_2_method_6_code 7 = .ok (.iconst 0, 1) := by decide +kernel
theorem d_D_nextSort_8 : decode prog_2_method_6_code 8 = .ok (.ireturn, 1) := by decide +kernel
theorem d_D_nextSort_9 : decode prog_2_method_6_code 9 = .ok (.aload_n 0, 1) := by decide +kernel
theorem d_D_nextSort_10 : decode prog_2_method_6_code 10 = .ok (.getfield 22, 3) := by decide +kernel
theorem d_D_nextSort_13 : decode prog_2_method_6_code 13 = .ok (.iconst 1, 1) := by decide +kernel
theorem d_D_nextSort_14 : decode prog_2_method_6_code 14 = .ok (.if_icmp .ne 5, 3) := by decide +kernel
theorem d_D_nextSort_17 : decode prog_2_method_6_code 17 = .ok (.iconst 1, 1) := by decide +kernel
theorem d_D_nextSort_18 : decode prog_2_method_6_code 18 = .ok (.ireturn, 1) := by decide +kernel
theorem d_D_nextSort_19 : decode prog_2_method_6_code 19 = .ok (.aload_n 0, 1) := by decide +kernel
theorem d_D_nextSort_20 : decode prog_2_method_6_code 20 = .ok (.iconst 4, 1) := by decide +kernel
theorem d_D_nextSort_21 : decode prog_2_method_6_code 21 = .ok (.invokevirtual 46, 3) := by decide +kernel
theorem d_D_nextSort_24 : decode prog_2_method_6_code 24 = .ok (.iconst 3, 1) := by decide +kernel
theorem d_D_nextSort_25 : decode prog_2_method_6_code 25 = .ok (.if_icmp .ne 7, 3) := by decide +kernel
theorem d_D_nextSort_28 : decode prog_2_method_6_code 28 = .ok (.iconst 0, 1) := by decide +kernel
theorem d_D_nextSort_29 : decode prog_2_method_6_code 29 = .ok (.goto 7, 3) := by decide +kernel
theorem d_D_nextSort_32 : decode prog_2_method_6_code 32 = .ok (.aload_n 0, 1) := by decide +kernel
theorem d_D_nextSort_33 : decode prog_2_method_6_code 33 = .ok (.getfield 15, 3) := by decide +kernel
theorem d_D_nextSort_36 : decode prog_2_method_6_code 36 = .ok (.ireturn, 1) := by decide +kernel
theorem d_D_nextB_0 : decode prog_2_method_7_code 0 = .ok (.aload_n 0, 1) := by decide +kernel
theorem d_D_nextB_1 : decode prog_2_method_7_code 1 = .ok (.getfield 25, 3) := by decide +kernel
theorem d_D_nextB_4 : decode prog_2_method_7_code 4 = .ok (.tableswitch 96 0 6 #[44, 51, 58, 71, 78, 83, 89], 44) := by decide +kernel
theorem d_D_nextB_48 : decode prog_2_method_7_code 48 = .ok (.aload_n 0, 1) := by decide +kernel
theorem d_D_nextB_49 : decode prog_2_method_7_code 49 = .ok (.bipush 100, 2) := by decide +kernel
theorem d_D_nextB_51 : decode prog_2_method_7_code 51 = .ok (.invokevirtual 46, 3) := by decide +kernel
theorem d_D_nextB_54 : decode prog_2_method_7_code 54 = .ok (.ireturn, 1) := by decide +kernel
theorem d_D_nextB_55 : decode prog_2_method_7_code 55 = .ok (.aload_n 0, 1) := by decide +kernel
theorem d_D_nextB_56 : decode prog_2_method_7_code 56 = .ok (.bipush 8, 2) := by decide +kernel
theorem d_D_nextB_58 : decode prog_2_method_7_code 58 = .ok (.invokevirtual 46, 3) := by decide +kernel
theorem d_D_nextB_61 : decode prog_2_method_7_code 61 = .ok (.ireturn, 1) := by decide +kernel
theorem d_D_nextB_62 : decode prog_2_method_7_code 62 = .ok (.aload_n 0, 1) := by decide +kernel
theorem d_D_nextB_63 : decode prog_2_method_7_code 63 = .ok (.sipush 256, 3) := by decide +kernel
theorem d_D_nextB_66 : decode prog_2_method_7_code 66 = .ok (.invokevirtual 46, 3) := by decide +kernel
theorem d_D_nextB_69 : decode prog_2_method_7_code 69 = .ok (.aload_n 0, 1) := by decide +kernel
theorem d_D_nextB_70 : decode prog_2_method_7_code 70 = .ok (.getfield 19, 3) := by decide +kernel
theorem d_D_nextB_73 : decode prog_2_method_7_code 73 = .ok (.ior, 1) := by decide +kernel
theorem d_D_nextB_74 : decode prog_2_method_7_code 74 = .ok (.ireturn, 1) := by decide +kernel
theorem d_D_nextB_75 : decode prog_2_method_7_code 75 = .ok (.aload_n 0, 1) := by decide +kernel
theorem d_D_nextB_76 : decode prog_2_method_7_code 76 = .ok (.bipush 10, 2) := by decide +kernel
theorem d_D_nextB_78 : decode prog_2_method_7_code 78 = .ok (.invokevirtual 46, 3) := by decide +kernel
theorem d_D_nextB_81 : decode prog_2_method_7_code 81 = .ok (.ireturn, 1) := by decide +kernel
theorem d_D_nextB_82 : decode prog_2_method_7_code 82 = .ok (.aload_n 0, 1) := by decide +kernel
theorem d_D_nextB_83 : decode prog_2_method_7_code 83 = .ok (.invokevirtual 63, 3) := by decide +kernel
theorem d_D_nextB_86 : decode prog_2_method_7_code 86 = .ok (.ireturn, 1) := by decide +kernel
theorem d_D_nextB_87 : decode prog_2_method_7_code 87 = .ok (.aload_n 0, 1) := by decide +kernel
theorem d_D_nextB_88 : decode prog_2_method_7_code 88 = .ok (.iconst 5, 1) := by decide +kernel
theorem d_D_nextB_89 : decode prog_2_method_7_code 89 = .ok (.invokevirtual 46, 3) := by decide +kernel
theorem d_D_nextB_92 : decode prog_2_method_7_code 92 = .ok (.ireturn, 1) := by decide +kernel
theorem d_D_nextB_93 : decode prog_2_method_7_code 93 = .ok (.aload_n 0, 1) := by decide +kernel
theorem d_D_nextB_94 : decode prog_2_method_7_code 94 = .ok (.bipush 7, 2) := by decide +kernel
theorem d_D_nextB_96 : decode prog_2_method_7_code 96 = .ok (.invokevirtual 46, 3) := by decide +kernel
theorem d_D_nextB_99 : decode prog_2_method_7_code 99 = .ok (.ireturn, 1) := by decide +kernel
theorem d_D_nextB_100 : decode prog_2_method_7_code 100 = .ok (.aload_n 0, 1) := by decide +kernel
theorem d_D_nextB_101 : decode prog_2_method_7_code 101 = .ok (.bipush 6, 2) := by decide +kernel
theorem d_D_nextB_103 : decode prog_2_method_7_code 103 = .ok (.invokevirtual 46, 3) := by decide +kernel
theorem d_D_nextB_106 : decode prog_2_method_7_code 106 = .ok (.ireturn, 1) := by decide +kernel
theorem d_D_nextBOfStep_0 : decode prog_2_method_8_code 0 = .ok (.aload_n 0, 1) := by decide +kernel
theorem d_D_nextBOfStep_1 : decode prog_2_method_8_code 1 = .ok (.bipush 12, 2) := by decide +kernel
theorem d_D_nextBOfStep_3 : decode prog_2_method_8_code 3 = .ok (.invokevirtual 46, 3) := by decide +kernel
theorem d_D_nextBOfStep_6 : decode prog_2_method_8_code 6 = .ok (.istore_n 1, 1) := by decide +kernel
theorem d_D_nextBOfStep_7 : decode prog_2_method_8_code 7 = .ok (.aload_n 0, 1) := by decide +kernel
theorem d_D_nextBOfStep_8 : decode prog_2_method_8_code 8 = .ok (.iconst 5, 1) := by decide +kernel
theorem d_D_nextBOfStep_9 : decode prog_2_method_8_code 9 = .ok (.invokevirtual 46, 3) := by decide +kernel
theorem d_D_nextBOfStep_12 : decode prog_2_method_8_code 12 = .ok (.ifCond .ne 10, 3) := by decide +kernel
theorem d_D_nextBOfStep_15 : decode prog_2_method_8_code 15 = .ok (.iload_n 1, 1) := by decide +kernel
theorem d_D_nextBOfStep_16 : decode prog_2_method_8_code 16 = .ok (.bipush 100, 2) := by decide +kernel
theorem d_D_nextBOfStep_18 : decode prog_2_method_8_code 18 = .ok (.iadd, 1) := by decide +kernel
theorem d_D_nextBOfStep_19 : decode prog_2_method_8_code 19 = .ok (.goto 4, 3) := by decide +kernel
theorem d_D_nextBOfStep_22 : decode prog_2_method_8_code 22 = .ok (.iload_n 1, 1) := by decide +kernel
theorem d_D_nextBOfStep_23 : decode prog_2_method_8_code 23 = .ok (.ireturn, 1) := by decide +kernel
theorem d_D_nextNeed_0 : decode prog_2_method_9_code 0 = .ok (.aload_n 0, 1) := by decide +kernel
theorem d_D_nextNeed_1 : decode prog_2_method_9_code 1 = .ok (.getfield 22, 3) := by decide +kernel
theorem d_D_nextNeed_4 : decode prog_2_method_9_code 4 = .ok (.ifCond .ne 5, 3) := by decide +kernel
theorem d_D_nextNeed_7 : decode prog_2_method_9_code 7 = .ok (.iconst (-1), 1) := by decide +kernel
theorem d_D_nextNeed_8 : decode prog_2_method_9_code 8 = .ok (.ireturn, 1) := by decide +kernel
theorem d_D_nextNeed_9 : decode prog_2_method_9_code 9 = .ok (.aload_n 0, 1) := by decide +kernel
theorem d_D_nextNeed_10 : decode prog_2_method_9_code 10 = .ok (.getfield 22, 3) := by decide +kernel
theorem d_D_nextNeed_13 : decode prog_2_method_9_code 13 = .ok (.iconst 1, 1) := by decide +kernel
theorem d_D_nextNeed_14 : decode prog_2_method_9_code 14 = .ok (.if_icmp .ne 5, 3) := by decide +kernel
theorem d_D_nextNeed_17 : decode prog_2_method_9_code 17 = .ok (.iconst 0, 1) := by decide +kernel
theorem d_D_nextNeed_18 : decode prog_2_method_9_code 18 = .ok (.ireturn, 1) := by decide +kernel
theorem d_D_nextNeed_19 : decode prog_2_method_9_code 19 = .ok (.aload_n 0, 1) := by decide +kernel
theorem d_D_nextNeed_20 : decode prog_2_method_9_code 20 = .ok (.aload_n 0, 1) := by decide +kernel
theorem d_D_nextNeed_21 : decode prog_2_method_9_code 21 = .ok (.getfield 22, 3) := by decide +kernel
theorem d_D_nextNeed_24 : decode prog_2_method_9_code 24 = .ok (.iconst 1, 1) := by decide +kernel
theorem d_D_nextNeed_25 : decode prog_2_method_9_code 25 = .ok (.iadd, 1) := by decide +kernel
theorem d_D_nextNeed_26 : decode prog_2_method_9_code 26 = .ok (.invokevirtual 46, 3) := by decide +kernel
theorem d_D_nextNeed_29 : decode prog_2_method_9_code 29 = .ok (.istore_n 1, 1) := by decide +kernel
theorem d_D_nextNeed_30 : decode prog_2_method_9_code 30 = .ok (.iload_n 1, 1) := by decide +kernel
theorem d_D_nextNeed_31 : decode prog_2_method_9_code 31 = .ok (.aload_n 0, 1) := by decide +kernel
theorem d_D_nextNeed_32 : decode prog_2_method_9_code 32 = .ok (.getfield 22, 3) := by decide +kernel
theorem d_D_nextNeed_35 : decode prog_2_method_9_code 35 = .ok (.if_icmp .ne 7, 3) := by decide +kernel
theorem d_D_nextNeed_38 : decode prog_2_method_9_code 38 = .ok (.iconst (-1), 1) := by decide +kernel
theorem d_D_nextNeed_39 : decode prog_2_method_9_code 39 = .ok (.goto 4, 3) := by decide +kernel
theorem d_D_nextNeed_42 : decode prog_2_method_9_code 42 = .ok (.iload_n 1, 1) := by decide +kernel
theorem d_D_nextNeed_43 : decode prog_2_method_9_code 43 = .ok (.ireturn, 1) := by decide +kernel
theorem d_I_bitCount_0 : decode prog_5_method_49_code 0 = .ok (.iload_n 0, 1) := by decide +kernel
theorem d_I_bitCount_1 : decode prog_5_method_49_code 1 = .ok (.iload_n 0, 1) := by decide +kernel
theorem d_I_bitCount_2 : decode prog_5_method_49_code 2 = .ok (.iconst 1, 1) := by decide +kernel
theorem d_I_bitCount_3 : decode prog_5_method_49_code 3 = .ok (.iushr, 1) := by decide +kernel
theorem d_I_bitCount_4 : decode prog_5_method_49_code 4 = .ok (.ldc_w 265, 3) := by decide +kernel
theorem d_I_bitCount_7 : decode prog_5_method_49_code 7 = .ok (.iand, 1) := by decide +kernel
theorem d_I_bitCount_8 : decode prog_5_method_49_code 8 = .ok (.isub, 1) := by decide +kernel
theorem d_I_bitCount_9 : decode prog_5_method_49_code 9 = .ok (.istore_n 0, 1) := by decide +kernel
theorem d_I_bitCount_10 : decode prog_5_method_49_code 10 = .ok (.iload_n 0, 1) := by decide +kernel
theorem d_I_bitCount_11 : decode prog_5_method_49_code 11 = .ok (.ldc_w 266, 3) := by decide +kernel
theorem d_I_bitCount_14 : decode prog_5_method_49_code 14 = .ok (.iand, 1) := by decide +kernel
theorem d_I_bitCount_15 : decode prog_5_method_49_code 15 = .ok (.iload_n 0, 1) := by decide +kernel
theorem d_I_bitCount_16 : decode prog_5_method_49_code 16 = .ok (.iconst 2, 1) := by decide +kernel
theorem d_I_bitCount_17 : decode prog_5_method_49_code 17 = .ok (.iushr, 1) := by decide +kernel
theorem d_I_bitCount_18 : decode prog_5_method_49_code 18 = .ok (.ldc_w 266, 3) := by decide +kernel
theorem d_I_bitCount_21 : decode prog_5_method_49_code 21 = .ok (.iand, 1) := by decide +kernel
theorem d_I_bitCount_22 : decode prog_5_method_49_code 22 = .ok (.iadd, 1) := by decide +kernel
theorem d_I_bitCount_23 : decode prog_5_method_49_code 23 = .ok (.istore_n 0, 1) := by decide +kernel
theorem d_I_bitCount_24 : decode prog_5_method_49_code 24 = .ok (.iload_n 0, 1) := by decide +kernel
theorem d_I_bitCount_25 : decode prog_5_method_49_code 25 = .ok (.iload_n 0, 1) := by decide +kernel
theorem d_I_bitCount_26 : decode prog_5_method_49_code 26 = .ok (.iconst 4, 1) := by decide +kernel
theorem d_I_bitCount_27 : decode prog_5_method_49_code 27 = .ok (.iushr, 1) := by decide +kernel
theorem d_I_bitCount_28 : decode prog_5_method_49_code 28 = .ok (.iadd, 1) := by decide +kernel
theorem d_I_bitCount_29 : decode prog_5_method_49_code 29 = .ok (.ldc_w 267, 3) := by decide +kernel
theorem d_I_bitCount_32 : decode prog_5_method_49_code 32 = .ok (.iand, 1) := by decide +kernel
theorem d_I_bitCount_33 : decode prog_5_method_49_code 33 = .ok (.istore_n 0, 1) := by decide +kernel
theorem d_I_bitCount_34 : decode prog_5_method_49_code 34 = .ok (.iload_n 0, 1) := by decide +kernel
theorem d_I_bitCount_35 : decode prog_5_method_49_code 35 = .ok (.iload_n 0, 1) := by decide +kernel
theorem d_I_bitCount_36 : decode prog_5_method_49_code 36 = .ok (.bipush 8, 2) := by decide +kernel
theorem d_I_bitCount_38 : decode prog_5_method_49_code 38 = .ok (.iushr, 1) := by decide +kernel
theorem d_I_bitCount_39 : decode prog_5_method_49_code 39 = .ok (.iadd, 1) := by decide +kernel
theorem d_I_bitCount_40 : decode prog_5_method_49_code 40 = .ok (.istore_n 0, 1) := by decide +kernel
theorem d_I_bitCount_41 : decode prog_5_method_49_code 41 = .ok (.iload_n 0, 1) := by decide +kernel
theorem d_I_bitCount_42 : decode prog_5_method_49_code 42 = .ok (.iload_n 0, 1) := by decide +kernel
theorem d_I_bitCount_43 : decode prog_5_method_49_code 43 = .ok (.bipush 16, 2) := by decide +kernel
theorem d_I_bitCount_45 : decode prog_5_method_49_code 45 = .ok (.iushr, 1) := by decide +kernel
theorem d_I_bitCount_46 : decode prog_5_method_49_code 46 = .ok (.iadd, 1) := by decide +kernel
theorem d_I_bitCount_47 : decode prog_5_method_49_code 47 = .ok (.istore_n 0, 1) := by decide +kernel
theorem d_I_bitCount_48 : decode prog_5_method_49_code 48 = .ok (.iload_n 0, 1) := by decide +kernel
theorem d_I_bitCount_49 : decode prog_5_method_49_code 49 = .ok (.bipush 63, 2) := by decide +kernel
theorem d_I_bitCount_51 : decode prog_5_method_49_code 51 = .ok (.iand, 1) := by decide +kernel
theorem d_I_bitCount_52 : decode prog_5_method_49_code 52 = .ok (.ireturn, 1) := by decide +kernel
theorem d_S_length_0 : decode prog_6_method_54_code 0 = .ok (.aload_n 0, 1) := by decide +kernel
theorem d_S_length_1 : decode prog_6_method_54_code 1 = .ok (.getfield 9, 3) := by decide +kernel
theorem d_S_length_4 : decode prog_6_method_54_code 4 = .ok (.arraylength, 1) := by decide +kernel
theorem d_S_length_5 : decode prog_6_method_54_code 5 = .ok (.aload_n 0, 1) := by decide +kernel
theorem d_S_length_6 : decode prog_6_method_54_code 6 = .ok (.invokevirtual 335, 3) := by decide +kernel
theorem d_S_length_9 : decode prog_6_method_54_code 9 = .ok (.ishr, 1) := by decide +kernel
theorem d_S_length_10 : decode prog_6_method_54_code 10 = .ok (.ireturn, 1) := by decide +kernel
theorem d_S_coder_0 : decode prog_6_method_152_code 0 = .ok (.getstatic 38, 3) := by decide +kernel
theorem d_S_coder_3 : decode prog_6_method_152_code 3 = .ok (.ifCond .eq 10, 3) := by decide +kernel
theorem d_S_coder_6 : decode prog_6_method_152_code 6 = .ok (.aload_n 0, 1) := by decide +kernel
theorem d_S_coder_7 : decode prog_6_method_152_code 7 = .ok (.getfield 15, 3) := by decide +kernel
theorem d_S_coder_10 : decode prog_6_method_152_code 10 = .ok (.goto 4, 3) := by decide +kernel
theorem d_S_coder_13 : decode prog_6_method_152_code 13 = .ok (.iconst 1, 1) := by decide +kernel
theorem d_S_coder_14 : decode prog_6_method_152_code 14 = .ok (.ireturn, 1) := by decide +kernel
theorem d_S_charAt_0 : decode prog_6_method_56_code 0 = .ok (.aload_n 0, 1) := by decide +kernel
theorem d_S_charAt_1 : decode prog_6_method_56_code 1 = .ok (.invokevirtual 492, 3) := by decide +kernel
theorem d_S_charAt_4 : decode prog_6_method_56_code 4 = .ok (.ifCond .eq 12, 3) := by decide +kernel
theorem d_S_charAt_7 : decode prog_6_method_56_code 7 = .ok (.aload_n 0, 1) := by decide +kernel
theorem d_S_charAt_8 : decode prog_6_method_56_code 8 = .ok (.getfield 9, 3) := by decide +kernel
theorem d_S_charAt_11 : decode prog_6_method_56_code 11 = .ok (.iload_n 1, 1) := by decide +kernel
theorem d_S_charAt_12 : decode prog_6_method_56_code 12 = .ok (.invokestatic 495, 3) := by decide +kernel
theorem d_S_charAt_15 : decode prog_6_method_56_code 15 = .ok (.ireturn, 1) := by decide +kernel
theorem d_S_charAt_16 : decode prog_6_method_56_code 16 = .ok (.aload_n 0, 1) := by decide +kernel
theorem d_S_charAt_17 : decode prog_6_method_56_code 17 = .ok (.getfield 9, 3) := by decide +kernel
theorem d_S_charAt_20 : decode prog_6_method_56_code 20 = .ok (.iload_n 1, 1) := by decide +kernel
theorem d_S_charAt_21 : decode prog_6_method_56_code 21 = .ok (.invokestatic 498, 3) := by decide +kernel
theorem d_S_charAt_24 : decode prog_6_method_56_code 24 = .ok (.ireturn, 1) := by decide +kernel
theorem d_S_isLatin1_0 : decode prog_6_method_154_code 0 = .ok (.getstatic 38, 3) := by decide +kernel
theorem d_S_isLatin1_3 : decode prog_6_method_154_code 3 = .ok (.ifCond .eq 14, 3) := by decide +kernel
theorem d_S_isLatin1_6 : decode prog_6_method_154_code 6 = .ok (.aload_n 0, 1) := by decide +kernel
theorem d_S_isLatin1_7 : decode prog_6_method_154_code 7 = .ok (.getfield 15, 3) := by decide +kernel
theorem d_S_isLatin1_10 : decode prog_6_method_154_code 10 = .ok (.ifCond .ne 7, 3) := by decide +kernel
theorem d_S_isLatin1_13 : decode prog_6_method_154_code 13 = .ok (.iconst 1, 1) := by decide +kernel
theorem d_S_isLatin1_14 : decode prog_6_method_154_code 14 = .ok (.goto 4, 3) := by decide +kernel
theorem d_S_isLatin1_17 : decode prog_6_method_154_code 17 = .ok (.iconst 0, 1) := by decide +kernel
theorem d_S_isLatin1_18 : decode prog_6_method_154_code 18 = .ok (.ireturn, 1) := by decide +kernel
theorem d_S1_charAt_0 : decode prog_7_method_2_code 0 = .ok (.iload_n 1, 1) := by decide +kernel
theorem d_S1_charAt_1 : decode prog_7_method_2_code 1 = .ok (.aload_n 0, 1) := by decide +kernel
theorem d_S1_charAt_2 : decode prog_7_method_2_code 2 = .ok (.arraylength, 1) := by decide +kernel
theorem d_S1_charAt_3 : decode prog_7_method_2_code 3 = .ok (.invokestatic 9, 3) := by decide +kernel
theorem d_S1_charAt_6 : decode prog_7_method_2_code 6 = .ok (.aload_n 0, 1) := by decide +kernel
theorem d_S1_charAt_7 : decode prog_7_method_2_code 7 = .ok (.iload_n 1, 1) := by decide +kernel
theorem d_S1_charAt_8 : decode prog_7_method_2_code 8 = .ok (.baload, 1) := by decide +kernel
theorem d_S1_charAt_9 : decode prog_7_method_2_code 9 = .ok (.sipush 255, 3) := by decide +kernel
theorem d_S1_charAt_12 : decode prog_7_method_2_code 12 = .ok (.iand, 1) := by decide +kernel
theorem d_S1_charAt_13 : decode prog_7_method_2_code 13 = .ok (.i2c, 1) := by decide +kernel
theorem d_S1_charAt_14 : decode prog_7_method_2_code 14 = .ok (.ireturn, 1) := by decide +kernel
theorem d_S_checkIndex_0 : decode prog_6_method_155_code 0 = .ok (.iload_n 0, 1) := by decide +kernel
theorem d_S_checkIndex_1 : decode prog_6_method_155_code 1 = .ok (.iload_n 1, 1) := by decide +kernel
theorem d_S_checkIndex_2 : decode prog_6_method_155_code 2 = .ok (.getstatic 1053, 3) := by decide +kernel
theorem d_S_checkIndex_5 : decode prog_6_method_155_code 5 = .ok (.invokestatic 1059, 3) := by decide +kernel
theorem d_S_checkIndex_8 : decode prog_6_method_155_code 8 = .ok (.pop, 1) := by decide +kernel
theorem d_S_checkIndex_9 : decode prog_6_method_155_code 9 = .ok (.return_, 1) := by decide +kernel
theorem d_P_checkIndex_0 : decode prog_9_method_11_code 0 = .ok (.iload_n 0, 1) := by decide +kernel
theorem d_P_checkIndex_1 : decode prog_9_method_11_code 1 = .ok (.ifCond .lt 8, 3) := by decide +kernel
theorem d_P_checkIndex_4 : decode prog_9_method_11_code 4 = .ok (.iload_n 0, 1) := by decide +kernel
theorem d_P_checkIndex_5 : decode prog_9_method_11_code 5 = .ok (.iload_n 1, 1) := by decide +kernel
theorem d_P_checkIndex_6 : decode prog_9_method_11_code 6 = .ok (.if_icmp .lt 10, 3) := by decide +kernel
theorem d_P_checkIndex_9 : decode prog_9_method_11_code 9 = .ok (.aload_n 2, 1) := by decide +kernel
theorem d_P_checkIndex_10 : decode prog_9_method_11_code 10 = .ok (.iload_n 0, 1) := by decide +kernel
theorem d_P_checkIndex_11 : decode prog_9_method_11_code 11 = .ok (.iload_n 1, 1) := by decide +kernel
theorem d_P_checkIndex_12 : decode prog_9_method_11_code 12 = .ok (.invokestatic 95, 3) := by decide +kernel
theorem d_P_checkIndex_15 : decode prog_9_method_11_code 15 = .ok (.athrow, 1) := by decide +kernel
theorem d_P_checkIndex_16 : decode prog_9_method_11_code 16 = .ok (.iload_n 0, 1) := by decide +kernel
theorem d_P_checkIndex_17 : decode prog_9_method_11_code 17 = .ok (.ireturn, 1) := by decide +kernel
theorem d_D_isAtTheLikeOf_0 : decode prog_2_method_4_code 0 = .ok (.aload_n 1, 1) := by decide +kernel
theorem d_D_isAtTheLikeOf_1 : decode prog_2_method_4_code 1 = .ok (.ifnull 62, 3) := by decide +kernel
theorem d_D_isAtTheLikeOf_4 : decode prog_2_method_4_code 4 = .ok (.aload_n 0, 1) := by decide +kernel
theorem d_D_isAtTheLikeOf_5 : decode prog_2_method_4_code 5 = .ok (.getfield 25, 3) := by decide +kernel
theorem d_D_isAtTheLikeOf_8 : decode prog_2_method_4_code 8 = .ok (.aload_n 1, 1) := by decide +kernel
theorem d_D_isAtTheLikeOf_9 : decode prog_2_method_4_code 9 = .ok (.getfield 25, 3) := by decide +kernel
theorem d_D_isAtTheLikeOf_12 : decode prog_2_method_4_code 12 = .ok (.if_icmp .ne 51, 3) := by decide +kernel
theorem d_D_isAtTheLikeOf_15 : decode prog_2_method_4_code 15 = .ok (.aload_n 0, 1) := by decide +kernel
theorem d_D_isAtTheLikeOf_16 : decode prog_2_method_4_code 16 = .ok (.getfield 28, 3) := by decide +kernel
theorem d_D_isAtTheLikeOf_19 : decode prog_2_method_4_code 19 = .ok (.aload_n 1, 1) := by decide +kernel
theorem d_D_isAtTheLikeOf_20 : decode prog_2_method_4_code 20 = .ok (.getfield 28, 3) := by decide +kernel
theorem d_D_isAtTheLikeOf_23 : decode prog_2_method_4_code 23 = .ok (.if_icmp .ne 40, 3) := by decide +kernel
theorem d_D_isAtTheLikeOf_26 : decode prog_2_method_4_code 26 = .ok (.aload_n 0, 1) := by decide +kernel
theorem d_D_isAtTheLikeOf_27 : decode prog_2_method_4_code 27 = .ok (.getfield 31, 3) := by decide +kernel
theorem d_D_isAtTheLikeOf_30 : decode prog_2_method_4_code 30 = .ok (.aload_n 1, 1) := by decide +kernel
theorem d_D_isAtTheLikeOf_31 : decode prog_2_method_4_code 31 = .ok (.getfield 31, 3) := by decide +kernel
theorem d_D_isAtTheLikeOf_34 : decode prog_2_method_4_code 34 = .ok (.if_icmp .ne 29, 3) := by decide +kernel
theorem d_D_isAtTheLikeOf_37 : decode prog_2_method_4_code 37 = .ok (.aload_n 0, 1) := by decide +kernel
theorem d_D_isAtTheLikeOf_38 : decode prog_2_method_4_code 38 = .ok (.getfield 34, 3) := by decide +kernel
theorem d_D_isAtTheLikeOf_41 : decode prog_2_method_4_code 41 = .ok (.aload_n 1, 1) := by decide +kernel
theorem d_D_isAtTheLikeOf_42 : decode prog_2_method_4_code 42 = .ok (.getfield 34, 3) := by decide +kernel
theorem d_D_isAtTheLikeOf_45 : decode prog_2_method_4_code 45 = .ok (.if_icmp .ne 18, 3) := by decide +kernel
theorem d_D_isAtTheLikeOf_48 : decode prog_2_method_4_code 48 = .ok (.aload_n 0, 1) := by decide +kernel
theorem d_D_isAtTheLikeOf_49 : decode prog_2_method_4_code 49 = .ok (.getfield 37, 3) := by decide +kernel
theorem d_D_isAtTheLikeOf_52 : decode prog_2_method_4_code 52 = .ok (.aload_n 1, 1) := by decide +kernel
theorem d_D_isAtTheLikeOf_53 : decode prog_2_method_4_code 53 = .ok (.getfield 37, 3) := by decide +kernel
theorem d_D_isAtTheLikeOf_56 : decode prog_2_method_4_code 56 = .ok (.if_icmp .ne 7, 3) := by decide +kernel
theorem d_D_isAtTheLikeOf_59 : decode prog_2_method_4_code 59 = .ok (.iconst 1, 1) := by decide +kernel
theorem d_D_isAtTheLikeOf_60 : decode prog_2_method_4_code 60 = .ok (.goto 4, 3) := by decide +kernel
theorem d_D_isAtTheLikeOf_63 : decode prog_2_method_4_code 63 = .ok (.iconst 0, 1) := by decide +kernel
theorem d_D_isAtTheLikeOf_64 : decode prog_2_method_4_code 64 = .ok (.ireturn, 1) := by decide +kernel
