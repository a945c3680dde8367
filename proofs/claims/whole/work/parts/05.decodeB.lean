theorem d_B_init_0 : decode prog_1_method_1_code 0 = .ok (.aload_n 0, 1) := by decide +kernel
theorem d_B_init_1 : decode prog_1_method_1_code 1 = .ok (.invokespecial 3, 3) := by decide +kernel
theorem d_B_init_4 : decode prog_1_method_1_code 4 = .ok (.aload_n 0, 1) := by decide +kernel
theorem d_B_init_5 : decode prog_1_method_1_code 5 = .ok (.new 9, 3) := by decide +kernel
theorem d_B_init_8 : decode prog_1_method_1_code 8 = .ok (.dup, 1) := by decide +kernel
theorem d_B_init_9 : decode prog_1_method_1_code 9 = .ok (.invokespecial 11, 3) := by decide +kernel
theorem d_B_init_12 : decode prog_1_method_1_code 12 = .ok (.putfield 12, 3) := by decide +kernel
theorem d_B_init_15 : decode prog_1_method_1_code 15 = .ok (.aload_n 0, 1) := by decide +kernel
theorem d_B_init_16 : decode prog_1_method_1_code 16 = .ok (.new 9, 3) := by decide +kernel
theorem d_B_init_19 : decode prog_1_method_1_code 19 = .ok (.dup, 1) := by decide +kernel
theorem d_B_init_20 : decode prog_1_method_1_code 20 = .ok (.invokespecial 11, 3) := by decide +kernel
theorem d_B_init_23 : decode prog_1_method_1_code 23 = .ok (.putfield 16, 3) := by decide +kernel
theorem d_B_init_26 : decode prog_1_method_1_code 26 = .ok (.aload_n 0, 1) := by decide +kernel
theorem d_B_init_27 : decode prog_1_method_1_code 27 = .ok (.iconst 0, 1) := by decide +kernel
theorem d_B_init_28 : decode prog_1_method_1_code 28 = .ok (.putfield 19, 3) := by decide +kernel
theorem d_B_init_31 : decode prog_1_method_1_code 31 = .ok (.aload_n 0, 1) := by decide +kernel
theorem d_B_init_32 : decode prog_1_method_1_code 32 = .ok (.bipush 62, 2) := by decide +kernel
theorem d_B_init_34 : decode prog_1_method_1_code 34 = .ok (.newarray .int, 2) := by decide +kernel
theorem d_B_init_36 : decode prog_1_method_1_code 36 = .ok (.putfield 23, 3) := by decide +kernel
theorem d_B_init_39 : decode prog_1_method_1_code 39 = .ok (.aload_n 0, 1) := by decide +kernel
theorem d_B_init_40 : decode prog_1_method_1_code 40 = .ok (.bipush 62, 2) := by decide +kernel
theorem d_B_init_42 : decode prog_1_method_1_code 42 = .ok (.newarray .int, 2) := by decide +kernel
theorem d_B_init_44 : decode prog_1_method_1_code 44 = .ok (.putfield 27, 3) := by decide +kernel
theorem d_B_init_47 : decode prog_1_method_1_code 47 = .ok (.aload_n 0, 1) := by decide +kernel
theorem d_B_init_48 : decode prog_1_method_1_code 48 = .ok (.bipush 62, 2) := by decide +kernel
theorem d_B_init_50 : decode prog_1_method_1_code 50 = .ok (.newarray .int, 2) := by decide +kernel
theorem d_B_init_52 : decode prog_1_method_1_code 52 = .ok (.putfield 30, 3) := by decide +kernel
theorem d_B_init_55 : decode prog_1_method_1_code 55 = .ok (.aload_n 0, 1) := by decide +kernel
theorem d_B_init_56 : decode prog_1_method_1_code 56 = .ok (.bipush 62, 2) := by decide +kernel
theorem d_B_init_58 : decode prog_1_method_1_code 58 = .ok (.newarray .int, 2) := by decide +kernel
theorem d_B_init_60 : decode prog_1_method_1_code 60 = .ok (.putfield 33, 3) := by decide +kernel
theorem d_B_init_63 : decode prog_1_method_1_code 63 = .ok (.aload_n 0, 1) := by decide +kernel
theorem d_B_init_64 : decode prog_1_method_1_code 64 = .ok (.bipush 62, 2) := by decide +kernel
theorem d_B_init_66 : decode prog_1_method_1_code 66 = .ok (.newarray .int, 2) := by decide +kernel
theorem d_B_init_68 : decode prog_1_method_1_code 68 = .ok (.putfield 36, 3) := by decide +kernel
theorem d_B_init_71 : decode prog_1_method_1_code 71 = .ok (.aload_n 0, 1) := by decide +kernel
theorem d_B_init_72 : decode prog_1_method_1_code 72 = .ok (.bipush 62, 2) := by decide +kernel
theorem d_B_init_74 : decode prog_1_method_1_code 74 = .ok (.newarray .boolean, 2) := by decide +kernel
theorem d_B_init_76 : decode prog_1_method_1_code 76 = .ok (.putfield 39, 3) := by decide +kernel
theorem d_B_init_79 : decode prog_1_method_1_code 79 = .ok (.aload_n 0, 1) := by decide +kernel
theorem d_B_init_80 : decode prog_1_method_1_code 80 = .ok (.iconst 0, 1) := by decide +kernel
theorem d_B_init_81 : decode prog_1_method_1_code 81 = .ok (.putfield 43, 3) := by decide +kernel
theorem d_B_init_84 : decode prog_1_method_1_code 84 = .ok (.aload_n 0, 1) := by decide +kernel
theorem d_B_init_85 : decode prog_1_method_1_code 85 = .ok (.iconst 1, 1) := by decide +kernel
theorem d_B_init_86 : decode prog_1_method_1_code 86 = .ok (.putfield 46, 3) := by decide +kernel
theorem d_B_init_89 : decode prog_1_method_1_code 89 = .ok (.aload_n 0, 1) := by decide +kernel
theorem d_B_init_90 : decode prog_1_method_1_code 90 = .ok (.sipush 992, 3) := by decide +kernel
theorem d_B_init_93 : decode prog_1_method_1_code 93 = .ok (.newarray .char, 2) := by decide +kernel
theorem d_B_init_95 : decode prog_1_method_1_code 95 = .ok (.putfield 50, 3) := by decide +kernel
theorem d_B_init_98 : decode prog_1_method_1_code 98 = .ok (.aload_n 0, 1) := by decide +kernel
theorem d_B_init_99 : decode prog_1_method_1_code 99 = .ok (.iconst (-1), 1) := by decide +kernel
theorem d_B_init_100 : decode prog_1_method_1_code 100 = .ok (.putfield 54, 3) := by decide +kernel
theorem d_B_init_103 : decode prog_1_method_1_code 103 = .ok (.aload_n 0, 1) := by decide +kernel
theorem d_B_init_104 : decode prog_1_method_1_code 104 = .ok (.lload_n 1, 1) := by decide +kernel
theorem d_B_init_105 : decode prog_1_method_1_code 105 = .ok (.putfield 57, 3) := by decide +kernel
theorem d_B_init_108 : decode prog_1_method_1_code 108 = .ok (.return_, 1) := by decide +kernel
theorem d_B_draw_0 : decode prog_1_method_2_code 0 = .ok (.iload_n 1, 1) := by decide +kernel
theorem d_B_draw_1 : decode prog_1_method_2_code 1 = .ok (.iload_n 2, 1) := by decide +kernel
theorem d_B_draw_2 : decode prog_1_method_2_code 2 = .ok (.invokestatic 61, 3) := by decide +kernel
theorem d_B_draw_5 : decode prog_1_method_2_code 5 = .ok (.ifCond .ne 6, 3) := by decide +kernel
theorem d_B_draw_8 : decode prog_1_method_2_code 8 = .ok (.bipush (-2), 2) := by decide +kernel
theorem d_B_draw_10 : decode prog_1_method_2_code 10 = .ok (.ireturn, 1) := by decide +kernel
theorem d_B_draw_11 : decode prog_1_method_2_code 11 = .ok (.aload_n 0, 1) := by decide +kernel
theorem d_B_draw_12 : decode prog_1_method_2_code 12 = .ok (.getfield 12, 3) := by decide +kernel
theorem d_B_draw_15 : decode prog_1_method_2_code 15 = .ok (.aload_n 0, 1) := by decide +kernel
theorem d_B_draw_16 : decode prog_1_method_2_code 16 = .ok (.getfield 57, 3) := by decide +kernel
theorem d_B_draw_19 : decode prog_1_method_2_code 19 = .ok (.iload_n 1, 1) := by decide +kernel
theorem d_B_draw_20 : decode prog_1_method_2_code 20 = .ok (.iload_n 2, 1) := by decide +kernel
theorem d_B_draw_21 : decode prog_1_method_2_code 21 = .ok (.invokevirtual 65, 3) := by decide +kernel
theorem d_B_draw_24 : decode prog_1_method_2_code 24 = .ok (.aload_n 0, 1) := by decide +kernel
theorem d_B_draw_25 : decode prog_1_method_2_code 25 = .ok (.iload_n 2, 1) := by decide +kernel
theorem d_B_draw_26 : decode prog_1_method_2_code 26 = .ok (.iconst 2, 1) := by decide +kernel
theorem d_B_draw_27 : decode prog_1_method_2_code 27 = .ok (.iadd, 1) := by decide +kernel
theorem d_B_draw_28 : decode prog_1_method_2_code 28 = .ok (.putfield 19, 3) := by decide +kernel
theorem d_B_draw_31 : decode prog_1_method_2_code 31 = .ok (.iconst 0, 1) := by decide +kernel
theorem d_B_draw_32 : decode prog_1_method_2_code 32 = .ok (.istore_n 3, 1) := by decide +kernel
theorem d_B_draw_33 : decode prog_1_method_2_code 33 = .ok (.iload_n 3, 1) := by decide +kernel
theorem d_B_draw_34 : decode prog_1_method_2_code 34 = .ok (.aload_n 0, 1) := by decide +kernel
theorem d_B_draw_35 : decode prog_1_method_2_code 35 = .ok (.getfield 19, 3) := by decide +kernel
theorem d_B_draw_38 : decode prog_1_method_2_code 38 = .ok (.if_icmp .ge 87, 3) := by decide +kernel
theorem d_B_draw_41 : decode prog_1_method_2_code 41 = .ok (.iload_n 3, 1) := by decide +kernel
theorem d_B_draw_42 : decode prog_1_method_2_code 42 = .ok (.bipush 62, 2) := by decide +kernel
theorem d_B_draw_44 : decode prog_1_method_2_code 44 = .ok (.if_icmp .ge 81, 3) := by decide +kernel
theorem d_B_draw_47 : decode prog_1_method_2_code 47 = .ok (.aload_n 0, 1) := by decide +kernel
theorem d_B_draw_48 : decode prog_1_method_2_code 48 = .ok (.getfield 12, 3) := by decide +kernel
theorem d_B_draw_51 : decode prog_1_method_2_code 51 = .ok (.invokevirtual 69, 3) := by decide +kernel
theorem d_B_draw_54 : decode prog_1_method_2_code 54 = .ok (.aload_n 0, 1) := by decide +kernel
theorem d_B_draw_55 : decode prog_1_method_2_code 55 = .ok (.getfield 23, 3) := by decide +kernel
theorem d_B_draw_58 : decode prog_1_method_2_code 58 = .ok (.iload_n 3, 1) := by decide +kernel
theorem d_B_draw_59 : decode prog_1_method_2_code 59 = .ok (.aload_n 0, 1) := by decide +kernel
theorem d_B_draw_60 : decode prog_1_method_2_code 60 = .ok (.getfield 12, 3) := by decide +kernel
theorem d_B_draw_63 : decode prog_1_method_2_code 63 = .ok (.getfield 72, 3) := by decide +kernel
theorem d_B_draw_66 : decode prog_1_method_2_code 66 = .ok (.iastore, 1) := by decide +kernel
theorem d_B_draw_67 : decode prog_1_method_2_code 67 = .ok (.aload_n 0, 1) := by decide +kernel
theorem d_B_draw_68 : decode prog_1_method_2_code 68 = .ok (.getfield 27, 3) := by decide +kernel
theorem d_B_draw_71 : decode prog_1_method_2_code 71 = .ok (.iload_n 3, 1) := by decide +kernel
theorem d_B_draw_72 : decode prog_1_method_2_code 72 = .ok (.aload_n 0, 1) := by decide +kernel
theorem d_B_draw_73 : decode prog_1_method_2_code 73 = .ok (.getfield 12, 3) := by decide +kernel
theorem d_B_draw_76 : decode prog_1_method_2_code 76 = .ok (.getfield 75, 3) := by decide +kernel
theorem d_B_draw_79 : decode prog_1_method_2_code 79 = .ok (.iastore, 1) := by decide +kernel
theorem d_B_draw_80 : decode prog_1_method_2_code 80 = .ok (.aload_n 0, 1) := by decide +kernel
theorem d_B_draw_81 : decode prog_1_method_2_code 81 = .ok (.getfield 30, 3) := by decide +kernel
theorem d_B_draw_84 : decode prog_1_method_2_code 84 = .ok (.iload_n 3, 1) := by decide +kernel
theorem d_B_draw_85 : decode prog_1_method_2_code 85 = .ok (.aload_n 0, 1) := by decide +kernel
theorem d_B_draw_86 : decode prog_1_method_2_code 86 = .ok (.getfield 12, 3) := by decide +kernel
theorem d_B_draw_89 : decode prog_1_method_2_code 89 = .ok (.getfield 78, 3) := by decide +kernel
theorem d_B_draw_92 : decode prog_1_method_2_code 92 = .ok (.iastore, 1) := by decide +kernel
theorem d_B_draw_93 : decode prog_1_method_2_code 93 = .ok (.aload_n 0, 1) := by decide +kernel
theorem d_B_draw_94 : decode prog_1_method_2_code 94 = .ok (.getfield 33, 3) := by decide +kernel
theorem d_B_draw_97 : decode prog_1_method_2_code 97 = .ok (.iload_n 3, 1) := by decide +kernel
theorem d_B_draw_98 : decode prog_1_method_2_code 98 = .ok (.aload_n 0, 1) := by decide +kernel
theorem d_B_draw_99 : decode prog_1_method_2_code 99 = .ok (.getfield 12, 3) := by decide +kernel
theorem d_B_draw_102 : decode prog_1_method_2_code 102 = .ok (.getfield 81, 3) := by decide +kernel
theorem d_B_draw_105 : decode prog_1_method_2_code 105 = .ok (.iastore, 1) := by decide +kernel
theorem d_B_draw_106 : decode prog_1_method_2_code 106 = .ok (.aload_n 0, 1) := by decide +kernel
theorem d_B_draw_107 : decode prog_1_method_2_code 107 = .ok (.getfield 36, 3) := by decide +kernel
theorem d_B_draw_110 : decode prog_1_method_2_code 110 = .ok (.iload_n 3, 1) := by decide +kernel
theorem d_B_draw_111 : decode prog_1_method_2_code 111 = .ok (.aload_n 0, 1) := by decide +kernel
theorem d_B_draw_112 : decode prog_1_method_2_code 112 = .ok (.getfield 12, 3) := by decide +kernel
theorem d_B_draw_115 : decode prog_1_method_2_code 115 = .ok (.getfield 84, 3) := by decide +kernel
theorem d_B_draw_118 : decode prog_1_method_2_code 118 = .ok (.iastore, 1) := by decide +kernel
theorem d_B_draw_119 : decode prog_1_method_2_code 119 = .ok (.iinc 3 1, 3) := by decide +kernel
theorem d_B_draw_122 : decode prog_1_method_2_code 122 = .ok (.goto (-89), 3) := by decide +kernel
theorem d_B_draw_125 : decode prog_1_method_2_code 125 = .ok (.aload_n 0, 1) := by decide +kernel
theorem d_B_draw_126 : decode prog_1_method_2_code 126 = .ok (.invokevirtual 87, 3) := by decide +kernel
theorem d_B_draw_129 : decode prog_1_method_2_code 129 = .ok (.aload_n 0, 1) := by decide +kernel
theorem d_B_draw_130 : decode prog_1_method_2_code 130 = .ok (.getfield 19, 3) := by decide +kernel
theorem d_B_draw_133 : decode prog_1_method_2_code 133 = .ok (.ireturn, 1) := by decide +kernel
theorem d_B_canBeDrawn_0 : decode prog_1_method_10_code 0 = .ok (.iload_n 0, 1) := by decide +kernel
theorem d_B_canBeDrawn_1 : decode prog_1_method_10_code 1 = .ok (.ifCond .lt 23, 3) := by decide +kernel
theorem d_B_canBeDrawn_4 : decode prog_1_method_10_code 4 = .ok (.iload_n 0, 1) := by decide +kernel
theorem d_B_canBeDrawn_5 : decode prog_1_method_10_code 5 = .ok (.bipush 8, 2) := by decide +kernel
theorem d_B_canBeDrawn_7 : decode prog_1_method_10_code 7 = .ok (.if_icmp .ge 17, 3) := by decide +kernel
theorem d_B_canBeDrawn_10 : decode prog_1_method_10_code 10 = .ok (.iload_n 1, 1) := by decide +kernel
theorem d_B_canBeDrawn_11 : decode prog_1_method_10_code 11 = .ok (.ifCond .lt 13, 3) := by decide +kernel
theorem d_B_canBeDrawn_14 : decode prog_1_method_10_code 14 = .ok (.iload_n 1, 1) := by decide +kernel
theorem d_B_canBeDrawn_15 : decode prog_1_method_10_code 15 = .ok (.bipush 60, 2) := by decide +kernel
theorem d_B_canBeDrawn_17 : decode prog_1_method_10_code 17 = .ok (.if_icmp .gt 7, 3) := by decide +kernel
theorem d_B_canBeDrawn_20 : decode prog_1_method_10_code 20 = .ok (.iconst 1, 1) := by decide +kernel
theorem d_B_canBeDrawn_21 : decode prog_1_method_10_code 21 = .ok (.goto 4, 3) := by decide +kernel
theorem d_B_canBeDrawn_24 : decode prog_1_method_10_code 24 = .ok (.iconst 0, 1) := by decide +kernel
theorem d_B_canBeDrawn_25 : decode prog_1_method_10_code 25 = .ok (.ireturn, 1) := by decide +kernel
theorem d_B_takeAllBack_0 : decode prog_1_method_12_code 0 = .ok (.iconst 0, 1) := by decide +kernel
theorem d_B_takeAllBack_1 : decode prog_1_method_12_code 1 = .ok (.istore_n 1, 1) := by decide +kernel
theorem d_B_takeAllBack_2 : decode prog_1_method_12_code 2 = .ok (.iload_n 1, 1) := by decide +kernel
theorem d_B_takeAllBack_3 : decode prog_1_method_12_code 3 = .ok (.aload_n 0, 1) := by decide +kernel
theorem d_B_takeAllBack_4 : decode prog_1_method_12_code 4 = .ok (.getfield 19, 3) := by decide +kernel
theorem d_B_takeAllBack_7 : decode prog_1_method_12_code 7 = .ok (.if_icmp .ge 22, 3) := by decide +kernel
theorem d_B_takeAllBack_10 : decode prog_1_method_12_code 10 = .ok (.iload_n 1, 1) := by decide +kernel
theorem d_B_takeAllBack_11 : decode prog_1_method_12_code 11 = .ok (.bipush 62, 2) := by decide +kernel
theorem d_B_takeAllBack_13 : decode prog_1_method_12_code 13 = .ok (.if_icmp .ge 16, 3) := by decide +kernel
theorem d_B_takeAllBack_16 : decode prog_1_method_12_code 16 = .ok (.aload_n 0, 1) := by decide +kernel
theorem d_B_takeAllBack_17 : decode prog_1_method_12_code 17 = .ok (.getfield 39, 3) := by decide +kernel
theorem d_B_takeAllBack_20 : decode prog_1_method_12_code 20 = .ok (.iload_n 1, 1) := by decide +kernel
theorem d_B_takeAllBack_21 : decode prog_1_method_12_code 21 = .ok (.iconst 1, 1) := by decide +kernel
theorem d_B_takeAllBack_22 : decode prog_1_method_12_code 22 = .ok (.bastore, 1) := by decide +kernel
theorem d_B_takeAllBack_23 : decode prog_1_method_12_code 23 = .ok (.iinc 1 1, 3) := by decide +kernel
theorem d_B_takeAllBack_26 : decode prog_1_method_12_code 26 = .ok (.goto (-24), 3) := by decide +kernel
theorem d_B_takeAllBack_29 : decode prog_1_method_12_code 29 = .ok (.aload_n 0, 1) := by decide +kernel
theorem d_B_takeAllBack_30 : decode prog_1_method_12_code 30 = .ok (.iconst (-1), 1) := by decide +kernel
theorem d_B_takeAllBack_31 : decode prog_1_method_12_code 31 = .ok (.putfield 54, 3) := by decide +kernel
theorem d_B_takeAllBack_34 : decode prog_1_method_12_code 34 = .ok (.return_, 1) := by decide +kernel
theorem d_B_part_0 : decode prog_1_method_3_code 0 = .ok (.aload_n 0, 1) := by decide +kernel
theorem d_B_part_1 : decode prog_1_method_3_code 1 = .ok (.iload_n 1, 1) := by decide +kernel
theorem d_B_part_2 : decode prog_1_method_3_code 2 = .ok (.invokevirtual 90, 3) := by decide +kernel
theorem d_B_part_5 : decode prog_1_method_3_code 5 = .ok (.ifCond .ne 7, 3) := by decide +kernel
theorem d_B_part_8 : decode prog_1_method_3_code 8 = .ok (.ldc2_w 94, 3) := by decide +kernel
theorem d_B_part_11 : decode prog_1_method_3_code 11 = .ok (.lreturn, 1) := by decide +kernel
theorem d_B_part_12 : decode prog_1_method_3_code 12 = .ok (.iload_n 2, 1) := by decide +kernel
theorem d_B_part_13 : decode prog_1_method_3_code 13 = .ok (.tableswitch 107 0 6 #[43, 51, 59, 67, 75, 83, 98], 43) := by decide +kernel
theorem d_B_part_56 : decode prog_1_method_3_code 56 = .ok (.aload_n 0, 1) := by decide +kernel
theorem d_B_part_57 : decode prog_1_method_3_code 57 = .ok (.getfield 23, 3) := by decide +kernel
theorem d_B_part_60 : decode prog_1_method_3_code 60 = .ok (.iload_n 1, 1) := by decide +kernel
theorem d_B_part_61 : decode prog_1_method_3_code 61 = .ok (.iaload, 1) := by decide +kernel
theorem d_B_part_62 : decode prog_1_method_3_code 62 = .ok (.i2l, 1) := by decide +kernel
theorem d_B_part_63 : decode prog_1_method_3_code 63 = .ok (.lreturn, 1) := by decide +kernel
theorem d_B_part_64 : decode prog_1_method_3_code 64 = .ok (.aload_n 0, 1) := by decide +kernel
theorem d_B_part_65 : decode prog_1_method_3_code 65 = .ok (.getfield 27, 3) := by decide +kernel
theorem d_B_part_68 : decode prog_1_method_3_code 68 = .ok (.iload_n 1, 1) := by decide +kernel
theorem d_B_part_69 : decode prog_1_method_3_code 69 = .ok (.iaload, 1) := by decide +kernel
theorem d_B_part_70 : decode prog_1_method_3_code 70 = .ok (.i2l, 1) := by decide +kernel
theorem d_B_part_71 : decode prog_1_method_3_code 71 = .ok (.lreturn, 1) := by decide +kernel
theorem d_B_part_72 : decode prog_1_method_3_code 72 = .ok (.aload_n 0, 1) := by decide +kernel
theorem d_B_part_73 : decode prog_1_method_3_code 73 = .ok (.getfield 30, 3) := by decide +kernel
theorem d_B_part_76 : decode prog_1_method_3_code 76 = .ok (.iload_n 1, 1) := by decide +kernel
theorem d_B_part_77 : decode prog_1_method_3_code 77 = .ok (.iaload, 1) := by decide +kernel
theorem d_B_part_78 : decode prog_1_method_3_code 78 = .ok (.i2l, 1) := by decide +kernel
theorem d_B_part_79 : decode prog_1_method_3_code 79 = .ok (.lreturn, 1) := by decide +kernel
theorem d_B_part_80 : decode prog_1_method_3_code 80 = .ok (.aload_n 0, 1) := by decide +kernel
theorem d_B_part_81 : decode prog_1_method_3_code 81 = .ok (.getfield 33, 3) := by decide +kernel
theorem d_B_part_84 : decode prog_1_method_3_code 84 = .ok (.iload_n 1, 1) := by decide +kernel
theorem d_B_part_85 : decode prog_1_method_3_code 85 = .ok (.iaload, 1) := by decide +kernel
theorem d_B_part_86 : decode prog_1_method_3_code 86 = .ok (.i2l, 1) := by decide +kernel
theorem d_B_part_87 : decode prog_1_method_3_code 87 = .ok (.lreturn, 1) := by decide +kernel
theorem d_B_part_88 : decode prog_1_method_3_code 88 = .ok (.aload_n 0, 1) := by decide +kernel
theorem d_B_part_89 : decode prog_1_method_3_code 89 = .ok (.getfield 36, 3) := by decide +kernel
theorem d_B_part_92 : decode prog_1_method_3_code 92 = .ok (.iload_n 1, 1) := by decide +kernel
theorem d_B_part_93 : decode prog_1_method_3_code 93 = .ok (.iaload, 1) := by decide +kernel
theorem d_B_part_94 : decode prog_1_method_3_code 94 = .ok (.i2l, 1) := by decide +kernel
theorem d_B_part_95 : decode prog_1_method_3_code 95 = .ok (.lreturn, 1) := by decide +kernel
theorem d_B_part_96 : decode prog_1_method_3_code 96 = .ok (.aload_n 0, 1) := by decide +kernel
theorem d_B_part_97 : decode prog_1_method_3_code 97 = .ok (.getfield 39, 3) := by decide +kernel
theorem d_B_part_100 : decode prog_1_method_3_code 100 = .ok (.iload_n 1, 1) := by decide +kernel
theorem d_B_part_101 : decode prog_1_method_3_code 101 = .ok (.baload, 1) := by decide +kernel
theorem d_B_part_102 : decode prog_1_method_3_code 102 = .ok (.ifCond .eq 7, 3) := by decide +kernel
theorem d_B_part_105 : decode prog_1_method_3_code 105 = .ok (.lconst 1, 1) := by decide +kernel
theorem d_B_part_106 : decode prog_1_method_3_code 106 = .ok (.goto 4, 3) := by decide +kernel
theorem d_B_part_109 : decode prog_1_method_3_code 109 = .ok (.lconst 0, 1) := by decide +kernel
theorem d_B_part_110 : decode prog_1_method_3_code 110 = .ok (.lreturn, 1) := by decide +kernel
theorem d_B_part_111 : decode prog_1_method_3_code 111 = .ok (.aload_n 0, 1) := by decide +kernel
theorem d_B_part_112 : decode prog_1_method_3_code 112 = .ok (.invokevirtual 96, 3) := by decide +kernel
theorem d_B_part_115 : decode prog_1_method_3_code 115 = .ok (.invokestatic 100, 3) := by decide +kernel
theorem d_B_part_118 : decode prog_1_method_3_code 118 = .ok (.i2l, 1) := by decide +kernel
theorem d_B_part_119 : decode prog_1_method_3_code 119 = .ok (.lreturn, 1) := by decide +kernel
theorem d_B_part_120 : decode prog_1_method_3_code 120 = .ok (.ldc2_w 106, 3) := by decide +kernel
theorem d_B_part_123 : decode prog_1_method_3_code 123 = .ok (.lreturn, 1) := by decide +kernel
theorem d_B_isPart_0 : decode prog_1_method_11_code 0 = .ok (.iload_n 1, 1) := by decide +kernel
theorem d_B_isPart_1 : decode prog_1_method_11_code 1 = .ok (.ifCond .lt 21, 3) := by decide +kernel
theorem d_B_isPart_4 : decode prog_1_method_11_code 4 = .ok (.iload_n 1, 1) := by decide +kernel
theorem d_B_isPart_5 : decode prog_1_method_11_code 5 = .ok (.aload_n 0, 1) := by decide +kernel
theorem d_B_isPart_6 : decode prog_1_method_11_code 6 = .ok (.getfield 19, 3) := by decide +kernel
theorem d_B_isPart_9 : decode prog_1_method_11_code 9 = .ok (.if_icmp .ge 13, 3) := by decide +kernel
theorem d_B_isPart_12 : decode prog_1_method_11_code 12 = .ok (.iload_n 1, 1) := by decide +kernel
theorem d_B_isPart_13 : decode prog_1_method_11_code 13 = .ok (.bipush 62, 2) := by decide +kernel
theorem d_B_isPart_15 : decode prog_1_method_11_code 15 = .ok (.if_icmp .ge 7, 3) := by decide +kernel
theorem d_B_isPart_18 : decode prog_1_method_11_code 18 = .ok (.iconst 1, 1) := by decide +kernel
theorem d_B_isPart_19 : decode prog_1_method_11_code 19 = .ok (.goto 4, 3) := by decide +kernel
theorem d_B_isPart_22 : decode prog_1_method_11_code 22 = .ok (.iconst 0, 1) := by decide +kernel
theorem d_B_isPart_23 : decode prog_1_method_11_code 23 = .ok (.ireturn, 1) := by decide +kernel
theorem d_B_commonSet_0 : decode prog_1_method_15_code 0 = .ok (.sipush 255, 3) := by decide +kernel
theorem d_B_commonSet_3 : decode prog_1_method_15_code 3 = .ok (.istore_n 1, 1) := by decide +kernel
theorem d_B_commonSet_4 : decode prog_1_method_15_code 4 = .ok (.iconst 0, 1) := by decide +kernel
theorem d_B_commonSet_5 : decode prog_1_method_15_code 5 = .ok (.istore_n 2, 1) := by decide +kernel
theorem d_B_commonSet_6 : decode prog_1_method_15_code 6 = .ok (.iload_n 2, 1) := by decide +kernel
theorem d_B_commonSet_7 : decode prog_1_method_15_code 7 = .ok (.aload_n 0, 1) := by decide +kernel
theorem d_B_commonSet_8 : decode prog_1_method_15_code 8 = .ok (.getfield 19, 3) := by decide +kernel
theorem d_B_commonSet_11 : decode prog_1_method_15_code 11 = .ok (.if_icmp .ge 43, 3) := by decide +kernel
theorem d_B_commonSet_14 : decode prog_1_method_15_code 14 = .ok (.iload_n 2, 1) := by decide +kernel
theorem d_B_commonSet_15 : decode prog_1_method_15_code 15 = .ok (.bipush 62, 2) := by decide +kernel
theorem d_B_commonSet_17 : decode prog_1_method_15_code 17 = .ok (.if_icmp .ge 37, 3) := by decide +kernel
theorem d_B_commonSet_20 : decode prog_1_method_15_code 20 = .ok (.aload_n 0, 1) := by decide +kernel
theorem d_B_commonSet_21 : decode prog_1_method_15_code 21 = .ok (.getfield 39, 3) := by decide +kernel
theorem d_B_commonSet_24 : decode prog_1_method_15_code 24 = .ok (.iload_n 2, 1) := by decide +kernel
theorem d_B_commonSet_25 : decode prog_1_method_15_code 25 = .ok (.baload, 1) := by decide +kernel
theorem d_B_commonSet_26 : decode prog_1_method_15_code 26 = .ok (.ifCond .eq 22, 3) := by decide +kernel
theorem d_B_commonSet_29 : decode prog_1_method_15_code 29 = .ok (.aload_n 0, 1) := by decide +kernel
theorem d_B_commonSet_30 : decode prog_1_method_15_code 30 = .ok (.getfield 23, 3) := by decide +kernel
theorem d_B_commonSet_33 : decode prog_1_method_15_code 33 = .ok (.iload_n 2, 1) := by decide +kernel
theorem d_B_commonSet_34 : decode prog_1_method_15_code 34 = .ok (.iaload, 1) := by decide +kernel
theorem d_B_commonSet_35 : decode prog_1_method_15_code 35 = .ok (.iconst 2, 1) := by decide +kernel
theorem d_B_commonSet_36 : decode prog_1_method_15_code 36 = .ok (.if_icmp .ne 12, 3) := by decide +kernel
theorem d_B_commonSet_39 : decode prog_1_method_15_code 39 = .ok (.iload_n 1, 1) := by decide +kernel
theorem d_B_commonSet_40 : decode prog_1_method_15_code 40 = .ok (.aload_n 0, 1) := by decide +kernel
theorem d_B_commonSet_41 : decode prog_1_method_15_code 41 = .ok (.getfield 30, 3) := by decide +kernel
theorem d_B_commonSet_44 : decode prog_1_method_15_code 44 = .ok (.iload_n 2, 1) := by decide +kernel
theorem d_B_commonSet_45 : decode prog_1_method_15_code 45 = .ok (.iaload, 1) := by decide +kernel
theorem d_B_commonSet_46 : decode prog_1_method_15_code 46 = .ok (.iand, 1) := by decide +kernel
theorem d_B_commonSet_47 : decode prog_1_method_15_code 47 = .ok (.istore_n 1, 1) := by decide +kernel
theorem d_B_commonSet_48 : decode prog_1_method_15_code 48 = .ok (.iinc 2 1, 3) := by decide +kernel
theorem d_B_commonSet_51 : decode prog_1_method_15_code 51 = .ok (.goto (-45), 3) := by decide +kernel
theorem d_B_commonSet_54 : decode prog_1_method_15_code 54 = .ok (.iload_n 1, 1) := by decide +kernel
theorem d_B_commonSet_55 : decode prog_1_method_15_code 55 = .ok (.ireturn, 1) := by decide +kernel
theorem d_B_letter_0 : decode prog_1_method_4_code 0 = .ok (.aload_n 0, 1) := by decide +kernel
theorem d_B_letter_1 : decode prog_1_method_4_code 1 = .ok (.getfield 54, 3) := by decide +kernel
theorem d_B_letter_4 : decode prog_1_method_4_code 4 = .ok (.iconst (-1), 1) := by decide +kernel
theorem d_B_letter_5 : decode prog_1_method_4_code 5 = .ok (.if_icmp .ne 7, 3) := by decide +kernel
theorem d_B_letter_8 : decode prog_1_method_4_code 8 = .ok (.aload_n 0, 1) := by decide +kernel
theorem d_B_letter_9 : decode prog_1_method_4_code 9 = .ok (.invokevirtual 108, 3) := by decide +kernel
theorem d_B_letter_12 : decode prog_1_method_4_code 12 = .ok (.iload_n 1, 1) := by decide +kernel
theorem d_B_letter_13 : decode prog_1_method_4_code 13 = .ok (.ifCond .lt 18, 3) := by decide +kernel
theorem d_B_letter_16 : decode prog_1_method_4_code 16 = .ok (.iload_n 1, 1) := by decide +kernel
theorem d_B_letter_17 : decode prog_1_method_4_code 17 = .ok (.aload_n 0, 1) := by decide +kernel
theorem d_B_letter_18 : decode prog_1_method_4_code 18 = .ok (.getfield 54, 3) := by decide +kernel
theorem d_B_letter_21 : decode prog_1_method_4_code 21 = .ok (.if_icmp .ge 10, 3) := by decide +kernel
theorem d_B_letter_24 : decode prog_1_method_4_code 24 = .ok (.iload_n 1, 1) := by decide +kernel
theorem d_B_letter_25 : decode prog_1_method_4_code 25 = .ok (.sipush 992, 3) := by decide +kernel
theorem d_B_letter_28 : decode prog_1_method_4_code 28 = .ok (.if_icmp .lt 5, 3) := by decide +kernel
theorem d_B_letter_31 : decode prog_1_method_4_code 31 = .ok (.iconst (-1), 1) := by decide +kernel
theorem d_B_letter_32 : decode prog_1_method_4_code 32 = .ok (.ireturn, 1) := by decide +kernel
theorem d_B_letter_33 : decode prog_1_method_4_code 33 = .ok (.aload_n 0, 1) := by decide +kernel
theorem d_B_letter_34 : decode prog_1_method_4_code 34 = .ok (.getfield 50, 3) := by decide +kernel
theorem d_B_letter_37 : decode prog_1_method_4_code 37 = .ok (.iload_n 1, 1) := by decide +kernel
theorem d_B_letter_38 : decode prog_1_method_4_code 38 = .ok (.caload, 1) := by decide +kernel
theorem d_B_letter_39 : decode prog_1_method_4_code 39 = .ok (.ireturn, 1) := by decide +kernel
theorem d_B_writeText_0 : decode prog_1_method_20_code 0 = .ok (.aload_n 0, 1) := by decide +kernel
theorem d_B_writeText_1 : decode prog_1_method_20_code 1 = .ok (.iconst 0, 1) := by decide +kernel
theorem d_B_writeText_2 : decode prog_1_method_20_code 2 = .ok (.putfield 54, 3) := by decide +kernel
theorem d_B_writeText_5 : decode prog_1_method_20_code 5 = .ok (.iconst 0, 1) := by decide +kernel
theorem d_B_writeText_6 : decode prog_1_method_20_code 6 = .ok (.istore_n 1, 1) := by decide +kernel
theorem d_B_writeText_7 : decode prog_1_method_20_code 7 = .ok (.iload_n 1, 1) := by decide +kernel
theorem d_B_writeText_8 : decode prog_1_method_20_code 8 = .ok (.aload_n 0, 1) := by decide +kernel
theorem d_B_writeText_9 : decode prog_1_method_20_code 9 = .ok (.getfield 19, 3) := by decide +kernel
theorem d_B_writeText_12 : decode prog_1_method_20_code 12 = .ok (.if_icmp .ge 31, 3) := by decide +kernel
theorem d_B_writeText_15 : decode prog_1_method_20_code 15 = .ok (.aload_n 0, 1) := by decide +kernel
theorem d_B_writeText_16 : decode prog_1_method_20_code 16 = .ok (.iload_n 1, 1) := by decide +kernel
theorem d_B_writeText_17 : decode prog_1_method_20_code 17 = .ok (.invokevirtual 90, 3) := by decide +kernel
theorem d_B_writeText_20 : decode prog_1_method_20_code 20 = .ok (.ifCond .eq 17, 3) := by decide +kernel
theorem d_B_writeText_23 : decode prog_1_method_20_code 23 = .ok (.aload_n 0, 1) := by decide +kernel
theorem d_B_writeText_24 : decode prog_1_method_20_code 24 = .ok (.getfield 39, 3) := by decide +kernel
theorem d_B_writeText_27 : decode prog_1_method_20_code 27 = .ok (.iload_n 1, 1) := by decide +kernel
theorem d_B_writeText_28 : decode prog_1_method_20_code 28 = .ok (.baload, 1) := by decide +kernel
theorem d_B_writeText_29 : decode prog_1_method_20_code 29 = .ok (.ifCond .eq 8, 3) := by decide +kernel
theorem d_B_writeText_32 : decode prog_1_method_20_code 32 = .ok (.aload_n 0, 1) := by decide +kernel
theorem d_B_writeText_33 : decode prog_1_method_20_code 33 = .ok (.iload_n 1, 1) := by decide +kernel
theorem d_B_writeText_34 : decode prog_1_method_20_code 34 = .ok (.invokevirtual 134, 3) := by decide +kernel
theorem d_B_writeText_37 : decode prog_1_method_20_code 37 = .ok (.iinc 1 1, 3) := by decide +kernel
theorem d_B_writeText_40 : decode prog_1_method_20_code 40 = .ok (.goto (-33), 3) := by decide +kernel
theorem d_B_writeText_43 : decode prog_1_method_20_code 43 = .ok (.return_, 1) := by decide +kernel
theorem d_B_writePart_0 : decode prog_1_method_21_code 0 = .ok (.aload_n 0, 1) := by decide +kernel
theorem d_B_writePart_1 : decode prog_1_method_21_code 1 = .ok (.iload_n 1, 1) := by decide +kernel
theorem d_B_writePart_2 : decode prog_1_method_21_code 2 = .ok (.invokevirtual 90, 3) := by decide +kernel
theorem d_B_writePart_5 : decode prog_1_method_21_code 5 = .ok (.ifCond .ne 4, 3) := by decide +kernel
theorem d_B_writePart_8 : decode prog_1_method_21_code 8 = .ok (.return_, 1) := by decide +kernel
theorem d_B_writePart_9 : decode prog_1_method_21_code 9 = .ok (.aload_n 0, 1) := by decide +kernel
theorem d_B_writePart_10 : decode prog_1_method_21_code 10 = .ok (.aload_n 0, 1) := by decide +kernel
theorem d_B_writePart_11 : decode prog_1_method_21_code 11 = .ok (.getfield 23, 3) := by decide +kernel
theorem d_B_writePart_14 : decode prog_1_method_21_code 14 = .ok (.iload_n 1, 1) := by decide +kernel
theorem d_B_writePart_15 : decode prog_1_method_21_code 15 = .ok (.iaload, 1) := by decide +kernel
theorem d_B_writePart_16 : decode prog_1_method_21_code 16 = .ok (.invokestatic 138, 3) := by decide +kernel
theorem d_B_writePart_19 : decode prog_1_method_21_code 19 = .ok (.invokevirtual 142, 3) := by decide +kernel
theorem d_B_writePart_22 : decode prog_1_method_21_code 22 = .ok (.aload_n 0, 1) := by decide +kernel
theorem d_B_writePart_23 : decode prog_1_method_21_code 23 = .ok (.iload_n 1, 1) := by decide +kernel
theorem d_B_writePart_24 : decode prog_1_method_21_code 24 = .ok (.invokevirtual 146, 3) := by decide +kernel
theorem d_B_writePart_27 : decode prog_1_method_21_code 27 = .ok (.aload_n 0, 1) := by decide +kernel
theorem d_B_writePart_28 : decode prog_1_method_21_code 28 = .ok (.bipush 40, 2) := by decide +kernel
theorem d_B_writePart_30 : decode prog_1_method_21_code 30 = .ok (.invokevirtual 142, 3) := by decide +kernel
theorem d_B_writePart_33 : decode prog_1_method_21_code 33 = .ok (.aload_n 0, 1) := by decide +kernel
theorem d_B_writePart_34 : decode prog_1_method_21_code 34 = .ok (.aload_n 0, 1) := by decide +kernel
theorem d_B_writePart_35 : decode prog_1_method_21_code 35 = .ok (.getfield 27, 3) := by decide +kernel
theorem d_B_writePart_38 : decode prog_1_method_21_code 38 = .ok (.iload_n 1, 1) := by decide +kernel
theorem d_B_writePart_39 : decode prog_1_method_21_code 39 = .ok (.iaload, 1) := by decide +kernel
theorem d_B_writePart_40 : decode prog_1_method_21_code 40 = .ok (.invokevirtual 146, 3) := by decide +kernel
theorem d_B_writePart_43 : decode prog_1_method_21_code 43 = .ok (.aload_n 0, 1) := by decide +kernel
theorem d_B_writePart_44 : decode prog_1_method_21_code 44 = .ok (.bipush 44, 2) := by decide +kernel
theorem d_B_writePart_46 : decode prog_1_method_21_code 46 = .ok (.invokevirtual 142, 3) := by decide +kernel
theorem d_B_writePart_49 : decode prog_1_method_21_code 49 = .ok (.aload_n 0, 1) := by decide +kernel
theorem d_B_writePart_50 : decode prog_1_method_21_code 50 = .ok (.aload_n 0, 1) := by decide +kernel
theorem d_B_writePart_51 : decode prog_1_method_21_code 51 = .ok (.getfield 30, 3) := by decide +kernel
theorem d_B_writePart_54 : decode prog_1_method_21_code 54 = .ok (.iload_n 1, 1) := by decide +kernel
theorem d_B_writePart_55 : decode prog_1_method_21_code 55 = .ok (.iaload, 1) := by decide +kernel
theorem d_B_writePart_56 : decode prog_1_method_21_code 56 = .ok (.invokevirtual 146, 3) := by decide +kernel
theorem d_B_writePart_59 : decode prog_1_method_21_code 59 = .ok (.aload_n 0, 1) := by decide +kernel
theorem d_B_writePart_60 : decode prog_1_method_21_code 60 = .ok (.bipush 41, 2) := by decide +kernel
theorem d_B_writePart_62 : decode prog_1_method_21_code 62 = .ok (.invokevirtual 142, 3) := by decide +kernel
theorem d_B_writePart_65 : decode prog_1_method_21_code 65 = .ok (.aload_n 0, 1) := by decide +kernel
theorem d_B_writePart_66 : decode prog_1_method_21_code 66 = .ok (.getfield 33, 3) := by decide +kernel
theorem d_B_writePart_69 : decode prog_1_method_21_code 69 = .ok (.iload_n 1, 1) := by decide +kernel
theorem d_B_writePart_70 : decode prog_1_method_21_code 70 = .ok (.iaload, 1) := by decide +kernel
theorem d_B_writePart_71 : decode prog_1_method_21_code 71 = .ok (.iconst (-1), 1) := by decide +kernel
theorem d_B_writePart_72 : decode prog_1_method_21_code 72 = .ok (.if_icmp .eq 19, 3) := by decide +kernel
theorem d_B_writePart_75 : decode prog_1_method_21_code 75 = .ok (.aload_n 0, 1) := by decide +kernel
theorem d_B_writePart_76 : decode prog_1_method_21_code 76 = .ok (.bipush 60, 2) := by decide +kernel
theorem d_B_writePart_78 : decode prog_1_method_21_code 78 = .ok (.invokevirtual 142, 3) := by decide +kernel
theorem d_B_writePart_81 : decode prog_1_method_21_code 81 = .ok (.aload_n 0, 1) := by decide +kernel
theorem d_B_writePart_82 : decode prog_1_method_21_code 82 = .ok (.aload_n 0, 1) := by decide +kernel
theorem d_B_writePart_83 : decode prog_1_method_21_code 83 = .ok (.getfield 33, 3) := by decide +kernel
theorem d_B_writePart_86 : decode prog_1_method_21_code 86 = .ok (.iload_n 1, 1) := by decide +kernel
theorem d_B_writePart_87 : decode prog_1_method_21_code 87 = .ok (.iaload, 1) := by decide +kernel
theorem d_B_writePart_88 : decode prog_1_method_21_code 88 = .ok (.invokevirtual 146, 3) := by decide +kernel
theorem d_B_writePart_91 : decode prog_1_method_21_code 91 = .ok (.aload_n 0, 1) := by decide +kernel
theorem d_B_writePart_92 : decode prog_1_method_21_code 92 = .ok (.bipush 59, 2) := by decide +kernel
theorem d_B_writePart_94 : decode prog_1_method_21_code 94 = .ok (.invokevirtual 142, 3) := by decide +kernel
theorem d_B_writePart_97 : decode prog_1_method_21_code 97 = .ok (.return_, 1) := by decide +kernel
theorem d_B_letterOf_0 : decode prog_1_method_22_code 0 = .ok (.iload_n 0, 1) := by decide +kernel
theorem d_B_letterOf_1 : decode prog_1_method_22_code 1 = .ok (.ifCond .lt 21, 3) := by decide +kernel
theorem d_B_letterOf_4 : decode prog_1_method_22_code 4 = .ok (.iload_n 0, 1) := by decide +kernel
theorem d_B_letterOf_5 : decode prog_1_method_22_code 5 = .ok (.ldc 149, 2) := by decide +kernel
theorem d_B_letterOf_7 : decode prog_1_method_22_code 7 = .ok (.invokevirtual 151, 3) := by decide +kernel
theorem d_B_letterOf_10 : decode prog_1_method_22_code 10 = .ok (.if_icmp .ge 12, 3) := by decide +kernel
theorem d_B_letterOf_13 : decode prog_1_method_22_code 13 = .ok (.ldc 149, 2) := by decide +kernel
theorem d_B_letterOf_15 : decode prog_1_method_22_code 15 = .ok (.iload_n 0, 1) := by decide +kernel
theorem d_B_letterOf_16 : decode prog_1_method_22_code 16 = .ok (.invokevirtual 156, 3) := by decide +kernel
theorem d_B_letterOf_19 : decode prog_1_method_22_code 19 = .ok (.goto 5, 3) := by decide +kernel
theorem d_B_letterOf_22 : decode prog_1_method_22_code 22 = .ok (.bipush 63, 2) := by decide +kernel
theorem d_B_letterOf_24 : decode prog_1_method_22_code 24 = .ok (.ireturn, 1) := by decide +kernel
theorem d_B_writeSign_0 : decode prog_1_method_25_code 0 = .ok (.aload_n 0, 1) := by decide +kernel
theorem d_B_writeSign_1 : decode prog_1_method_25_code 1 = .ok (.getfield 54, 3) := by decide +kernel
theorem d_B_writeSign_4 : decode prog_1_method_25_code 4 = .ok (.ifCond .lt 33, 3) := by decide +kernel
theorem d_B_writeSign_7 : decode prog_1_method_25_code 7 = .ok (.aload_n 0, 1) := by decide +kernel
theorem d_B_writeSign_8 : decode prog_1_method_25_code 8 = .ok (.getfield 54, 3) := by decide +kernel
theorem d_B_writeSign_11 : decode prog_1_method_25_code 11 = .ok (.sipush 992, 3) := by decide +kernel
theorem d_B_writeSign_14 : decode prog_1_method_25_code 14 = .ok (.if_icmp .ge 23, 3) := by decide +kernel
theorem d_B_writeSign_17 : decode prog_1_method_25_code 17 = .ok (.aload_n 0, 1) := by decide +kernel
theorem d_B_writeSign_18 : decode prog_1_method_25_code 18 = .ok (.getfield 50, 3) := by decide +kernel
theorem d_B_writeSign_21 : decode prog_1_method_25_code 21 = .ok (.aload_n 0, 1) := by decide +kernel
theorem d_B_writeSign_22 : decode prog_1_method_25_code 22 = .ok (.getfield 54, 3) := by decide +kernel
theorem d_B_writeSign_25 : decode prog_1_method_25_code 25 = .ok (.iload_n 1, 1) := by decide +kernel
theorem d_B_writeSign_26 : decode prog_1_method_25_code 26 = .ok (.castore, 1) := by decide +kernel
theorem d_B_writeSign_27 : decode prog_1_method_25_code 27 = .ok (.aload_n 0, 1) := by decide +kernel
theorem d_B_writeSign_28 : decode prog_1_method_25_code 28 = .ok (.dup, 1) := by decide +kernel
theorem d_B_writeSign_29 : decode prog_1_method_25_code 29 = .ok (.getfield 54, 3) := by decide +kernel
theorem d_B_writeSign_32 : decode prog_1_method_25_code 32 = .ok (.iconst 1, 1) := by decide +kernel
theorem d_B_writeSign_33 : decode prog_1_method_25_code 33 = .ok (.iadd, 1) := by decide +kernel
theorem d_B_writeSign_34 : decode prog_1_method_25_code 34 = .ok (.putfield 54, 3) := by decide +kernel
theorem d_B_writeSign_37 : decode prog_1_method_25_code 37 = .ok (.return_, 1) := by decide +kernel
theorem d_B_writeNumber_0 : decode prog_1_method_23_code 0 = .ok (.iload_n 1, 1) := by decide +kernel
theorem d_B_writeNumber_1 : decode prog_1_method_23_code 1 = .ok (.bipush 100, 2) := by decide +kernel
theorem d_B_writeNumber_3 : decode prog_1_method_23_code 3 = .ok (.if_icmp .lt 11, 3) := by decide +kernel
theorem d_B_writeNumber_6 : decode prog_1_method_23_code 6 = .ok (.aload_n 0, 1) := by decide +kernel
theorem d_B_writeNumber_7 : decode prog_1_method_23_code 7 = .ok (.iload_n 1, 1) := by decide +kernel
theorem d_B_writeNumber_8 : decode prog_1_method_23_code 8 = .ok (.bipush 100, 2) := by decide +kernel
theorem d_B_writeNumber_10 : decode prog_1_method_23_code 10 = .ok (.idiv, 1) := by decide +kernel
theorem d_B_writeNumber_11 : decode prog_1_method_23_code 11 = .ok (.invokevirtual 159, 3) := by decide +kernel
theorem d_B_writeNumber_14 : decode prog_1_method_23_code 14 = .ok (.iload_n 1, 1) := by decide +kernel
theorem d_B_writeNumber_15 : decode prog_1_method_23_code 15 = .ok (.bipush 10, 2) := by decide +kernel
theorem d_B_writeNumber_17 : decode prog_1_method_23_code 17 = .ok (.if_icmp .lt 14, 3) := by decide +kernel
theorem d_B_writeNumber_20 : decode prog_1_method_23_code 20 = .ok (.aload_n 0, 1) := by decide +kernel
theorem d_B_writeNumber_21 : decode prog_1_method_23_code 21 = .ok (.iload_n 1, 1) := by decide +kernel
theorem d_B_writeNumber_22 : decode prog_1_method_23_code 22 = .ok (.bipush 10, 2) := by decide +kernel
theorem d_B_writeNumber_24 : decode prog_1_method_23_code 24 = .ok (.idiv, 1) := by decide +kernel
theorem d_B_writeNumber_25 : decode prog_1_method_23_code 25 = .ok (.bipush 10, 2) := by decide +kernel
theorem d_B_writeNumber_27 : decode prog_1_method_23_code 27 = .ok (.irem, 1) := by decide +kernel
theorem d_B_writeNumber_28 : decode prog_1_method_23_code 28 = .ok (.invokevirtual 159, 3) := by decide +kernel
theorem d_B_writeNumber_31 : decode prog_1_method_23_code 31 = .ok (.aload_n 0, 1) := by decide +kernel
theorem d_B_writeNumber_32 : decode prog_1_method_23_code 32 = .ok (.iload_n 1, 1) := by decide +kernel
theorem d_B_writeNumber_33 : decode prog_1_method_23_code 33 = .ok (.bipush 10, 2) := by decide +kernel
theorem d_B_writeNumber_35 : decode prog_1_method_23_code 35 = .ok (.irem, 1) := by decide +kernel
theorem d_B_writeNumber_36 : decode prog_1_method_23_code 36 = .ok (.invokevirtual 159, 3) := by decide +kernel
theorem d_B_writeNumber_39 : decode prog_1_method_23_code 39 = .ok (.return_, 1) := by decide +kernel
theorem d_B_writeDigit_0 : decode prog_1_method_24_code 0 = .ok (.aload_n 0, 1) := by decide +kernel
theorem d_B_writeDigit_1 : decode prog_1_method_24_code 1 = .ok (.bipush 48, 2) := by decide +kernel
theorem d_B_writeDigit_3 : decode prog_1_method_24_code 3 = .ok (.iload_n 1, 1) := by decide +kernel
theorem d_B_writeDigit_4 : decode prog_1_method_24_code 4 = .ok (.iadd, 1) := by decide +kernel
theorem d_B_writeDigit_5 : decode prog_1_method_24_code 5 = .ok (.i2c, 1) := by decide +kernel
theorem d_B_writeDigit_6 : decode prog_1_method_24_code 6 = .ok (.invokevirtual 142, 3) := by decide +kernel
theorem d_B_writeDigit_9 : decode prog_1_method_24_code 9 = .ok (.return_, 1) := by decide +kernel
theorem d_B_verdict_0 : decode prog_1_method_5_code 0 = .ok (.aload_n 0, 1) := by decide +kernel
theorem d_B_verdict_1 : decode prog_1_method_5_code 1 = .ok (.iload_n 1, 1) := by decide +kernel
theorem d_B_verdict_2 : decode prog_1_method_5_code 2 = .ok (.sipush 255, 3) := by decide +kernel
theorem d_B_verdict_5 : decode prog_1_method_5_code 5 = .ok (.iand, 1) := by decide +kernel
theorem d_B_verdict_6 : decode prog_1_method_5_code 6 = .ok (.putfield 43, 3) := by decide +kernel
theorem d_B_verdict_9 : decode prog_1_method_5_code 9 = .ok (.aload_n 0, 1) := by decide +kernel
theorem d_B_verdict_10 : decode prog_1_method_5_code 10 = .ok (.iload_n 2, 1) := by decide +kernel
theorem d_B_verdict_11 : decode prog_1_method_5_code 11 = .ok (.putfield 46, 3) := by decide +kernel
theorem d_B_verdict_14 : decode prog_1_method_5_code 14 = .ok (.return_, 1) := by decide +kernel
theorem d_B_shorter_0 : decode prog_1_method_6_code 0 = .ok (.aload_n 0, 1) := by decide +kernel
theorem d_B_shorter_1 : decode prog_1_method_6_code 1 = .ok (.aload_n 0, 1) := by decide +kernel
theorem d_B_shorter_2 : decode prog_1_method_6_code 2 = .ok (.invokevirtual 111, 3) := by decide +kernel
theorem d_B_shorter_5 : decode prog_1_method_6_code 5 = .ok (.invokevirtual 114, 3) := by decide +kernel
theorem d_B_shorter_8 : decode prog_1_method_6_code 8 = .ok (.ifCond .eq 10, 3) := by decide +kernel
theorem d_B_shorter_11 : decode prog_1_method_6_code 11 = .ok (.aload_n 0, 1) := by decide +kernel
theorem d_B_shorter_12 : decode prog_1_method_6_code 12 = .ok (.invokevirtual 117, 3) := by decide +kernel
theorem d_B_shorter_15 : decode prog_1_method_6_code 15 = .ok (.goto 7, 3) := by decide +kernel
theorem d_B_shorter_18 : decode prog_1_method_6_code 18 = .ok (.aload_n 0, 1) := by decide +kernel
theorem d_B_shorter_19 : decode prog_1_method_6_code 19 = .ok (.invokevirtual 87, 3) := by decide +kernel
theorem d_B_shorter_22 : decode prog_1_method_6_code 22 = .ok (.aload_n 0, 1) := by decide +kernel
theorem d_B_shorter_23 : decode prog_1_method_6_code 23 = .ok (.invokevirtual 120, 3) := by decide +kernel
theorem d_B_shorter_26 : decode prog_1_method_6_code 26 = .ok (.ireturn, 1) := by decide +kernel
theorem d_B_marksLeft_0 : decode prog_1_method_14_code 0 = .ok (.iconst 0, 1) := by decide +kernel
theorem d_B_marksLeft_1 : decode prog_1_method_14_code 1 = .ok (.istore_n 1, 1) := by decide +kernel
theorem d_B_marksLeft_2 : decode prog_1_method_14_code 2 = .ok (.iconst 0, 1) := by decide +kernel
theorem d_B_marksLeft_3 : decode prog_1_method_14_code 3 = .ok (.istore_n 2, 1) := by decide +kernel
theorem d_B_marksLeft_4 : decode prog_1_method_14_code 4 = .ok (.iload_n 2, 1) := by decide +kernel
theorem d_B_marksLeft_5 : decode prog_1_method_14_code 5 = .ok (.aload_n 0, 1) := by decide +kernel
theorem d_B_marksLeft_6 : decode prog_1_method_14_code 6 = .ok (.getfield 19, 3) := by decide +kernel
theorem d_B_marksLeft_9 : decode prog_1_method_14_code 9 = .ok (.if_icmp .ge 33, 3) := by decide +kernel
theorem d_B_marksLeft_12 : decode prog_1_method_14_code 12 = .ok (.iload_n 2, 1) := by decide +kernel
theorem d_B_marksLeft_13 : decode prog_1_method_14_code 13 = .ok (.bipush 62, 2) := by decide +kernel
theorem d_B_marksLeft_15 : decode prog_1_method_14_code 15 = .ok (.if_icmp .ge 27, 3) := by decide +kernel
theorem d_B_marksLeft_18 : decode prog_1_method_14_code 18 = .ok (.aload_n 0, 1) := by decide +kernel
theorem d_B_marksLeft_19 : decode prog_1_method_14_code 19 = .ok (.getfield 39, 3) := by decide +kernel
theorem d_B_marksLeft_22 : decode prog_1_method_14_code 22 = .ok (.iload_n 2, 1) := by decide +kernel
theorem d_B_marksLeft_23 : decode prog_1_method_14_code 23 = .ok (.baload, 1) := by decide +kernel
theorem d_B_marksLeft_24 : decode prog_1_method_14_code 24 = .ok (.ifCond .eq 12, 3) := by decide +kernel
theorem d_B_marksLeft_27 : decode prog_1_method_14_code 27 = .ok (.iload_n 1, 1) := by decide +kernel
theorem d_B_marksLeft_28 : decode prog_1_method_14_code 28 = .ok (.aload_n 0, 1) := by decide +kernel
theorem d_B_marksLeft_29 : decode prog_1_method_14_code 29 = .ok (.getfield 36, 3) := by decide +kernel
theorem d_B_marksLeft_32 : decode prog_1_method_14_code 32 = .ok (.iload_n 2, 1) := by decide +kernel
theorem d_B_marksLeft_33 : decode prog_1_method_14_code 33 = .ok (.iaload, 1) := by decide +kernel
theorem d_B_marksLeft_34 : decode prog_1_method_14_code 34 = .ok (.ior, 1) := by decide +kernel
theorem d_B_marksLeft_35 : decode prog_1_method_14_code 35 = .ok (.istore_n 1, 1) := by decide +kernel
theorem d_B_marksLeft_36 : decode prog_1_method_14_code 36 = .ok (.iinc 2 1, 3) := by decide +kernel
theorem d_B_marksLeft_39 : decode prog_1_method_14_code 39 = .ok (.goto (-35), 3) := by decide +kernel
theorem d_B_marksLeft_42 : decode prog_1_method_14_code 42 = .ok (.iload_n 1, 1) := by decide +kernel
theorem d_B_marksLeft_43 : decode prog_1_method_14_code 43 = .ok (.ireturn, 1) := by decide +kernel
theorem d_B_holdsOf_0 : decode prog_1_method_16_code 0 = .ok (.aload_n 0, 1) := by decide +kernel
theorem d_B_holdsOf_1 : decode prog_1_method_16_code 1 = .ok (.getfield 43, 3) := by decide +kernel
theorem d_B_holdsOf_4 : decode prog_1_method_16_code 4 = .ok (.iload_n 1, 1) := by decide +kernel
theorem d_B_holdsOf_5 : decode prog_1_method_16_code 5 = .ok (.iconst (-1), 1) := by decide +kernel
theorem d_B_holdsOf_6 : decode prog_1_method_16_code 6 = .ok (.ixor, 1) := by decide +kernel
theorem d_B_holdsOf_7 : decode prog_1_method_16_code 7 = .ok (.iand, 1) := by decide +kernel
theorem d_B_holdsOf_8 : decode prog_1_method_16_code 8 = .ok (.ifCond .ne 7, 3) := by decide +kernel
theorem d_B_holdsOf_11 : decode prog_1_method_16_code 11 = .ok (.iconst 1, 1) := by decide +kernel
theorem d_B_holdsOf_12 : decode prog_1_method_16_code 12 = .ok (.goto 4, 3) := by decide +kernel
theorem d_B_holdsOf_15 : decode prog_1_method_16_code 15 = .ok (.iconst 0, 1) := by decide +kernel
theorem d_B_holdsOf_16 : decode prog_1_method_16_code 16 = .ok (.istore_n 2, 1) := by decide +kernel
theorem d_B_holdsOf_17 : decode prog_1_method_16_code 17 = .ok (.iload_n 2, 1) := by decide +kernel
theorem d_B_holdsOf_18 : decode prog_1_method_16_code 18 = .ok (.aload_n 0, 1) := by decide +kernel
theorem d_B_holdsOf_19 : decode prog_1_method_16_code 19 = .ok (.getfield 46, 3) := by decide +kernel
theorem d_B_holdsOf_22 : decode prog_1_method_16_code 22 = .ok (.if_icmp .ne 7, 3) := by decide +kernel
theorem d_B_holdsOf_25 : decode prog_1_method_16_code 25 = .ok (.iconst 1, 1) := by decide +kernel
theorem d_B_holdsOf_26 : decode prog_1_method_16_code 26 = .ok (.goto 4, 3) := by decide +kernel
theorem d_B_holdsOf_29 : decode prog_1_method_16_code 29 = .ok (.iconst 0, 1) := by decide +kernel
theorem d_B_holdsOf_30 : decode prog_1_method_16_code 30 = .ok (.ireturn, 1) := by decide +kernel
theorem d_B_leaveOutAllThatCanGo_0 : decode prog_1_method_18_code 0 = .ok (.iconst 1, 1) := by decide +kernel
theorem d_B_leaveOutAllThatCanGo_1 : decode prog_1_method_18_code 1 = .ok (.istore_n 1, 1) := by decide +kernel
theorem d_B_leaveOutAllThatCanGo_2 : decode prog_1_method_18_code 2 = .ok (.iconst 0, 1) := by decide +kernel
theorem d_B_leaveOutAllThatCanGo_3 : decode prog_1_method_18_code 3 = .ok (.istore_n 2, 1) := by decide +kernel
theorem d_B_leaveOutAllThatCanGo_4 : decode prog_1_method_18_code 4 = .ok (.iload_n 1, 1) := by decide +kernel
theorem d_B_leaveOutAllThatCanGo_5 : decode prog_1_method_18_code 5 = .ok (.ifCond .eq 20, 3) := by decide +kernel
theorem d_B_leaveOutAllThatCanGo_8 : decode prog_1_method_18_code 8 = .ok (.iload_n 2, 1) := by decide +kernel
theorem d_B_leaveOutAllThatCanGo_9 : decode prog_1_method_18_code 9 = .ok (.bipush 62, 2) := by decide +kernel
theorem d_B_leaveOutAllThatCanGo_11 : decode prog_1_method_18_code 11 = .ok (.if_icmp .gt 14, 3) := by decide +kernel
theorem d_B_leaveOutAllThatCanGo_14 : decode prog_1_method_18_code 14 = .ok (.aload_n 0, 1) := by decide +kernel
theorem d_B_leaveOutAllThatCanGo_15 : decode prog_1_method_18_code 15 = .ok (.invokevirtual 130, 3) := by decide +kernel
theorem d_B_leaveOutAllThatCanGo_18 : decode prog_1_method_18_code 18 = .ok (.istore_n 1, 1) := by decide +kernel
theorem d_B_leaveOutAllThatCanGo_19 : decode prog_1_method_18_code 19 = .ok (.iinc 2 1, 3) := by decide +kernel
theorem d_B_leaveOutAllThatCanGo_22 : decode prog_1_method_18_code 22 = .ok (.goto (-18), 3) := by decide +kernel
theorem d_B_leaveOutAllThatCanGo_25 : decode prog_1_method_18_code 25 = .ok (.aload_n 0, 1) := by decide +kernel
theorem d_B_leaveOutAllThatCanGo_26 : decode prog_1_method_18_code 26 = .ok (.iconst (-1), 1) := by decide +kernel
theorem d_B_leaveOutAllThatCanGo_27 : decode prog_1_method_18_code 27 = .ok (.putfield 54, 3) := by decide +kernel
theorem d_B_leaveOutAllThatCanGo_30 : decode prog_1_method_18_code 30 = .ok (.return_, 1) := by decide +kernel
theorem d_B_leaveOutFromLastToFirst_0 : decode prog_1_method_19_code 0 = .ok (.iconst 0, 1) := by decide +kernel
theorem d_B_leaveOutFromLastToFirst_1 : decode prog_1_method_19_code 1 = .ok (.istore_n 1, 1) := by decide +kernel
theorem d_B_leaveOutFromLastToFirst_2 : decode prog_1_method_19_code 2 = .ok (.aload_n 0, 1) := by decide +kernel
theorem d_B_leaveOutFromLastToFirst_3 : decode prog_1_method_19_code 3 = .ok (.getfield 19, 3) := by decide +kernel
theorem d_B_leaveOutFromLastToFirst_6 : decode prog_1_method_19_code 6 = .ok (.iconst 1, 1) := by decide +kernel
theorem d_B_leaveOutFromLastToFirst_7 : decode prog_1_method_19_code 7 = .ok (.isub, 1) := by decide +kernel
theorem d_B_leaveOutFromLastToFirst_8 : decode prog_1_method_19_code 8 = .ok (.istore_n 2, 1) := by decide +kernel
theorem d_B_leaveOutFromLastToFirst_9 : decode prog_1_method_19_code 9 = .ok (.iload_n 2, 1) := by decide +kernel
theorem d_B_leaveOutFromLastToFirst_10 : decode prog_1_method_19_code 10 = .ok (.ifCond .lt 32, 3) := by decide +kernel
theorem d_B_leaveOutFromLastToFirst_13 : decode prog_1_method_19_code 13 = .ok (.iload_n 2, 1) := by decide +kernel
theorem d_B_leaveOutFromLastToFirst_14 : decode prog_1_method_19_code 14 = .ok (.bipush 62, 2) := by decide +kernel
theorem d_B_leaveOutFromLastToFirst_16 : decode prog_1_method_19_code 16 = .ok (.if_icmp .ge 20, 3) := by decide +kernel
theorem d_B_leaveOutFromLastToFirst_19 : decode prog_1_method_19_code 19 = .ok (.aload_n 0, 1) := by decide +kernel
theorem d_B_leaveOutFromLastToFirst_20 : decode prog_1_method_19_code 20 = .ok (.iload_n 2, 1) := by decide +kernel
theorem d_B_leaveOutFromLastToFirst_21 : decode prog_1_method_19_code 21 = .ok (.invokevirtual 123, 3) := by decide +kernel
theorem d_B_leaveOutFromLastToFirst_24 : decode prog_1_method_19_code 24 = .ok (.ifCond .eq 12, 3) := by decide +kernel
theorem d_B_leaveOutFromLastToFirst_27 : decode prog_1_method_19_code 27 = .ok (.aload_n 0, 1) := by decide +kernel
theorem d_B_leaveOutFromLastToFirst_28 : decode prog_1_method_19_code 28 = .ok (.getfield 39, 3) := by decide +kernel
theorem d_B_leaveOutFromLastToFirst_31 : decode prog_1_method_19_code 31 = .ok (.iload_n 2, 1) := by decide +kernel
theorem d_B_leaveOutFromLastToFirst_32 : decode prog_1_method_19_code 32 = .ok (.iconst 0, 1) := by decide +kernel
theorem d_B_leaveOutFromLastToFirst_33 : decode prog_1_method_19_code 33 = .ok (.bastore, 1) := by decide +kernel
theorem d_B_leaveOutFromLastToFirst_34 : decode prog_1_method_19_code 34 = .ok (.iconst 1, 1) := by decide +kernel
theorem d_B_leaveOutFromLastToFirst_35 : decode prog_1_method_19_code 35 = .ok (.istore_n 1, 1) := by decide +kernel
theorem d_B_leaveOutFromLastToFirst_36 : decode prog_1_method_19_code 36 = .ok (.iinc 2 (-1), 3) := by decide +kernel
theorem d_B_leaveOutFromLastToFirst_39 : decode prog_1_method_19_code 39 = .ok (.goto (-30), 3) := by decide +kernel
theorem d_B_leaveOutFromLastToFirst_42 : decode prog_1_method_19_code 42 = .ok (.iload_n 1, 1) := by decide +kernel
theorem d_B_leaveOutFromLastToFirst_43 : decode prog_1_method_19_code 43 = .ok (.ireturn, 1) := by decide +kernel
theorem d_B_canGo_0 : decode prog_1_method_17_code 0 = .ok (.aload_n 0, 1) := by decide +kernel
theorem d_B_canGo_1 : decode prog_1_method_17_code 1 = .ok (.iload_n 1, 1) := by decide +kernel
theorem d_B_canGo_2 : decode prog_1_method_17_code 2 = .ok (.invokevirtual 90, 3) := by decide +kernel
theorem d_B_canGo_5 : decode prog_1_method_17_code 5 = .ok (.ifCond .eq 12, 3) := by decide +kernel
theorem d_B_canGo_8 : decode prog_1_method_17_code 8 = .ok (.aload_n 0, 1) := by decide +kernel
theorem d_B_canGo_9 : decode prog_1_method_17_code 9 = .ok (.getfield 39, 3) := by decide +kernel
theorem d_B_canGo_12 : decode prog_1_method_17_code 12 = .ok (.iload_n 1, 1) := by decide +kernel
theorem d_B_canGo_13 : decode prog_1_method_17_code 13 = .ok (.baload, 1) := by decide +kernel
theorem d_B_canGo_14 : decode prog_1_method_17_code 14 = .ok (.ifCond .ne 5, 3) := by decide +kernel
theorem d_B_canGo_17 : decode prog_1_method_17_code 17 = .ok (.iconst 0, 1) := by decide +kernel
theorem d_B_canGo_18 : decode prog_1_method_17_code 18 = .ok (.ireturn, 1) := by decide +kernel
theorem d_B_canGo_19 : decode prog_1_method_17_code 19 = .ok (.iconst 0, 1) := by decide +kernel
theorem d_B_canGo_20 : decode prog_1_method_17_code 20 = .ok (.istore_n 2, 1) := by decide +kernel
theorem d_B_canGo_21 : decode prog_1_method_17_code 21 = .ok (.iconst 0, 1) := by decide +kernel
theorem d_B_canGo_22 : decode prog_1_method_17_code 22 = .ok (.istore_n 3, 1) := by decide +kernel
theorem d_B_canGo_23 : decode prog_1_method_17_code 23 = .ok (.iload_n 3, 1) := by decide +kernel
theorem d_B_canGo_24 : decode prog_1_method_17_code 24 = .ok (.aload_n 0, 1) := by decide +kernel
theorem d_B_canGo_25 : decode prog_1_method_17_code 25 = .ok (.getfield 19, 3) := by decide +kernel
theorem d_B_canGo_28 : decode prog_1_method_17_code 28 = .ok (.if_icmp .ge 50, 3) := by decide +kernel
theorem d_B_canGo_31 : decode prog_1_method_17_code 31 = .ok (.iload_n 3, 1) := by decide +kernel
theorem d_B_canGo_32 : decode prog_1_method_17_code 32 = .ok (.bipush 62, 2) := by decide +kernel
theorem d_B_canGo_34 : decode prog_1_method_17_code 34 = .ok (.if_icmp .ge 44, 3) := by decide +kernel
theorem d_B_canGo_37 : decode prog_1_method_17_code 37 = .ok (.iload_n 3, 1) := by decide +kernel
theorem d_B_canGo_38 : decode prog_1_method_17_code 38 = .ok (.iload_n 1, 1) := by decide +kernel
theorem d_B_canGo_39 : decode prog_1_method_17_code 39 = .ok (.if_icmp .eq 33, 3) := by decide +kernel
theorem d_B_canGo_42 : decode prog_1_method_17_code 42 = .ok (.aload_n 0, 1) := by decide +kernel
theorem d_B_canGo_43 : decode prog_1_method_17_code 43 = .ok (.getfield 39, 3) := by decide +kernel
theorem d_B_canGo_46 : decode prog_1_method_17_code 46 = .ok (.iload_n 3, 1) := by decide +kernel
theorem d_B_canGo_47 : decode prog_1_method_17_code 47 = .ok (.baload, 1) := by decide +kernel
theorem d_B_canGo_48 : decode prog_1_method_17_code 48 = .ok (.ifCond .eq 24, 3) := by decide +kernel
theorem d_B_canGo_51 : decode prog_1_method_17_code 51 = .ok (.aload_n 0, 1) := by decide +kernel
theorem d_B_canGo_52 : decode prog_1_method_17_code 52 = .ok (.getfield 33, 3) := by decide +kernel
theorem d_B_canGo_55 : decode prog_1_method_17_code 55 = .ok (.iload_n 3, 1) := by decide +kernel
theorem d_B_canGo_56 : decode prog_1_method_17_code 56 = .ok (.iaload, 1) := by decide +kernel
theorem d_B_canGo_57 : decode prog_1_method_17_code 57 = .ok (.iload_n 1, 1) := by decide +kernel
theorem d_B_canGo_58 : decode prog_1_method_17_code 58 = .ok (.if_icmp .ne 5, 3) := by decide +kernel
theorem d_B_canGo_61 : decode prog_1_method_17_code 61 = .ok (.iconst 0, 1) := by decide +kernel
theorem d_B_canGo_62 : decode prog_1_method_17_code 62 = .ok (.ireturn, 1) := by decide +kernel
theorem d_B_canGo_63 : decode prog_1_method_17_code 63 = .ok (.iload_n 2, 1) := by decide +kernel
theorem d_B_canGo_64 : decode prog_1_method_17_code 64 = .ok (.aload_n 0, 1) := by decide +kernel
theorem d_B_canGo_65 : decode prog_1_method_17_code 65 = .ok (.getfield 36, 3) := by decide +kernel
theorem d_B_canGo_68 : decode prog_1_method_17_code 68 = .ok (.iload_n 3, 1) := by decide +kernel
theorem d_B_canGo_69 : decode prog_1_method_17_code 69 = .ok (.iaload, 1) := by decide +kernel
theorem d_B_canGo_70 : decode prog_1_method_17_code 70 = .ok (.ior, 1) := by decide +kernel
theorem d_B_canGo_71 : decode prog_1_method_17_code 71 = .ok (.istore_n 2, 1) := by decide +kernel
theorem d_B_canGo_72 : decode prog_1_method_17_code 72 = .ok (.iinc 3 1, 3) := by decide +kernel
theorem d_B_canGo_75 : decode prog_1_method_17_code 75 = .ok (.goto (-52), 3) := by decide +kernel
theorem d_B_canGo_78 : decode prog_1_method_17_code 78 = .ok (.aload_n 0, 1) := by decide +kernel
theorem d_B_canGo_79 : decode prog_1_method_17_code 79 = .ok (.iload_n 2, 1) := by decide +kernel
theorem d_B_canGo_80 : decode prog_1_method_17_code 80 = .ok (.invokevirtual 114, 3) := by decide +kernel
theorem d_B_canGo_83 : decode prog_1_method_17_code 83 = .ok (.ireturn, 1) := by decide +kernel
theorem d_B_countLeft_0 : decode prog_1_method_13_code 0 = .ok (.iconst 0, 1) := by decide +kernel
theorem d_B_countLeft_1 : decode prog_1_method_13_code 1 = .ok (.istore_n 1, 1) := by decide +kernel
theorem d_B_countLeft_2 : decode prog_1_method_13_code 2 = .ok (.iconst 0, 1) := by decide +kernel
theorem d_B_countLeft_3 : decode prog_1_method_13_code 3 = .ok (.istore_n 2, 1) := by decide +kernel
theorem d_B_countLeft_4 : decode prog_1_method_13_code 4 = .ok (.iload_n 2, 1) := by decide +kernel
theorem d_B_countLeft_5 : decode prog_1_method_13_code 5 = .ok (.aload_n 0, 1) := by decide +kernel
theorem d_B_countLeft_6 : decode prog_1_method_13_code 6 = .ok (.getfield 19, 3) := by decide +kernel
theorem d_B_countLeft_9 : decode prog_1_method_13_code 9 = .ok (.if_icmp .ge 27, 3) := by decide +kernel
theorem d_B_countLeft_12 : decode prog_1_method_13_code 12 = .ok (.iload_n 2, 1) := by decide +kernel
theorem d_B_countLeft_13 : decode prog_1_method_13_code 13 = .ok (.bipush 62, 2) := by decide +kernel
theorem d_B_countLeft_15 : decode prog_1_method_13_code 15 = .ok (.if_icmp .ge 21, 3) := by decide +kernel
theorem d_B_countLeft_18 : decode prog_1_method_13_code 18 = .ok (.aload_n 0, 1) := by decide +kernel
theorem d_B_countLeft_19 : decode prog_1_method_13_code 19 = .ok (.getfield 39, 3) := by decide +kernel
theorem d_B_countLeft_22 : decode prog_1_method_13_code 22 = .ok (.iload_n 2, 1) := by decide +kernel
theorem d_B_countLeft_23 : decode prog_1_method_13_code 23 = .ok (.baload, 1) := by decide +kernel
theorem d_B_countLeft_24 : decode prog_1_method_13_code 24 = .ok (.ifCond .eq 6, 3) := by decide +kernel
theorem d_B_countLeft_27 : decode prog_1_method_13_code 27 = .ok (.iinc 1 1, 3) := by decide +kernel
theorem d_B_countLeft_30 : decode prog_1_method_13_code 30 = .ok (.iinc 2 1, 3) := by decide +kernel
theorem d_B_countLeft_33 : decode prog_1_method_13_code 33 = .ok (.goto (-29), 3) := by decide +kernel
theorem d_B_countLeft_36 : decode prog_1_method_13_code 36 = .ok (.iload_n 1, 1) := by decide +kernel
theorem d_B_countLeft_37 : decode prog_1_method_13_code 37 = .ok (.ireturn, 1) := by decide +kernel
theorem d_B_left_0 : decode prog_1_method_7_code 0 = .ok (.iload_n 1, 1) := by decide +kernel
theorem d_B_left_1 : decode prog_1_method_7_code 1 = .ok (.ifCond .ge 5, 3) := by decide +kernel
theorem d_B_left_4 : decode prog_1_method_7_code 4 = .ok (.iconst (-1), 1) := by decide +kernel
theorem d_B_left_5 : decode prog_1_method_7_code 5 = .ok (.ireturn, 1) := by decide +kernel
theorem d_B_left_6 : decode prog_1_method_7_code 6 = .ok (.iconst 0, 1) := by decide +kernel
theorem d_B_left_7 : decode prog_1_method_7_code 7 = .ok (.istore_n 2, 1) := by decide +kernel
theorem d_B_left_8 : decode prog_1_method_7_code 8 = .ok (.iconst 0, 1) := by decide +kernel
theorem d_B_left_9 : decode prog_1_method_7_code 9 = .ok (.istore_n 3, 1) := by decide +kernel
theorem d_B_left_10 : decode prog_1_method_7_code 10 = .ok (.iload_n 3, 1) := by decide +kernel
theorem d_B_left_11 : decode prog_1_method_7_code 11 = .ok (.aload_n 0, 1) := by decide +kernel
theorem d_B_left_12 : decode prog_1_method_7_code 12 = .ok (.getfield 19, 3) := by decide +kernel
theorem d_B_left_15 : decode prog_1_method_7_code 15 = .ok (.if_icmp .ge 34, 3) := by decide +kernel
theorem d_B_left_18 : decode prog_1_method_7_code 18 = .ok (.iload_n 3, 1) := by decide +kernel
theorem d_B_left_19 : decode prog_1_method_7_code 19 = .ok (.bipush 62, 2) := by decide +kernel
theorem d_B_left_21 : decode prog_1_method_7_code 21 = .ok (.if_icmp .ge 28, 3) := by decide +kernel
theorem d_B_left_24 : decode prog_1_method_7_code 24 = .ok (.aload_n 0, 1) := by decide +kernel
theorem d_B_left_25 : decode prog_1_method_7_code 25 = .ok (.getfield 39, 3) := by decide +kernel
theorem d_B_left_28 : decode prog_1_method_7_code 28 = .ok (.iload_n 3, 1) := by decide +kernel
theorem d_B_left_29 : decode prog_1_method_7_code 29 = .ok (.baload, 1) := by decide +kernel
theorem d_B_left_30 : decode prog_1_method_7_code 30 = .ok (.ifCond .eq 13, 3) := by decide +kernel
theorem d_B_left_33 : decode prog_1_method_7_code 33 = .ok (.iload_n 2, 1) := by decide +kernel
theorem d_B_left_34 : decode prog_1_method_7_code 34 = .ok (.iload_n 1, 1) := by decide +kernel
theorem d_B_left_35 : decode prog_1_method_7_code 35 = .ok (.if_icmp .ne 5, 3) := by decide +kernel
theorem d_B_left_38 : decode prog_1_method_7_code 38 = .ok (.iload_n 3, 1) := by decide +kernel
theorem d_B_left_39 : decode prog_1_method_7_code 39 = .ok (.ireturn, 1) := by decide +kernel
theorem d_B_left_40 : decode prog_1_method_7_code 40 = .ok (.iinc 2 1, 3) := by decide +kernel
theorem d_B_left_43 : decode prog_1_method_7_code 43 = .ok (.iinc 3 1, 3) := by decide +kernel
theorem d_B_left_46 : decode prog_1_method_7_code 46 = .ok (.goto (-36), 3) := by decide +kernel
theorem d_B_left_49 : decode prog_1_method_7_code 49 = .ok (.iconst (-1), 1) := by decide +kernel
theorem d_B_left_50 : decode prog_1_method_7_code 50 = .ok (.ireturn, 1) := by decide +kernel
theorem d_B_minimal_0 : decode prog_1_method_8_code 0 = .ok (.iconst 0, 1) := by decide +kernel
theorem d_B_minimal_1 : decode prog_1_method_8_code 1 = .ok (.istore_n 1, 1) := by decide +kernel
theorem d_B_minimal_2 : decode prog_1_method_8_code 2 = .ok (.iload_n 1, 1) := by decide +kernel
theorem d_B_minimal_3 : decode prog_1_method_8_code 3 = .ok (.aload_n 0, 1) := by decide +kernel
theorem d_B_minimal_4 : decode prog_1_method_8_code 4 = .ok (.getfield 19, 3) := by decide +kernel
theorem d_B_minimal_7 : decode prog_1_method_8_code 7 = .ok (.if_icmp .ge 19, 3) := by decide +kernel
theorem d_B_minimal_10 : decode prog_1_method_8_code 10 = .ok (.aload_n 0, 1) := by decide +kernel
theorem d_B_minimal_11 : decode prog_1_method_8_code 11 = .ok (.iload_n 1, 1) := by decide +kernel
theorem d_B_minimal_12 : decode prog_1_method_8_code 12 = .ok (.invokevirtual 123, 3) := by decide +kernel
theorem d_B_minimal_15 : decode prog_1_method_8_code 15 = .ok (.ifCond .eq 5, 3) := by decide +kernel
theorem d_B_minimal_18 : decode prog_1_method_8_code 18 = .ok (.iconst 0, 1) := by decide +kernel
theorem d_B_minimal_19 : decode prog_1_method_8_code 19 = .ok (.ireturn, 1) := by decide +kernel
theorem d_B_minimal_20 : decode prog_1_method_8_code 20 = .ok (.iinc 1 1, 3) := by decide +kernel
theorem d_B_minimal_23 : decode prog_1_method_8_code 23 = .ok (.goto (-21), 3) := by decide +kernel
theorem d_B_minimal_26 : decode prog_1_method_8_code 26 = .ok (.iconst 1, 1) := by decide +kernel
theorem d_B_minimal_27 : decode prog_1_method_8_code 27 = .ok (.ireturn, 1) := by decide +kernel
theorem d_B_same_0 : decode prog_1_method_9_code 0 = .ok (.iload_n 3, 1) := by decide +kernel
theorem d_B_same_1 : decode prog_1_method_9_code 1 = .ok (.iload 4, 2) := by decide +kernel
theorem d_B_same_3 : decode prog_1_method_9_code 3 = .ok (.invokestatic 61, 3) := by decide +kernel
theorem d_B_same_6 : decode prog_1_method_9_code 6 = .ok (.ifCond .ne 5, 3) := by decide +kernel
theorem d_B_same_9 : decode prog_1_method_9_code 9 = .ok (.iconst 0, 1) := by decide +kernel
theorem d_B_same_10 : decode prog_1_method_9_code 10 = .ok (.ireturn, 1) := by decide +kernel
theorem d_B_same_11 : decode prog_1_method_9_code 11 = .ok (.aload_n 0, 1) := by decide +kernel
theorem d_B_same_12 : decode prog_1_method_9_code 12 = .ok (.getfield 12, 3) := by decide +kernel
theorem d_B_same_15 : decode prog_1_method_9_code 15 = .ok (.aload_n 0, 1) := by decide +kernel
theorem d_B_same_16 : decode prog_1_method_9_code 16 = .ok (.getfield 57, 3) := by decide +kernel
theorem d_B_same_19 : decode prog_1_method_9_code 19 = .ok (.iload_n 3, 1) := by decide +kernel
theorem d_B_same_20 : decode prog_1_method_9_code 20 = .ok (.iload 4, 2) := by decide +kernel
theorem d_B_same_22 : decode prog_1_method_9_code 22 = .ok (.invokevirtual 65, 3) := by decide +kernel
theorem d_B_same_25 : decode prog_1_method_9_code 25 = .ok (.aload_n 0, 1) := by decide +kernel
theorem d_B_same_26 : decode prog_1_method_9_code 26 = .ok (.getfield 16, 3) := by decide +kernel
theorem d_B_same_29 : decode prog_1_method_9_code 29 = .ok (.lload_n 1, 1) := by decide +kernel
theorem d_B_same_30 : decode prog_1_method_9_code 30 = .ok (.iload_n 3, 1) := by decide +kernel
theorem d_B_same_31 : decode prog_1_method_9_code 31 = .ok (.iload 4, 2) := by decide +kernel
theorem d_B_same_33 : decode prog_1_method_9_code 33 = .ok (.invokevirtual 65, 3) := by decide +kernel
theorem d_B_same_36 : decode prog_1_method_9_code 36 = .ok (.iconst 0, 1) := by decide +kernel
theorem d_B_same_37 : decode prog_1_method_9_code 37 = .ok (.istore 5, 2) := by decide +kernel
theorem d_B_same_39 : decode prog_1_method_9_code 39 = .ok (.iload 5, 2) := by decide +kernel
theorem d_B_same_41 : decode prog_1_method_9_code 41 = .ok (.iload 4, 2) := by decide +kernel
theorem d_B_same_43 : decode prog_1_method_9_code 43 = .ok (.iconst 2, 1) := by decide +kernel
theorem d_B_same_44 : decode prog_1_method_9_code 44 = .ok (.iadd, 1) := by decide +kernel
theorem d_B_same_45 : decode prog_1_method_9_code 45 = .ok (.if_icmp .ge 39, 3) := by decide +kernel
theorem d_B_same_48 : decode prog_1_method_9_code 48 = .ok (.aload_n 0, 1) := by decide +kernel
theorem d_B_same_49 : decode prog_1_method_9_code 49 = .ok (.getfield 12, 3) := by decide +kernel
theorem d_B_same_52 : decode prog_1_method_9_code 52 = .ok (.invokevirtual 69, 3) := by decide +kernel
theorem d_B_same_55 : decode prog_1_method_9_code 55 = .ok (.aload_n 0, 1) := by decide +kernel
theorem d_B_same_56 : decode prog_1_method_9_code 56 = .ok (.getfield 16, 3) := by decide +kernel
theorem d_B_same_59 : decode prog_1_method_9_code 59 = .ok (.invokevirtual 69, 3) := by decide +kernel
theorem d_B_same_62 : decode prog_1_method_9_code 62 = .ok (.aload_n 0, 1) := by decide +kernel
theorem d_B_same_63 : decode prog_1_method_9_code 63 = .ok (.getfield 12, 3) := by decide +kernel
theorem d_B_same_66 : decode prog_1_method_9_code 66 = .ok (.aload_n 0, 1) := by decide +kernel
theorem d_B_same_67 : decode prog_1_method_9_code 67 = .ok (.getfield 16, 3) := by decide +kernel
theorem d_B_same_70 : decode prog_1_method_9_code 70 = .ok (.invokevirtual 126, 3) := by decide +kernel
theorem d_B_same_73 : decode prog_1_method_9_code 73 = .ok (.ifCond .ne 5, 3) := by decide +kernel
theorem d_B_same_76 : decode prog_1_method_9_code 76 = .ok (.iconst 0, 1) := by decide +kernel
theorem d_B_same_77 : decode prog_1_method_9_code 77 = .ok (.ireturn, 1) := by decide +kernel
theorem d_B_same_78 : decode prog_1_method_9_code 78 = .ok (.iinc 5 1, 3) := by decide +kernel
theorem d_B_same_81 : decode prog_1_method_9_code 81 = .ok (.goto (-42), 3) := by decide +kernel
theorem d_B_same_84 : decode prog_1_method_9_code 84 = .ok (.iconst 1, 1) := by decide +kernel
theorem d_B_same_85 : decode prog_1_method_9_code 85 = .ok (.ireturn, 1) := by decide +kernel
