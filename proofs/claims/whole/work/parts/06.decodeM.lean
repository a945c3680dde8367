theorem d_M_init_0 : decode prog_4_method_1_code 0 = .ok (.aload_n 0, 1) := by decide +kernel
theorem d_M_init_1 : decode prog_4_method_1_code 1 = .ok (.invokespecial 1, 3) := by decide +kernel
theorem d_M_init_4 : decode prog_4_method_1_code 4 = .ok (.aload_n 0, 1) := by decide +kernel
theorem d_M_init_5 : decode prog_4_method_1_code 5 = .ok (.iconst 1, 1) := by decide +kernel
theorem d_M_init_6 : decode prog_4_method_1_code 6 = .ok (.putfield 7, 3) := by decide +kernel
theorem d_M_init_9 : decode prog_4_method_1_code 9 = .ok (.aload_n 0, 1) := by decide +kernel
theorem d_M_init_10 : decode prog_4_method_1_code 10 = .ok (.bipush 124, 2) := by decide +kernel
theorem d_M_init_12 : decode prog_4_method_1_code 12 = .ok (.newarray .int, 2) := by decide +kernel
theorem d_M_init_14 : decode prog_4_method_1_code 14 = .ok (.putfield 13, 3) := by decide +kernel
theorem d_M_init_17 : decode prog_4_method_1_code 17 = .ok (.aload_n 0, 1) := by decide +kernel
theorem d_M_init_18 : decode prog_4_method_1_code 18 = .ok (.bipush 124, 2) := by decide +kernel
theorem d_M_init_20 : decode prog_4_method_1_code 20 = .ok (.newarray .int, 2) := by decide +kernel
theorem d_M_init_22 : decode prog_4_method_1_code 22 = .ok (.putfield 17, 3) := by decide +kernel
theorem d_M_init_25 : decode prog_4_method_1_code 25 = .ok (.aload_n 0, 1) := by decide +kernel
theorem d_M_init_26 : decode prog_4_method_1_code 26 = .ok (.bipush 124, 2) := by decide +kernel
theorem d_M_init_28 : decode prog_4_method_1_code 28 = .ok (.newarray .int, 2) := by decide +kernel
theorem d_M_init_30 : decode prog_4_method_1_code 30 = .ok (.putfield 20, 3) := by decide +kernel
theorem d_M_init_33 : decode prog_4_method_1_code 33 = .ok (.aload_n 0, 1) := by decide +kernel
theorem d_M_init_34 : decode prog_4_method_1_code 34 = .ok (.bipush 124, 2) := by decide +kernel
theorem d_M_init_36 : decode prog_4_method_1_code 36 = .ok (.newarray .int, 2) := by decide +kernel
theorem d_M_init_38 : decode prog_4_method_1_code 38 = .ok (.putfield 23, 3) := by decide +kernel
theorem d_M_init_41 : decode prog_4_method_1_code 41 = .ok (.aload_n 0, 1) := by decide +kernel
theorem d_M_init_42 : decode prog_4_method_1_code 42 = .ok (.bipush 124, 2) := by decide +kernel
theorem d_M_init_44 : decode prog_4_method_1_code 44 = .ok (.newarray .int, 2) := by decide +kernel
theorem d_M_init_46 : decode prog_4_method_1_code 46 = .ok (.putfield 26, 3) := by decide +kernel
theorem d_M_init_49 : decode prog_4_method_1_code 49 = .ok (.aload_n 0, 1) := by decide +kernel
theorem d_M_init_50 : decode prog_4_method_1_code 50 = .ok (.bipush 62, 2) := by decide +kernel
theorem d_M_init_52 : decode prog_4_method_1_code 52 = .ok (.newarray .boolean, 2) := by decide +kernel
theorem d_M_init_54 : decode prog_4_method_1_code 54 = .ok (.putfield 29, 3) := by decide +kernel
theorem d_M_init_57 : decode prog_4_method_1_code 57 = .ok (.aload_n 0, 1) := by decide +kernel
theorem d_M_init_58 : decode prog_4_method_1_code 58 = .ok (.lload_n 1, 1) := by decide +kernel
theorem d_M_init_59 : decode prog_4_method_1_code 59 = .ok (.putfield 33, 3) := by decide +kernel
theorem d_M_init_62 : decode prog_4_method_1_code 62 = .ok (.return_, 1) := by decide +kernel
theorem d_M_draw_0 : decode prog_4_method_8_code 0 = .ok (.aload_n 0, 1) := by decide +kernel
theorem d_M_draw_1 : decode prog_4_method_8_code 1 = .ok (.iconst 0, 1) := by decide +kernel
theorem d_M_draw_2 : decode prog_4_method_8_code 2 = .ok (.putfield 37, 3) := by decide +kernel
theorem d_M_draw_5 : decode prog_4_method_8_code 5 = .ok (.iload_n 1, 1) := by decide +kernel
theorem d_M_draw_6 : decode prog_4_method_8_code 6 = .ok (.iload_n 2, 1) := by decide +kernel
theorem d_M_draw_7 : decode prog_4_method_8_code 7 = .ok (.invokestatic 63, 3) := by decide +kernel
theorem d_M_draw_10 : decode prog_4_method_8_code 10 = .ok (.ifCond .ne 6, 3) := by decide +kernel
theorem d_M_draw_13 : decode prog_4_method_8_code 13 = .ok (.bipush (-2), 2) := by decide +kernel
theorem d_M_draw_15 : decode prog_4_method_8_code 15 = .ok (.ireturn, 1) := by decide +kernel
theorem d_M_draw_16 : decode prog_4_method_8_code 16 = .ok (.aload_n 0, 1) := by decide +kernel
theorem d_M_draw_17 : decode prog_4_method_8_code 17 = .ok (.aload_n 0, 1) := by decide +kernel
theorem d_M_draw_18 : decode prog_4_method_8_code 18 = .ok (.getfield 33, 3) := by decide +kernel
theorem d_M_draw_21 : decode prog_4_method_8_code 21 = .ok (.iload_n 1, 1) := by decide +kernel
theorem d_M_draw_22 : decode prog_4_method_8_code 22 = .ok (.iload_n 2, 1) := by decide +kernel
theorem d_M_draw_23 : decode prog_4_method_8_code 23 = .ok (.iconst 0, 1) := by decide +kernel
theorem d_M_draw_24 : decode prog_4_method_8_code 24 = .ok (.invokevirtual 67, 3) := by decide +kernel
theorem d_M_draw_27 : decode prog_4_method_8_code 27 = .ok (.aload_n 0, 1) := by decide +kernel
theorem d_M_draw_28 : decode prog_4_method_8_code 28 = .ok (.iload_n 2, 1) := by decide +kernel
theorem d_M_draw_29 : decode prog_4_method_8_code 29 = .ok (.iconst 2, 1) := by decide +kernel
theorem d_M_draw_30 : decode prog_4_method_8_code 30 = .ok (.iadd, 1) := by decide +kernel
theorem d_M_draw_31 : decode prog_4_method_8_code 31 = .ok (.putfield 71, 3) := by decide +kernel
theorem d_M_draw_34 : decode prog_4_method_8_code 34 = .ok (.iconst 0, 1) := by decide +kernel
theorem d_M_draw_35 : decode prog_4_method_8_code 35 = .ok (.istore_n 3, 1) := by decide +kernel
theorem d_M_draw_36 : decode prog_4_method_8_code 36 = .ok (.iload_n 3, 1) := by decide +kernel
theorem d_M_draw_37 : decode prog_4_method_8_code 37 = .ok (.aload_n 0, 1) := by decide +kernel
theorem d_M_draw_38 : decode prog_4_method_8_code 38 = .ok (.getfield 71, 3) := by decide +kernel
theorem d_M_draw_41 : decode prog_4_method_8_code 41 = .ok (.if_icmp .ge 16, 3) := by decide +kernel
theorem d_M_draw_44 : decode prog_4_method_8_code 44 = .ok (.aload_n 0, 1) := by decide +kernel
theorem d_M_draw_45 : decode prog_4_method_8_code 45 = .ok (.getfield 29, 3) := by decide +kernel
theorem d_M_draw_48 : decode prog_4_method_8_code 48 = .ok (.iload_n 3, 1) := by decide +kernel
theorem d_M_draw_49 : decode prog_4_method_8_code 49 = .ok (.iconst 1, 1) := by decide +kernel
theorem d_M_draw_50 : decode prog_4_method_8_code 50 = .ok (.bastore, 1) := by decide +kernel
theorem d_M_draw_51 : decode prog_4_method_8_code 51 = .ok (.iinc 3 1, 3) := by decide +kernel
theorem d_M_draw_54 : decode prog_4_method_8_code 54 = .ok (.goto (-18), 3) := by decide +kernel
theorem d_M_draw_57 : decode prog_4_method_8_code 57 = .ok (.aload_n 0, 1) := by decide +kernel
theorem d_M_draw_58 : decode prog_4_method_8_code 58 = .ok (.getfield 71, 3) := by decide +kernel
theorem d_M_draw_61 : decode prog_4_method_8_code 61 = .ok (.ireturn, 1) := by decide +kernel
theorem d_M_isSuch_0 : decode prog_4_method_7_code 0 = .ok (.iload_n 0, 1) := by decide +kernel
theorem d_M_isSuch_1 : decode prog_4_method_7_code 1 = .ok (.ifCond .lt 23, 3) := by decide +kernel
theorem d_M_isSuch_4 : decode prog_4_method_7_code 4 = .ok (.iload_n 0, 1) := by decide +kernel
theorem d_M_isSuch_5 : decode prog_4_method_7_code 5 = .ok (.bipush 8, 2) := by decide +kernel
theorem d_M_isSuch_7 : decode prog_4_method_7_code 7 = .ok (.if_icmp .ge 17, 3) := by decide +kernel
theorem d_M_isSuch_10 : decode prog_4_method_7_code 10 = .ok (.iload_n 1, 1) := by decide +kernel
theorem d_M_isSuch_11 : decode prog_4_method_7_code 11 = .ok (.ifCond .lt 13, 3) := by decide +kernel
theorem d_M_isSuch_14 : decode prog_4_method_7_code 14 = .ok (.iload_n 1, 1) := by decide +kernel
theorem d_M_isSuch_15 : decode prog_4_method_7_code 15 = .ok (.bipush 60, 2) := by decide +kernel
theorem d_M_isSuch_17 : decode prog_4_method_7_code 17 = .ok (.if_icmp .gt 7, 3) := by decide +kernel
theorem d_M_isSuch_20 : decode prog_4_method_7_code 20 = .ok (.iconst 1, 1) := by decide +kernel
theorem d_M_isSuch_21 : decode prog_4_method_7_code 21 = .ok (.goto 4, 3) := by decide +kernel
theorem d_M_isSuch_24 : decode prog_4_method_7_code 24 = .ok (.iconst 0, 1) := by decide +kernel
theorem d_M_isSuch_25 : decode prog_4_method_7_code 25 = .ok (.ireturn, 1) := by decide +kernel
theorem d_M_fill_0 : decode prog_4_method_6_code 0 = .ok (.aload_n 0, 1) := by decide +kernel
theorem d_M_fill_1 : decode prog_4_method_6_code 1 = .ok (.lload_n 1, 1) := by decide +kernel
theorem d_M_fill_2 : decode prog_4_method_6_code 2 = .ok (.iload_n 3, 1) := by decide +kernel
theorem d_M_fill_3 : decode prog_4_method_6_code 3 = .ok (.i2l, 1) := by decide +kernel
theorem d_M_fill_4 : decode prog_4_method_6_code 4 = .ok (.lxor, 1) := by decide +kernel
theorem d_M_fill_5 : decode prog_4_method_6_code 5 = .ok (.ldc2_w 55, 3) := by decide +kernel
theorem d_M_fill_8 : decode prog_4_method_6_code 8 = .ok (.lmul, 1) := by decide +kernel
theorem d_M_fill_9 : decode prog_4_method_6_code 9 = .ok (.iload 4, 2) := by decide +kernel
theorem d_M_fill_11 : decode prog_4_method_6_code 11 = .ok (.i2l, 1) := by decide +kernel
theorem d_M_fill_12 : decode prog_4_method_6_code 12 = .ok (.ladd, 1) := by decide +kernel
theorem d_M_fill_13 : decode prog_4_method_6_code 13 = .ok (.putfield 41, 3) := by decide +kernel
theorem d_M_fill_16 : decode prog_4_method_6_code 16 = .ok (.aload_n 0, 1) := by decide +kernel
theorem d_M_fill_17 : decode prog_4_method_6_code 17 = .ok (.iload_n 3, 1) := by decide +kernel
theorem d_M_fill_18 : decode prog_4_method_6_code 18 = .ok (.iconst 1, 1) := by decide +kernel
theorem d_M_fill_19 : decode prog_4_method_6_code 19 = .ok (.if_icmp .ne 12, 3) := by decide +kernel
theorem d_M_fill_22 : decode prog_4_method_6_code 22 = .ok (.aload_n 0, 1) := by decide +kernel
theorem d_M_fill_23 : decode prog_4_method_6_code 23 = .ok (.bipush 16, 2) := by decide +kernel
theorem d_M_fill_25 : decode prog_4_method_6_code 25 = .ok (.invokevirtual 48, 3) := by decide +kernel
theorem d_M_fill_28 : decode prog_4_method_6_code 28 = .ok (.goto 5, 3) := by decide +kernel
theorem d_M_fill_31 : decode prog_4_method_6_code 31 = .ok (.bipush 8, 2) := by decide +kernel
theorem d_M_fill_33 : decode prog_4_method_6_code 33 = .ok (.putfield 52, 3) := by decide +kernel
theorem d_M_fill_36 : decode prog_4_method_6_code 36 = .ok (.iconst 0, 1) := by decide +kernel
theorem d_M_fill_37 : decode prog_4_method_6_code 37 = .ok (.istore 6, 2) := by decide +kernel
theorem d_M_fill_39 : decode prog_4_method_6_code 39 = .ok (.iload 6, 2) := by decide +kernel
theorem d_M_fill_41 : decode prog_4_method_6_code 41 = .ok (.iload 4, 2) := by decide +kernel
theorem d_M_fill_43 : decode prog_4_method_6_code 43 = .ok (.iconst 2, 1) := by decide +kernel
theorem d_M_fill_44 : decode prog_4_method_6_code 44 = .ok (.iadd, 1) := by decide +kernel
theorem d_M_fill_45 : decode prog_4_method_6_code 45 = .ok (.if_icmp .ge 146, 3) := by decide +kernel
theorem d_M_fill_48 : decode prog_4_method_6_code 48 = .ok (.iload 5, 2) := by decide +kernel
theorem d_M_fill_50 : decode prog_4_method_6_code 50 = .ok (.iload 6, 2) := by decide +kernel
theorem d_M_fill_52 : decode prog_4_method_6_code 52 = .ok (.iadd, 1) := by decide +kernel
theorem d_M_fill_53 : decode prog_4_method_6_code 53 = .ok (.istore 7, 2) := by decide +kernel
theorem d_M_fill_55 : decode prog_4_method_6_code 55 = .ok (.aload_n 0, 1) := by decide +kernel
theorem d_M_fill_56 : decode prog_4_method_6_code 56 = .ok (.getfield 13, 3) := by decide +kernel
theorem d_M_fill_59 : decode prog_4_method_6_code 59 = .ok (.iload 7, 2) := by decide +kernel
theorem d_M_fill_61 : decode prog_4_method_6_code 61 = .ok (.iload 6, 2) := by decide +kernel
theorem d_M_fill_63 : decode prog_4_method_6_code 63 = .ok (.iconst 2, 1) := by decide +kernel
theorem d_M_fill_64 : decode prog_4_method_6_code 64 = .ok (.if_icmp .ge 8, 3) := by decide +kernel
theorem d_M_fill_67 : decode prog_4_method_6_code 67 = .ok (.iload 6, 2) := by decide +kernel
theorem d_M_fill_69 : decode prog_4_method_6_code 69 = .ok (.goto 20, 3) := by decide +kernel
theorem d_M_fill_72 : decode prog_4_method_6_code 72 = .ok (.aload_n 0, 1) := by decide +kernel
theorem d_M_fill_73 : decode prog_4_method_6_code 73 = .ok (.iconst 4, 1) := by decide +kernel
theorem d_M_fill_74 : decode prog_4_method_6_code 74 = .ok (.invokevirtual 48, 3) := by decide +kernel
theorem d_M_fill_77 : decode prog_4_method_6_code 77 = .ok (.iconst 3, 1) := by decide +kernel
theorem d_M_fill_78 : decode prog_4_method_6_code 78 = .ok (.if_icmp .ne 7, 3) := by decide +kernel
theorem d_M_fill_81 : decode prog_4_method_6_code 81 = .ok (.iconst 0, 1) := by decide +kernel
theorem d_M_fill_82 : decode prog_4_method_6_code 82 = .ok (.goto 7, 3) := by decide +kernel
theorem d_M_fill_85 : decode prog_4_method_6_code 85 = .ok (.iload_n 3, 1) := by decide +kernel
theorem d_M_fill_86 : decode prog_4_method_6_code 86 = .ok (.invokestatic 57, 3) := by decide +kernel
theorem d_M_fill_89 : decode prog_4_method_6_code 89 = .ok (.iastore, 1) := by decide +kernel
theorem d_M_fill_90 : decode prog_4_method_6_code 90 = .ok (.aload_n 0, 1) := by decide +kernel
theorem d_M_fill_91 : decode prog_4_method_6_code 91 = .ok (.getfield 17, 3) := by decide +kernel
theorem d_M_fill_94 : decode prog_4_method_6_code 94 = .ok (.iload 7, 2) := by decide +kernel
theorem d_M_fill_96 : decode prog_4_method_6_code 96 = .ok (.aload_n 0, 1) := by decide +kernel
theorem d_M_fill_97 : decode prog_4_method_6_code 97 = .ok (.sipush 1000, 3) := by decide +kernel
theorem d_M_fill_100 : decode prog_4_method_6_code 100 = .ok (.invokevirtual 48, 3) := by decide +kernel
theorem d_M_fill_103 : decode prog_4_method_6_code 103 = .ok (.iastore, 1) := by decide +kernel
theorem d_M_fill_104 : decode prog_4_method_6_code 104 = .ok (.aload_n 0, 1) := by decide +kernel
theorem d_M_fill_105 : decode prog_4_method_6_code 105 = .ok (.getfield 20, 3) := by decide +kernel
theorem d_M_fill_108 : decode prog_4_method_6_code 108 = .ok (.iload 7, 2) := by decide +kernel
theorem d_M_fill_110 : decode prog_4_method_6_code 110 = .ok (.aload_n 0, 1) := by decide +kernel
theorem d_M_fill_111 : decode prog_4_method_6_code 111 = .ok (.aload_n 0, 1) := by decide +kernel
theorem d_M_fill_112 : decode prog_4_method_6_code 112 = .ok (.getfield 13, 3) := by decide +kernel
theorem d_M_fill_115 : decode prog_4_method_6_code 115 = .ok (.iload 7, 2) := by decide +kernel
theorem d_M_fill_117 : decode prog_4_method_6_code 117 = .ok (.iaload, 1) := by decide +kernel
theorem d_M_fill_118 : decode prog_4_method_6_code 118 = .ok (.invokevirtual 60, 3) := by decide +kernel
theorem d_M_fill_121 : decode prog_4_method_6_code 121 = .ok (.iastore, 1) := by decide +kernel
theorem d_M_fill_122 : decode prog_4_method_6_code 122 = .ok (.aload_n 0, 1) := by decide +kernel
theorem d_M_fill_123 : decode prog_4_method_6_code 123 = .ok (.getfield 26, 3) := by decide +kernel
theorem d_M_fill_126 : decode prog_4_method_6_code 126 = .ok (.iload 7, 2) := by decide +kernel
theorem d_M_fill_128 : decode prog_4_method_6_code 128 = .ok (.iconst 1, 1) := by decide +kernel
theorem d_M_fill_129 : decode prog_4_method_6_code 129 = .ok (.aload_n 0, 1) := by decide +kernel
theorem d_M_fill_130 : decode prog_4_method_6_code 130 = .ok (.bipush 8, 2) := by decide +kernel
theorem d_M_fill_132 : decode prog_4_method_6_code 132 = .ok (.invokevirtual 48, 3) := by decide +kernel
theorem d_M_fill_135 : decode prog_4_method_6_code 135 = .ok (.ishl, 1) := by decide +kernel
theorem d_M_fill_136 : decode prog_4_method_6_code 136 = .ok (.iastore, 1) := by decide +kernel
theorem d_M_fill_137 : decode prog_4_method_6_code 137 = .ok (.iload 6, 2) := by decide +kernel
theorem d_M_fill_139 : decode prog_4_method_6_code 139 = .ok (.iconst 2, 1) := by decide +kernel
theorem d_M_fill_140 : decode prog_4_method_6_code 140 = .ok (.if_icmp .ge 10, 3) := by decide +kernel
theorem d_M_fill_143 : decode prog_4_method_6_code 143 = .ok (.iconst 1, 1) := by decide +kernel
theorem d_M_fill_144 : decode prog_4_method_6_code 144 = .ok (.iload 6, 2) := by decide +kernel
theorem d_M_fill_146 : decode prog_4_method_6_code 146 = .ok (.isub, 1) := by decide +kernel
theorem d_M_fill_147 : decode prog_4_method_6_code 147 = .ok (.goto 11, 3) := by decide +kernel
theorem d_M_fill_150 : decode prog_4_method_6_code 150 = .ok (.aload_n 0, 1) := by decide +kernel
theorem d_M_fill_151 : decode prog_4_method_6_code 151 = .ok (.iload 6, 2) := by decide +kernel
theorem d_M_fill_153 : decode prog_4_method_6_code 153 = .ok (.iconst 1, 1) := by decide +kernel
theorem d_M_fill_154 : decode prog_4_method_6_code 154 = .ok (.iadd, 1) := by decide +kernel
theorem d_M_fill_155 : decode prog_4_method_6_code 155 = .ok (.invokevirtual 48, 3) := by decide +kernel
theorem d_M_fill_158 : decode prog_4_method_6_code 158 = .ok (.istore 8, 2) := by decide +kernel
theorem d_M_fill_160 : decode prog_4_method_6_code 160 = .ok (.aload_n 0, 1) := by decide +kernel
theorem d_M_fill_161 : decode prog_4_method_6_code 161 = .ok (.getfield 23, 3) := by decide +kernel
theorem d_M_fill_164 : decode prog_4_method_6_code 164 = .ok (.iload 7, 2) := by decide +kernel
theorem d_M_fill_166 : decode prog_4_method_6_code 166 = .ok (.iload 8, 2) := by decide +kernel
theorem d_M_fill_168 : decode prog_4_method_6_code 168 = .ok (.iload 6, 2) := by decide +kernel
theorem d_M_fill_170 : decode prog_4_method_6_code 170 = .ok (.if_icmp .eq 8, 3) := by decide +kernel
theorem d_M_fill_173 : decode prog_4_method_6_code 173 = .ok (.iload 6, 2) := by decide +kernel
theorem d_M_fill_175 : decode prog_4_method_6_code 175 = .ok (.ifCond .ne 7, 3) := by decide +kernel
theorem d_M_fill_178 : decode prog_4_method_6_code 178 = .ok (.iconst (-1), 1) := by decide +kernel
theorem d_M_fill_179 : decode prog_4_method_6_code 179 = .ok (.goto 5, 3) := by decide +kernel
theorem d_M_fill_182 : decode prog_4_method_6_code 182 = .ok (.iload 8, 2) := by decide +kernel
theorem d_M_fill_184 : decode prog_4_method_6_code 184 = .ok (.iastore, 1) := by decide +kernel
theorem d_M_fill_185 : decode prog_4_method_6_code 185 = .ok (.iinc 6 1, 3) := by decide +kernel
theorem d_M_fill_188 : decode prog_4_method_6_code 188 = .ok (.goto (-149), 3) := by decide +kernel
theorem d_M_fill_191 : decode prog_4_method_6_code 191 = .ok (.return_, 1) := by decide +kernel
theorem d_M_chance_0 : decode prog_4_method_3_code 0 = .ok (.aload_n 0, 1) := by decide +kernel
theorem d_M_chance_1 : decode prog_4_method_3_code 1 = .ok (.aload_n 0, 1) := by decide +kernel
theorem d_M_chance_2 : decode prog_4_method_3_code 2 = .ok (.getfield 41, 3) := by decide +kernel
theorem d_M_chance_5 : decode prog_4_method_3_code 5 = .ok (.ldc2_w 44, 3) := by decide +kernel
theorem d_M_chance_8 : decode prog_4_method_3_code 8 = .ok (.lmul, 1) := by decide +kernel
theorem d_M_chance_9 : decode prog_4_method_3_code 9 = .ok (.ldc2_w 46, 3) := by decide +kernel
theorem d_M_chance_12 : decode prog_4_method_3_code 12 = .ok (.ladd, 1) := by decide +kernel
theorem d_M_chance_13 : decode prog_4_method_3_code 13 = .ok (.putfield 41, 3) := by decide +kernel
theorem d_M_chance_16 : decode prog_4_method_3_code 16 = .ok (.aload_n 0, 1) := by decide +kernel
theorem d_M_chance_17 : decode prog_4_method_3_code 17 = .ok (.getfield 41, 3) := by decide +kernel
theorem d_M_chance_20 : decode prog_4_method_3_code 20 = .ok (.bipush 33, 2) := by decide +kernel
theorem d_M_chance_22 : decode prog_4_method_3_code 22 = .ok (.lushr, 1) := by decide +kernel
theorem d_M_chance_23 : decode prog_4_method_3_code 23 = .ok (.iload_n 1, 1) := by decide +kernel
theorem d_M_chance_24 : decode prog_4_method_3_code 24 = .ok (.i2l, 1) := by decide +kernel
theorem d_M_chance_25 : decode prog_4_method_3_code 25 = .ok (.lrem, 1) := by decide +kernel
theorem d_M_chance_26 : decode prog_4_method_3_code 26 = .ok (.l2i, 1) := by decide +kernel
theorem d_M_chance_27 : decode prog_4_method_3_code 27 = .ok (.ireturn, 1) := by decide +kernel
theorem d_M_sortOf_0 : decode prog_4_method_4_code 0 = .ok (.iload_n 0, 1) := by decide +kernel
theorem d_M_sortOf_1 : decode prog_4_method_4_code 1 = .ok (.iconst 1, 1) := by decide +kernel
theorem d_M_sortOf_2 : decode prog_4_method_4_code 2 = .ok (.if_icmp .ne 7, 3) := by decide +kernel
theorem d_M_sortOf_5 : decode prog_4_method_4_code 5 = .ok (.iconst 2, 1) := by decide +kernel
theorem d_M_sortOf_6 : decode prog_4_method_4_code 6 = .ok (.goto 13, 3) := by decide +kernel
theorem d_M_sortOf_9 : decode prog_4_method_4_code 9 = .ok (.iload_n 0, 1) := by decide +kernel
theorem d_M_sortOf_10 : decode prog_4_method_4_code 10 = .ok (.iconst 2, 1) := by decide +kernel
theorem d_M_sortOf_11 : decode prog_4_method_4_code 11 = .ok (.if_icmp .ne 7, 3) := by decide +kernel
theorem d_M_sortOf_14 : decode prog_4_method_4_code 14 = .ok (.iconst 1, 1) := by decide +kernel
theorem d_M_sortOf_15 : decode prog_4_method_4_code 15 = .ok (.goto 4, 3) := by decide +kernel
theorem d_M_sortOf_18 : decode prog_4_method_4_code 18 = .ok (.iload_n 0, 1) := by decide +kernel
theorem d_M_sortOf_19 : decode prog_4_method_4_code 19 = .ok (.ireturn, 1) := by decide +kernel
theorem d_M_drawB_0 : decode prog_4_method_5_code 0 = .ok (.iload_n 1, 1) := by decide +kernel
theorem d_M_drawB_1 : decode prog_4_method_5_code 1 = .ok (.tableswitch 129 0 6 #[43, 50, 57, 85, 92, 116, 122], 43) := by decide +kernel
theorem d_M_drawB_44 : decode prog_4_method_5_code 44 = .ok (.aload_n 0, 1) := by decide +kernel
theorem d_M_drawB_45 : decode prog_4_method_5_code 45 = .ok (.bipush 100, 2) := by decide +kernel
theorem d_M_drawB_47 : decode prog_4_method_5_code 47 = .ok (.invokevirtual 48, 3) := by decide +kernel
theorem d_M_drawB_50 : decode prog_4_method_5_code 50 = .ok (.ireturn, 1) := by decide +kernel
theorem d_M_drawB_51 : decode prog_4_method_5_code 51 = .ok (.aload_n 0, 1) := by decide +kernel
theorem d_M_drawB_52 : decode prog_4_method_5_code 52 = .ok (.bipush 8, 2) := by decide +kernel
theorem d_M_drawB_54 : decode prog_4_method_5_code 54 = .ok (.invokevirtual 48, 3) := by decide +kernel
theorem d_M_drawB_57 : decode prog_4_method_5_code 57 = .ok (.ireturn, 1) := by decide +kernel
theorem d_M_drawB_58 : decode prog_4_method_5_code 58 = .ok (.aload_n 0, 1) := by decide +kernel
theorem d_M_drawB_59 : decode prog_4_method_5_code 59 = .ok (.sipush 256, 3) := by decide +kernel
theorem d_M_drawB_62 : decode prog_4_method_5_code 62 = .ok (.invokevirtual 48, 3) := by decide +kernel
theorem d_M_drawB_65 : decode prog_4_method_5_code 65 = .ok (.aload_n 0, 1) := by decide +kernel
theorem d_M_drawB_66 : decode prog_4_method_5_code 66 = .ok (.getfield 52, 3) := by decide +kernel
theorem d_M_drawB_69 : decode prog_4_method_5_code 69 = .ok (.bipush 8, 2) := by decide +kernel
theorem d_M_drawB_71 : decode prog_4_method_5_code 71 = .ok (.if_icmp .ge 12, 3) := by decide +kernel
theorem d_M_drawB_74 : decode prog_4_method_5_code 74 = .ok (.iconst 1, 1) := by decide +kernel
theorem d_M_drawB_75 : decode prog_4_method_5_code 75 = .ok (.aload_n 0, 1) := by decide +kernel
theorem d_M_drawB_76 : decode prog_4_method_5_code 76 = .ok (.getfield 52, 3) := by decide +kernel
theorem d_M_drawB_79 : decode prog_4_method_5_code 79 = .ok (.ishl, 1) := by decide +kernel
theorem d_M_drawB_80 : decode prog_4_method_5_code 80 = .ok (.goto 4, 3) := by decide +kernel
theorem d_M_drawB_83 : decode prog_4_method_5_code 83 = .ok (.iconst 0, 1) := by decide +kernel
theorem d_M_drawB_84 : decode prog_4_method_5_code 84 = .ok (.ior, 1) := by decide +kernel
theorem d_M_drawB_85 : decode prog_4_method_5_code 85 = .ok (.ireturn, 1) := by decide +kernel
theorem d_M_drawB_86 : decode prog_4_method_5_code 86 = .ok (.aload_n 0, 1) := by decide +kernel
theorem d_M_drawB_87 : decode prog_4_method_5_code 87 = .ok (.bipush 10, 2) := by decide +kernel
theorem d_M_drawB_89 : decode prog_4_method_5_code 89 = .ok (.invokevirtual 48, 3) := by decide +kernel
theorem d_M_drawB_92 : decode prog_4_method_5_code 92 = .ok (.ireturn, 1) := by decide +kernel
theorem d_M_drawB_93 : decode prog_4_method_5_code 93 = .ok (.aload_n 0, 1) := by decide +kernel
theorem d_M_drawB_94 : decode prog_4_method_5_code 94 = .ok (.bipush 12, 2) := by decide +kernel
theorem d_M_drawB_96 : decode prog_4_method_5_code 96 = .ok (.invokevirtual 48, 3) := by decide +kernel
theorem d_M_drawB_99 : decode prog_4_method_5_code 99 = .ok (.istore_n 2, 1) := by decide +kernel
theorem d_M_drawB_100 : decode prog_4_method_5_code 100 = .ok (.aload_n 0, 1) := by decide +kernel
theorem d_M_drawB_101 : decode prog_4_method_5_code 101 = .ok (.iconst 5, 1) := by decide +kernel
theorem d_M_drawB_102 : decode prog_4_method_5_code 102 = .ok (.invokevirtual 48, 3) := by decide +kernel
theorem d_M_drawB_105 : decode prog_4_method_5_code 105 = .ok (.ifCond .ne 10, 3) := by decide +kernel
theorem d_M_drawB_108 : decode prog_4_method_5_code 108 = .ok (.iload_n 2, 1) := by decide +kernel
theorem d_M_drawB_109 : decode prog_4_method_5_code 109 = .ok (.bipush 100, 2) := by decide +kernel
theorem d_M_drawB_111 : decode prog_4_method_5_code 111 = .ok (.iadd, 1) := by decide +kernel
theorem d_M_drawB_112 : decode prog_4_method_5_code 112 = .ok (.goto 4, 3) := by decide +kernel
theorem d_M_drawB_115 : decode prog_4_method_5_code 115 = .ok (.iload_n 2, 1) := by decide +kernel
theorem d_M_drawB_116 : decode prog_4_method_5_code 116 = .ok (.ireturn, 1) := by decide +kernel
theorem d_M_drawB_117 : decode prog_4_method_5_code 117 = .ok (.aload_n 0, 1) := by decide +kernel
theorem d_M_drawB_118 : decode prog_4_method_5_code 118 = .ok (.iconst 5, 1) := by decide +kernel
theorem d_M_drawB_119 : decode prog_4_method_5_code 119 = .ok (.invokevirtual 48, 3) := by decide +kernel
theorem d_M_drawB_122 : decode prog_4_method_5_code 122 = .ok (.ireturn, 1) := by decide +kernel
theorem d_M_drawB_123 : decode prog_4_method_5_code 123 = .ok (.aload_n 0, 1) := by decide +kernel
theorem d_M_drawB_124 : decode prog_4_method_5_code 124 = .ok (.bipush 7, 2) := by decide +kernel
theorem d_M_drawB_126 : decode prog_4_method_5_code 126 = .ok (.invokevirtual 48, 3) := by decide +kernel
theorem d_M_drawB_129 : decode prog_4_method_5_code 129 = .ok (.ireturn, 1) := by decide +kernel
theorem d_M_drawB_130 : decode prog_4_method_5_code 130 = .ok (.aload_n 0, 1) := by decide +kernel
theorem d_M_drawB_131 : decode prog_4_method_5_code 131 = .ok (.bipush 6, 2) := by decide +kernel
theorem d_M_drawB_133 : decode prog_4_method_5_code 133 = .ok (.invokevirtual 48, 3) := by decide +kernel
theorem d_M_drawB_136 : decode prog_4_method_5_code 136 = .ok (.ireturn, 1) := by decide +kernel
theorem d_M_same_0 : decode prog_4_method_9_code 0 = .ok (.aload_n 0, 1) := by decide +kernel
theorem d_M_same_1 : decode prog_4_method_9_code 1 = .ok (.iconst 0, 1) := by decide +kernel
theorem d_M_same_2 : decode prog_4_method_9_code 2 = .ok (.putfield 37, 3) := by decide +kernel
theorem d_M_same_5 : decode prog_4_method_9_code 5 = .ok (.iload_n 3, 1) := by decide +kernel
theorem d_M_same_6 : decode prog_4_method_9_code 6 = .ok (.iload 4, 2) := by decide +kernel
theorem d_M_same_8 : decode prog_4_method_9_code 8 = .ok (.invokestatic 63, 3) := by decide +kernel
theorem d_M_same_11 : decode prog_4_method_9_code 11 = .ok (.ifCond .ne 5, 3) := by decide +kernel
theorem d_M_same_14 : decode prog_4_method_9_code 14 = .ok (.iconst 0, 1) := by decide +kernel
theorem d_M_same_15 : decode prog_4_method_9_code 15 = .ok (.ireturn, 1) := by decide +kernel
theorem d_M_same_16 : decode prog_4_method_9_code 16 = .ok (.aload_n 0, 1) := by decide +kernel
theorem d_M_same_17 : decode prog_4_method_9_code 17 = .ok (.lload_n 1, 1) := by decide +kernel
theorem d_M_same_18 : decode prog_4_method_9_code 18 = .ok (.iload_n 3, 1) := by decide +kernel
theorem d_M_same_19 : decode prog_4_method_9_code 19 = .ok (.iload 4, 2) := by decide +kernel
theorem d_M_same_21 : decode prog_4_method_9_code 21 = .ok (.bipush 62, 2) := by decide +kernel
theorem d_M_same_23 : decode prog_4_method_9_code 23 = .ok (.invokevirtual 67, 3) := by decide +kernel
theorem d_M_same_26 : decode prog_4_method_9_code 26 = .ok (.aload_n 0, 1) := by decide +kernel
theorem d_M_same_27 : decode prog_4_method_9_code 27 = .ok (.getfield 41, 3) := by decide +kernel
theorem d_M_same_30 : decode prog_4_method_9_code 30 = .ok (.lstore 5, 2) := by decide +kernel
theorem d_M_same_32 : decode prog_4_method_9_code 32 = .ok (.iconst 1, 1) := by decide +kernel
theorem d_M_same_33 : decode prog_4_method_9_code 33 = .ok (.istore 7, 2) := by decide +kernel
theorem d_M_same_35 : decode prog_4_method_9_code 35 = .ok (.aload_n 0, 1) := by decide +kernel
theorem d_M_same_36 : decode prog_4_method_9_code 36 = .ok (.aload_n 0, 1) := by decide +kernel
theorem d_M_same_37 : decode prog_4_method_9_code 37 = .ok (.getfield 33, 3) := by decide +kernel
theorem d_M_same_40 : decode prog_4_method_9_code 40 = .ok (.iload_n 3, 1) := by decide +kernel
theorem d_M_same_41 : decode prog_4_method_9_code 41 = .ok (.i2l, 1) := by decide +kernel
theorem d_M_same_42 : decode prog_4_method_9_code 42 = .ok (.lxor, 1) := by decide +kernel
theorem d_M_same_43 : decode prog_4_method_9_code 43 = .ok (.ldc2_w 55, 3) := by decide +kernel
theorem d_M_same_46 : decode prog_4_method_9_code 46 = .ok (.lmul, 1) := by decide +kernel
theorem d_M_same_47 : decode prog_4_method_9_code 47 = .ok (.iload 4, 2) := by decide +kernel
theorem d_M_same_49 : decode prog_4_method_9_code 49 = .ok (.i2l, 1) := by decide +kernel
theorem d_M_same_50 : decode prog_4_method_9_code 50 = .ok (.ladd, 1) := by decide +kernel
theorem d_M_same_51 : decode prog_4_method_9_code 51 = .ok (.putfield 41, 3) := by decide +kernel
theorem d_M_same_54 : decode prog_4_method_9_code 54 = .ok (.aload_n 0, 1) := by decide +kernel
theorem d_M_same_55 : decode prog_4_method_9_code 55 = .ok (.iload_n 3, 1) := by decide +kernel
theorem d_M_same_56 : decode prog_4_method_9_code 56 = .ok (.iconst 1, 1) := by decide +kernel
theorem d_M_same_57 : decode prog_4_method_9_code 57 = .ok (.if_icmp .ne 12, 3) := by decide +kernel
theorem d_M_same_60 : decode prog_4_method_9_code 60 = .ok (.aload_n 0, 1) := by decide +kernel
theorem d_M_same_61 : decode prog_4_method_9_code 61 = .ok (.bipush 16, 2) := by decide +kernel
theorem d_M_same_63 : decode prog_4_method_9_code 63 = .ok (.invokevirtual 48, 3) := by decide +kernel
theorem d_M_same_66 : decode prog_4_method_9_code 66 = .ok (.goto 5, 3) := by decide +kernel
theorem d_M_same_69 : decode prog_4_method_9_code 69 = .ok (.bipush 8, 2) := by decide +kernel
theorem d_M_same_71 : decode prog_4_method_9_code 71 = .ok (.putfield 52, 3) := by decide +kernel
theorem d_M_same_74 : decode prog_4_method_9_code 74 = .ok (.iconst 0, 1) := by decide +kernel
theorem d_M_same_75 : decode prog_4_method_9_code 75 = .ok (.istore 8, 2) := by decide +kernel
theorem d_M_same_77 : decode prog_4_method_9_code 77 = .ok (.iload 8, 2) := by decide +kernel
theorem d_M_same_79 : decode prog_4_method_9_code 79 = .ok (.iload 4, 2) := by decide +kernel
theorem d_M_same_81 : decode prog_4_method_9_code 81 = .ok (.iconst 2, 1) := by decide +kernel
theorem d_M_same_82 : decode prog_4_method_9_code 82 = .ok (.iadd, 1) := by decide +kernel
theorem d_M_same_83 : decode prog_4_method_9_code 83 = .ok (.if_icmp .ge 220, 3) := by decide +kernel
theorem d_M_same_86 : decode prog_4_method_9_code 86 = .ok (.bipush 62, 2) := by decide +kernel
theorem d_M_same_88 : decode prog_4_method_9_code 88 = .ok (.iload 8, 2) := by decide +kernel
theorem d_M_same_90 : decode prog_4_method_9_code 90 = .ok (.iadd, 1) := by decide +kernel
theorem d_M_same_91 : decode prog_4_method_9_code 91 = .ok (.istore 9, 2) := by decide +kernel
theorem d_M_same_93 : decode prog_4_method_9_code 93 = .ok (.iload 8, 2) := by decide +kernel
theorem d_M_same_95 : decode prog_4_method_9_code 95 = .ok (.iconst 2, 1) := by decide +kernel
theorem d_M_same_96 : decode prog_4_method_9_code 96 = .ok (.if_icmp .ge 8, 3) := by decide +kernel
theorem d_M_same_99 : decode prog_4_method_9_code 99 = .ok (.iload 8, 2) := by decide +kernel
theorem d_M_same_101 : decode prog_4_method_9_code 101 = .ok (.goto 20, 3) := by decide +kernel
theorem d_M_same_104 : decode prog_4_method_9_code 104 = .ok (.aload_n 0, 1) := by decide +kernel
theorem d_M_same_105 : decode prog_4_method_9_code 105 = .ok (.iconst 4, 1) := by decide +kernel
theorem d_M_same_106 : decode prog_4_method_9_code 106 = .ok (.invokevirtual 48, 3) := by decide +kernel
theorem d_M_same_109 : decode prog_4_method_9_code 109 = .ok (.iconst 3, 1) := by decide +kernel
theorem d_M_same_110 : decode prog_4_method_9_code 110 = .ok (.if_icmp .ne 7, 3) := by decide +kernel
theorem d_M_same_113 : decode prog_4_method_9_code 113 = .ok (.iconst 0, 1) := by decide +kernel
theorem d_M_same_114 : decode prog_4_method_9_code 114 = .ok (.goto 7, 3) := by decide +kernel
theorem d_M_same_117 : decode prog_4_method_9_code 117 = .ok (.iload_n 3, 1) := by decide +kernel
theorem d_M_same_118 : decode prog_4_method_9_code 118 = .ok (.invokestatic 57, 3) := by decide +kernel
theorem d_M_same_121 : decode prog_4_method_9_code 121 = .ok (.istore 10, 2) := by decide +kernel
theorem d_M_same_123 : decode prog_4_method_9_code 123 = .ok (.iload 7, 2) := by decide +kernel
theorem d_M_same_125 : decode prog_4_method_9_code 125 = .ok (.ifCond .eq 19, 3) := by decide +kernel
theorem d_M_same_128 : decode prog_4_method_9_code 128 = .ok (.iload 10, 2) := by decide +kernel
theorem d_M_same_130 : decode prog_4_method_9_code 130 = .ok (.aload_n 0, 1) := by decide +kernel
theorem d_M_same_131 : decode prog_4_method_9_code 131 = .ok (.getfield 13, 3) := by decide +kernel
theorem d_M_same_134 : decode prog_4_method_9_code 134 = .ok (.iload 9, 2) := by decide +kernel
theorem d_M_same_136 : decode prog_4_method_9_code 136 = .ok (.iaload, 1) := by decide +kernel
theorem d_M_same_137 : decode prog_4_method_9_code 137 = .ok (.if_icmp .ne 7, 3) := by decide +kernel
theorem d_M_same_140 : decode prog_4_method_9_code 140 = .ok (.iconst 1, 1) := by decide +kernel
theorem d_M_same_141 : decode prog_4_method_9_code 141 = .ok (.goto 4, 3) := by decide +kernel
theorem d_M_same_144 : decode prog_4_method_9_code 144 = .ok (.iconst 0, 1) := by decide +kernel
theorem d_M_same_145 : decode prog_4_method_9_code 145 = .ok (.istore 7, 2) := by decide +kernel
theorem d_M_same_147 : decode prog_4_method_9_code 147 = .ok (.aload_n 0, 1) := by decide +kernel
theorem d_M_same_148 : decode prog_4_method_9_code 148 = .ok (.sipush 1000, 3) := by decide +kernel
theorem d_M_same_151 : decode prog_4_method_9_code 151 = .ok (.invokevirtual 48, 3) := by decide +kernel
theorem d_M_same_154 : decode prog_4_method_9_code 154 = .ok (.aload_n 0, 1) := by decide +kernel
theorem d_M_same_155 : decode prog_4_method_9_code 155 = .ok (.getfield 17, 3) := by decide +kernel
theorem d_M_same_158 : decode prog_4_method_9_code 158 = .ok (.iload 9, 2) := by decide +kernel
theorem d_M_same_160 : decode prog_4_method_9_code 160 = .ok (.iaload, 1) := by decide +kernel
theorem d_M_same_161 : decode prog_4_method_9_code 161 = .ok (.if_icmp .ne 12, 3) := by decide +kernel
theorem d_M_same_164 : decode prog_4_method_9_code 164 = .ok (.iload 7, 2) := by decide +kernel
theorem d_M_same_166 : decode prog_4_method_9_code 166 = .ok (.ifCond .eq 7, 3) := by decide +kernel
theorem d_M_same_169 : decode prog_4_method_9_code 169 = .ok (.iconst 1, 1) := by decide +kernel
theorem d_M_same_170 : decode prog_4_method_9_code 170 = .ok (.goto 4, 3) := by decide +kernel
theorem d_M_same_173 : decode prog_4_method_9_code 173 = .ok (.iconst 0, 1) := by decide +kernel
theorem d_M_same_174 : decode prog_4_method_9_code 174 = .ok (.istore 7, 2) := by decide +kernel
theorem d_M_same_176 : decode prog_4_method_9_code 176 = .ok (.aload_n 0, 1) := by decide +kernel
theorem d_M_same_177 : decode prog_4_method_9_code 177 = .ok (.iload 10, 2) := by decide +kernel
theorem d_M_same_179 : decode prog_4_method_9_code 179 = .ok (.invokevirtual 60, 3) := by decide +kernel
theorem d_M_same_182 : decode prog_4_method_9_code 182 = .ok (.aload_n 0, 1) := by decide +kernel
theorem d_M_same_183 : decode prog_4_method_9_code 183 = .ok (.getfield 20, 3) := by decide +kernel
theorem d_M_same_186 : decode prog_4_method_9_code 186 = .ok (.iload 9, 2) := by decide +kernel
theorem d_M_same_188 : decode prog_4_method_9_code 188 = .ok (.iaload, 1) := by decide +kernel
theorem d_M_same_189 : decode prog_4_method_9_code 189 = .ok (.if_icmp .ne 12, 3) := by decide +kernel
theorem d_M_same_192 : decode prog_4_method_9_code 192 = .ok (.iload 7, 2) := by decide +kernel
theorem d_M_same_194 : decode prog_4_method_9_code 194 = .ok (.ifCond .eq 7, 3) := by decide +kernel
theorem d_M_same_197 : decode prog_4_method_9_code 197 = .ok (.iconst 1, 1) := by decide +kernel
theorem d_M_same_198 : decode prog_4_method_9_code 198 = .ok (.goto 4, 3) := by decide +kernel
theorem d_M_same_201 : decode prog_4_method_9_code 201 = .ok (.iconst 0, 1) := by decide +kernel
theorem d_M_same_202 : decode prog_4_method_9_code 202 = .ok (.istore 7, 2) := by decide +kernel
theorem d_M_same_204 : decode prog_4_method_9_code 204 = .ok (.iconst 1, 1) := by decide +kernel
theorem d_M_same_205 : decode prog_4_method_9_code 205 = .ok (.aload_n 0, 1) := by decide +kernel
theorem d_M_same_206 : decode prog_4_method_9_code 206 = .ok (.bipush 8, 2) := by decide +kernel
theorem d_M_same_208 : decode prog_4_method_9_code 208 = .ok (.invokevirtual 48, 3) := by decide +kernel
theorem d_M_same_211 : decode prog_4_method_9_code 211 = .ok (.ishl, 1) := by decide +kernel
theorem d_M_same_212 : decode prog_4_method_9_code 212 = .ok (.aload_n 0, 1) := by decide +kernel
theorem d_M_same_213 : decode prog_4_method_9_code 213 = .ok (.getfield 26, 3) := by decide +kernel
theorem d_M_same_216 : decode prog_4_method_9_code 216 = .ok (.iload 9, 2) := by decide +kernel
theorem d_M_same_218 : decode prog_4_method_9_code 218 = .ok (.iaload, 1) := by decide +kernel
theorem d_M_same_219 : decode prog_4_method_9_code 219 = .ok (.if_icmp .ne 12, 3) := by decide +kernel
theorem d_M_same_222 : decode prog_4_method_9_code 222 = .ok (.iload 7, 2) := by decide +kernel
theorem d_M_same_224 : decode prog_4_method_9_code 224 = .ok (.ifCond .eq 7, 3) := by decide +kernel
theorem d_M_same_227 : decode prog_4_method_9_code 227 = .ok (.iconst 1, 1) := by decide +kernel
theorem d_M_same_228 : decode prog_4_method_9_code 228 = .ok (.goto 4, 3) := by decide +kernel
theorem d_M_same_231 : decode prog_4_method_9_code 231 = .ok (.iconst 0, 1) := by decide +kernel
theorem d_M_same_232 : decode prog_4_method_9_code 232 = .ok (.istore 7, 2) := by decide +kernel
theorem d_M_same_234 : decode prog_4_method_9_code 234 = .ok (.iload 8, 2) := by decide +kernel
theorem d_M_same_236 : decode prog_4_method_9_code 236 = .ok (.iconst 2, 1) := by decide +kernel
theorem d_M_same_237 : decode prog_4_method_9_code 237 = .ok (.if_icmp .ge 10, 3) := by decide +kernel
theorem d_M_same_240 : decode prog_4_method_9_code 240 = .ok (.iconst 1, 1) := by decide +kernel
theorem d_M_same_241 : decode prog_4_method_9_code 241 = .ok (.iload 8, 2) := by decide +kernel
theorem d_M_same_243 : decode prog_4_method_9_code 243 = .ok (.isub, 1) := by decide +kernel
theorem d_M_same_244 : decode prog_4_method_9_code 244 = .ok (.goto 11, 3) := by decide +kernel
theorem d_M_same_247 : decode prog_4_method_9_code 247 = .ok (.aload_n 0, 1) := by decide +kernel
theorem d_M_same_248 : decode prog_4_method_9_code 248 = .ok (.iload 8, 2) := by decide +kernel
theorem d_M_same_250 : decode prog_4_method_9_code 250 = .ok (.iconst 1, 1) := by decide +kernel
theorem d_M_same_251 : decode prog_4_method_9_code 251 = .ok (.iadd, 1) := by decide +kernel
theorem d_M_same_252 : decode prog_4_method_9_code 252 = .ok (.invokevirtual 48, 3) := by decide +kernel
theorem d_M_same_255 : decode prog_4_method_9_code 255 = .ok (.istore 11, 2) := by decide +kernel
theorem d_M_same_257 : decode prog_4_method_9_code 257 = .ok (.iload 7, 2) := by decide +kernel
theorem d_M_same_259 : decode prog_4_method_9_code 259 = .ok (.ifCond .eq 35, 3) := by decide +kernel
theorem d_M_same_262 : decode prog_4_method_9_code 262 = .ok (.iload 11, 2) := by decide +kernel
theorem d_M_same_264 : decode prog_4_method_9_code 264 = .ok (.iload 8, 2) := by decide +kernel
theorem d_M_same_266 : decode prog_4_method_9_code 266 = .ok (.if_icmp .eq 8, 3) := by decide +kernel
theorem d_M_same_269 : decode prog_4_method_9_code 269 = .ok (.iload 8, 2) := by decide +kernel
theorem d_M_same_271 : decode prog_4_method_9_code 271 = .ok (.ifCond .ne 7, 3) := by decide +kernel
theorem d_M_same_274 : decode prog_4_method_9_code 274 = .ok (.iconst (-1), 1) := by decide +kernel
theorem d_M_same_275 : decode prog_4_method_9_code 275 = .ok (.goto 5, 3) := by decide +kernel
theorem d_M_same_278 : decode prog_4_method_9_code 278 = .ok (.iload 11, 2) := by decide +kernel
theorem d_M_same_280 : decode prog_4_method_9_code 280 = .ok (.aload_n 0, 1) := by decide +kernel
theorem d_M_same_281 : decode prog_4_method_9_code 281 = .ok (.getfield 23, 3) := by decide +kernel
theorem d_M_same_284 : decode prog_4_method_9_code 284 = .ok (.iload 9, 2) := by decide +kernel
theorem d_M_same_286 : decode prog_4_method_9_code 286 = .ok (.iaload, 1) := by decide +kernel
theorem d_M_same_287 : decode prog_4_method_9_code 287 = .ok (.if_icmp .ne 7, 3) := by decide +kernel
theorem d_M_same_290 : decode prog_4_method_9_code 290 = .ok (.iconst 1, 1) := by decide +kernel
theorem d_M_same_291 : decode prog_4_method_9_code 291 = .ok (.goto 4, 3) := by decide +kernel
theorem d_M_same_294 : decode prog_4_method_9_code 294 = .ok (.iconst 0, 1) := by decide +kernel
theorem d_M_same_295 : decode prog_4_method_9_code 295 = .ok (.istore 7, 2) := by decide +kernel
theorem d_M_same_297 : decode prog_4_method_9_code 297 = .ok (.iinc 8 1, 3) := by decide +kernel
theorem d_M_same_300 : decode prog_4_method_9_code 300 = .ok (.goto (-223), 3) := by decide +kernel
theorem d_M_same_303 : decode prog_4_method_9_code 303 = .ok (.aload_n 0, 1) := by decide +kernel
theorem d_M_same_304 : decode prog_4_method_9_code 304 = .ok (.lload 5, 2) := by decide +kernel
theorem d_M_same_306 : decode prog_4_method_9_code 306 = .ok (.putfield 41, 3) := by decide +kernel
theorem d_M_same_309 : decode prog_4_method_9_code 309 = .ok (.iload 7, 2) := by decide +kernel
theorem d_M_same_311 : decode prog_4_method_9_code 311 = .ok (.ireturn, 1) := by decide +kernel
theorem d_M_verdict_0 : decode prog_4_method_10_code 0 = .ok (.aload_n 0, 1) := by decide +kernel
theorem d_M_verdict_1 : decode prog_4_method_10_code 1 = .ok (.iconst 0, 1) := by decide +kernel
theorem d_M_verdict_2 : decode prog_4_method_10_code 2 = .ok (.putfield 37, 3) := by decide +kernel
theorem d_M_verdict_5 : decode prog_4_method_10_code 5 = .ok (.aload_n 0, 1) := by decide +kernel
theorem d_M_verdict_6 : decode prog_4_method_10_code 6 = .ok (.iload_n 1, 1) := by decide +kernel
theorem d_M_verdict_7 : decode prog_4_method_10_code 7 = .ok (.sipush 255, 3) := by decide +kernel
theorem d_M_verdict_10 : decode prog_4_method_10_code 10 = .ok (.iand, 1) := by decide +kernel
theorem d_M_verdict_11 : decode prog_4_method_10_code 11 = .ok (.putfield 74, 3) := by decide +kernel
theorem d_M_verdict_14 : decode prog_4_method_10_code 14 = .ok (.aload_n 0, 1) := by decide +kernel
theorem d_M_verdict_15 : decode prog_4_method_10_code 15 = .ok (.iload_n 2, 1) := by decide +kernel
theorem d_M_verdict_16 : decode prog_4_method_10_code 16 = .ok (.putfield 7, 3) := by decide +kernel
theorem d_M_verdict_19 : decode prog_4_method_10_code 19 = .ok (.return_, 1) := by decide +kernel
theorem d_M_shorter_0 : decode prog_4_method_14_code 0 = .ok (.aload_n 0, 1) := by decide +kernel
theorem d_M_shorter_1 : decode prog_4_method_14_code 1 = .ok (.iconst 0, 1) := by decide +kernel
theorem d_M_shorter_2 : decode prog_4_method_14_code 2 = .ok (.putfield 37, 3) := by decide +kernel
theorem d_M_shorter_5 : decode prog_4_method_14_code 5 = .ok (.aload_n 0, 1) := by decide +kernel
theorem d_M_shorter_6 : decode prog_4_method_14_code 6 = .ok (.iconst (-1), 1) := by decide +kernel
theorem d_M_shorter_7 : decode prog_4_method_14_code 7 = .ok (.invokevirtual 77, 3) := by decide +kernel
theorem d_M_shorter_10 : decode prog_4_method_14_code 10 = .ok (.istore_n 1, 1) := by decide +kernel
theorem d_M_shorter_11 : decode prog_4_method_14_code 11 = .ok (.iload_n 1, 1) := by decide +kernel
theorem d_M_shorter_12 : decode prog_4_method_14_code 12 = .ok (.ifCond .ne 26, 3) := by decide +kernel
theorem d_M_shorter_15 : decode prog_4_method_14_code 15 = .ok (.iconst 0, 1) := by decide +kernel
theorem d_M_shorter_16 : decode prog_4_method_14_code 16 = .ok (.istore_n 2, 1) := by decide +kernel
theorem d_M_shorter_17 : decode prog_4_method_14_code 17 = .ok (.iload_n 2, 1) := by decide +kernel
theorem d_M_shorter_18 : decode prog_4_method_14_code 18 = .ok (.aload_n 0, 1) := by decide +kernel
theorem d_M_shorter_19 : decode prog_4_method_14_code 19 = .ok (.getfield 71, 3) := by decide +kernel
theorem d_M_shorter_22 : decode prog_4_method_14_code 22 = .ok (.if_icmp .ge 16, 3) := by decide +kernel
theorem d_M_shorter_25 : decode prog_4_method_14_code 25 = .ok (.aload_n 0, 1) := by decide +kernel
theorem d_M_shorter_26 : decode prog_4_method_14_code 26 = .ok (.getfield 29, 3) := by decide +kernel
theorem d_M_shorter_29 : decode prog_4_method_14_code 29 = .ok (.iload_n 2, 1) := by decide +kernel
theorem d_M_shorter_30 : decode prog_4_method_14_code 30 = .ok (.iconst 1, 1) := by decide +kernel
theorem d_M_shorter_31 : decode prog_4_method_14_code 31 = .ok (.bastore, 1) := by decide +kernel
theorem d_M_shorter_32 : decode prog_4_method_14_code 32 = .ok (.iinc 2 1, 3) := by decide +kernel
theorem d_M_shorter_35 : decode prog_4_method_14_code 35 = .ok (.goto (-18), 3) := by decide +kernel
theorem d_M_shorter_38 : decode prog_4_method_14_code 38 = .ok (.iload_n 1, 1) := by decide +kernel
theorem d_M_shorter_39 : decode prog_4_method_14_code 39 = .ok (.ifCond .eq 45, 3) := by decide +kernel
theorem d_M_shorter_42 : decode prog_4_method_14_code 42 = .ok (.iconst 0, 1) := by decide +kernel
theorem d_M_shorter_43 : decode prog_4_method_14_code 43 = .ok (.istore_n 1, 1) := by decide +kernel
theorem d_M_shorter_44 : decode prog_4_method_14_code 44 = .ok (.aload_n 0, 1) := by decide +kernel
theorem d_M_shorter_45 : decode prog_4_method_14_code 45 = .ok (.getfield 71, 3) := by decide +kernel
theorem d_M_shorter_48 : decode prog_4_method_14_code 48 = .ok (.iconst 1, 1) := by decide +kernel
theorem d_M_shorter_49 : decode prog_4_method_14_code 49 = .ok (.isub, 1) := by decide +kernel
theorem d_M_shorter_50 : decode prog_4_method_14_code 50 = .ok (.istore_n 2, 1) := by decide +kernel
theorem d_M_shorter_51 : decode prog_4_method_14_code 51 = .ok (.iload_n 2, 1) := by decide +kernel
theorem d_M_shorter_52 : decode prog_4_method_14_code 52 = .ok (.ifCond .lt 29, 3) := by decide +kernel
theorem d_M_shorter_55 : decode prog_4_method_14_code 55 = .ok (.aload_n 0, 1) := by decide +kernel
theorem d_M_shorter_56 : decode prog_4_method_14_code 56 = .ok (.iload_n 2, 1) := by decide +kernel
theorem d_M_shorter_57 : decode prog_4_method_14_code 57 = .ok (.invokevirtual 81, 3) := by decide +kernel
theorem d_M_shorter_60 : decode prog_4_method_14_code 60 = .ok (.ifCond .ne 6, 3) := by decide +kernel
theorem d_M_shorter_63 : decode prog_4_method_14_code 63 = .ok (.goto 12, 3) := by decide +kernel
theorem d_M_shorter_66 : decode prog_4_method_14_code 66 = .ok (.aload_n 0, 1) := by decide +kernel
theorem d_M_shorter_67 : decode prog_4_method_14_code 67 = .ok (.getfield 29, 3) := by decide +kernel
theorem d_M_shorter_70 : decode prog_4_method_14_code 70 = .ok (.iload_n 2, 1) := by decide +kernel
theorem d_M_shorter_71 : decode prog_4_method_14_code 71 = .ok (.iconst 0, 1) := by decide +kernel
theorem d_M_shorter_72 : decode prog_4_method_14_code 72 = .ok (.bastore, 1) := by decide +kernel
theorem d_M_shorter_73 : decode prog_4_method_14_code 73 = .ok (.iconst 1, 1) := by decide +kernel
theorem d_M_shorter_74 : decode prog_4_method_14_code 74 = .ok (.istore_n 1, 1) := by decide +kernel
theorem d_M_shorter_75 : decode prog_4_method_14_code 75 = .ok (.iinc 2 (-1), 3) := by decide +kernel
theorem d_M_shorter_78 : decode prog_4_method_14_code 78 = .ok (.goto (-27), 3) := by decide +kernel
theorem d_M_shorter_81 : decode prog_4_method_14_code 81 = .ok (.goto (-43), 3) := by decide +kernel
theorem d_M_shorter_84 : decode prog_4_method_14_code 84 = .ok (.aload_n 0, 1) := by decide +kernel
theorem d_M_shorter_85 : decode prog_4_method_14_code 85 = .ok (.invokevirtual 84, 3) := by decide +kernel
theorem d_M_shorter_88 : decode prog_4_method_14_code 88 = .ok (.ireturn, 1) := by decide +kernel
theorem d_M_holds_0 : decode prog_4_method_11_code 0 = .ok (.iconst 0, 1) := by decide +kernel
theorem d_M_holds_1 : decode prog_4_method_11_code 1 = .ok (.istore_n 2, 1) := by decide +kernel
theorem d_M_holds_2 : decode prog_4_method_11_code 2 = .ok (.iconst 0, 1) := by decide +kernel
theorem d_M_holds_3 : decode prog_4_method_11_code 3 = .ok (.istore_n 3, 1) := by decide +kernel
theorem d_M_holds_4 : decode prog_4_method_11_code 4 = .ok (.iload_n 3, 1) := by decide +kernel
theorem d_M_holds_5 : decode prog_4_method_11_code 5 = .ok (.aload_n 0, 1) := by decide +kernel
theorem d_M_holds_6 : decode prog_4_method_11_code 6 = .ok (.getfield 71, 3) := by decide +kernel
theorem d_M_holds_9 : decode prog_4_method_11_code 9 = .ok (.if_icmp .ge 36, 3) := by decide +kernel
theorem d_M_holds_12 : decode prog_4_method_11_code 12 = .ok (.iload_n 2, 1) := by decide +kernel
theorem d_M_holds_13 : decode prog_4_method_11_code 13 = .ok (.aload_n 0, 1) := by decide +kernel
theorem d_M_holds_14 : decode prog_4_method_11_code 14 = .ok (.getfield 29, 3) := by decide +kernel
theorem d_M_holds_17 : decode prog_4_method_11_code 17 = .ok (.iload_n 3, 1) := by decide +kernel
theorem d_M_holds_18 : decode prog_4_method_11_code 18 = .ok (.baload, 1) := by decide +kernel
theorem d_M_holds_19 : decode prog_4_method_11_code 19 = .ok (.ifCond .eq 17, 3) := by decide +kernel
theorem d_M_holds_22 : decode prog_4_method_11_code 22 = .ok (.iload_n 3, 1) := by decide +kernel
theorem d_M_holds_23 : decode prog_4_method_11_code 23 = .ok (.iload_n 1, 1) := by decide +kernel
theorem d_M_holds_24 : decode prog_4_method_11_code 24 = .ok (.if_icmp .eq 12, 3) := by decide +kernel
theorem d_M_holds_27 : decode prog_4_method_11_code 27 = .ok (.aload_n 0, 1) := by decide +kernel
theorem d_M_holds_28 : decode prog_4_method_11_code 28 = .ok (.getfield 26, 3) := by decide +kernel
theorem d_M_holds_31 : decode prog_4_method_11_code 31 = .ok (.iload_n 3, 1) := by decide +kernel
theorem d_M_holds_32 : decode prog_4_method_11_code 32 = .ok (.iaload, 1) := by decide +kernel
theorem d_M_holds_33 : decode prog_4_method_11_code 33 = .ok (.goto 4, 3) := by decide +kernel
theorem d_M_holds_36 : decode prog_4_method_11_code 36 = .ok (.iconst 0, 1) := by decide +kernel
theorem d_M_holds_37 : decode prog_4_method_11_code 37 = .ok (.ior, 1) := by decide +kernel
theorem d_M_holds_38 : decode prog_4_method_11_code 38 = .ok (.istore_n 2, 1) := by decide +kernel
theorem d_M_holds_39 : decode prog_4_method_11_code 39 = .ok (.iinc 3 1, 3) := by decide +kernel
theorem d_M_holds_42 : decode prog_4_method_11_code 42 = .ok (.goto (-38), 3) := by decide +kernel
theorem d_M_holds_45 : decode prog_4_method_11_code 45 = .ok (.aload_n 0, 1) := by decide +kernel
theorem d_M_holds_46 : decode prog_4_method_11_code 46 = .ok (.getfield 74, 3) := by decide +kernel
theorem d_M_holds_49 : decode prog_4_method_11_code 49 = .ok (.iload_n 2, 1) := by decide +kernel
theorem d_M_holds_50 : decode prog_4_method_11_code 50 = .ok (.iconst (-1), 1) := by decide +kernel
theorem d_M_holds_51 : decode prog_4_method_11_code 51 = .ok (.ixor, 1) := by decide +kernel
theorem d_M_holds_52 : decode prog_4_method_11_code 52 = .ok (.iand, 1) := by decide +kernel
theorem d_M_holds_53 : decode prog_4_method_11_code 53 = .ok (.ifCond .ne 7, 3) := by decide +kernel
theorem d_M_holds_56 : decode prog_4_method_11_code 56 = .ok (.iconst 1, 1) := by decide +kernel
theorem d_M_holds_57 : decode prog_4_method_11_code 57 = .ok (.goto 4, 3) := by decide +kernel
theorem d_M_holds_60 : decode prog_4_method_11_code 60 = .ok (.iconst 0, 1) := by decide +kernel
theorem d_M_holds_61 : decode prog_4_method_11_code 61 = .ok (.aload_n 0, 1) := by decide +kernel
theorem d_M_holds_62 : decode prog_4_method_11_code 62 = .ok (.getfield 7, 3) := by decide +kernel
theorem d_M_holds_65 : decode prog_4_method_11_code 65 = .ok (.if_icmp .ne 7, 3) := by decide +kernel
theorem d_M_holds_68 : decode prog_4_method_11_code 68 = .ok (.iconst 1, 1) := by decide +kernel
theorem d_M_holds_69 : decode prog_4_method_11_code 69 = .ok (.goto 4, 3) := by decide +kernel
theorem d_M_holds_72 : decode prog_4_method_11_code 72 = .ok (.iconst 0, 1) := by decide +kernel
theorem d_M_holds_73 : decode prog_4_method_11_code 73 = .ok (.ireturn, 1) := by decide +kernel
theorem d_M_canGo_0 : decode prog_4_method_12_code 0 = .ok (.aload_n 0, 1) := by decide +kernel
theorem d_M_canGo_1 : decode prog_4_method_12_code 1 = .ok (.getfield 29, 3) := by decide +kernel
theorem d_M_canGo_4 : decode prog_4_method_12_code 4 = .ok (.iload_n 1, 1) := by decide +kernel
theorem d_M_canGo_5 : decode prog_4_method_12_code 5 = .ok (.baload, 1) := by decide +kernel
theorem d_M_canGo_6 : decode prog_4_method_12_code 6 = .ok (.ifCond .ne 5, 3) := by decide +kernel
theorem d_M_canGo_9 : decode prog_4_method_12_code 9 = .ok (.iconst 0, 1) := by decide +kernel
theorem d_M_canGo_10 : decode prog_4_method_12_code 10 = .ok (.ireturn, 1) := by decide +kernel
theorem d_M_canGo_11 : decode prog_4_method_12_code 11 = .ok (.iconst 0, 1) := by decide +kernel
theorem d_M_canGo_12 : decode prog_4_method_12_code 12 = .ok (.istore_n 2, 1) := by decide +kernel
theorem d_M_canGo_13 : decode prog_4_method_12_code 13 = .ok (.iload_n 2, 1) := by decide +kernel
theorem d_M_canGo_14 : decode prog_4_method_12_code 14 = .ok (.aload_n 0, 1) := by decide +kernel
theorem d_M_canGo_15 : decode prog_4_method_12_code 15 = .ok (.getfield 71, 3) := by decide +kernel
theorem d_M_canGo_18 : decode prog_4_method_12_code 18 = .ok (.if_icmp .ge 35, 3) := by decide +kernel
theorem d_M_canGo_21 : decode prog_4_method_12_code 21 = .ok (.iload_n 2, 1) := by decide +kernel
theorem d_M_canGo_22 : decode prog_4_method_12_code 22 = .ok (.iload_n 1, 1) := by decide +kernel
theorem d_M_canGo_23 : decode prog_4_method_12_code 23 = .ok (.if_icmp .eq 24, 3) := by decide +kernel
theorem d_M_canGo_26 : decode prog_4_method_12_code 26 = .ok (.aload_n 0, 1) := by decide +kernel
theorem d_M_canGo_27 : decode prog_4_method_12_code 27 = .ok (.getfield 29, 3) := by decide +kernel
theorem d_M_canGo_30 : decode prog_4_method_12_code 30 = .ok (.iload_n 2, 1) := by decide +kernel
theorem d_M_canGo_31 : decode prog_4_method_12_code 31 = .ok (.baload, 1) := by decide +kernel
theorem d_M_canGo_32 : decode prog_4_method_12_code 32 = .ok (.ifCond .eq 15, 3) := by decide +kernel
theorem d_M_canGo_35 : decode prog_4_method_12_code 35 = .ok (.aload_n 0, 1) := by decide +kernel
theorem d_M_canGo_36 : decode prog_4_method_12_code 36 = .ok (.getfield 23, 3) := by decide +kernel
theorem d_M_canGo_39 : decode prog_4_method_12_code 39 = .ok (.iload_n 2, 1) := by decide +kernel
theorem d_M_canGo_40 : decode prog_4_method_12_code 40 = .ok (.iaload, 1) := by decide +kernel
theorem d_M_canGo_41 : decode prog_4_method_12_code 41 = .ok (.iload_n 1, 1) := by decide +kernel
theorem d_M_canGo_42 : decode prog_4_method_12_code 42 = .ok (.if_icmp .ne 5, 3) := by decide +kernel
theorem d_M_canGo_45 : decode prog_4_method_12_code 45 = .ok (.iconst 0, 1) := by decide +kernel
theorem d_M_canGo_46 : decode prog_4_method_12_code 46 = .ok (.ireturn, 1) := by decide +kernel
theorem d_M_canGo_47 : decode prog_4_method_12_code 47 = .ok (.iinc 2 1, 3) := by decide +kernel
theorem d_M_canGo_50 : decode prog_4_method_12_code 50 = .ok (.goto (-37), 3) := by decide +kernel
theorem d_M_canGo_53 : decode prog_4_method_12_code 53 = .ok (.aload_n 0, 1) := by decide +kernel
theorem d_M_canGo_54 : decode prog_4_method_12_code 54 = .ok (.iload_n 1, 1) := by decide +kernel
theorem d_M_canGo_55 : decode prog_4_method_12_code 55 = .ok (.invokevirtual 77, 3) := by decide +kernel
theorem d_M_canGo_58 : decode prog_4_method_12_code 58 = .ok (.ireturn, 1) := by decide +kernel
theorem d_M_count_0 : decode prog_4_method_13_code 0 = .ok (.iconst 0, 1) := by decide +kernel
theorem d_M_count_1 : decode prog_4_method_13_code 1 = .ok (.istore_n 1, 1) := by decide +kernel
theorem d_M_count_2 : decode prog_4_method_13_code 2 = .ok (.iconst 0, 1) := by decide +kernel
theorem d_M_count_3 : decode prog_4_method_13_code 3 = .ok (.istore_n 2, 1) := by decide +kernel
theorem d_M_count_4 : decode prog_4_method_13_code 4 = .ok (.iload_n 2, 1) := by decide +kernel
theorem d_M_count_5 : decode prog_4_method_13_code 5 = .ok (.aload_n 0, 1) := by decide +kernel
theorem d_M_count_6 : decode prog_4_method_13_code 6 = .ok (.getfield 71, 3) := by decide +kernel
theorem d_M_count_9 : decode prog_4_method_13_code 9 = .ok (.if_icmp .ge 26, 3) := by decide +kernel
theorem d_M_count_12 : decode prog_4_method_13_code 12 = .ok (.iload_n 1, 1) := by decide +kernel
theorem d_M_count_13 : decode prog_4_method_13_code 13 = .ok (.aload_n 0, 1) := by decide +kernel
theorem d_M_count_14 : decode prog_4_method_13_code 14 = .ok (.getfield 29, 3) := by decide +kernel
theorem d_M_count_17 : decode prog_4_method_13_code 17 = .ok (.iload_n 2, 1) := by decide +kernel
theorem d_M_count_18 : decode prog_4_method_13_code 18 = .ok (.baload, 1) := by decide +kernel
theorem d_M_count_19 : decode prog_4_method_13_code 19 = .ok (.ifCond .eq 7, 3) := by decide +kernel
theorem d_M_count_22 : decode prog_4_method_13_code 22 = .ok (.iconst 1, 1) := by decide +kernel
theorem d_M_count_23 : decode prog_4_method_13_code 23 = .ok (.goto 4, 3) := by decide +kernel
theorem d_M_count_26 : decode prog_4_method_13_code 26 = .ok (.iconst 0, 1) := by decide +kernel
theorem d_M_count_27 : decode prog_4_method_13_code 27 = .ok (.iadd, 1) := by decide +kernel
theorem d_M_count_28 : decode prog_4_method_13_code 28 = .ok (.istore_n 1, 1) := by decide +kernel
theorem d_M_count_29 : decode prog_4_method_13_code 29 = .ok (.iinc 2 1, 3) := by decide +kernel
theorem d_M_count_32 : decode prog_4_method_13_code 32 = .ok (.goto (-28), 3) := by decide +kernel
theorem d_M_count_35 : decode prog_4_method_13_code 35 = .ok (.iload_n 1, 1) := by decide +kernel
theorem d_M_count_36 : decode prog_4_method_13_code 36 = .ok (.ireturn, 1) := by decide +kernel
theorem d_M_minimal_0 : decode prog_4_method_15_code 0 = .ok (.aload_n 0, 1) := by decide +kernel
theorem d_M_minimal_1 : decode prog_4_method_15_code 1 = .ok (.iconst 0, 1) := by decide +kernel
theorem d_M_minimal_2 : decode prog_4_method_15_code 2 = .ok (.putfield 37, 3) := by decide +kernel
theorem d_M_minimal_5 : decode prog_4_method_15_code 5 = .ok (.iconst 1, 1) := by decide +kernel
theorem d_M_minimal_6 : decode prog_4_method_15_code 6 = .ok (.istore_n 1, 1) := by decide +kernel
theorem d_M_minimal_7 : decode prog_4_method_15_code 7 = .ok (.iconst 0, 1) := by decide +kernel
theorem d_M_minimal_8 : decode prog_4_method_15_code 8 = .ok (.istore_n 2, 1) := by decide +kernel
theorem d_M_minimal_9 : decode prog_4_method_15_code 9 = .ok (.iload_n 2, 1) := by decide +kernel
theorem d_M_minimal_10 : decode prog_4_method_15_code 10 = .ok (.aload_n 0, 1) := by decide +kernel
theorem d_M_minimal_11 : decode prog_4_method_15_code 11 = .ok (.getfield 71, 3) := by decide +kernel
theorem d_M_minimal_14 : decode prog_4_method_15_code 14 = .ok (.if_icmp .ge 27, 3) := by decide +kernel
theorem d_M_minimal_17 : decode prog_4_method_15_code 17 = .ok (.iload_n 1, 1) := by decide +kernel
theorem d_M_minimal_18 : decode prog_4_method_15_code 18 = .ok (.ifCond .eq 15, 3) := by decide +kernel
theorem d_M_minimal_21 : decode prog_4_method_15_code 21 = .ok (.aload_n 0, 1) := by decide +kernel
theorem d_M_minimal_22 : decode prog_4_method_15_code 22 = .ok (.iload_n 2, 1) := by decide +kernel
theorem d_M_minimal_23 : decode prog_4_method_15_code 23 = .ok (.invokevirtual 81, 3) := by decide +kernel
theorem d_M_minimal_26 : decode prog_4_method_15_code 26 = .ok (.ifCond .ne 7, 3) := by decide +kernel
theorem d_M_minimal_29 : decode prog_4_method_15_code 29 = .ok (.iconst 1, 1) := by decide +kernel
theorem d_M_minimal_30 : decode prog_4_method_15_code 30 = .ok (.goto 4, 3) := by decide +kernel
theorem d_M_minimal_33 : decode prog_4_method_15_code 33 = .ok (.iconst 0, 1) := by decide +kernel
theorem d_M_minimal_34 : decode prog_4_method_15_code 34 = .ok (.istore_n 1, 1) := by decide +kernel
theorem d_M_minimal_35 : decode prog_4_method_15_code 35 = .ok (.iinc 2 1, 3) := by decide +kernel
theorem d_M_minimal_38 : decode prog_4_method_15_code 38 = .ok (.goto (-29), 3) := by decide +kernel
theorem d_M_minimal_41 : decode prog_4_method_15_code 41 = .ok (.iload_n 1, 1) := by decide +kernel
theorem d_M_minimal_42 : decode prog_4_method_15_code 42 = .ok (.ireturn, 1) := by decide +kernel
theorem d_M_left_0 : decode prog_4_method_16_code 0 = .ok (.aload_n 0, 1) := by decide +kernel
theorem d_M_left_1 : decode prog_4_method_16_code 1 = .ok (.iconst 0, 1) := by decide +kernel
theorem d_M_left_2 : decode prog_4_method_16_code 2 = .ok (.putfield 37, 3) := by decide +kernel
theorem d_M_left_5 : decode prog_4_method_16_code 5 = .ok (.iload_n 1, 1) := by decide +kernel
theorem d_M_left_6 : decode prog_4_method_16_code 6 = .ok (.istore_n 2, 1) := by decide +kernel
theorem d_M_left_7 : decode prog_4_method_16_code 7 = .ok (.iconst 0, 1) := by decide +kernel
theorem d_M_left_8 : decode prog_4_method_16_code 8 = .ok (.istore_n 3, 1) := by decide +kernel
theorem d_M_left_9 : decode prog_4_method_16_code 9 = .ok (.iload_n 3, 1) := by decide +kernel
theorem d_M_left_10 : decode prog_4_method_16_code 10 = .ok (.aload_n 0, 1) := by decide +kernel
theorem d_M_left_11 : decode prog_4_method_16_code 11 = .ok (.getfield 71, 3) := by decide +kernel
theorem d_M_left_14 : decode prog_4_method_16_code 14 = .ok (.if_icmp .ge 34, 3) := by decide +kernel
theorem d_M_left_17 : decode prog_4_method_16_code 17 = .ok (.iload_n 1, 1) := by decide +kernel
theorem d_M_left_18 : decode prog_4_method_16_code 18 = .ok (.ifCond .lt 30, 3) := by decide +kernel
theorem d_M_left_21 : decode prog_4_method_16_code 21 = .ok (.aload_n 0, 1) := by decide +kernel
theorem d_M_left_22 : decode prog_4_method_16_code 22 = .ok (.getfield 29, 3) := by decide +kernel
theorem d_M_left_25 : decode prog_4_method_16_code 25 = .ok (.iload_n 3, 1) := by decide +kernel
theorem d_M_left_26 : decode prog_4_method_16_code 26 = .ok (.baload, 1) := by decide +kernel
theorem d_M_left_27 : decode prog_4_method_16_code 27 = .ok (.ifCond .ne 6, 3) := by decide +kernel
theorem d_M_left_30 : decode prog_4_method_16_code 30 = .ok (.goto 12, 3) := by decide +kernel
theorem d_M_left_33 : decode prog_4_method_16_code 33 = .ok (.iload_n 2, 1) := by decide +kernel
theorem d_M_left_34 : decode prog_4_method_16_code 34 = .ok (.ifCond .ne 5, 3) := by decide +kernel
theorem d_M_left_37 : decode prog_4_method_16_code 37 = .ok (.iload_n 3, 1) := by decide +kernel
theorem d_M_left_38 : decode prog_4_method_16_code 38 = .ok (.ireturn, 1) := by decide +kernel
theorem d_M_left_39 : decode prog_4_method_16_code 39 = .ok (.iinc 2 (-1), 3) := by decide +kernel
theorem d_M_left_42 : decode prog_4_method_16_code 42 = .ok (.iinc 3 1, 3) := by decide +kernel
theorem d_M_left_45 : decode prog_4_method_16_code 45 = .ok (.goto (-36), 3) := by decide +kernel
theorem d_M_left_48 : decode prog_4_method_16_code 48 = .ok (.iconst (-1), 1) := by decide +kernel
theorem d_M_left_49 : decode prog_4_method_16_code 49 = .ok (.ireturn, 1) := by decide +kernel
theorem d_M_part_0 : decode prog_4_method_17_code 0 = .ok (.aload_n 0, 1) := by decide +kernel
theorem d_M_part_1 : decode prog_4_method_17_code 1 = .ok (.iconst 0, 1) := by decide +kernel
theorem d_M_part_2 : decode prog_4_method_17_code 2 = .ok (.putfield 37, 3) := by decide +kernel
theorem d_M_part_5 : decode prog_4_method_17_code 5 = .ok (.iload_n 1, 1) := by decide +kernel
theorem d_M_part_6 : decode prog_4_method_17_code 6 = .ok (.ifCond .lt 11, 3) := by decide +kernel
theorem d_M_part_9 : decode prog_4_method_17_code 9 = .ok (.iload_n 1, 1) := by decide +kernel
theorem d_M_part_10 : decode prog_4_method_17_code 10 = .ok (.aload_n 0, 1) := by decide +kernel
theorem d_M_part_11 : decode prog_4_method_17_code 11 = .ok (.getfield 71, 3) := by decide +kernel
theorem d_M_part_14 : decode prog_4_method_17_code 14 = .ok (.if_icmp .lt 7, 3) := by decide +kernel
theorem d_M_part_17 : decode prog_4_method_17_code 17 = .ok (.ldc2_w 88, 3) := by decide +kernel
theorem d_M_part_20 : decode prog_4_method_17_code 20 = .ok (.lreturn, 1) := by decide +kernel
theorem d_M_part_21 : decode prog_4_method_17_code 21 = .ok (.iload_n 2, 1) := by decide +kernel
theorem d_M_part_22 : decode prog_4_method_17_code 22 = .ok (.tableswitch 102 0 6 #[42, 50, 58, 66, 74, 82, 97], 42) := by decide +kernel
theorem d_M_part_64 : decode prog_4_method_17_code 64 = .ok (.aload_n 0, 1) := by decide +kernel
theorem d_M_part_65 : decode prog_4_method_17_code 65 = .ok (.getfield 13, 3) := by decide +kernel
theorem d_M_part_68 : decode prog_4_method_17_code 68 = .ok (.iload_n 1, 1) := by decide +kernel
theorem d_M_part_69 : decode prog_4_method_17_code 69 = .ok (.iaload, 1) := by decide +kernel
theorem d_M_part_70 : decode prog_4_method_17_code 70 = .ok (.i2l, 1) := by decide +kernel
theorem d_M_part_71 : decode prog_4_method_17_code 71 = .ok (.lreturn, 1) := by decide +kernel
theorem d_M_part_72 : decode prog_4_method_17_code 72 = .ok (.aload_n 0, 1) := by decide +kernel
theorem d_M_part_73 : decode prog_4_method_17_code 73 = .ok (.getfield 17, 3) := by decide +kernel
theorem d_M_part_76 : decode prog_4_method_17_code 76 = .ok (.iload_n 1, 1) := by decide +kernel
theorem d_M_part_77 : decode prog_4_method_17_code 77 = .ok (.iaload, 1) := by decide +kernel
theorem d_M_part_78 : decode prog_4_method_17_code 78 = .ok (.i2l, 1) := by decide +kernel
theorem d_M_part_79 : decode prog_4_method_17_code 79 = .ok (.lreturn, 1) := by decide +kernel
theorem d_M_part_80 : decode prog_4_method_17_code 80 = .ok (.aload_n 0, 1) := by decide +kernel
theorem d_M_part_81 : decode prog_4_method_17_code 81 = .ok (.getfield 20, 3) := by decide +kernel
theorem d_M_part_84 : decode prog_4_method_17_code 84 = .ok (.iload_n 1, 1) := by decide +kernel
theorem d_M_part_85 : decode prog_4_method_17_code 85 = .ok (.iaload, 1) := by decide +kernel
theorem d_M_part_86 : decode prog_4_method_17_code 86 = .ok (.i2l, 1) := by decide +kernel
theorem d_M_part_87 : decode prog_4_method_17_code 87 = .ok (.lreturn, 1) := by decide +kernel
theorem d_M_part_88 : decode prog_4_method_17_code 88 = .ok (.aload_n 0, 1) := by decide +kernel
theorem d_M_part_89 : decode prog_4_method_17_code 89 = .ok (.getfield 23, 3) := by decide +kernel
theorem d_M_part_92 : decode prog_4_method_17_code 92 = .ok (.iload_n 1, 1) := by decide +kernel
theorem d_M_part_93 : decode prog_4_method_17_code 93 = .ok (.iaload, 1) := by decide +kernel
theorem d_M_part_94 : decode prog_4_method_17_code 94 = .ok (.i2l, 1) := by decide +kernel
theorem d_M_part_95 : decode prog_4_method_17_code 95 = .ok (.lreturn, 1) := by decide +kernel
theorem d_M_part_96 : decode prog_4_method_17_code 96 = .ok (.aload_n 0, 1) := by decide +kernel
theorem d_M_part_97 : decode prog_4_method_17_code 97 = .ok (.getfield 26, 3) := by decide +kernel
theorem d_M_part_100 : decode prog_4_method_17_code 100 = .ok (.iload_n 1, 1) := by decide +kernel
theorem d_M_part_101 : decode prog_4_method_17_code 101 = .ok (.iaload, 1) := by decide +kernel
theorem d_M_part_102 : decode prog_4_method_17_code 102 = .ok (.i2l, 1) := by decide +kernel
theorem d_M_part_103 : decode prog_4_method_17_code 103 = .ok (.lreturn, 1) := by decide +kernel
theorem d_M_part_104 : decode prog_4_method_17_code 104 = .ok (.aload_n 0, 1) := by decide +kernel
theorem d_M_part_105 : decode prog_4_method_17_code 105 = .ok (.getfield 29, 3) := by decide +kernel
theorem d_M_part_108 : decode prog_4_method_17_code 108 = .ok (.iload_n 1, 1) := by decide +kernel
theorem d_M_part_109 : decode prog_4_method_17_code 109 = .ok (.baload, 1) := by decide +kernel
theorem d_M_part_110 : decode prog_4_method_17_code 110 = .ok (.ifCond .eq 7, 3) := by decide +kernel
theorem d_M_part_113 : decode prog_4_method_17_code 113 = .ok (.lconst 1, 1) := by decide +kernel
theorem d_M_part_114 : decode prog_4_method_17_code 114 = .ok (.goto 4, 3) := by decide +kernel
theorem d_M_part_117 : decode prog_4_method_17_code 117 = .ok (.lconst 0, 1) := by decide +kernel
theorem d_M_part_118 : decode prog_4_method_17_code 118 = .ok (.lreturn, 1) := by decide +kernel
theorem d_M_part_119 : decode prog_4_method_17_code 119 = .ok (.aload_n 0, 1) := by decide +kernel
theorem d_M_part_120 : decode prog_4_method_17_code 120 = .ok (.invokevirtual 90, 3) := by decide +kernel
theorem d_M_part_123 : decode prog_4_method_17_code 123 = .ok (.lreturn, 1) := by decide +kernel
theorem d_M_part_124 : decode prog_4_method_17_code 124 = .ok (.ldc2_w 94, 3) := by decide +kernel
theorem d_M_part_127 : decode prog_4_method_17_code 127 = .ok (.lreturn, 1) := by decide +kernel
theorem d_M_shared_0 : decode prog_4_method_18_code 0 = .ok (.sipush 255, 3) := by decide +kernel
theorem d_M_shared_3 : decode prog_4_method_18_code 3 = .ok (.istore_n 1, 1) := by decide +kernel
theorem d_M_shared_4 : decode prog_4_method_18_code 4 = .ok (.iconst 0, 1) := by decide +kernel
theorem d_M_shared_5 : decode prog_4_method_18_code 5 = .ok (.istore_n 2, 1) := by decide +kernel
theorem d_M_shared_6 : decode prog_4_method_18_code 6 = .ok (.iload_n 2, 1) := by decide +kernel
theorem d_M_shared_7 : decode prog_4_method_18_code 7 = .ok (.aload_n 0, 1) := by decide +kernel
theorem d_M_shared_8 : decode prog_4_method_18_code 8 = .ok (.getfield 71, 3) := by decide +kernel
theorem d_M_shared_11 : decode prog_4_method_18_code 11 = .ok (.if_icmp .ge 37, 3) := by decide +kernel
theorem d_M_shared_14 : decode prog_4_method_18_code 14 = .ok (.aload_n 0, 1) := by decide +kernel
theorem d_M_shared_15 : decode prog_4_method_18_code 15 = .ok (.getfield 29, 3) := by decide +kernel
theorem d_M_shared_18 : decode prog_4_method_18_code 18 = .ok (.iload_n 2, 1) := by decide +kernel
theorem d_M_shared_19 : decode prog_4_method_18_code 19 = .ok (.baload, 1) := by decide +kernel
theorem d_M_shared_20 : decode prog_4_method_18_code 20 = .ok (.ifCond .eq 22, 3) := by decide +kernel
theorem d_M_shared_23 : decode prog_4_method_18_code 23 = .ok (.aload_n 0, 1) := by decide +kernel
theorem d_M_shared_24 : decode prog_4_method_18_code 24 = .ok (.getfield 13, 3) := by decide +kernel
theorem d_M_shared_27 : decode prog_4_method_18_code 27 = .ok (.iload_n 2, 1) := by decide +kernel
theorem d_M_shared_28 : decode prog_4_method_18_code 28 = .ok (.iaload, 1) := by decide +kernel
theorem d_M_shared_29 : decode prog_4_method_18_code 29 = .ok (.iconst 2, 1) := by decide +kernel
theorem d_M_shared_30 : decode prog_4_method_18_code 30 = .ok (.if_icmp .ne 12, 3) := by decide +kernel
theorem d_M_shared_33 : decode prog_4_method_18_code 33 = .ok (.iload_n 1, 1) := by decide +kernel
theorem d_M_shared_34 : decode prog_4_method_18_code 34 = .ok (.aload_n 0, 1) := by decide +kernel
theorem d_M_shared_35 : decode prog_4_method_18_code 35 = .ok (.getfield 20, 3) := by decide +kernel
theorem d_M_shared_38 : decode prog_4_method_18_code 38 = .ok (.iload_n 2, 1) := by decide +kernel
theorem d_M_shared_39 : decode prog_4_method_18_code 39 = .ok (.iaload, 1) := by decide +kernel
theorem d_M_shared_40 : decode prog_4_method_18_code 40 = .ok (.iand, 1) := by decide +kernel
theorem d_M_shared_41 : decode prog_4_method_18_code 41 = .ok (.istore_n 1, 1) := by decide +kernel
theorem d_M_shared_42 : decode prog_4_method_18_code 42 = .ok (.iinc 2 1, 3) := by decide +kernel
theorem d_M_shared_45 : decode prog_4_method_18_code 45 = .ok (.goto (-39), 3) := by decide +kernel
theorem d_M_shared_48 : decode prog_4_method_18_code 48 = .ok (.iconst 0, 1) := by decide +kernel
theorem d_M_shared_49 : decode prog_4_method_18_code 49 = .ok (.istore_n 2, 1) := by decide +kernel
theorem d_M_shared_50 : decode prog_4_method_18_code 50 = .ok (.iconst 0, 1) := by decide +kernel
theorem d_M_shared_51 : decode prog_4_method_18_code 51 = .ok (.istore_n 3, 1) := by decide +kernel
theorem d_M_shared_52 : decode prog_4_method_18_code 52 = .ok (.iload_n 3, 1) := by decide +kernel
theorem d_M_shared_53 : decode prog_4_method_18_code 53 = .ok (.bipush 8, 2) := by decide +kernel
theorem d_M_shared_55 : decode prog_4_method_18_code 55 = .ok (.if_icmp .ge 17, 3) := by decide +kernel
theorem d_M_shared_58 : decode prog_4_method_18_code 58 = .ok (.iload_n 2, 1) := by decide +kernel
theorem d_M_shared_59 : decode prog_4_method_18_code 59 = .ok (.iload_n 1, 1) := by decide +kernel
theorem d_M_shared_60 : decode prog_4_method_18_code 60 = .ok (.iload_n 3, 1) := by decide +kernel
theorem d_M_shared_61 : decode prog_4_method_18_code 61 = .ok (.ishr, 1) := by decide +kernel
theorem d_M_shared_62 : decode prog_4_method_18_code 62 = .ok (.iconst 1, 1) := by decide +kernel
theorem d_M_shared_63 : decode prog_4_method_18_code 63 = .ok (.iand, 1) := by decide +kernel
theorem d_M_shared_64 : decode prog_4_method_18_code 64 = .ok (.iadd, 1) := by decide +kernel
theorem d_M_shared_65 : decode prog_4_method_18_code 65 = .ok (.istore_n 2, 1) := by decide +kernel
theorem d_M_shared_66 : decode prog_4_method_18_code 66 = .ok (.iinc 3 1, 3) := by decide +kernel
theorem d_M_shared_69 : decode prog_4_method_18_code 69 = .ok (.goto (-17), 3) := by decide +kernel
theorem d_M_shared_72 : decode prog_4_method_18_code 72 = .ok (.iload_n 2, 1) := by decide +kernel
theorem d_M_shared_73 : decode prog_4_method_18_code 73 = .ok (.i2l, 1) := by decide +kernel
theorem d_M_shared_74 : decode prog_4_method_18_code 74 = .ok (.lreturn, 1) := by decide +kernel
theorem d_M_letter_0 : decode prog_4_method_22_code 0 = .ok (.aload_n 0, 1) := by decide +kernel
theorem d_M_letter_1 : decode prog_4_method_22_code 1 = .ok (.iconst 0, 1) := by decide +kernel
theorem d_M_letter_2 : decode prog_4_method_22_code 2 = .ok (.putfield 37, 3) := by decide +kernel
theorem d_M_letter_5 : decode prog_4_method_22_code 5 = .ok (.aload_n 0, 1) := by decide +kernel
theorem d_M_letter_6 : decode prog_4_method_22_code 6 = .ok (.iload_n 1, 1) := by decide +kernel
theorem d_M_letter_7 : decode prog_4_method_22_code 7 = .ok (.putfield 99, 3) := by decide +kernel
theorem d_M_letter_10 : decode prog_4_method_22_code 10 = .ok (.aload_n 0, 1) := by decide +kernel
theorem d_M_letter_11 : decode prog_4_method_22_code 11 = .ok (.iconst (-1), 1) := by decide +kernel
theorem d_M_letter_12 : decode prog_4_method_22_code 12 = .ok (.putfield 102, 3) := by decide +kernel
theorem d_M_letter_15 : decode prog_4_method_22_code 15 = .ok (.aload_n 0, 1) := by decide +kernel
theorem d_M_letter_16 : decode prog_4_method_22_code 16 = .ok (.iconst 0, 1) := by decide +kernel
theorem d_M_letter_17 : decode prog_4_method_22_code 17 = .ok (.putfield 96, 3) := by decide +kernel
theorem d_M_letter_20 : decode prog_4_method_22_code 20 = .ok (.iconst 0, 1) := by decide +kernel
theorem d_M_letter_21 : decode prog_4_method_22_code 21 = .ok (.istore_n 2, 1) := by decide +kernel
theorem d_M_letter_22 : decode prog_4_method_22_code 22 = .ok (.iload_n 2, 1) := by decide +kernel
theorem d_M_letter_23 : decode prog_4_method_22_code 23 = .ok (.aload_n 0, 1) := by decide +kernel
theorem d_M_letter_24 : decode prog_4_method_22_code 24 = .ok (.getfield 71, 3) := by decide +kernel
theorem d_M_letter_27 : decode prog_4_method_22_code 27 = .ok (.if_icmp .ge 109, 3) := by decide +kernel
theorem d_M_letter_30 : decode prog_4_method_22_code 30 = .ok (.aload_n 0, 1) := by decide +kernel
theorem d_M_letter_31 : decode prog_4_method_22_code 31 = .ok (.getfield 29, 3) := by decide +kernel
theorem d_M_letter_34 : decode prog_4_method_22_code 34 = .ok (.iload_n 2, 1) := by decide +kernel
theorem d_M_letter_35 : decode prog_4_method_22_code 35 = .ok (.baload, 1) := by decide +kernel
theorem d_M_letter_36 : decode prog_4_method_22_code 36 = .ok (.ifCond .ne 6, 3) := by decide +kernel
theorem d_M_letter_39 : decode prog_4_method_22_code 39 = .ok (.goto 91, 3) := by decide +kernel
theorem d_M_letter_42 : decode prog_4_method_22_code 42 = .ok (.aload_n 0, 1) := by decide +kernel
theorem d_M_letter_43 : decode prog_4_method_22_code 43 = .ok (.aload_n 0, 1) := by decide +kernel
theorem d_M_letter_44 : decode prog_4_method_22_code 44 = .ok (.getfield 13, 3) := by decide +kernel
theorem d_M_letter_47 : decode prog_4_method_22_code 47 = .ok (.iload_n 2, 1) := by decide +kernel
theorem d_M_letter_48 : decode prog_4_method_22_code 48 = .ok (.iaload, 1) := by decide +kernel
theorem d_M_letter_49 : decode prog_4_method_22_code 49 = .ok (.invokestatic 109, 3) := by decide +kernel
theorem d_M_letter_52 : decode prog_4_method_22_code 52 = .ok (.invokevirtual 105, 3) := by decide +kernel
theorem d_M_letter_55 : decode prog_4_method_22_code 55 = .ok (.aload_n 0, 1) := by decide +kernel
theorem d_M_letter_56 : decode prog_4_method_22_code 56 = .ok (.iload_n 2, 1) := by decide +kernel
theorem d_M_letter_57 : decode prog_4_method_22_code 57 = .ok (.invokevirtual 112, 3) := by decide +kernel
theorem d_M_letter_60 : decode prog_4_method_22_code 60 = .ok (.aload_n 0, 1) := by decide +kernel
theorem d_M_letter_61 : decode prog_4_method_22_code 61 = .ok (.bipush 40, 2) := by decide +kernel
theorem d_M_letter_63 : decode prog_4_method_22_code 63 = .ok (.invokevirtual 105, 3) := by decide +kernel
theorem d_M_letter_66 : decode prog_4_method_22_code 66 = .ok (.aload_n 0, 1) := by decide +kernel
theorem d_M_letter_67 : decode prog_4_method_22_code 67 = .ok (.aload_n 0, 1) := by decide +kernel
theorem d_M_letter_68 : decode prog_4_method_22_code 68 = .ok (.getfield 17, 3) := by decide +kernel
theorem d_M_letter_71 : decode prog_4_method_22_code 71 = .ok (.iload_n 2, 1) := by decide +kernel
theorem d_M_letter_72 : decode prog_4_method_22_code 72 = .ok (.iaload, 1) := by decide +kernel
theorem d_M_letter_73 : decode prog_4_method_22_code 73 = .ok (.invokevirtual 112, 3) := by decide +kernel
theorem d_M_letter_76 : decode prog_4_method_22_code 76 = .ok (.aload_n 0, 1) := by decide +kernel
theorem d_M_letter_77 : decode prog_4_method_22_code 77 = .ok (.bipush 44, 2) := by decide +kernel
theorem d_M_letter_79 : decode prog_4_method_22_code 79 = .ok (.invokevirtual 105, 3) := by decide +kernel
theorem d_M_letter_82 : decode prog_4_method_22_code 82 = .ok (.aload_n 0, 1) := by decide +kernel
theorem d_M_letter_83 : decode prog_4_method_22_code 83 = .ok (.aload_n 0, 1) := by decide +kernel
theorem d_M_letter_84 : decode prog_4_method_22_code 84 = .ok (.getfield 20, 3) := by decide +kernel
theorem d_M_letter_87 : decode prog_4_method_22_code 87 = .ok (.iload_n 2, 1) := by decide +kernel
theorem d_M_letter_88 : decode prog_4_method_22_code 88 = .ok (.iaload, 1) := by decide +kernel
theorem d_M_letter_89 : decode prog_4_method_22_code 89 = .ok (.invokevirtual 112, 3) := by decide +kernel
theorem d_M_letter_92 : decode prog_4_method_22_code 92 = .ok (.aload_n 0, 1) := by decide +kernel
theorem d_M_letter_93 : decode prog_4_method_22_code 93 = .ok (.bipush 41, 2) := by decide +kernel
theorem d_M_letter_95 : decode prog_4_method_22_code 95 = .ok (.invokevirtual 105, 3) := by decide +kernel
theorem d_M_letter_98 : decode prog_4_method_22_code 98 = .ok (.aload_n 0, 1) := by decide +kernel
theorem d_M_letter_99 : decode prog_4_method_22_code 99 = .ok (.getfield 23, 3) := by decide +kernel
theorem d_M_letter_102 : decode prog_4_method_22_code 102 = .ok (.iload_n 2, 1) := by decide +kernel
theorem d_M_letter_103 : decode prog_4_method_22_code 103 = .ok (.iaload, 1) := by decide +kernel
theorem d_M_letter_104 : decode prog_4_method_22_code 104 = .ok (.iconst (-1), 1) := by decide +kernel
theorem d_M_letter_105 : decode prog_4_method_22_code 105 = .ok (.if_icmp .eq 19, 3) := by decide +kernel
theorem d_M_letter_108 : decode prog_4_method_22_code 108 = .ok (.aload_n 0, 1) := by decide +kernel
theorem d_M_letter_109 : decode prog_4_method_22_code 109 = .ok (.bipush 60, 2) := by decide +kernel
theorem d_M_letter_111 : decode prog_4_method_22_code 111 = .ok (.invokevirtual 105, 3) := by decide +kernel
theorem d_M_letter_114 : decode prog_4_method_22_code 114 = .ok (.aload_n 0, 1) := by decide +kernel
theorem d_M_letter_115 : decode prog_4_method_22_code 115 = .ok (.aload_n 0, 1) := by decide +kernel
theorem d_M_letter_116 : decode prog_4_method_22_code 116 = .ok (.getfield 23, 3) := by decide +kernel
theorem d_M_letter_119 : decode prog_4_method_22_code 119 = .ok (.iload_n 2, 1) := by decide +kernel
theorem d_M_letter_120 : decode prog_4_method_22_code 120 = .ok (.iaload, 1) := by decide +kernel
theorem d_M_letter_121 : decode prog_4_method_22_code 121 = .ok (.invokevirtual 112, 3) := by decide +kernel
theorem d_M_letter_124 : decode prog_4_method_22_code 124 = .ok (.aload_n 0, 1) := by decide +kernel
theorem d_M_letter_125 : decode prog_4_method_22_code 125 = .ok (.bipush 59, 2) := by decide +kernel
theorem d_M_letter_127 : decode prog_4_method_22_code 127 = .ok (.invokevirtual 105, 3) := by decide +kernel
theorem d_M_letter_130 : decode prog_4_method_22_code 130 = .ok (.iinc 2 1, 3) := by decide +kernel
theorem d_M_letter_133 : decode prog_4_method_22_code 133 = .ok (.goto (-111), 3) := by decide +kernel
theorem d_M_letter_136 : decode prog_4_method_22_code 136 = .ok (.aload_n 0, 1) := by decide +kernel
theorem d_M_letter_137 : decode prog_4_method_22_code 137 = .ok (.getfield 102, 3) := by decide +kernel
theorem d_M_letter_140 : decode prog_4_method_22_code 140 = .ok (.ireturn, 1) := by decide +kernel
theorem d_M_letterOf_0 : decode prog_4_method_21_code 0 = .ok (.iload_n 0, 1) := by decide +kernel
theorem d_M_letterOf_1 : decode prog_4_method_21_code 1 = .ok (.tableswitch 64 0 6 #[43, 46, 49, 52, 55, 58, 61], 43) := by decide +kernel
theorem d_M_letterOf_44 : decode prog_4_method_21_code 44 = .ok (.bipush 70, 2) := by decide +kernel
theorem d_M_letterOf_46 : decode prog_4_method_21_code 46 = .ok (.ireturn, 1) := by decide +kernel
theorem d_M_letterOf_47 : decode prog_4_method_21_code 47 = .ok (.bipush 84, 2) := by decide +kernel
theorem d_M_letterOf_49 : decode prog_4_method_21_code 49 = .ok (.ireturn, 1) := by decide +kernel
theorem d_M_letterOf_50 : decode prog_4_method_21_code 50 = .ok (.bipush 80, 2) := by decide +kernel
theorem d_M_letterOf_52 : decode prog_4_method_21_code 52 = .ok (.ireturn, 1) := by decide +kernel
theorem d_M_letterOf_53 : decode prog_4_method_21_code 53 = .ok (.bipush 82, 2) := by decide +kernel
theorem d_M_letterOf_55 : decode prog_4_method_21_code 55 = .ok (.ireturn, 1) := by decide +kernel
theorem d_M_letterOf_56 : decode prog_4_method_21_code 56 = .ok (.bipush 83, 2) := by decide +kernel
theorem d_M_letterOf_58 : decode prog_4_method_21_code 58 = .ok (.ireturn, 1) := by decide +kernel
theorem d_M_letterOf_59 : decode prog_4_method_21_code 59 = .ok (.bipush 67, 2) := by decide +kernel
theorem d_M_letterOf_61 : decode prog_4_method_21_code 61 = .ok (.ireturn, 1) := by decide +kernel
theorem d_M_letterOf_62 : decode prog_4_method_21_code 62 = .ok (.bipush 76, 2) := by decide +kernel
theorem d_M_letterOf_64 : decode prog_4_method_21_code 64 = .ok (.ireturn, 1) := by decide +kernel
theorem d_M_letterOf_65 : decode prog_4_method_21_code 65 = .ok (.bipush 86, 2) := by decide +kernel
theorem d_M_letterOf_67 : decode prog_4_method_21_code 67 = .ok (.ireturn, 1) := by decide +kernel
theorem d_M_say_0 : decode prog_4_method_19_code 0 = .ok (.aload_n 0, 1) := by decide +kernel
theorem d_M_say_1 : decode prog_4_method_19_code 1 = .ok (.getfield 96, 3) := by decide +kernel
theorem d_M_say_4 : decode prog_4_method_19_code 4 = .ok (.aload_n 0, 1) := by decide +kernel
theorem d_M_say_5 : decode prog_4_method_19_code 5 = .ok (.getfield 99, 3) := by decide +kernel
theorem d_M_say_8 : decode prog_4_method_19_code 8 = .ok (.if_icmp .ne 8, 3) := by decide +kernel
theorem d_M_say_11 : decode prog_4_method_19_code 11 = .ok (.aload_n 0, 1) := by decide +kernel
theorem d_M_say_12 : decode prog_4_method_19_code 12 = .ok (.iload_n 1, 1) := by decide +kernel
theorem d_M_say_13 : decode prog_4_method_19_code 13 = .ok (.putfield 102, 3) := by decide +kernel
theorem d_M_say_16 : decode prog_4_method_19_code 16 = .ok (.aload_n 0, 1) := by decide +kernel
theorem d_M_say_17 : decode prog_4_method_19_code 17 = .ok (.dup, 1) := by decide +kernel
theorem d_M_say_18 : decode prog_4_method_19_code 18 = .ok (.getfield 96, 3) := by decide +kernel
theorem d_M_say_21 : decode prog_4_method_19_code 21 = .ok (.iconst 1, 1) := by decide +kernel
theorem d_M_say_22 : decode prog_4_method_19_code 22 = .ok (.iadd, 1) := by decide +kernel
theorem d_M_say_23 : decode prog_4_method_19_code 23 = .ok (.putfield 96, 3) := by decide +kernel
theorem d_M_say_26 : decode prog_4_method_19_code 26 = .ok (.return_, 1) := by decide +kernel
theorem d_M_sayNumber_0 : decode prog_4_method_20_code 0 = .ok (.iconst 1, 1) := by decide +kernel
theorem d_M_sayNumber_1 : decode prog_4_method_20_code 1 = .ok (.istore_n 2, 1) := by decide +kernel
theorem d_M_sayNumber_2 : decode prog_4_method_20_code 2 = .ok (.iload_n 1, 1) := by decide +kernel
theorem d_M_sayNumber_3 : decode prog_4_method_20_code 3 = .ok (.iload_n 2, 1) := by decide +kernel
theorem d_M_sayNumber_4 : decode prog_4_method_20_code 4 = .ok (.idiv, 1) := by decide +kernel
theorem d_M_sayNumber_5 : decode prog_4_method_20_code 5 = .ok (.bipush 9, 2) := by decide +kernel
theorem d_M_sayNumber_7 : decode prog_4_method_20_code 7 = .ok (.if_icmp .le 11, 3) := by decide +kernel
theorem d_M_sayNumber_10 : decode prog_4_method_20_code 10 = .ok (.iload_n 2, 1) := by decide +kernel
theorem d_M_sayNumber_11 : decode prog_4_method_20_code 11 = .ok (.bipush 10, 2) := by decide +kernel
theorem d_M_sayNumber_13 : decode prog_4_method_20_code 13 = .ok (.imul, 1) := by decide +kernel
theorem d_M_sayNumber_14 : decode prog_4_method_20_code 14 = .ok (.istore_n 2, 1) := by decide +kernel
theorem d_M_sayNumber_15 : decode prog_4_method_20_code 15 = .ok (.goto (-13), 3) := by decide +kernel
theorem d_M_sayNumber_18 : decode prog_4_method_20_code 18 = .ok (.iload_n 2, 1) := by decide +kernel
theorem d_M_sayNumber_19 : decode prog_4_method_20_code 19 = .ok (.ifCond .le 24, 3) := by decide +kernel
theorem d_M_sayNumber_22 : decode prog_4_method_20_code 22 = .ok (.aload_n 0, 1) := by decide +kernel
theorem d_M_sayNumber_23 : decode prog_4_method_20_code 23 = .ok (.bipush 48, 2) := by decide +kernel
theorem d_M_sayNumber_25 : decode prog_4_method_20_code 25 = .ok (.iload_n 1, 1) := by decide +kernel
theorem d_M_sayNumber_26 : decode prog_4_method_20_code 26 = .ok (.iload_n 2, 1) := by decide +kernel
theorem d_M_sayNumber_27 : decode prog_4_method_20_code 27 = .ok (.idiv, 1) := by decide +kernel
theorem d_M_sayNumber_28 : decode prog_4_method_20_code 28 = .ok (.bipush 10, 2) := by decide +kernel
theorem d_M_sayNumber_30 : decode prog_4_method_20_code 30 = .ok (.irem, 1) := by decide +kernel
theorem d_M_sayNumber_31 : decode prog_4_method_20_code 31 = .ok (.iadd, 1) := by decide +kernel
theorem d_M_sayNumber_32 : decode prog_4_method_20_code 32 = .ok (.invokevirtual 105, 3) := by decide +kernel
theorem d_M_sayNumber_35 : decode prog_4_method_20_code 35 = .ok (.iload_n 2, 1) := by decide +kernel
theorem d_M_sayNumber_36 : decode prog_4_method_20_code 36 = .ok (.bipush 10, 2) := by decide +kernel
theorem d_M_sayNumber_38 : decode prog_4_method_20_code 38 = .ok (.idiv, 1) := by decide +kernel
theorem d_M_sayNumber_39 : decode prog_4_method_20_code 39 = .ok (.istore_n 2, 1) := by decide +kernel
theorem d_M_sayNumber_40 : decode prog_4_method_20_code 40 = .ok (.goto (-22), 3) := by decide +kernel
theorem d_M_sayNumber_43 : decode prog_4_method_20_code 43 = .ok (.return_, 1) := by decide +kernel
