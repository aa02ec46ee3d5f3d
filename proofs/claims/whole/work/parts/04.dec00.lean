theorem dI_A_fillI_0 : decode bC_A_fillI 0 = .ok (.iconst 0, 1) := by decide +kernel
theorem dI_A_fillI_1 : decode bC_A_fillI 1 = .ok (.istore_n 2, 1) := by decide +kernel
theorem dI_A_fillI_2 : decode bC_A_fillI 2 = .ok (.aload_n 0, 1) := by decide +kernel
theorem dI_A_fillI_3 : decode bC_A_fillI 3 = .ok (.arraylength, 1) := by decide +kernel
theorem dI_A_fillI_4 : decode bC_A_fillI 4 = .ok (.istore_n 3, 1) := by decide +kernel
theorem dI_A_fillI_5 : decode bC_A_fillI 5 = .ok (.iload_n 2, 1) := by decide +kernel
theorem dI_A_fillI_6 : decode bC_A_fillI 6 = .ok (.iload_n 3, 1) := by decide +kernel
theorem dI_A_fillI_7 : decode bC_A_fillI 7 = .ok (.if_icmp .ge 13, 3) := by decide +kernel
theorem dI_A_fillI_10 : decode bC_A_fillI 10 = .ok (.aload_n 0, 1) := by decide +kernel
theorem dI_A_fillI_11 : decode bC_A_fillI 11 = .ok (.iload_n 2, 1) := by decide +kernel
theorem dI_A_fillI_12 : decode bC_A_fillI 12 = .ok (.iload_n 1, 1) := by decide +kernel
theorem dI_A_fillI_13 : decode bC_A_fillI 13 = .ok (.iastore, 1) := by decide +kernel
theorem dI_A_fillI_14 : decode bC_A_fillI 14 = .ok (.iinc 2 1, 3) := by decide +kernel
theorem dI_A_fillI_17 : decode bC_A_fillI 17 = .ok (.goto (-12), 3) := by decide +kernel
theorem dI_A_fillI_20 : decode bC_A_fillI 20 = .ok (.return_, 1) := by decide +kernel
theorem dI_A_fillJ_0 : decode bC_A_fillJ 0 = .ok (.iconst 0, 1) := by decide +kernel
theorem dI_A_fillJ_1 : decode bC_A_fillJ 1 = .ok (.istore_n 3, 1) := by decide +kernel
theorem dI_A_fillJ_2 : decode bC_A_fillJ 2 = .ok (.aload_n 0, 1) := by decide +kernel
theorem dI_A_fillJ_3 : decode bC_A_fillJ 3 = .ok (.arraylength, 1) := by decide +kernel
theorem dI_A_fillJ_4 : decode bC_A_fillJ 4 = .ok (.istore 4, 2) := by decide +kernel
theorem dI_A_fillJ_6 : decode bC_A_fillJ 6 = .ok (.iload_n 3, 1) := by decide +kernel
theorem dI_A_fillJ_7 : decode bC_A_fillJ 7 = .ok (.iload 4, 2) := by decide +kernel
theorem dI_A_fillJ_9 : decode bC_A_fillJ 9 = .ok (.if_icmp .ge 13, 3) := by decide +kernel
theorem dI_A_fillJ_12 : decode bC_A_fillJ 12 = .ok (.aload_n 0, 1) := by decide +kernel
theorem dI_A_fillJ_13 : decode bC_A_fillJ 13 = .ok (.iload_n 3, 1) := by decide +kernel
theorem dI_A_fillJ_14 : decode bC_A_fillJ 14 = .ok (.lload_n 1, 1) := by decide +kernel
theorem dI_A_fillJ_15 : decode bC_A_fillJ 15 = .ok (.lastore, 1) := by decide +kernel
theorem dI_A_fillJ_16 : decode bC_A_fillJ 16 = .ok (.iinc 3 1, 3) := by decide +kernel
theorem dI_A_fillJ_19 : decode bC_A_fillJ 19 = .ok (.goto (-13), 3) := by decide +kernel
theorem dI_A_fillJ_22 : decode bC_A_fillJ 22 = .ok (.return_, 1) := by decide +kernel
theorem dI_L_add_0 : decode bC_L_add 0 = .ok (.aload_n 0, 1) := by decide +kernel
theorem dI_L_add_1 : decode bC_L_add 1 = .ok (.iload_n 1, 1) := by decide +kernel
theorem dI_L_add_2 : decode bC_L_add 2 = .ok (.iload_n 2, 1) := by decide +kernel
theorem dI_L_add_3 : decode bC_L_add 3 = .ok (.iload_n 3, 1) := by decide +kernel
theorem dI_L_add_4 : decode bC_L_add 4 = .ok (.invokevirtual 23, 3) := by decide +kernel
theorem dI_L_add_7 : decode bC_L_add 7 = .ok (.goto 11, 3) := by decide +kernel
theorem dI_L_add_10 : decode bC_L_add 10 = .ok (.astore 4, 2) := by decide +kernel
theorem dI_L_add_12 : decode bC_L_add 12 = .ok (.iconst 1, 1) := by decide +kernel
theorem dI_L_add_13 : decode bC_L_add 13 = .ok (.ireturn, 1) := by decide +kernel
theorem dI_L_add_14 : decode bC_L_add 14 = .ok (.astore 4, 2) := by decide +kernel
theorem dI_L_add_16 : decode bC_L_add 16 = .ok (.iconst 2, 1) := by decide +kernel
theorem dI_L_add_17 : decode bC_L_add 17 = .ok (.ireturn, 1) := by decide +kernel
theorem dI_L_add_18 : decode bC_L_add 18 = .ok (.iconst 0, 1) := by decide +kernel
theorem dI_L_add_19 : decode bC_L_add 19 = .ok (.ireturn, 1) := by decide +kernel
theorem dI_L_append_0 : decode bC_L_append 0 = .ok (.aload_n 0, 1) := by decide +kernel
theorem dI_L_append_1 : decode bC_L_append 1 = .ok (.iload_n 1, 1) := by decide +kernel
theorem dI_L_append_2 : decode bC_L_append 2 = .ok (.iload_n 2, 1) := by decide +kernel
theorem dI_L_append_3 : decode bC_L_append 3 = .ok (.invokevirtual 17, 3) := by decide +kernel
theorem dI_L_append_6 : decode bC_L_append 6 = .ok (.goto 9, 3) := by decide +kernel
theorem dI_L_append_9 : decode bC_L_append 9 = .ok (.astore_n 3, 1) := by decide +kernel
theorem dI_L_append_10 : decode bC_L_append 10 = .ok (.iconst 1, 1) := by decide +kernel
theorem dI_L_append_11 : decode bC_L_append 11 = .ok (.ireturn, 1) := by decide +kernel
theorem dI_L_append_12 : decode bC_L_append 12 = .ok (.astore_n 3, 1) := by decide +kernel
theorem dI_L_append_13 : decode bC_L_append 13 = .ok (.iconst 2, 1) := by decide +kernel
theorem dI_L_append_14 : decode bC_L_append 14 = .ok (.ireturn, 1) := by decide +kernel
theorem dI_L_append_15 : decode bC_L_append 15 = .ok (.iconst 0, 1) := by decide +kernel
theorem dI_L_append_16 : decode bC_L_append 16 = .ok (.ireturn, 1) := by decide +kernel
theorem dI_L_bits_0 : decode bC_L_bits 0 = .ok (.aload_n 2, 1) := by decide +kernel
theorem dI_L_bits_1 : decode bC_L_bits 1 = .ok (.iconst 0, 1) := by decide +kernel
theorem dI_L_bits_2 : decode bC_L_bits 2 = .ok (.aload_n 0, 1) := by decide +kernel
theorem dI_L_bits_3 : decode bC_L_bits 3 = .ok (.iload_n 1, 1) := by decide +kernel
theorem dI_L_bits_4 : decode bC_L_bits 4 = .ok (.invokevirtual 47, 3) := by decide +kernel
theorem dI_L_bits_7 : decode bC_L_bits 7 = .ok (.i2l, 1) := by decide +kernel
theorem dI_L_bits_8 : decode bC_L_bits 8 = .ok (.lastore, 1) := by decide +kernel
theorem dI_L_bits_9 : decode bC_L_bits 9 = .ok (.goto 6, 3) := by decide +kernel
theorem dI_L_bits_12 : decode bC_L_bits 12 = .ok (.astore_n 3, 1) := by decide +kernel
theorem dI_L_bits_13 : decode bC_L_bits 13 = .ok (.iconst 1, 1) := by decide +kernel
theorem dI_L_bits_14 : decode bC_L_bits 14 = .ok (.ireturn, 1) := by decide +kernel
theorem dI_L_bits_15 : decode bC_L_bits 15 = .ok (.iconst 0, 1) := by decide +kernel
theorem dI_L_bits_16 : decode bC_L_bits 16 = .ok (.ireturn, 1) := by decide +kernel
theorem dI_L_compare_0 : decode bC_L_compare 0 = .ok (.aload_n 3, 1) := by decide +kernel
theorem dI_L_compare_1 : decode bC_L_compare 1 = .ok (.iconst 0, 1) := by decide +kernel
theorem dI_L_compare_2 : decode bC_L_compare 2 = .ok (.aload_n 0, 1) := by decide +kernel
theorem dI_L_compare_3 : decode bC_L_compare 3 = .ok (.iload_n 1, 1) := by decide +kernel
theorem dI_L_compare_4 : decode bC_L_compare 4 = .ok (.iload_n 2, 1) := by decide +kernel
theorem dI_L_compare_5 : decode bC_L_compare 5 = .ok (.invokevirtual 43, 3) := by decide +kernel
theorem dI_L_compare_8 : decode bC_L_compare 8 = .ok (.i2l, 1) := by decide +kernel
theorem dI_L_compare_9 : decode bC_L_compare 9 = .ok (.lastore, 1) := by decide +kernel
theorem dI_L_compare_10 : decode bC_L_compare 10 = .ok (.goto 7, 3) := by decide +kernel
theorem dI_L_compare_13 : decode bC_L_compare 13 = .ok (.astore 4, 2) := by decide +kernel
theorem dI_L_compare_15 : decode bC_L_compare 15 = .ok (.iconst 1, 1) := by decide +kernel
theorem dI_L_compare_16 : decode bC_L_compare 16 = .ok (.ireturn, 1) := by decide +kernel
theorem dI_L_compare_17 : decode bC_L_compare 17 = .ok (.iconst 0, 1) := by decide +kernel
theorem dI_L_compare_18 : decode bC_L_compare 18 = .ok (.ireturn, 1) := by decide +kernel
theorem dI_L_congruent_0 : decode bC_L_congruent 0 = .ok (.aload 4, 2) := by decide +kernel
theorem dI_L_congruent_2 : decode bC_L_congruent 2 = .ok (.iconst 0, 1) := by decide +kernel
theorem dI_L_congruent_3 : decode bC_L_congruent 3 = .ok (.aload_n 0, 1) := by decide +kernel
theorem dI_L_congruent_4 : decode bC_L_congruent 4 = .ok (.iload_n 1, 1) := by decide +kernel
theorem dI_L_congruent_5 : decode bC_L_congruent 5 = .ok (.iload_n 2, 1) := by decide +kernel
theorem dI_L_congruent_6 : decode bC_L_congruent 6 = .ok (.iload_n 3, 1) := by decide +kernel
theorem dI_L_congruent_7 : decode bC_L_congruent 7 = .ok (.invokevirtual 66, 3) := by decide +kernel
theorem dI_L_congruent_10 : decode bC_L_congruent 10 = .ok (.ifCond .eq 7, 3) := by decide +kernel
theorem dI_L_congruent_13 : decode bC_L_congruent 13 = .ok (.lconst 1, 1) := by decide +kernel
theorem dI_L_congruent_14 : decode bC_L_congruent 14 = .ok (.goto 4, 3) := by decide +kernel
theorem dI_L_congruent_17 : decode bC_L_congruent 17 = .ok (.lconst 0, 1) := by decide +kernel
theorem dI_L_congruent_18 : decode bC_L_congruent 18 = .ok (.lastore, 1) := by decide +kernel
theorem dI_L_congruent_19 : decode bC_L_congruent 19 = .ok (.goto 15, 3) := by decide +kernel
theorem dI_L_congruent_22 : decode bC_L_congruent 22 = .ok (.astore 5, 2) := by decide +kernel
theorem dI_L_congruent_24 : decode bC_L_congruent 24 = .ok (.iconst 1, 1) := by decide +kernel
theorem dI_L_congruent_25 : decode bC_L_congruent 25 = .ok (.ireturn, 1) := by decide +kernel
theorem dI_L_congruent_26 : decode bC_L_congruent 26 = .ok (.astore 5, 2) := by decide +kernel
theorem dI_L_congruent_28 : decode bC_L_congruent 28 = .ok (.iconst 2, 1) := by decide +kernel
theorem dI_L_congruent_29 : decode bC_L_congruent 29 = .ok (.ireturn, 1) := by decide +kernel
theorem dI_L_congruent_30 : decode bC_L_congruent 30 = .ok (.astore 5, 2) := by decide +kernel
theorem dI_L_congruent_32 : decode bC_L_congruent 32 = .ok (.iconst 3, 1) := by decide +kernel
theorem dI_L_congruent_33 : decode bC_L_congruent 33 = .ok (.ireturn, 1) := by decide +kernel
theorem dI_L_congruent_34 : decode bC_L_congruent 34 = .ok (.iconst 0, 1) := by decide +kernel
theorem dI_L_congruent_35 : decode bC_L_congruent 35 = .ok (.ireturn, 1) := by decide +kernel
theorem dI_L_divide_0 : decode bC_L_divide 0 = .ok (.aload_n 0, 1) := by decide +kernel
theorem dI_L_divide_1 : decode bC_L_divide 1 = .ok (.iload_n 1, 1) := by decide +kernel
theorem dI_L_divide_2 : decode bC_L_divide 2 = .ok (.iload_n 2, 1) := by decide +kernel
theorem dI_L_divide_3 : decode bC_L_divide 3 = .ok (.iload_n 3, 1) := by decide +kernel
theorem dI_L_divide_4 : decode bC_L_divide 4 = .ok (.iload 4, 2) := by decide +kernel
theorem dI_L_divide_6 : decode bC_L_divide 6 = .ok (.invokevirtual 33, 3) := by decide +kernel
theorem dI_L_divide_9 : decode bC_L_divide 9 = .ok (.goto 15, 3) := by decide +kernel
theorem dI_L_divide_12 : decode bC_L_divide 12 = .ok (.astore 5, 2) := by decide +kernel
theorem dI_L_divide_14 : decode bC_L_divide 14 = .ok (.iconst 1, 1) := by decide +kernel
theorem dI_L_divide_15 : decode bC_L_divide 15 = .ok (.ireturn, 1) := by decide +kernel
theorem dI_L_divide_16 : decode bC_L_divide 16 = .ok (.astore 5, 2) := by decide +kernel
theorem dI_L_divide_18 : decode bC_L_divide 18 = .ok (.iconst 2, 1) := by decide +kernel
theorem dI_L_divide_19 : decode bC_L_divide 19 = .ok (.ireturn, 1) := by decide +kernel
theorem dI_L_divide_20 : decode bC_L_divide 20 = .ok (.astore 5, 2) := by decide +kernel
theorem dI_L_divide_22 : decode bC_L_divide 22 = .ok (.iconst 3, 1) := by decide +kernel
theorem dI_L_divide_23 : decode bC_L_divide 23 = .ok (.ireturn, 1) := by decide +kernel
theorem dI_L_divide_24 : decode bC_L_divide 24 = .ok (.iconst 0, 1) := by decide +kernel
theorem dI_L_divide_25 : decode bC_L_divide 25 = .ok (.ireturn, 1) := by decide +kernel
theorem dI_L_gcd_0 : decode bC_L_gcd 0 = .ok (.aload_n 0, 1) := by decide +kernel
theorem dI_L_gcd_1 : decode bC_L_gcd 1 = .ok (.iload_n 1, 1) := by decide +kernel
theorem dI_L_gcd_2 : decode bC_L_gcd 2 = .ok (.iload_n 2, 1) := by decide +kernel
theorem dI_L_gcd_3 : decode bC_L_gcd 3 = .ok (.iload_n 3, 1) := by decide +kernel
theorem dI_L_gcd_4 : decode bC_L_gcd 4 = .ok (.invokevirtual 40, 3) := by decide +kernel
theorem dI_L_gcd_7 : decode bC_L_gcd 7 = .ok (.goto 7, 3) := by decide +kernel
theorem dI_L_gcd_10 : decode bC_L_gcd 10 = .ok (.astore 4, 2) := by decide +kernel
theorem dI_L_gcd_12 : decode bC_L_gcd 12 = .ok (.iconst 1, 1) := by decide +kernel
theorem dI_L_gcd_13 : decode bC_L_gcd 13 = .ok (.ireturn, 1) := by decide +kernel
theorem dI_L_gcd_14 : decode bC_L_gcd 14 = .ok (.iconst 0, 1) := by decide +kernel
theorem dI_L_gcd_15 : decode bC_L_gcd 15 = .ok (.ireturn, 1) := by decide +kernel
theorem dI_L_law_0 : decode bC_L_law 0 = .ok (.new 8, 3) := by decide +kernel
theorem dI_L_law_3 : decode bC_L_law 3 = .ok (.dup, 1) := by decide +kernel
theorem dI_L_law_4 : decode bC_L_law 4 = .ok (.invokespecial 74, 3) := by decide +kernel
theorem dI_L_law_7 : decode bC_L_law 7 = .ok (.astore_n 1, 1) := by decide +kernel
theorem dI_L_law_8 : decode bC_L_law 8 = .ok (.new 75, 3) := by decide +kernel
theorem dI_L_law_11 : decode bC_L_law 11 = .ok (.dup, 1) := by decide +kernel
theorem dI_L_law_12 : decode bC_L_law 12 = .ok (.invokespecial 77, 3) := by decide +kernel
theorem dI_L_law_15 : decode bC_L_law 15 = .ok (.astore_n 2, 1) := by decide +kernel
theorem dI_L_law_16 : decode bC_L_law 16 = .ok (.iconst 1, 1) := by decide +kernel
theorem dI_L_law_17 : decode bC_L_law 17 = .ok (.newarray .long, 2) := by decide +kernel
theorem dI_L_law_19 : decode bC_L_law 19 = .ok (.astore_n 3, 1) := by decide +kernel
theorem dI_L_law_20 : decode bC_L_law 20 = .ok (.iconst 0, 1) := by decide +kernel
theorem dI_L_law_21 : decode bC_L_law 21 = .ok (.istore 4, 2) := by decide +kernel
theorem dI_L_law_23 : decode bC_L_law 23 = .ok (.iload 4, 2) := by decide +kernel
theorem dI_L_law_25 : decode bC_L_law 25 = .ok (.aload_n 0, 1) := by decide +kernel
theorem dI_L_law_26 : decode bC_L_law 26 = .ok (.arraylength, 1) := by decide +kernel
theorem dI_L_law_27 : decode bC_L_law 27 = .ok (.iconst 5, 1) := by decide +kernel
theorem dI_L_law_28 : decode bC_L_law 28 = .ok (.isub, 1) := by decide +kernel
theorem dI_L_law_29 : decode bC_L_law 29 = .ok (.if_icmp .gt 1126, 3) := by decide +kernel
theorem dI_L_law_32 : decode bC_L_law 32 = .ok (.aload_n 0, 1) := by decide +kernel
theorem dI_L_law_33 : decode bC_L_law 33 = .ok (.iload 4, 2) := by decide +kernel
theorem dI_L_law_35 : decode bC_L_law 35 = .ok (.iaload, 1) := by decide +kernel
theorem dI_L_law_36 : decode bC_L_law 36 = .ok (.bipush 15, 2) := by decide +kernel
theorem dI_L_law_38 : decode bC_L_law 38 = .ok (.iand, 1) := by decide +kernel
theorem dI_L_law_39 : decode bC_L_law 39 = .ok (.tableswitch 1110 0 15 #[77, 157, 205, 265, 325, 385, 457, 529, 589, 657, 713, 780, 836, 904, 960, 1047], 77) := by decide +kernel
theorem dI_L_law_116 : decode bC_L_law 116 = .ok (.aload_n 1, 1) := by decide +kernel
theorem dI_L_law_117 : decode bC_L_law 117 = .ok (.aload_n 0, 1) := by decide +kernel
theorem dI_L_law_118 : decode bC_L_law 118 = .ok (.iload 4, 2) := by decide +kernel
theorem dI_L_law_120 : decode bC_L_law 120 = .ok (.iconst 1, 1) := by decide +kernel
theorem dI_L_law_121 : decode bC_L_law 121 = .ok (.iadd, 1) := by decide +kernel
theorem dI_L_law_122 : decode bC_L_law 122 = .ok (.iaload, 1) := by decide +kernel
theorem dI_L_law_123 : decode bC_L_law 123 = .ok (.aload_n 0, 1) := by decide +kernel
theorem dI_L_law_124 : decode bC_L_law 124 = .ok (.iload 4, 2) := by decide +kernel
theorem dI_L_law_126 : decode bC_L_law 126 = .ok (.iconst 2, 1) := by decide +kernel
theorem dI_L_law_127 : decode bC_L_law 127 = .ok (.iadd, 1) := by decide +kernel
theorem dI_L_law_128 : decode bC_L_law 128 = .ok (.iaload, 1) := by decide +kernel
theorem dI_L_law_129 : decode bC_L_law 129 = .ok (.i2l, 1) := by decide +kernel
theorem dI_L_law_130 : decode bC_L_law 130 = .ok (.bipush 32, 2) := by decide +kernel
theorem dI_L_law_132 : decode bC_L_law 132 = .ok (.lshl, 1) := by decide +kernel
theorem dI_L_law_133 : decode bC_L_law 133 = .ok (.aload_n 0, 1) := by decide +kernel
theorem dI_L_law_134 : decode bC_L_law 134 = .ok (.iload 4, 2) := by decide +kernel
theorem dI_L_law_136 : decode bC_L_law 136 = .ok (.iconst 3, 1) := by decide +kernel
theorem dI_L_law_137 : decode bC_L_law 137 = .ok (.iadd, 1) := by decide +kernel
theorem dI_L_law_138 : decode bC_L_law 138 = .ok (.iaload, 1) := by decide +kernel
theorem dI_L_law_139 : decode bC_L_law 139 = .ok (.i2l, 1) := by decide +kernel
theorem dI_L_law_140 : decode bC_L_law 140 = .ok (.ldc2_w 78, 3) := by decide +kernel
theorem dI_L_law_143 : decode bC_L_law 143 = .ok (.land, 1) := by decide +kernel
theorem dI_L_law_144 : decode bC_L_law 144 = .ok (.lor, 1) := by decide +kernel
theorem dI_L_law_145 : decode bC_L_law 145 = .ok (.invokestatic 80, 3) := by decide +kernel
theorem dI_L_law_148 : decode bC_L_law 148 = .ok (.istore 5, 2) := by decide +kernel
theorem dI_L_law_150 : decode bC_L_law 150 = .ok (.aload_n 2, 1) := by decide +kernel
theorem dI_L_law_151 : decode bC_L_law 151 = .ok (.aload_n 0, 1) := by decide +kernel
theorem dI_L_law_152 : decode bC_L_law 152 = .ok (.iload 4, 2) := by decide +kernel
theorem dI_L_law_154 : decode bC_L_law 154 = .ok (.iconst 1, 1) := by decide +kernel
theorem dI_L_law_155 : decode bC_L_law 155 = .ok (.iadd, 1) := by decide +kernel
theorem dI_L_law_156 : decode bC_L_law 156 = .ok (.iaload, 1) := by decide +kernel
theorem dI_L_law_157 : decode bC_L_law 157 = .ok (.aload_n 0, 1) := by decide +kernel
theorem dI_L_law_158 : decode bC_L_law 158 = .ok (.iload 4, 2) := by decide +kernel
theorem dI_L_law_160 : decode bC_L_law 160 = .ok (.iconst 2, 1) := by decide +kernel
theorem dI_L_law_161 : decode bC_L_law 161 = .ok (.iadd, 1) := by decide +kernel
theorem dI_L_law_162 : decode bC_L_law 162 = .ok (.iaload, 1) := by decide +kernel
theorem dI_L_law_163 : decode bC_L_law 163 = .ok (.i2l, 1) := by decide +kernel
theorem dI_L_law_164 : decode bC_L_law 164 = .ok (.bipush 32, 2) := by decide +kernel
theorem dI_L_law_166 : decode bC_L_law 166 = .ok (.lshl, 1) := by decide +kernel
theorem dI_L_law_167 : decode bC_L_law 167 = .ok (.aload_n 0, 1) := by decide +kernel
theorem dI_L_law_168 : decode bC_L_law 168 = .ok (.iload 4, 2) := by decide +kernel
theorem dI_L_law_170 : decode bC_L_law 170 = .ok (.iconst 3, 1) := by decide +kernel
theorem dI_L_law_171 : decode bC_L_law 171 = .ok (.iadd, 1) := by decide +kernel
theorem dI_L_law_172 : decode bC_L_law 172 = .ok (.iaload, 1) := by decide +kernel
theorem dI_L_law_173 : decode bC_L_law 173 = .ok (.i2l, 1) := by decide +kernel
theorem dI_L_law_174 : decode bC_L_law 174 = .ok (.ldc2_w 78, 3) := by decide +kernel
theorem dI_L_law_177 : decode bC_L_law 177 = .ok (.land, 1) := by decide +kernel
theorem dI_L_law_178 : decode bC_L_law 178 = .ok (.lor, 1) := by decide +kernel
theorem dI_L_law_179 : decode bC_L_law 179 = .ok (.invokevirtual 85, 3) := by decide +kernel
theorem dI_L_law_182 : decode bC_L_law 182 = .ok (.aload_n 2, 1) := by decide +kernel
theorem dI_L_law_183 : decode bC_L_law 183 = .ok (.invokevirtual 86, 3) := by decide +kernel
theorem dI_L_law_186 : decode bC_L_law 186 = .ok (.iload 5, 2) := by decide +kernel
theorem dI_L_law_188 : decode bC_L_law 188 = .ok (.if_icmp .eq 5, 3) := by decide +kernel
theorem dI_L_law_191 : decode bC_L_law 191 = .ok (.iconst 0, 1) := by decide +kernel
theorem dI_L_law_192 : decode bC_L_law 192 = .ok (.ireturn, 1) := by decide +kernel
theorem dI_L_law_193 : decode bC_L_law 193 = .ok (.goto 956, 3) := by decide +kernel
theorem dI_L_law_196 : decode bC_L_law 196 = .ok (.aload_n 1, 1) := by decide +kernel
theorem dI_L_law_197 : decode bC_L_law 197 = .ok (.aload_n 0, 1) := by decide +kernel
theorem dI_L_law_198 : decode bC_L_law 198 = .ok (.iload 4, 2) := by decide +kernel
theorem dI_L_law_200 : decode bC_L_law 200 = .ok (.iconst 1, 1) := by decide +kernel
theorem dI_L_law_201 : decode bC_L_law 201 = .ok (.iadd, 1) := by decide +kernel
theorem dI_L_law_202 : decode bC_L_law 202 = .ok (.iaload, 1) := by decide +kernel
theorem dI_L_law_203 : decode bC_L_law 203 = .ok (.aload_n 0, 1) := by decide +kernel
theorem dI_L_law_204 : decode bC_L_law 204 = .ok (.iload 4, 2) := by decide +kernel
theorem dI_L_law_206 : decode bC_L_law 206 = .ok (.iconst 2, 1) := by decide +kernel
theorem dI_L_law_207 : decode bC_L_law 207 = .ok (.iadd, 1) := by decide +kernel
theorem dI_L_law_208 : decode bC_L_law 208 = .ok (.iaload, 1) := by decide +kernel
theorem dI_L_law_209 : decode bC_L_law 209 = .ok (.invokestatic 90, 3) := by decide +kernel
theorem dI_L_law_212 : decode bC_L_law 212 = .ok (.istore 5, 2) := by decide +kernel
theorem dI_L_law_214 : decode bC_L_law 214 = .ok (.aload_n 2, 1) := by decide +kernel
theorem dI_L_law_215 : decode bC_L_law 215 = .ok (.aload_n 0, 1) := by decide +kernel
theorem dI_L_law_216 : decode bC_L_law 216 = .ok (.iload 4, 2) := by decide +kernel
theorem dI_L_law_218 : decode bC_L_law 218 = .ok (.iconst 1, 1) := by decide +kernel
theorem dI_L_law_219 : decode bC_L_law 219 = .ok (.iadd, 1) := by decide +kernel
theorem dI_L_law_220 : decode bC_L_law 220 = .ok (.iaload, 1) := by decide +kernel
theorem dI_L_law_221 : decode bC_L_law 221 = .ok (.aload_n 0, 1) := by decide +kernel
theorem dI_L_law_222 : decode bC_L_law 222 = .ok (.iload 4, 2) := by decide +kernel
theorem dI_L_law_224 : decode bC_L_law 224 = .ok (.iconst 2, 1) := by decide +kernel
theorem dI_L_law_225 : decode bC_L_law 225 = .ok (.iadd, 1) := by decide +kernel
theorem dI_L_law_226 : decode bC_L_law 226 = .ok (.iaload, 1) := by decide +kernel
theorem dI_L_law_227 : decode bC_L_law 227 = .ok (.invokevirtual 93, 3) := by decide +kernel
theorem dI_L_law_230 : decode bC_L_law 230 = .ok (.aload_n 2, 1) := by decide +kernel
theorem dI_L_law_231 : decode bC_L_law 231 = .ok (.invokevirtual 86, 3) := by decide +kernel
theorem dI_L_law_234 : decode bC_L_law 234 = .ok (.iload 5, 2) := by decide +kernel
theorem dI_L_law_236 : decode bC_L_law 236 = .ok (.if_icmp .eq 5, 3) := by decide +kernel
theorem dI_L_law_239 : decode bC_L_law 239 = .ok (.iconst 0, 1) := by decide +kernel
theorem dI_L_law_240 : decode bC_L_law 240 = .ok (.ireturn, 1) := by decide +kernel
theorem dI_L_law_241 : decode bC_L_law 241 = .ok (.goto 908, 3) := by decide +kernel
theorem dI_L_law_244 : decode bC_L_law 244 = .ok (.aload_n 1, 1) := by decide +kernel
theorem dI_L_law_245 : decode bC_L_law 245 = .ok (.aload_n 0, 1) := by decide +kernel
theorem dI_L_law_246 : decode bC_L_law 246 = .ok (.iload 4, 2) := by decide +kernel
theorem dI_L_law_248 : decode bC_L_law 248 = .ok (.iconst 1, 1) := by decide +kernel
theorem dI_L_law_249 : decode bC_L_law 249 = .ok (.iadd, 1) := by decide +kernel
theorem dI_L_law_250 : decode bC_L_law 250 = .ok (.iaload, 1) := by decide +kernel
theorem dI_L_law_251 : decode bC_L_law 251 = .ok (.aload_n 0, 1) := by decide +kernel
theorem dI_L_law_252 : decode bC_L_law 252 = .ok (.iload 4, 2) := by decide +kernel
theorem dI_L_law_254 : decode bC_L_law 254 = .ok (.iconst 2, 1) := by decide +kernel
theorem dI_L_law_255 : decode bC_L_law 255 = .ok (.iadd, 1) := by decide +kernel
theorem dI_L_law_256 : decode bC_L_law 256 = .ok (.iaload, 1) := by decide +kernel
theorem dI_L_law_257 : decode bC_L_law 257 = .ok (.aload_n 0, 1) := by decide +kernel
theorem dI_L_law_258 : decode bC_L_law 258 = .ok (.iload 4, 2) := by decide +kernel
theorem dI_L_law_260 : decode bC_L_law 260 = .ok (.iconst 3, 1) := by decide +kernel
theorem dI_L_law_261 : decode bC_L_law 261 = .ok (.iadd, 1) := by decide +kernel
theorem dI_L_law_262 : decode bC_L_law 262 = .ok (.iaload, 1) := by decide +kernel
theorem dI_L_law_263 : decode bC_L_law 263 = .ok (.invokestatic 94, 3) := by decide +kernel
theorem dI_L_law_266 : decode bC_L_law 266 = .ok (.istore 5, 2) := by decide +kernel
theorem dI_L_law_268 : decode bC_L_law 268 = .ok (.aload_n 2, 1) := by decide +kernel
theorem dI_L_law_269 : decode bC_L_law 269 = .ok (.aload_n 0, 1) := by decide +kernel
theorem dI_L_law_270 : decode bC_L_law 270 = .ok (.iload 4, 2) := by decide +kernel
theorem dI_L_law_272 : decode bC_L_law 272 = .ok (.iconst 1, 1) := by decide +kernel
theorem dI_L_law_273 : decode bC_L_law 273 = .ok (.iadd, 1) := by decide +kernel
theorem dI_L_law_274 : decode bC_L_law 274 = .ok (.iaload, 1) := by decide +kernel
theorem dI_L_law_275 : decode bC_L_law 275 = .ok (.aload_n 0, 1) := by decide +kernel
theorem dI_L_law_276 : decode bC_L_law 276 = .ok (.iload 4, 2) := by decide +kernel
theorem dI_L_law_278 : decode bC_L_law 278 = .ok (.iconst 2, 1) := by decide +kernel
theorem dI_L_law_279 : decode bC_L_law 279 = .ok (.iadd, 1) := by decide +kernel
theorem dI_L_law_280 : decode bC_L_law 280 = .ok (.iaload, 1) := by decide +kernel
theorem dI_L_law_281 : decode bC_L_law 281 = .ok (.aload_n 0, 1) := by decide +kernel
theorem dI_L_law_282 : decode bC_L_law 282 = .ok (.iload 4, 2) := by decide +kernel
theorem dI_L_law_284 : decode bC_L_law 284 = .ok (.iconst 3, 1) := by decide +kernel
theorem dI_L_law_285 : decode bC_L_law 285 = .ok (.iadd, 1) := by decide +kernel
theorem dI_L_law_286 : decode bC_L_law 286 = .ok (.iaload, 1) := by decide +kernel
theorem dI_L_law_287 : decode bC_L_law 287 = .ok (.invokevirtual 97, 3) := by decide +kernel
theorem dI_L_law_290 : decode bC_L_law 290 = .ok (.aload_n 2, 1) := by decide +kernel
theorem dI_L_law_291 : decode bC_L_law 291 = .ok (.invokevirtual 86, 3) := by decide +kernel
theorem dI_L_law_294 : decode bC_L_law 294 = .ok (.iload 5, 2) := by decide +kernel
theorem dI_L_law_296 : decode bC_L_law 296 = .ok (.if_icmp .eq 5, 3) := by decide +kernel
theorem dI_L_law_299 : decode bC_L_law 299 = .ok (.iconst 0, 1) := by decide +kernel
theorem dI_L_law_300 : decode bC_L_law 300 = .ok (.ireturn, 1) := by decide +kernel
theorem dI_L_law_301 : decode bC_L_law 301 = .ok (.goto 848, 3) := by decide +kernel
theorem dI_L_law_304 : decode bC_L_law 304 = .ok (.aload_n 1, 1) := by decide +kernel
theorem dI_L_law_305 : decode bC_L_law 305 = .ok (.aload_n 0, 1) := by decide +kernel
theorem dI_L_law_306 : decode bC_L_law 306 = .ok (.iload 4, 2) := by decide +kernel
theorem dI_L_law_308 : decode bC_L_law 308 = .ok (.iconst 1, 1) := by decide +kernel
theorem dI_L_law_309 : decode bC_L_law 309 = .ok (.iadd, 1) := by decide +kernel
theorem dI_L_law_310 : decode bC_L_law 310 = .ok (.iaload, 1) := by decide +kernel
theorem dI_L_law_311 : decode bC_L_law 311 = .ok (.aload_n 0, 1) := by decide +kernel
theorem dI_L_law_312 : decode bC_L_law 312 = .ok (.iload 4, 2) := by decide +kernel
theorem dI_L_law_314 : decode bC_L_law 314 = .ok (.iconst 2, 1) := by decide +kernel
theorem dI_L_law_315 : decode bC_L_law 315 = .ok (.iadd, 1) := by decide +kernel
theorem dI_L_law_316 : decode bC_L_law 316 = .ok (.iaload, 1) := by decide +kernel
theorem dI_L_law_317 : decode bC_L_law 317 = .ok (.aload_n 0, 1) := by decide +kernel
theorem dI_L_law_318 : decode bC_L_law 318 = .ok (.iload 4, 2) := by decide +kernel
theorem dI_L_law_320 : decode bC_L_law 320 = .ok (.iconst 3, 1) := by decide +kernel
theorem dI_L_law_321 : decode bC_L_law 321 = .ok (.iadd, 1) := by decide +kernel
theorem dI_L_law_322 : decode bC_L_law 322 = .ok (.iaload, 1) := by decide +kernel
theorem dI_L_law_323 : decode bC_L_law 323 = .ok (.invokestatic 98, 3) := by decide +kernel
theorem dI_L_law_326 : decode bC_L_law 326 = .ok (.istore 5, 2) := by decide +kernel
theorem dI_L_law_328 : decode bC_L_law 328 = .ok (.aload_n 2, 1) := by decide +kernel
theorem dI_L_law_329 : decode bC_L_law 329 = .ok (.aload_n 0, 1) := by decide +kernel
theorem dI_L_law_330 : decode bC_L_law 330 = .ok (.iload 4, 2) := by decide +kernel
theorem dI_L_law_332 : decode bC_L_law 332 = .ok (.iconst 1, 1) := by decide +kernel
theorem dI_L_law_333 : decode bC_L_law 333 = .ok (.iadd, 1) := by decide +kernel
theorem dI_L_law_334 : decode bC_L_law 334 = .ok (.iaload, 1) := by decide +kernel
theorem dI_L_law_335 : decode bC_L_law 335 = .ok (.aload_n 0, 1) := by decide +kernel
theorem dI_L_law_336 : decode bC_L_law 336 = .ok (.iload 4, 2) := by decide +kernel
theorem dI_L_law_338 : decode bC_L_law 338 = .ok (.iconst 2, 1) := by decide +kernel
theorem dI_L_law_339 : decode bC_L_law 339 = .ok (.iadd, 1) := by decide +kernel
theorem dI_L_law_340 : decode bC_L_law 340 = .ok (.iaload, 1) := by decide +kernel
theorem dI_L_law_341 : decode bC_L_law 341 = .ok (.aload_n 0, 1) := by decide +kernel
theorem dI_L_law_342 : decode bC_L_law 342 = .ok (.iload 4, 2) := by decide +kernel
theorem dI_L_law_344 : decode bC_L_law 344 = .ok (.iconst 3, 1) := by decide +kernel
theorem dI_L_law_345 : decode bC_L_law 345 = .ok (.iadd, 1) := by decide +kernel
theorem dI_L_law_346 : decode bC_L_law 346 = .ok (.iaload, 1) := by decide +kernel
theorem dI_L_law_347 : decode bC_L_law 347 = .ok (.invokevirtual 100, 3) := by decide +kernel
theorem dI_L_law_350 : decode bC_L_law 350 = .ok (.aload_n 2, 1) := by decide +kernel
theorem dI_L_law_351 : decode bC_L_law 351 = .ok (.invokevirtual 86, 3) := by decide +kernel
theorem dI_L_law_354 : decode bC_L_law 354 = .ok (.iload 5, 2) := by decide +kernel
theorem dI_L_law_356 : decode bC_L_law 356 = .ok (.if_icmp .eq 5, 3) := by decide +kernel
theorem dI_L_law_359 : decode bC_L_law 359 = .ok (.iconst 0, 1) := by decide +kernel
theorem dI_L_law_360 : decode bC_L_law 360 = .ok (.ireturn, 1) := by decide +kernel
theorem dI_L_law_361 : decode bC_L_law 361 = .ok (.goto 788, 3) := by decide +kernel
theorem dI_L_law_364 : decode bC_L_law 364 = .ok (.aload_n 1, 1) := by decide +kernel
theorem dI_L_law_365 : decode bC_L_law 365 = .ok (.aload_n 0, 1) := by decide +kernel
theorem dI_L_law_366 : decode bC_L_law 366 = .ok (.iload 4, 2) := by decide +kernel
theorem dI_L_law_368 : decode bC_L_law 368 = .ok (.iconst 1, 1) := by decide +kernel
theorem dI_L_law_369 : decode bC_L_law 369 = .ok (.iadd, 1) := by decide +kernel
theorem dI_L_law_370 : decode bC_L_law 370 = .ok (.iaload, 1) := by decide +kernel
theorem dI_L_law_371 : decode bC_L_law 371 = .ok (.aload_n 0, 1) := by decide +kernel
theorem dI_L_law_372 : decode bC_L_law 372 = .ok (.iload 4, 2) := by decide +kernel
theorem dI_L_law_374 : decode bC_L_law 374 = .ok (.iconst 2, 1) := by decide +kernel
theorem dI_L_law_375 : decode bC_L_law 375 = .ok (.iadd, 1) := by decide +kernel
theorem dI_L_law_376 : decode bC_L_law 376 = .ok (.iaload, 1) := by decide +kernel
theorem dI_L_law_377 : decode bC_L_law 377 = .ok (.aload_n 0, 1) := by decide +kernel
theorem dI_L_law_378 : decode bC_L_law 378 = .ok (.iload 4, 2) := by decide +kernel
theorem dI_L_law_380 : decode bC_L_law 380 = .ok (.iconst 3, 1) := by decide +kernel
theorem dI_L_law_381 : decode bC_L_law 381 = .ok (.iadd, 1) := by decide +kernel
theorem dI_L_law_382 : decode bC_L_law 382 = .ok (.iaload, 1) := by decide +kernel
theorem dI_L_law_383 : decode bC_L_law 383 = .ok (.invokestatic 101, 3) := by decide +kernel
theorem dI_L_law_386 : decode bC_L_law 386 = .ok (.istore 5, 2) := by decide +kernel
theorem dI_L_law_388 : decode bC_L_law 388 = .ok (.aload_n 2, 1) := by decide +kernel
theorem dI_L_law_389 : decode bC_L_law 389 = .ok (.aload_n 0, 1) := by decide +kernel
theorem dI_L_law_390 : decode bC_L_law 390 = .ok (.iload 4, 2) := by decide +kernel
theorem dI_L_law_392 : decode bC_L_law 392 = .ok (.iconst 1, 1) := by decide +kernel
theorem dI_L_law_393 : decode bC_L_law 393 = .ok (.iadd, 1) := by decide +kernel
theorem dI_L_law_394 : decode bC_L_law 394 = .ok (.iaload, 1) := by decide +kernel
theorem dI_L_law_395 : decode bC_L_law 395 = .ok (.aload_n 0, 1) := by decide +kernel
theorem dI_L_law_396 : decode bC_L_law 396 = .ok (.iload 4, 2) := by decide +kernel
theorem dI_L_law_398 : decode bC_L_law 398 = .ok (.iconst 2, 1) := by decide +kernel
theorem dI_L_law_399 : decode bC_L_law 399 = .ok (.iadd, 1) := by decide +kernel
theorem dI_L_law_400 : decode bC_L_law 400 = .ok (.iaload, 1) := by decide +kernel
theorem dI_L_law_401 : decode bC_L_law 401 = .ok (.aload_n 0, 1) := by decide +kernel
theorem dI_L_law_402 : decode bC_L_law 402 = .ok (.iload 4, 2) := by decide +kernel
theorem dI_L_law_404 : decode bC_L_law 404 = .ok (.iconst 3, 1) := by decide +kernel
theorem dI_L_law_405 : decode bC_L_law 405 = .ok (.iadd, 1) := by decide +kernel
theorem dI_L_law_406 : decode bC_L_law 406 = .ok (.iaload, 1) := by decide +kernel
theorem dI_L_law_407 : decode bC_L_law 407 = .ok (.invokevirtual 103, 3) := by decide +kernel
theorem dI_L_law_410 : decode bC_L_law 410 = .ok (.aload_n 2, 1) := by decide +kernel
theorem dI_L_law_411 : decode bC_L_law 411 = .ok (.invokevirtual 86, 3) := by decide +kernel
theorem dI_L_law_414 : decode bC_L_law 414 = .ok (.iload 5, 2) := by decide +kernel
theorem dI_L_law_416 : decode bC_L_law 416 = .ok (.if_icmp .eq 5, 3) := by decide +kernel
theorem dI_L_law_419 : decode bC_L_law 419 = .ok (.iconst 0, 1) := by decide +kernel
theorem dI_L_law_420 : decode bC_L_law 420 = .ok (.ireturn, 1) := by decide +kernel
theorem dI_L_law_421 : decode bC_L_law 421 = .ok (.goto 728, 3) := by decide +kernel
theorem dI_L_law_424 : decode bC_L_law 424 = .ok (.aload_n 1, 1) := by decide +kernel
theorem dI_L_law_425 : decode bC_L_law 425 = .ok (.aload_n 0, 1) := by decide +kernel
theorem dI_L_law_426 : decode bC_L_law 426 = .ok (.iload 4, 2) := by decide +kernel
theorem dI_L_law_428 : decode bC_L_law 428 = .ok (.iconst 1, 1) := by decide +kernel
theorem dI_L_law_429 : decode bC_L_law 429 = .ok (.iadd, 1) := by decide +kernel
theorem dI_L_law_430 : decode bC_L_law 430 = .ok (.iaload, 1) := by decide +kernel
theorem dI_L_law_431 : decode bC_L_law 431 = .ok (.aload_n 0, 1) := by decide +kernel
theorem dI_L_law_432 : decode bC_L_law 432 = .ok (.iload 4, 2) := by decide +kernel
theorem dI_L_law_434 : decode bC_L_law 434 = .ok (.iconst 2, 1) := by decide +kernel
theorem dI_L_law_435 : decode bC_L_law 435 = .ok (.iadd, 1) := by decide +kernel
theorem dI_L_law_436 : decode bC_L_law 436 = .ok (.iaload, 1) := by decide +kernel
theorem dI_L_law_437 : decode bC_L_law 437 = .ok (.aload_n 0, 1) := by decide +kernel
theorem dI_L_law_438 : decode bC_L_law 438 = .ok (.iload 4, 2) := by decide +kernel
theorem dI_L_law_440 : decode bC_L_law 440 = .ok (.iconst 3, 1) := by decide +kernel
theorem dI_L_law_441 : decode bC_L_law 441 = .ok (.iadd, 1) := by decide +kernel
theorem dI_L_law_442 : decode bC_L_law 442 = .ok (.iaload, 1) := by decide +kernel
theorem dI_L_law_443 : decode bC_L_law 443 = .ok (.aload_n 0, 1) := by decide +kernel
theorem dI_L_law_444 : decode bC_L_law 444 = .ok (.iload 4, 2) := by decide +kernel
theorem dI_L_law_446 : decode bC_L_law 446 = .ok (.iconst 4, 1) := by decide +kernel
theorem dI_L_law_447 : decode bC_L_law 447 = .ok (.iadd, 1) := by decide +kernel
theorem dI_L_law_448 : decode bC_L_law 448 = .ok (.iaload, 1) := by decide +kernel
theorem dI_L_law_449 : decode bC_L_law 449 = .ok (.invokestatic 104, 3) := by decide +kernel
theorem dI_L_law_452 : decode bC_L_law 452 = .ok (.istore 5, 2) := by decide +kernel
theorem dI_L_law_454 : decode bC_L_law 454 = .ok (.aload_n 2, 1) := by decide +kernel
theorem dI_L_law_455 : decode bC_L_law 455 = .ok (.aload_n 0, 1) := by decide +kernel
theorem dI_L_law_456 : decode bC_L_law 456 = .ok (.iload 4, 2) := by decide +kernel
theorem dI_L_law_458 : decode bC_L_law 458 = .ok (.iconst 1, 1) := by decide +kernel
theorem dI_L_law_459 : decode bC_L_law 459 = .ok (.iadd, 1) := by decide +kernel
theorem dI_L_law_460 : decode bC_L_law 460 = .ok (.iaload, 1) := by decide +kernel
theorem dI_L_law_461 : decode bC_L_law 461 = .ok (.aload_n 0, 1) := by decide +kernel
theorem dI_L_law_462 : decode bC_L_law 462 = .ok (.iload 4, 2) := by decide +kernel
theorem dI_L_law_464 : decode bC_L_law 464 = .ok (.iconst 2, 1) := by decide +kernel
theorem dI_L_law_465 : decode bC_L_law 465 = .ok (.iadd, 1) := by decide +kernel
theorem dI_L_law_466 : decode bC_L_law 466 = .ok (.iaload, 1) := by decide +kernel
theorem dI_L_law_467 : decode bC_L_law 467 = .ok (.aload_n 0, 1) := by decide +kernel
theorem dI_L_law_468 : decode bC_L_law 468 = .ok (.iload 4, 2) := by decide +kernel
theorem dI_L_law_470 : decode bC_L_law 470 = .ok (.iconst 3, 1) := by decide +kernel
theorem dI_L_law_471 : decode bC_L_law 471 = .ok (.iadd, 1) := by decide +kernel
theorem dI_L_law_472 : decode bC_L_law 472 = .ok (.iaload, 1) := by decide +kernel
theorem dI_L_law_473 : decode bC_L_law 473 = .ok (.aload_n 0, 1) := by decide +kernel
theorem dI_L_law_474 : decode bC_L_law 474 = .ok (.iload 4, 2) := by decide +kernel
theorem dI_L_law_476 : decode bC_L_law 476 = .ok (.iconst 4, 1) := by decide +kernel
theorem dI_L_law_477 : decode bC_L_law 477 = .ok (.iadd, 1) := by decide +kernel
theorem dI_L_law_478 : decode bC_L_law 478 = .ok (.iaload, 1) := by decide +kernel
theorem dI_L_law_479 : decode bC_L_law 479 = .ok (.invokevirtual 107, 3) := by decide +kernel
theorem dI_L_law_482 : decode bC_L_law 482 = .ok (.aload_n 2, 1) := by decide +kernel
theorem dI_L_law_483 : decode bC_L_law 483 = .ok (.invokevirtual 86, 3) := by decide +kernel
theorem dI_L_law_486 : decode bC_L_law 486 = .ok (.iload 5, 2) := by decide +kernel
theorem dI_L_law_488 : decode bC_L_law 488 = .ok (.if_icmp .eq 5, 3) := by decide +kernel
theorem dI_L_law_491 : decode bC_L_law 491 = .ok (.iconst 0, 1) := by decide +kernel
theorem dI_L_law_492 : decode bC_L_law 492 = .ok (.ireturn, 1) := by decide +kernel
theorem dI_L_law_493 : decode bC_L_law 493 = .ok (.goto 656, 3) := by decide +kernel
theorem dI_L_law_496 : decode bC_L_law 496 = .ok (.aload_n 1, 1) := by decide +kernel
theorem dI_L_law_497 : decode bC_L_law 497 = .ok (.aload_n 0, 1) := by decide +kernel
theorem dI_L_law_498 : decode bC_L_law 498 = .ok (.iload 4, 2) := by decide +kernel
theorem dI_L_law_500 : decode bC_L_law 500 = .ok (.iconst 1, 1) := by decide +kernel
theorem dI_L_law_501 : decode bC_L_law 501 = .ok (.iadd, 1) := by decide +kernel
theorem dI_L_law_502 : decode bC_L_law 502 = .ok (.iaload, 1) := by decide +kernel
theorem dI_L_law_503 : decode bC_L_law 503 = .ok (.aload_n 0, 1) := by decide +kernel
theorem dI_L_law_504 : decode bC_L_law 504 = .ok (.iload 4, 2) := by decide +kernel
theorem dI_L_law_506 : decode bC_L_law 506 = .ok (.iconst 2, 1) := by decide +kernel
theorem dI_L_law_507 : decode bC_L_law 507 = .ok (.iadd, 1) := by decide +kernel
theorem dI_L_law_508 : decode bC_L_law 508 = .ok (.iaload, 1) := by decide +kernel
theorem dI_L_law_509 : decode bC_L_law 509 = .ok (.aload_n 0, 1) := by decide +kernel
theorem dI_L_law_510 : decode bC_L_law 510 = .ok (.iload 4, 2) := by decide +kernel
theorem dI_L_law_512 : decode bC_L_law 512 = .ok (.iconst 3, 1) := by decide +kernel
theorem dI_L_law_513 : decode bC_L_law 513 = .ok (.iadd, 1) := by decide +kernel
theorem dI_L_law_514 : decode bC_L_law 514 = .ok (.iaload, 1) := by decide +kernel
theorem dI_L_law_515 : decode bC_L_law 515 = .ok (.aload_n 0, 1) := by decide +kernel
theorem dI_L_law_516 : decode bC_L_law 516 = .ok (.iload 4, 2) := by decide +kernel
theorem dI_L_law_518 : decode bC_L_law 518 = .ok (.iconst 4, 1) := by decide +kernel
theorem dI_L_law_519 : decode bC_L_law 519 = .ok (.iadd, 1) := by decide +kernel
theorem dI_L_law_520 : decode bC_L_law 520 = .ok (.iaload, 1) := by decide +kernel
theorem dI_L_law_521 : decode bC_L_law 521 = .ok (.invokestatic 108, 3) := by decide +kernel
theorem dI_L_law_524 : decode bC_L_law 524 = .ok (.istore 5, 2) := by decide +kernel
theorem dI_L_law_526 : decode bC_L_law 526 = .ok (.aload_n 2, 1) := by decide +kernel
theorem dI_L_law_527 : decode bC_L_law 527 = .ok (.aload_n 0, 1) := by decide +kernel
theorem dI_L_law_528 : decode bC_L_law 528 = .ok (.iload 4, 2) := by decide +kernel
theorem dI_L_law_530 : decode bC_L_law 530 = .ok (.iconst 1, 1) := by decide +kernel
theorem dI_L_law_531 : decode bC_L_law 531 = .ok (.iadd, 1) := by decide +kernel
theorem dI_L_law_532 : decode bC_L_law 532 = .ok (.iaload, 1) := by decide +kernel
theorem dI_L_law_533 : decode bC_L_law 533 = .ok (.aload_n 0, 1) := by decide +kernel
theorem dI_L_law_534 : decode bC_L_law 534 = .ok (.iload 4, 2) := by decide +kernel
theorem dI_L_law_536 : decode bC_L_law 536 = .ok (.iconst 2, 1) := by decide +kernel
theorem dI_L_law_537 : decode bC_L_law 537 = .ok (.iadd, 1) := by decide +kernel
theorem dI_L_law_538 : decode bC_L_law 538 = .ok (.iaload, 1) := by decide +kernel
theorem dI_L_law_539 : decode bC_L_law 539 = .ok (.aload_n 0, 1) := by decide +kernel
theorem dI_L_law_540 : decode bC_L_law 540 = .ok (.iload 4, 2) := by decide +kernel
theorem dI_L_law_542 : decode bC_L_law 542 = .ok (.iconst 3, 1) := by decide +kernel
theorem dI_L_law_543 : decode bC_L_law 543 = .ok (.iadd, 1) := by decide +kernel
theorem dI_L_law_544 : decode bC_L_law 544 = .ok (.iaload, 1) := by decide +kernel
theorem dI_L_law_545 : decode bC_L_law 545 = .ok (.aload_n 0, 1) := by decide +kernel
theorem dI_L_law_546 : decode bC_L_law 546 = .ok (.iload 4, 2) := by decide +kernel
theorem dI_L_law_548 : decode bC_L_law 548 = .ok (.iconst 4, 1) := by decide +kernel
theorem dI_L_law_549 : decode bC_L_law 549 = .ok (.iadd, 1) := by decide +kernel
theorem dI_L_law_550 : decode bC_L_law 550 = .ok (.iaload, 1) := by decide +kernel
theorem dI_L_law_551 : decode bC_L_law 551 = .ok (.invokevirtual 110, 3) := by decide +kernel
theorem dI_L_law_554 : decode bC_L_law 554 = .ok (.aload_n 2, 1) := by decide +kernel
theorem dI_L_law_555 : decode bC_L_law 555 = .ok (.invokevirtual 86, 3) := by decide +kernel
theorem dI_L_law_558 : decode bC_L_law 558 = .ok (.iload 5, 2) := by decide +kernel
theorem dI_L_law_560 : decode bC_L_law 560 = .ok (.if_icmp .eq 5, 3) := by decide +kernel
theorem dI_L_law_563 : decode bC_L_law 563 = .ok (.iconst 0, 1) := by decide +kernel
theorem dI_L_law_564 : decode bC_L_law 564 = .ok (.ireturn, 1) := by decide +kernel
theorem dI_L_law_565 : decode bC_L_law 565 = .ok (.goto 584, 3) := by decide +kernel
theorem dI_L_law_568 : decode bC_L_law 568 = .ok (.aload_n 1, 1) := by decide +kernel
theorem dI_L_law_569 : decode bC_L_law 569 = .ok (.aload_n 0, 1) := by decide +kernel
theorem dI_L_law_570 : decode bC_L_law 570 = .ok (.iload 4, 2) := by decide +kernel
theorem dI_L_law_572 : decode bC_L_law 572 = .ok (.iconst 1, 1) := by decide +kernel
theorem dI_L_law_573 : decode bC_L_law 573 = .ok (.iadd, 1) := by decide +kernel
theorem dI_L_law_574 : decode bC_L_law 574 = .ok (.iaload, 1) := by decide +kernel
theorem dI_L_law_575 : decode bC_L_law 575 = .ok (.aload_n 0, 1) := by decide +kernel
theorem dI_L_law_576 : decode bC_L_law 576 = .ok (.iload 4, 2) := by decide +kernel
theorem dI_L_law_578 : decode bC_L_law 578 = .ok (.iconst 2, 1) := by decide +kernel
theorem dI_L_law_579 : decode bC_L_law 579 = .ok (.iadd, 1) := by decide +kernel
theorem dI_L_law_580 : decode bC_L_law 580 = .ok (.iaload, 1) := by decide +kernel
theorem dI_L_law_581 : decode bC_L_law 581 = .ok (.aload_n 0, 1) := by decide +kernel
theorem dI_L_law_582 : decode bC_L_law 582 = .ok (.iload 4, 2) := by decide +kernel
theorem dI_L_law_584 : decode bC_L_law 584 = .ok (.iconst 3, 1) := by decide +kernel
theorem dI_L_law_585 : decode bC_L_law 585 = .ok (.iadd, 1) := by decide +kernel
theorem dI_L_law_586 : decode bC_L_law 586 = .ok (.iaload, 1) := by decide +kernel
theorem dI_L_law_587 : decode bC_L_law 587 = .ok (.invokestatic 111, 3) := by decide +kernel
theorem dI_L_law_590 : decode bC_L_law 590 = .ok (.istore 5, 2) := by decide +kernel
theorem dI_L_law_592 : decode bC_L_law 592 = .ok (.aload_n 2, 1) := by decide +kernel
theorem dI_L_law_593 : decode bC_L_law 593 = .ok (.aload_n 0, 1) := by decide +kernel
theorem dI_L_law_594 : decode bC_L_law 594 = .ok (.iload 4, 2) := by decide +kernel
theorem dI_L_law_596 : decode bC_L_law 596 = .ok (.iconst 1, 1) := by decide +kernel
theorem dI_L_law_597 : decode bC_L_law 597 = .ok (.iadd, 1) := by decide +kernel
theorem dI_L_law_598 : decode bC_L_law 598 = .ok (.iaload, 1) := by decide +kernel
theorem dI_L_law_599 : decode bC_L_law 599 = .ok (.aload_n 0, 1) := by decide +kernel
theorem dI_L_law_600 : decode bC_L_law 600 = .ok (.iload 4, 2) := by decide +kernel
theorem dI_L_law_602 : decode bC_L_law 602 = .ok (.iconst 2, 1) := by decide +kernel
theorem dI_L_law_603 : decode bC_L_law 603 = .ok (.iadd, 1) := by decide +kernel
theorem dI_L_law_604 : decode bC_L_law 604 = .ok (.iaload, 1) := by decide +kernel
theorem dI_L_law_605 : decode bC_L_law 605 = .ok (.aload_n 0, 1) := by decide +kernel
theorem dI_L_law_606 : decode bC_L_law 606 = .ok (.iload 4, 2) := by decide +kernel
theorem dI_L_law_608 : decode bC_L_law 608 = .ok (.iconst 3, 1) := by decide +kernel
theorem dI_L_law_609 : decode bC_L_law 609 = .ok (.iadd, 1) := by decide +kernel
theorem dI_L_law_610 : decode bC_L_law 610 = .ok (.iaload, 1) := by decide +kernel
theorem dI_L_law_611 : decode bC_L_law 611 = .ok (.invokevirtual 113, 3) := by decide +kernel
theorem dI_L_law_614 : decode bC_L_law 614 = .ok (.aload_n 2, 1) := by decide +kernel
theorem dI_L_law_615 : decode bC_L_law 615 = .ok (.invokevirtual 86, 3) := by decide +kernel
theorem dI_L_law_618 : decode bC_L_law 618 = .ok (.iload 5, 2) := by decide +kernel
theorem dI_L_law_620 : decode bC_L_law 620 = .ok (.if_icmp .eq 5, 3) := by decide +kernel
theorem dI_L_law_623 : decode bC_L_law 623 = .ok (.iconst 0, 1) := by decide +kernel
theorem dI_L_law_624 : decode bC_L_law 624 = .ok (.ireturn, 1) := by decide +kernel
theorem dI_L_law_625 : decode bC_L_law 625 = .ok (.goto 524, 3) := by decide +kernel
theorem dI_L_law_628 : decode bC_L_law 628 = .ok (.aload_n 1, 1) := by decide +kernel
theorem dI_L_law_629 : decode bC_L_law 629 = .ok (.aload_n 0, 1) := by decide +kernel
theorem dI_L_law_630 : decode bC_L_law 630 = .ok (.iload 4, 2) := by decide +kernel
theorem dI_L_law_632 : decode bC_L_law 632 = .ok (.iconst 1, 1) := by decide +kernel
theorem dI_L_law_633 : decode bC_L_law 633 = .ok (.iadd, 1) := by decide +kernel
theorem dI_L_law_634 : decode bC_L_law 634 = .ok (.iaload, 1) := by decide +kernel
theorem dI_L_law_635 : decode bC_L_law 635 = .ok (.aload_n 0, 1) := by decide +kernel
theorem dI_L_law_636 : decode bC_L_law 636 = .ok (.iload 4, 2) := by decide +kernel
theorem dI_L_law_638 : decode bC_L_law 638 = .ok (.iconst 2, 1) := by decide +kernel
theorem dI_L_law_639 : decode bC_L_law 639 = .ok (.iadd, 1) := by decide +kernel
theorem dI_L_law_640 : decode bC_L_law 640 = .ok (.iaload, 1) := by decide +kernel
theorem dI_L_law_641 : decode bC_L_law 641 = .ok (.aload_n 3, 1) := by decide +kernel
theorem dI_L_law_642 : decode bC_L_law 642 = .ok (.invokestatic 114, 3) := by decide +kernel
theorem dI_L_law_645 : decode bC_L_law 645 = .ok (.istore 5, 2) := by decide +kernel
theorem dI_L_law_647 : decode bC_L_law 647 = .ok (.aload_n 2, 1) := by decide +kernel
theorem dI_L_law_648 : decode bC_L_law 648 = .ok (.aload_n 0, 1) := by decide +kernel
theorem dI_L_law_649 : decode bC_L_law 649 = .ok (.iload 4, 2) := by decide +kernel
theorem dI_L_law_651 : decode bC_L_law 651 = .ok (.iconst 1, 1) := by decide +kernel
theorem dI_L_law_652 : decode bC_L_law 652 = .ok (.iadd, 1) := by decide +kernel
theorem dI_L_law_653 : decode bC_L_law 653 = .ok (.iaload, 1) := by decide +kernel
theorem dI_L_law_654 : decode bC_L_law 654 = .ok (.aload_n 0, 1) := by decide +kernel
theorem dI_L_law_655 : decode bC_L_law 655 = .ok (.iload 4, 2) := by decide +kernel
theorem dI_L_law_657 : decode bC_L_law 657 = .ok (.iconst 2, 1) := by decide +kernel
theorem dI_L_law_658 : decode bC_L_law 658 = .ok (.iadd, 1) := by decide +kernel
theorem dI_L_law_659 : decode bC_L_law 659 = .ok (.iaload, 1) := by decide +kernel
theorem dI_L_law_660 : decode bC_L_law 660 = .ok (.invokevirtual 117, 3) := by decide +kernel
theorem dI_L_law_663 : decode bC_L_law 663 = .ok (.istore 6, 2) := by decide +kernel
theorem dI_L_law_665 : decode bC_L_law 665 = .ok (.aload_n 2, 1) := by decide +kernel
theorem dI_L_law_666 : decode bC_L_law 666 = .ok (.invokevirtual 86, 3) := by decide +kernel
theorem dI_L_law_669 : decode bC_L_law 669 = .ok (.iload 5, 2) := by decide +kernel
theorem dI_L_law_671 : decode bC_L_law 671 = .ok (.if_icmp .eq 5, 3) := by decide +kernel
theorem dI_L_law_674 : decode bC_L_law 674 = .ok (.iconst 0, 1) := by decide +kernel
theorem dI_L_law_675 : decode bC_L_law 675 = .ok (.ireturn, 1) := by decide +kernel
theorem dI_L_law_676 : decode bC_L_law 676 = .ok (.iload 5, 2) := by decide +kernel
theorem dI_L_law_678 : decode bC_L_law 678 = .ok (.ifCond .ne 15, 3) := by decide +kernel
theorem dI_L_law_681 : decode bC_L_law 681 = .ok (.aload_n 3, 1) := by decide +kernel
theorem dI_L_law_682 : decode bC_L_law 682 = .ok (.iconst 0, 1) := by decide +kernel
theorem dI_L_law_683 : decode bC_L_law 683 = .ok (.laload, 1) := by decide +kernel
