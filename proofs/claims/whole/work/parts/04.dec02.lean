theorem dI_M_append_38 : decode bC_M_append 38 = .ok (.iload_n 1, 1) := by decide +kernel
theorem dI_M_append_39 : decode bC_M_append 39 = .ok (.imul, 1) := by decide +kernel
theorem dI_M_append_40 : decode bC_M_append 40 = .ok (.iload 4, 2) := by decide +kernel
theorem dI_M_append_42 : decode bC_M_append 42 = .ok (.iadd, 1) := by decide +kernel
theorem dI_M_append_43 : decode bC_M_append 43 = .ok (.iaload, 1) := by decide +kernel
theorem dI_M_append_44 : decode bC_M_append 44 = .ok (.iconst 1, 1) := by decide +kernel
theorem dI_M_append_45 : decode bC_M_append 45 = .ok (.if_icmp .ne 7, 3) := by decide +kernel
theorem dI_M_append_48 : decode bC_M_append 48 = .ok (.iconst 1, 1) := by decide +kernel
theorem dI_M_append_49 : decode bC_M_append 49 = .ok (.goto 4, 3) := by decide +kernel
theorem dI_M_append_52 : decode bC_M_append 52 = .ok (.iconst 0, 1) := by decide +kernel
theorem dI_M_append_53 : decode bC_M_append 53 = .ok (.istore_n 3, 1) := by decide +kernel
theorem dI_M_append_54 : decode bC_M_append 54 = .ok (.iinc 4 1, 3) := by decide +kernel
theorem dI_M_append_57 : decode bC_M_append 57 = .ok (.goto (-38), 3) := by decide +kernel
theorem dI_M_append_60 : decode bC_M_append 60 = .ok (.aload_n 0, 1) := by decide +kernel
theorem dI_M_append_61 : decode bC_M_append 61 = .ok (.iload_n 3, 1) := by decide +kernel
theorem dI_M_append_62 : decode bC_M_append 62 = .ok (.iconst 2, 1) := by decide +kernel
theorem dI_M_append_63 : decode bC_M_append 63 = .ok (.invokevirtual 27, 3) := by decide +kernel
theorem dI_M_append_66 : decode bC_M_append 66 = .ok (.ifCond .eq 4, 3) := by decide +kernel
theorem dI_M_append_69 : decode bC_M_append 69 = .ok (.return_, 1) := by decide +kernel
theorem dI_M_append_70 : decode bC_M_append 70 = .ok (.bipush 127, 2) := by decide +kernel
theorem dI_M_append_72 : decode bC_M_append 72 = .ok (.istore 4, 2) := by decide +kernel
theorem dI_M_append_74 : decode bC_M_append 74 = .ok (.iload 4, 2) := by decide +kernel
theorem dI_M_append_76 : decode bC_M_append 76 = .ok (.bipush 32, 2) := by decide +kernel
theorem dI_M_append_78 : decode bC_M_append 78 = .ok (.if_icmp .lt 38, 3) := by decide +kernel
theorem dI_M_append_81 : decode bC_M_append 81 = .ok (.aload_n 0, 1) := by decide +kernel
theorem dI_M_append_82 : decode bC_M_append 82 = .ok (.getfield 7, 3) := by decide +kernel
theorem dI_M_append_85 : decode bC_M_append 85 = .ok (.sipush 128, 3) := by decide +kernel
theorem dI_M_append_88 : decode bC_M_append 88 = .ok (.iload_n 1, 1) := by decide +kernel
theorem dI_M_append_89 : decode bC_M_append 89 = .ok (.imul, 1) := by decide +kernel
theorem dI_M_append_90 : decode bC_M_append 90 = .ok (.iload 4, 2) := by decide +kernel
theorem dI_M_append_92 : decode bC_M_append 92 = .ok (.iadd, 1) := by decide +kernel
theorem dI_M_append_93 : decode bC_M_append 93 = .ok (.aload_n 0, 1) := by decide +kernel
theorem dI_M_append_94 : decode bC_M_append 94 = .ok (.getfield 7, 3) := by decide +kernel
theorem dI_M_append_97 : decode bC_M_append 97 = .ok (.sipush 128, 3) := by decide +kernel
theorem dI_M_append_100 : decode bC_M_append 100 = .ok (.iload_n 1, 1) := by decide +kernel
theorem dI_M_append_101 : decode bC_M_append 101 = .ok (.imul, 1) := by decide +kernel
theorem dI_M_append_102 : decode bC_M_append 102 = .ok (.iload 4, 2) := by decide +kernel
theorem dI_M_append_104 : decode bC_M_append 104 = .ok (.iadd, 1) := by decide +kernel
theorem dI_M_append_105 : decode bC_M_append 105 = .ok (.bipush 32, 2) := by decide +kernel
theorem dI_M_append_107 : decode bC_M_append 107 = .ok (.isub, 1) := by decide +kernel
theorem dI_M_append_108 : decode bC_M_append 108 = .ok (.iaload, 1) := by decide +kernel
theorem dI_M_append_109 : decode bC_M_append 109 = .ok (.iastore, 1) := by decide +kernel
theorem dI_M_append_110 : decode bC_M_append 110 = .ok (.iinc 4 (-1), 3) := by decide +kernel
theorem dI_M_append_113 : decode bC_M_append 113 = .ok (.goto (-39), 3) := by decide +kernel
theorem dI_M_append_116 : decode bC_M_append 116 = .ok (.iconst 0, 1) := by decide +kernel
theorem dI_M_append_117 : decode bC_M_append 117 = .ok (.istore 4, 2) := by decide +kernel
theorem dI_M_append_119 : decode bC_M_append 119 = .ok (.iload 4, 2) := by decide +kernel
theorem dI_M_append_121 : decode bC_M_append 121 = .ok (.bipush 32, 2) := by decide +kernel
theorem dI_M_append_123 : decode bC_M_append 123 = .ok (.if_icmp .ge 28, 3) := by decide +kernel
theorem dI_M_append_126 : decode bC_M_append 126 = .ok (.aload_n 0, 1) := by decide +kernel
theorem dI_M_append_127 : decode bC_M_append 127 = .ok (.getfield 7, 3) := by decide +kernel
theorem dI_M_append_130 : decode bC_M_append 130 = .ok (.sipush 128, 3) := by decide +kernel
theorem dI_M_append_133 : decode bC_M_append 133 = .ok (.iload_n 1, 1) := by decide +kernel
theorem dI_M_append_134 : decode bC_M_append 134 = .ok (.imul, 1) := by decide +kernel
theorem dI_M_append_135 : decode bC_M_append 135 = .ok (.iload 4, 2) := by decide +kernel
theorem dI_M_append_137 : decode bC_M_append 137 = .ok (.iadd, 1) := by decide +kernel
theorem dI_M_append_138 : decode bC_M_append 138 = .ok (.iload_n 2, 1) := by decide +kernel
theorem dI_M_append_139 : decode bC_M_append 139 = .ok (.iload 4, 2) := by decide +kernel
theorem dI_M_append_141 : decode bC_M_append 141 = .ok (.ishr, 1) := by decide +kernel
theorem dI_M_append_142 : decode bC_M_append 142 = .ok (.iconst 1, 1) := by decide +kernel
theorem dI_M_append_143 : decode bC_M_append 143 = .ok (.iand, 1) := by decide +kernel
theorem dI_M_append_144 : decode bC_M_append 144 = .ok (.iastore, 1) := by decide +kernel
theorem dI_M_append_145 : decode bC_M_append 145 = .ok (.iinc 4 1, 3) := by decide +kernel
theorem dI_M_append_148 : decode bC_M_append 148 = .ok (.goto (-29), 3) := by decide +kernel
theorem dI_M_append_151 : decode bC_M_append 151 = .ok (.return_, 1) := by decide +kernel
theorem dI_M_bits_0 : decode bC_M_bits 0 = .ok (.aload_n 0, 1) := by decide +kernel
theorem dI_M_bits_1 : decode bC_M_bits 1 = .ok (.iload_n 1, 1) := by decide +kernel
theorem dI_M_bits_2 : decode bC_M_bits 2 = .ok (.invokestatic 23, 3) := by decide +kernel
theorem dI_M_bits_5 : decode bC_M_bits 5 = .ok (.iconst 1, 1) := by decide +kernel
theorem dI_M_bits_6 : decode bC_M_bits 6 = .ok (.invokevirtual 27, 3) := by decide +kernel
theorem dI_M_bits_9 : decode bC_M_bits 9 = .ok (.ifCond .eq 7, 3) := by decide +kernel
theorem dI_M_bits_12 : decode bC_M_bits 12 = .ok (.iconst 0, 1) := by decide +kernel
theorem dI_M_bits_13 : decode bC_M_bits 13 = .ok (.goto 8, 3) := by decide +kernel
theorem dI_M_bits_16 : decode bC_M_bits 16 = .ok (.aload_n 0, 1) := by decide +kernel
theorem dI_M_bits_17 : decode bC_M_bits 17 = .ok (.iload_n 1, 1) := by decide +kernel
theorem dI_M_bits_18 : decode bC_M_bits 18 = .ok (.invokevirtual 75, 3) := by decide +kernel
theorem dI_M_bits_21 : decode bC_M_bits 21 = .ok (.ireturn, 1) := by decide +kernel
theorem dI_M_bitsOf_0 : decode bC_M_bitsOf 0 = .ok (.sipush 128, 3) := by decide +kernel
theorem dI_M_bitsOf_3 : decode bC_M_bitsOf 3 = .ok (.istore_n 2, 1) := by decide +kernel
theorem dI_M_bitsOf_4 : decode bC_M_bitsOf 4 = .ok (.iload_n 2, 1) := by decide +kernel
theorem dI_M_bitsOf_5 : decode bC_M_bitsOf 5 = .ok (.ifCond .le 26, 3) := by decide +kernel
theorem dI_M_bitsOf_8 : decode bC_M_bitsOf 8 = .ok (.aload_n 0, 1) := by decide +kernel
theorem dI_M_bitsOf_9 : decode bC_M_bitsOf 9 = .ok (.getfield 7, 3) := by decide +kernel
theorem dI_M_bitsOf_12 : decode bC_M_bitsOf 12 = .ok (.sipush 128, 3) := by decide +kernel
theorem dI_M_bitsOf_15 : decode bC_M_bitsOf 15 = .ok (.iload_n 1, 1) := by decide +kernel
theorem dI_M_bitsOf_16 : decode bC_M_bitsOf 16 = .ok (.imul, 1) := by decide +kernel
theorem dI_M_bitsOf_17 : decode bC_M_bitsOf 17 = .ok (.iload_n 2, 1) := by decide +kernel
theorem dI_M_bitsOf_18 : decode bC_M_bitsOf 18 = .ok (.iadd, 1) := by decide +kernel
theorem dI_M_bitsOf_19 : decode bC_M_bitsOf 19 = .ok (.iconst 1, 1) := by decide +kernel
theorem dI_M_bitsOf_20 : decode bC_M_bitsOf 20 = .ok (.isub, 1) := by decide +kernel
theorem dI_M_bitsOf_21 : decode bC_M_bitsOf 21 = .ok (.iaload, 1) := by decide +kernel
theorem dI_M_bitsOf_22 : decode bC_M_bitsOf 22 = .ok (.ifCond .ne 9, 3) := by decide +kernel
theorem dI_M_bitsOf_25 : decode bC_M_bitsOf 25 = .ok (.iinc 2 (-1), 3) := by decide +kernel
theorem dI_M_bitsOf_28 : decode bC_M_bitsOf 28 = .ok (.goto (-24), 3) := by decide +kernel
theorem dI_M_bitsOf_31 : decode bC_M_bitsOf 31 = .ok (.iload_n 2, 1) := by decide +kernel
theorem dI_M_bitsOf_32 : decode bC_M_bitsOf 32 = .ok (.ireturn, 1) := by decide +kernel
theorem dI_M_clear_0 : decode bC_M_clear 0 = .ok (.iconst 0, 1) := by decide +kernel
theorem dI_M_clear_1 : decode bC_M_clear 1 = .ok (.istore_n 2, 1) := by decide +kernel
theorem dI_M_clear_2 : decode bC_M_clear 2 = .ok (.iload_n 2, 1) := by decide +kernel
theorem dI_M_clear_3 : decode bC_M_clear 3 = .ok (.sipush 129, 3) := by decide +kernel
theorem dI_M_clear_6 : decode bC_M_clear 6 = .ok (.if_icmp .ge 22, 3) := by decide +kernel
theorem dI_M_clear_9 : decode bC_M_clear 9 = .ok (.aload_n 0, 1) := by decide +kernel
theorem dI_M_clear_10 : decode bC_M_clear 10 = .ok (.getfield 13, 3) := by decide +kernel
theorem dI_M_clear_13 : decode bC_M_clear 13 = .ok (.sipush 129, 3) := by decide +kernel
theorem dI_M_clear_16 : decode bC_M_clear 16 = .ok (.iload_n 1, 1) := by decide +kernel
theorem dI_M_clear_17 : decode bC_M_clear 17 = .ok (.imul, 1) := by decide +kernel
theorem dI_M_clear_18 : decode bC_M_clear 18 = .ok (.iload_n 2, 1) := by decide +kernel
theorem dI_M_clear_19 : decode bC_M_clear 19 = .ok (.iadd, 1) := by decide +kernel
theorem dI_M_clear_20 : decode bC_M_clear 20 = .ok (.iconst 0, 1) := by decide +kernel
theorem dI_M_clear_21 : decode bC_M_clear 21 = .ok (.iastore, 1) := by decide +kernel
theorem dI_M_clear_22 : decode bC_M_clear 22 = .ok (.iinc 2 1, 3) := by decide +kernel
theorem dI_M_clear_25 : decode bC_M_clear 25 = .ok (.goto (-23), 3) := by decide +kernel
theorem dI_M_clear_28 : decode bC_M_clear 28 = .ok (.return_, 1) := by decide +kernel
theorem dI_M_compare_0 : decode bC_M_compare 0 = .ok (.aload_n 0, 1) := by decide +kernel
theorem dI_M_compare_1 : decode bC_M_compare 1 = .ok (.iload_n 1, 1) := by decide +kernel
theorem dI_M_compare_2 : decode bC_M_compare 2 = .ok (.invokestatic 23, 3) := by decide +kernel
theorem dI_M_compare_5 : decode bC_M_compare 5 = .ok (.ifCond .ne 10, 3) := by decide +kernel
theorem dI_M_compare_8 : decode bC_M_compare 8 = .ok (.iload_n 2, 1) := by decide +kernel
theorem dI_M_compare_9 : decode bC_M_compare 9 = .ok (.invokestatic 23, 3) := by decide +kernel
theorem dI_M_compare_12 : decode bC_M_compare 12 = .ok (.ifCond .eq 7, 3) := by decide +kernel
theorem dI_M_compare_15 : decode bC_M_compare 15 = .ok (.iconst 1, 1) := by decide +kernel
theorem dI_M_compare_16 : decode bC_M_compare 16 = .ok (.goto 4, 3) := by decide +kernel
theorem dI_M_compare_19 : decode bC_M_compare 19 = .ok (.iconst 0, 1) := by decide +kernel
theorem dI_M_compare_20 : decode bC_M_compare 20 = .ok (.iconst 1, 1) := by decide +kernel
theorem dI_M_compare_21 : decode bC_M_compare 21 = .ok (.invokevirtual 27, 3) := by decide +kernel
theorem dI_M_compare_24 : decode bC_M_compare 24 = .ok (.ifCond .eq 5, 3) := by decide +kernel
theorem dI_M_compare_27 : decode bC_M_compare 27 = .ok (.iconst 0, 1) := by decide +kernel
theorem dI_M_compare_28 : decode bC_M_compare 28 = .ok (.ireturn, 1) := by decide +kernel
theorem dI_M_compare_29 : decode bC_M_compare 29 = .ok (.aload_n 0, 1) := by decide +kernel
theorem dI_M_compare_30 : decode bC_M_compare 30 = .ok (.iconst 0, 1) := by decide +kernel
theorem dI_M_compare_31 : decode bC_M_compare 31 = .ok (.iload_n 1, 1) := by decide +kernel
theorem dI_M_compare_32 : decode bC_M_compare 32 = .ok (.invokevirtual 31, 3) := by decide +kernel
theorem dI_M_compare_35 : decode bC_M_compare 35 = .ok (.aload_n 0, 1) := by decide +kernel
theorem dI_M_compare_36 : decode bC_M_compare 36 = .ok (.iconst 1, 1) := by decide +kernel
theorem dI_M_compare_37 : decode bC_M_compare 37 = .ok (.iload_n 2, 1) := by decide +kernel
theorem dI_M_compare_38 : decode bC_M_compare 38 = .ok (.invokevirtual 31, 3) := by decide +kernel
theorem dI_M_compare_41 : decode bC_M_compare 41 = .ok (.aload_n 0, 1) := by decide +kernel
theorem dI_M_compare_42 : decode bC_M_compare 42 = .ok (.iconst 0, 1) := by decide +kernel
theorem dI_M_compare_43 : decode bC_M_compare 43 = .ok (.iconst 1, 1) := by decide +kernel
theorem dI_M_compare_44 : decode bC_M_compare 44 = .ok (.invokevirtual 45, 3) := by decide +kernel
theorem dI_M_compare_47 : decode bC_M_compare 47 = .ok (.ireturn, 1) := by decide +kernel
theorem dI_M_congruent_0 : decode bC_M_congruent 0 = .ok (.aload_n 0, 1) := by decide +kernel
theorem dI_M_congruent_1 : decode bC_M_congruent 1 = .ok (.iload_n 1, 1) := by decide +kernel
theorem dI_M_congruent_2 : decode bC_M_congruent 2 = .ok (.invokestatic 23, 3) := by decide +kernel
theorem dI_M_congruent_5 : decode bC_M_congruent 5 = .ok (.iconst 1, 1) := by decide +kernel
theorem dI_M_congruent_6 : decode bC_M_congruent 6 = .ok (.invokevirtual 27, 3) := by decide +kernel
theorem dI_M_congruent_9 : decode bC_M_congruent 9 = .ok (.ifCond .ne 38, 3) := by decide +kernel
theorem dI_M_congruent_12 : decode bC_M_congruent 12 = .ok (.aload_n 0, 1) := by decide +kernel
theorem dI_M_congruent_13 : decode bC_M_congruent 13 = .ok (.iload_n 2, 1) := by decide +kernel
theorem dI_M_congruent_14 : decode bC_M_congruent 14 = .ok (.iconst 1, 1) := by decide +kernel
theorem dI_M_congruent_15 : decode bC_M_congruent 15 = .ok (.if_icmp .lt 20, 3) := by decide +kernel
theorem dI_M_congruent_18 : decode bC_M_congruent 18 = .ok (.iload_n 2, 1) := by decide +kernel
theorem dI_M_congruent_19 : decode bC_M_congruent 19 = .ok (.bipush 64, 2) := by decide +kernel
theorem dI_M_congruent_21 : decode bC_M_congruent 21 = .ok (.if_icmp .gt 14, 3) := by decide +kernel
theorem dI_M_congruent_24 : decode bC_M_congruent 24 = .ok (.iload_n 3, 1) := by decide +kernel
theorem dI_M_congruent_25 : decode bC_M_congruent 25 = .ok (.ifCond .lt 10, 3) := by decide +kernel
theorem dI_M_congruent_28 : decode bC_M_congruent 28 = .ok (.iload_n 3, 1) := by decide +kernel
theorem dI_M_congruent_29 : decode bC_M_congruent 29 = .ok (.sipush 4095, 3) := by decide +kernel
theorem dI_M_congruent_32 : decode bC_M_congruent 32 = .ok (.if_icmp .le 7, 3) := by decide +kernel
theorem dI_M_congruent_35 : decode bC_M_congruent 35 = .ok (.iconst 1, 1) := by decide +kernel
theorem dI_M_congruent_36 : decode bC_M_congruent 36 = .ok (.goto 4, 3) := by decide +kernel
theorem dI_M_congruent_39 : decode bC_M_congruent 39 = .ok (.iconst 0, 1) := by decide +kernel
theorem dI_M_congruent_40 : decode bC_M_congruent 40 = .ok (.iconst 2, 1) := by decide +kernel
theorem dI_M_congruent_41 : decode bC_M_congruent 41 = .ok (.invokevirtual 27, 3) := by decide +kernel
theorem dI_M_congruent_44 : decode bC_M_congruent 44 = .ok (.ifCond .eq 5, 3) := by decide +kernel
theorem dI_M_congruent_47 : decode bC_M_congruent 47 = .ok (.iconst 0, 1) := by decide +kernel
theorem dI_M_congruent_48 : decode bC_M_congruent 48 = .ok (.ireturn, 1) := by decide +kernel
theorem dI_M_congruent_49 : decode bC_M_congruent 49 = .ok (.aload_n 0, 1) := by decide +kernel
theorem dI_M_congruent_50 : decode bC_M_congruent 50 = .ok (.iload_n 1, 1) := by decide +kernel
theorem dI_M_congruent_51 : decode bC_M_congruent 51 = .ok (.sipush 4096, 3) := by decide +kernel
theorem dI_M_congruent_54 : decode bC_M_congruent 54 = .ok (.invokevirtual 99, 3) := by decide +kernel
theorem dI_M_congruent_57 : decode bC_M_congruent 57 = .ok (.istore 4, 2) := by decide +kernel
theorem dI_M_congruent_59 : decode bC_M_congruent 59 = .ok (.aload_n 0, 1) := by decide +kernel
theorem dI_M_congruent_60 : decode bC_M_congruent 60 = .ok (.iload 4, 2) := by decide +kernel
theorem dI_M_congruent_62 : decode bC_M_congruent 62 = .ok (.iconst 2, 1) := by decide +kernel
theorem dI_M_congruent_63 : decode bC_M_congruent 63 = .ok (.if_icmp .lt 11, 3) := by decide +kernel
theorem dI_M_congruent_66 : decode bC_M_congruent 66 = .ok (.iload 4, 2) := by decide +kernel
theorem dI_M_congruent_68 : decode bC_M_congruent 68 = .ok (.sipush 4095, 3) := by decide +kernel
theorem dI_M_congruent_71 : decode bC_M_congruent 71 = .ok (.if_icmp .le 7, 3) := by decide +kernel
theorem dI_M_congruent_74 : decode bC_M_congruent 74 = .ok (.iconst 1, 1) := by decide +kernel
theorem dI_M_congruent_75 : decode bC_M_congruent 75 = .ok (.goto 4, 3) := by decide +kernel
theorem dI_M_congruent_78 : decode bC_M_congruent 78 = .ok (.iconst 0, 1) := by decide +kernel
theorem dI_M_congruent_79 : decode bC_M_congruent 79 = .ok (.iconst 3, 1) := by decide +kernel
theorem dI_M_congruent_80 : decode bC_M_congruent 80 = .ok (.invokevirtual 27, 3) := by decide +kernel
theorem dI_M_congruent_83 : decode bC_M_congruent 83 = .ok (.ifCond .eq 5, 3) := by decide +kernel
theorem dI_M_congruent_86 : decode bC_M_congruent 86 = .ok (.iconst 0, 1) := by decide +kernel
theorem dI_M_congruent_87 : decode bC_M_congruent 87 = .ok (.ireturn, 1) := by decide +kernel
theorem dI_M_congruent_88 : decode bC_M_congruent 88 = .ok (.iconst 0, 1) := by decide +kernel
theorem dI_M_congruent_89 : decode bC_M_congruent 89 = .ok (.istore 5, 2) := by decide +kernel
theorem dI_M_congruent_91 : decode bC_M_congruent 91 = .ok (.iload 5, 2) := by decide +kernel
theorem dI_M_congruent_93 : decode bC_M_congruent 93 = .ok (.bipush 64, 2) := by decide +kernel
theorem dI_M_congruent_95 : decode bC_M_congruent 95 = .ok (.if_icmp .ge 17, 3) := by decide +kernel
theorem dI_M_congruent_98 : decode bC_M_congruent 98 = .ok (.aload_n 0, 1) := by decide +kernel
theorem dI_M_congruent_99 : decode bC_M_congruent 99 = .ok (.getfield 16, 3) := by decide +kernel
theorem dI_M_congruent_102 : decode bC_M_congruent 102 = .ok (.iload 5, 2) := by decide +kernel
theorem dI_M_congruent_104 : decode bC_M_congruent 104 = .ok (.iconst 0, 1) := by decide +kernel
theorem dI_M_congruent_105 : decode bC_M_congruent 105 = .ok (.iastore, 1) := by decide +kernel
theorem dI_M_congruent_106 : decode bC_M_congruent 106 = .ok (.iinc 5 1, 3) := by decide +kernel
theorem dI_M_congruent_109 : decode bC_M_congruent 109 = .ok (.goto (-18), 3) := by decide +kernel
theorem dI_M_congruent_112 : decode bC_M_congruent 112 = .ok (.aload_n 0, 1) := by decide +kernel
theorem dI_M_congruent_113 : decode bC_M_congruent 113 = .ok (.getfield 16, 3) := by decide +kernel
theorem dI_M_congruent_116 : decode bC_M_congruent 116 = .ok (.iconst 0, 1) := by decide +kernel
theorem dI_M_congruent_117 : decode bC_M_congruent 117 = .ok (.iconst 1, 1) := by decide +kernel
theorem dI_M_congruent_118 : decode bC_M_congruent 118 = .ok (.iastore, 1) := by decide +kernel
theorem dI_M_congruent_119 : decode bC_M_congruent 119 = .ok (.iconst 0, 1) := by decide +kernel
theorem dI_M_congruent_120 : decode bC_M_congruent 120 = .ok (.istore 5, 2) := by decide +kernel
theorem dI_M_congruent_122 : decode bC_M_congruent 122 = .ok (.iload 5, 2) := by decide +kernel
theorem dI_M_congruent_124 : decode bC_M_congruent 124 = .ok (.iload 4, 2) := by decide +kernel
theorem dI_M_congruent_126 : decode bC_M_congruent 126 = .ok (.if_icmp .ge 17, 3) := by decide +kernel
theorem dI_M_congruent_129 : decode bC_M_congruent 129 = .ok (.aload_n 0, 1) := by decide +kernel
theorem dI_M_congruent_130 : decode bC_M_congruent 130 = .ok (.iload 4, 2) := by decide +kernel
theorem dI_M_congruent_132 : decode bC_M_congruent 132 = .ok (.iload_n 2, 1) := by decide +kernel
theorem dI_M_congruent_133 : decode bC_M_congruent 133 = .ok (.iload_n 3, 1) := by decide +kernel
theorem dI_M_congruent_134 : decode bC_M_congruent 134 = .ok (.invokevirtual 103, 3) := by decide +kernel
theorem dI_M_congruent_137 : decode bC_M_congruent 137 = .ok (.iinc 5 1, 3) := by decide +kernel
theorem dI_M_congruent_140 : decode bC_M_congruent 140 = .ok (.goto (-18), 3) := by decide +kernel
theorem dI_M_congruent_143 : decode bC_M_congruent 143 = .ok (.aload_n 0, 1) := by decide +kernel
theorem dI_M_congruent_144 : decode bC_M_congruent 144 = .ok (.getfield 16, 3) := by decide +kernel
theorem dI_M_congruent_147 : decode bC_M_congruent 147 = .ok (.iload 4, 2) := by decide +kernel
theorem dI_M_congruent_149 : decode bC_M_congruent 149 = .ok (.iload_n 2, 1) := by decide +kernel
theorem dI_M_congruent_150 : decode bC_M_congruent 150 = .ok (.irem, 1) := by decide +kernel
theorem dI_M_congruent_151 : decode bC_M_congruent 151 = .ok (.aload_n 0, 1) := by decide +kernel
theorem dI_M_congruent_152 : decode bC_M_congruent 152 = .ok (.getfield 16, 3) := by decide +kernel
theorem dI_M_congruent_155 : decode bC_M_congruent 155 = .ok (.iload 4, 2) := by decide +kernel
theorem dI_M_congruent_157 : decode bC_M_congruent 157 = .ok (.iload_n 2, 1) := by decide +kernel
theorem dI_M_congruent_158 : decode bC_M_congruent 158 = .ok (.irem, 1) := by decide +kernel
theorem dI_M_congruent_159 : decode bC_M_congruent 159 = .ok (.iaload, 1) := by decide +kernel
theorem dI_M_congruent_160 : decode bC_M_congruent 160 = .ok (.iload 4, 2) := by decide +kernel
theorem dI_M_congruent_162 : decode bC_M_congruent 162 = .ok (.iadd, 1) := by decide +kernel
theorem dI_M_congruent_163 : decode bC_M_congruent 163 = .ok (.iconst 1, 1) := by decide +kernel
theorem dI_M_congruent_164 : decode bC_M_congruent 164 = .ok (.isub, 1) := by decide +kernel
theorem dI_M_congruent_165 : decode bC_M_congruent 165 = .ok (.iload 4, 2) := by decide +kernel
theorem dI_M_congruent_167 : decode bC_M_congruent 167 = .ok (.irem, 1) := by decide +kernel
theorem dI_M_congruent_168 : decode bC_M_congruent 168 = .ok (.iastore, 1) := by decide +kernel
theorem dI_M_congruent_169 : decode bC_M_congruent 169 = .ok (.aload_n 0, 1) := by decide +kernel
theorem dI_M_congruent_170 : decode bC_M_congruent 170 = .ok (.getfield 16, 3) := by decide +kernel
theorem dI_M_congruent_173 : decode bC_M_congruent 173 = .ok (.iconst 0, 1) := by decide +kernel
theorem dI_M_congruent_174 : decode bC_M_congruent 174 = .ok (.aload_n 0, 1) := by decide +kernel
theorem dI_M_congruent_175 : decode bC_M_congruent 175 = .ok (.getfield 16, 3) := by decide +kernel
theorem dI_M_congruent_178 : decode bC_M_congruent 178 = .ok (.iconst 0, 1) := by decide +kernel
theorem dI_M_congruent_179 : decode bC_M_congruent 179 = .ok (.iaload, 1) := by decide +kernel
theorem dI_M_congruent_180 : decode bC_M_congruent 180 = .ok (.iload 4, 2) := by decide +kernel
theorem dI_M_congruent_182 : decode bC_M_congruent 182 = .ok (.iadd, 1) := by decide +kernel
theorem dI_M_congruent_183 : decode bC_M_congruent 183 = .ok (.iload_n 3, 1) := by decide +kernel
theorem dI_M_congruent_184 : decode bC_M_congruent 184 = .ok (.iload 4, 2) := by decide +kernel
theorem dI_M_congruent_186 : decode bC_M_congruent 186 = .ok (.irem, 1) := by decide +kernel
theorem dI_M_congruent_187 : decode bC_M_congruent 187 = .ok (.isub, 1) := by decide +kernel
theorem dI_M_congruent_188 : decode bC_M_congruent 188 = .ok (.iload 4, 2) := by decide +kernel
theorem dI_M_congruent_190 : decode bC_M_congruent 190 = .ok (.irem, 1) := by decide +kernel
theorem dI_M_congruent_191 : decode bC_M_congruent 191 = .ok (.iastore, 1) := by decide +kernel
theorem dI_M_congruent_192 : decode bC_M_congruent 192 = .ok (.iconst 1, 1) := by decide +kernel
theorem dI_M_congruent_193 : decode bC_M_congruent 193 = .ok (.istore 5, 2) := by decide +kernel
theorem dI_M_congruent_195 : decode bC_M_congruent 195 = .ok (.iconst 0, 1) := by decide +kernel
theorem dI_M_congruent_196 : decode bC_M_congruent 196 = .ok (.istore 6, 2) := by decide +kernel
theorem dI_M_congruent_198 : decode bC_M_congruent 198 = .ok (.iload 6, 2) := by decide +kernel
theorem dI_M_congruent_200 : decode bC_M_congruent 200 = .ok (.iload_n 2, 1) := by decide +kernel
theorem dI_M_congruent_201 : decode bC_M_congruent 201 = .ok (.if_icmp .ge 31, 3) := by decide +kernel
theorem dI_M_congruent_204 : decode bC_M_congruent 204 = .ok (.iload 5, 2) := by decide +kernel
theorem dI_M_congruent_206 : decode bC_M_congruent 206 = .ok (.ifCond .eq 17, 3) := by decide +kernel
theorem dI_M_congruent_209 : decode bC_M_congruent 209 = .ok (.aload_n 0, 1) := by decide +kernel
theorem dI_M_congruent_210 : decode bC_M_congruent 210 = .ok (.getfield 16, 3) := by decide +kernel
theorem dI_M_congruent_213 : decode bC_M_congruent 213 = .ok (.iload 6, 2) := by decide +kernel
theorem dI_M_congruent_215 : decode bC_M_congruent 215 = .ok (.iaload, 1) := by decide +kernel
theorem dI_M_congruent_216 : decode bC_M_congruent 216 = .ok (.ifCond .ne 7, 3) := by decide +kernel
theorem dI_M_congruent_219 : decode bC_M_congruent 219 = .ok (.iconst 1, 1) := by decide +kernel
theorem dI_M_congruent_220 : decode bC_M_congruent 220 = .ok (.goto 4, 3) := by decide +kernel
theorem dI_M_congruent_223 : decode bC_M_congruent 223 = .ok (.iconst 0, 1) := by decide +kernel
theorem dI_M_congruent_224 : decode bC_M_congruent 224 = .ok (.istore 5, 2) := by decide +kernel
theorem dI_M_congruent_226 : decode bC_M_congruent 226 = .ok (.iinc 6 1, 3) := by decide +kernel
theorem dI_M_congruent_229 : decode bC_M_congruent 229 = .ok (.goto (-31), 3) := by decide +kernel
theorem dI_M_congruent_232 : decode bC_M_congruent 232 = .ok (.iload 5, 2) := by decide +kernel
theorem dI_M_congruent_234 : decode bC_M_congruent 234 = .ok (.ireturn, 1) := by decide +kernel
theorem dI_M_copy_0 : decode bC_M_copy 0 = .ok (.iconst 0, 1) := by decide +kernel
theorem dI_M_copy_1 : decode bC_M_copy 1 = .ok (.istore_n 3, 1) := by decide +kernel
theorem dI_M_copy_2 : decode bC_M_copy 2 = .ok (.iload_n 3, 1) := by decide +kernel
theorem dI_M_copy_3 : decode bC_M_copy 3 = .ok (.sipush 129, 3) := by decide +kernel
theorem dI_M_copy_6 : decode bC_M_copy 6 = .ok (.if_icmp .ge 33, 3) := by decide +kernel
theorem dI_M_copy_9 : decode bC_M_copy 9 = .ok (.aload_n 0, 1) := by decide +kernel
theorem dI_M_copy_10 : decode bC_M_copy 10 = .ok (.getfield 13, 3) := by decide +kernel
theorem dI_M_copy_13 : decode bC_M_copy 13 = .ok (.sipush 129, 3) := by decide +kernel
theorem dI_M_copy_16 : decode bC_M_copy 16 = .ok (.iload_n 1, 1) := by decide +kernel
theorem dI_M_copy_17 : decode bC_M_copy 17 = .ok (.imul, 1) := by decide +kernel
theorem dI_M_copy_18 : decode bC_M_copy 18 = .ok (.iload_n 3, 1) := by decide +kernel
theorem dI_M_copy_19 : decode bC_M_copy 19 = .ok (.iadd, 1) := by decide +kernel
theorem dI_M_copy_20 : decode bC_M_copy 20 = .ok (.aload_n 0, 1) := by decide +kernel
theorem dI_M_copy_21 : decode bC_M_copy 21 = .ok (.getfield 13, 3) := by decide +kernel
theorem dI_M_copy_24 : decode bC_M_copy 24 = .ok (.sipush 129, 3) := by decide +kernel
theorem dI_M_copy_27 : decode bC_M_copy 27 = .ok (.iload_n 2, 1) := by decide +kernel
theorem dI_M_copy_28 : decode bC_M_copy 28 = .ok (.imul, 1) := by decide +kernel
theorem dI_M_copy_29 : decode bC_M_copy 29 = .ok (.iload_n 3, 1) := by decide +kernel
theorem dI_M_copy_30 : decode bC_M_copy 30 = .ok (.iadd, 1) := by decide +kernel
theorem dI_M_copy_31 : decode bC_M_copy 31 = .ok (.iaload, 1) := by decide +kernel
theorem dI_M_copy_32 : decode bC_M_copy 32 = .ok (.iastore, 1) := by decide +kernel
theorem dI_M_copy_33 : decode bC_M_copy 33 = .ok (.iinc 3 1, 3) := by decide +kernel
theorem dI_M_copy_36 : decode bC_M_copy 36 = .ok (.goto (-34), 3) := by decide +kernel
theorem dI_M_copy_39 : decode bC_M_copy 39 = .ok (.return_, 1) := by decide +kernel
theorem dI_M_divide_0 : decode bC_M_divide 0 = .ok (.aload_n 0, 1) := by decide +kernel
theorem dI_M_divide_1 : decode bC_M_divide 1 = .ok (.iload_n 1, 1) := by decide +kernel
theorem dI_M_divide_2 : decode bC_M_divide 2 = .ok (.invokestatic 23, 3) := by decide +kernel
theorem dI_M_divide_5 : decode bC_M_divide 5 = .ok (.ifCond .ne 25, 3) := by decide +kernel
theorem dI_M_divide_8 : decode bC_M_divide 8 = .ok (.iload_n 2, 1) := by decide +kernel
theorem dI_M_divide_9 : decode bC_M_divide 9 = .ok (.invokestatic 23, 3) := by decide +kernel
theorem dI_M_divide_12 : decode bC_M_divide 12 = .ok (.ifCond .ne 18, 3) := by decide +kernel
theorem dI_M_divide_15 : decode bC_M_divide 15 = .ok (.iload_n 3, 1) := by decide +kernel
theorem dI_M_divide_16 : decode bC_M_divide 16 = .ok (.invokestatic 23, 3) := by decide +kernel
theorem dI_M_divide_19 : decode bC_M_divide 19 = .ok (.ifCond .ne 11, 3) := by decide +kernel
theorem dI_M_divide_22 : decode bC_M_divide 22 = .ok (.iload 4, 2) := by decide +kernel
theorem dI_M_divide_24 : decode bC_M_divide 24 = .ok (.invokestatic 23, 3) := by decide +kernel
theorem dI_M_divide_27 : decode bC_M_divide 27 = .ok (.ifCond .eq 7, 3) := by decide +kernel
theorem dI_M_divide_30 : decode bC_M_divide 30 = .ok (.iconst 1, 1) := by decide +kernel
theorem dI_M_divide_31 : decode bC_M_divide 31 = .ok (.goto 4, 3) := by decide +kernel
theorem dI_M_divide_34 : decode bC_M_divide 34 = .ok (.iconst 0, 1) := by decide +kernel
theorem dI_M_divide_35 : decode bC_M_divide 35 = .ok (.iconst 1, 1) := by decide +kernel
theorem dI_M_divide_36 : decode bC_M_divide 36 = .ok (.invokevirtual 27, 3) := by decide +kernel
theorem dI_M_divide_39 : decode bC_M_divide 39 = .ok (.ifCond .ne 22, 3) := by decide +kernel
theorem dI_M_divide_42 : decode bC_M_divide 42 = .ok (.aload_n 0, 1) := by decide +kernel
theorem dI_M_divide_43 : decode bC_M_divide 43 = .ok (.iload_n 3, 1) := by decide +kernel
theorem dI_M_divide_44 : decode bC_M_divide 44 = .ok (.iload 4, 2) := by decide +kernel
theorem dI_M_divide_46 : decode bC_M_divide 46 = .ok (.if_icmp .ne 7, 3) := by decide +kernel
theorem dI_M_divide_49 : decode bC_M_divide 49 = .ok (.iconst 1, 1) := by decide +kernel
theorem dI_M_divide_50 : decode bC_M_divide 50 = .ok (.goto 4, 3) := by decide +kernel
theorem dI_M_divide_53 : decode bC_M_divide 53 = .ok (.iconst 0, 1) := by decide +kernel
theorem dI_M_divide_54 : decode bC_M_divide 54 = .ok (.iconst 2, 1) := by decide +kernel
theorem dI_M_divide_55 : decode bC_M_divide 55 = .ok (.invokevirtual 27, 3) := by decide +kernel
theorem dI_M_divide_58 : decode bC_M_divide 58 = .ok (.ifCond .eq 4, 3) := by decide +kernel
theorem dI_M_divide_61 : decode bC_M_divide 61 = .ok (.return_, 1) := by decide +kernel
theorem dI_M_divide_62 : decode bC_M_divide 62 = .ok (.aload_n 0, 1) := by decide +kernel
theorem dI_M_divide_63 : decode bC_M_divide 63 = .ok (.iconst 0, 1) := by decide +kernel
theorem dI_M_divide_64 : decode bC_M_divide 64 = .ok (.iload_n 1, 1) := by decide +kernel
theorem dI_M_divide_65 : decode bC_M_divide 65 = .ok (.invokevirtual 31, 3) := by decide +kernel
theorem dI_M_divide_68 : decode bC_M_divide 68 = .ok (.aload_n 0, 1) := by decide +kernel
theorem dI_M_divide_69 : decode bC_M_divide 69 = .ok (.iconst 1, 1) := by decide +kernel
theorem dI_M_divide_70 : decode bC_M_divide 70 = .ok (.iload_n 2, 1) := by decide +kernel
theorem dI_M_divide_71 : decode bC_M_divide 71 = .ok (.invokevirtual 31, 3) := by decide +kernel
theorem dI_M_divide_74 : decode bC_M_divide 74 = .ok (.aload_n 0, 1) := by decide +kernel
theorem dI_M_divide_75 : decode bC_M_divide 75 = .ok (.aload_n 0, 1) := by decide +kernel
theorem dI_M_divide_76 : decode bC_M_divide 76 = .ok (.iconst 1, 1) := by decide +kernel
theorem dI_M_divide_77 : decode bC_M_divide 77 = .ok (.invokevirtual 59, 3) := by decide +kernel
theorem dI_M_divide_80 : decode bC_M_divide 80 = .ok (.iconst 3, 1) := by decide +kernel
theorem dI_M_divide_81 : decode bC_M_divide 81 = .ok (.invokevirtual 27, 3) := by decide +kernel
theorem dI_M_divide_84 : decode bC_M_divide 84 = .ok (.ifCond .eq 4, 3) := by decide +kernel
theorem dI_M_divide_87 : decode bC_M_divide 87 = .ok (.return_, 1) := by decide +kernel
theorem dI_M_divide_88 : decode bC_M_divide 88 = .ok (.aload_n 0, 1) := by decide +kernel
theorem dI_M_divide_89 : decode bC_M_divide 89 = .ok (.iconst 0, 1) := by decide +kernel
theorem dI_M_divide_90 : decode bC_M_divide 90 = .ok (.iconst 1, 1) := by decide +kernel
theorem dI_M_divide_91 : decode bC_M_divide 91 = .ok (.invokevirtual 62, 3) := by decide +kernel
theorem dI_M_divide_94 : decode bC_M_divide 94 = .ok (.aload_n 0, 1) := by decide +kernel
theorem dI_M_divide_95 : decode bC_M_divide 95 = .ok (.iload_n 3, 1) := by decide +kernel
theorem dI_M_divide_96 : decode bC_M_divide 96 = .ok (.iconst 3, 1) := by decide +kernel
theorem dI_M_divide_97 : decode bC_M_divide 97 = .ok (.invokevirtual 42, 3) := by decide +kernel
theorem dI_M_divide_100 : decode bC_M_divide 100 = .ok (.aload_n 0, 1) := by decide +kernel
theorem dI_M_divide_101 : decode bC_M_divide 101 = .ok (.iload 4, 2) := by decide +kernel
theorem dI_M_divide_103 : decode bC_M_divide 103 = .ok (.iconst 4, 1) := by decide +kernel
theorem dI_M_divide_104 : decode bC_M_divide 104 = .ok (.invokevirtual 42, 3) := by decide +kernel
theorem dI_M_divide_107 : decode bC_M_divide 107 = .ok (.return_, 1) := by decide +kernel
theorem dI_M_gcd_0 : decode bC_M_gcd 0 = .ok (.aload_n 0, 1) := by decide +kernel
theorem dI_M_gcd_1 : decode bC_M_gcd 1 = .ok (.iload_n 1, 1) := by decide +kernel
theorem dI_M_gcd_2 : decode bC_M_gcd 2 = .ok (.invokestatic 23, 3) := by decide +kernel
theorem dI_M_gcd_5 : decode bC_M_gcd 5 = .ok (.ifCond .ne 17, 3) := by decide +kernel
theorem dI_M_gcd_8 : decode bC_M_gcd 8 = .ok (.iload_n 2, 1) := by decide +kernel
theorem dI_M_gcd_9 : decode bC_M_gcd 9 = .ok (.invokestatic 23, 3) := by decide +kernel
theorem dI_M_gcd_12 : decode bC_M_gcd 12 = .ok (.ifCond .ne 10, 3) := by decide +kernel
theorem dI_M_gcd_15 : decode bC_M_gcd 15 = .ok (.iload_n 3, 1) := by decide +kernel
theorem dI_M_gcd_16 : decode bC_M_gcd 16 = .ok (.invokestatic 23, 3) := by decide +kernel
theorem dI_M_gcd_19 : decode bC_M_gcd 19 = .ok (.ifCond .eq 7, 3) := by decide +kernel
theorem dI_M_gcd_22 : decode bC_M_gcd 22 = .ok (.iconst 1, 1) := by decide +kernel
theorem dI_M_gcd_23 : decode bC_M_gcd 23 = .ok (.goto 4, 3) := by decide +kernel
theorem dI_M_gcd_26 : decode bC_M_gcd 26 = .ok (.iconst 0, 1) := by decide +kernel
theorem dI_M_gcd_27 : decode bC_M_gcd 27 = .ok (.iconst 1, 1) := by decide +kernel
theorem dI_M_gcd_28 : decode bC_M_gcd 28 = .ok (.invokevirtual 27, 3) := by decide +kernel
theorem dI_M_gcd_31 : decode bC_M_gcd 31 = .ok (.ifCond .eq 4, 3) := by decide +kernel
theorem dI_M_gcd_34 : decode bC_M_gcd 34 = .ok (.return_, 1) := by decide +kernel
theorem dI_M_gcd_35 : decode bC_M_gcd 35 = .ok (.aload_n 0, 1) := by decide +kernel
theorem dI_M_gcd_36 : decode bC_M_gcd 36 = .ok (.iconst 0, 1) := by decide +kernel
theorem dI_M_gcd_37 : decode bC_M_gcd 37 = .ok (.iload_n 1, 1) := by decide +kernel
theorem dI_M_gcd_38 : decode bC_M_gcd 38 = .ok (.invokevirtual 31, 3) := by decide +kernel
theorem dI_M_gcd_41 : decode bC_M_gcd 41 = .ok (.aload_n 0, 1) := by decide +kernel
theorem dI_M_gcd_42 : decode bC_M_gcd 42 = .ok (.iconst 1, 1) := by decide +kernel
theorem dI_M_gcd_43 : decode bC_M_gcd 43 = .ok (.iload_n 2, 1) := by decide +kernel
theorem dI_M_gcd_44 : decode bC_M_gcd 44 = .ok (.invokevirtual 31, 3) := by decide +kernel
theorem dI_M_gcd_47 : decode bC_M_gcd 47 = .ok (.iconst 0, 1) := by decide +kernel
theorem dI_M_gcd_48 : decode bC_M_gcd 48 = .ok (.istore 4, 2) := by decide +kernel
theorem dI_M_gcd_50 : decode bC_M_gcd 50 = .ok (.iload 4, 2) := by decide +kernel
theorem dI_M_gcd_52 : decode bC_M_gcd 52 = .ok (.sipush 1000, 3) := by decide +kernel
theorem dI_M_gcd_55 : decode bC_M_gcd 55 = .ok (.if_icmp .ge 35, 3) := by decide +kernel
theorem dI_M_gcd_58 : decode bC_M_gcd 58 = .ok (.aload_n 0, 1) := by decide +kernel
theorem dI_M_gcd_59 : decode bC_M_gcd 59 = .ok (.iconst 1, 1) := by decide +kernel
theorem dI_M_gcd_60 : decode bC_M_gcd 60 = .ok (.invokevirtual 59, 3) := by decide +kernel
theorem dI_M_gcd_63 : decode bC_M_gcd 63 = .ok (.ifCond .ne 27, 3) := by decide +kernel
theorem dI_M_gcd_66 : decode bC_M_gcd 66 = .ok (.aload_n 0, 1) := by decide +kernel
theorem dI_M_gcd_67 : decode bC_M_gcd 67 = .ok (.iconst 0, 1) := by decide +kernel
theorem dI_M_gcd_68 : decode bC_M_gcd 68 = .ok (.iconst 1, 1) := by decide +kernel
theorem dI_M_gcd_69 : decode bC_M_gcd 69 = .ok (.invokevirtual 62, 3) := by decide +kernel
theorem dI_M_gcd_72 : decode bC_M_gcd 72 = .ok (.aload_n 0, 1) := by decide +kernel
theorem dI_M_gcd_73 : decode bC_M_gcd 73 = .ok (.iconst 0, 1) := by decide +kernel
theorem dI_M_gcd_74 : decode bC_M_gcd 74 = .ok (.iconst 1, 1) := by decide +kernel
theorem dI_M_gcd_75 : decode bC_M_gcd 75 = .ok (.invokevirtual 69, 3) := by decide +kernel
theorem dI_M_gcd_78 : decode bC_M_gcd 78 = .ok (.aload_n 0, 1) := by decide +kernel
theorem dI_M_gcd_79 : decode bC_M_gcd 79 = .ok (.iconst 1, 1) := by decide +kernel
theorem dI_M_gcd_80 : decode bC_M_gcd 80 = .ok (.iconst 4, 1) := by decide +kernel
theorem dI_M_gcd_81 : decode bC_M_gcd 81 = .ok (.invokevirtual 69, 3) := by decide +kernel
theorem dI_M_gcd_84 : decode bC_M_gcd 84 = .ok (.iinc 4 1, 3) := by decide +kernel
theorem dI_M_gcd_87 : decode bC_M_gcd 87 = .ok (.goto (-37), 3) := by decide +kernel
theorem dI_M_gcd_90 : decode bC_M_gcd 90 = .ok (.aload_n 0, 1) := by decide +kernel
theorem dI_M_gcd_91 : decode bC_M_gcd 91 = .ok (.iload_n 3, 1) := by decide +kernel
theorem dI_M_gcd_92 : decode bC_M_gcd 92 = .ok (.iconst 0, 1) := by decide +kernel
theorem dI_M_gcd_93 : decode bC_M_gcd 93 = .ok (.invokevirtual 42, 3) := by decide +kernel
theorem dI_M_gcd_96 : decode bC_M_gcd 96 = .ok (.return_, 1) := by decide +kernel
theorem dI_M_grow_0 : decode bC_M_grow 0 = .ok (.aload_n 0, 1) := by decide +kernel
theorem dI_M_grow_1 : decode bC_M_grow 1 = .ok (.iconst 5, 1) := by decide +kernel
theorem dI_M_grow_2 : decode bC_M_grow 2 = .ok (.invokevirtual 52, 3) := by decide +kernel
theorem dI_M_grow_5 : decode bC_M_grow 5 = .ok (.iconst 1, 1) := by decide +kernel
theorem dI_M_grow_6 : decode bC_M_grow 6 = .ok (.istore_n 1, 1) := by decide +kernel
theorem dI_M_grow_7 : decode bC_M_grow 7 = .ok (.aload_n 0, 1) := by decide +kernel
theorem dI_M_grow_8 : decode bC_M_grow 8 = .ok (.iconst 3, 1) := by decide +kernel
theorem dI_M_grow_9 : decode bC_M_grow 9 = .ok (.invokevirtual 65, 3) := by decide +kernel
theorem dI_M_grow_12 : decode bC_M_grow 12 = .ok (.istore_n 2, 1) := by decide +kernel
theorem dI_M_grow_13 : decode bC_M_grow 13 = .ok (.iload_n 2, 1) := by decide +kernel
theorem dI_M_grow_14 : decode bC_M_grow 14 = .ok (.istore_n 3, 1) := by decide +kernel
theorem dI_M_grow_15 : decode bC_M_grow 15 = .ok (.iload_n 3, 1) := by decide +kernel
theorem dI_M_grow_16 : decode bC_M_grow 16 = .ok (.ifCond .lt 63, 3) := by decide +kernel
theorem dI_M_grow_19 : decode bC_M_grow 19 = .ok (.iload_n 1, 1) := by decide +kernel
theorem dI_M_grow_20 : decode bC_M_grow 20 = .ok (.ifCond .eq 59, 3) := by decide +kernel
theorem dI_M_grow_23 : decode bC_M_grow 23 = .ok (.aload_n 0, 1) := by decide +kernel
theorem dI_M_grow_24 : decode bC_M_grow 24 = .ok (.iconst 5, 1) := by decide +kernel
theorem dI_M_grow_25 : decode bC_M_grow 25 = .ok (.iconst 0, 1) := by decide +kernel
theorem dI_M_grow_26 : decode bC_M_grow 26 = .ok (.invokevirtual 56, 3) := by decide +kernel
theorem dI_M_grow_29 : decode bC_M_grow 29 = .ok (.istore_n 1, 1) := by decide +kernel
theorem dI_M_grow_30 : decode bC_M_grow 30 = .ok (.iload_n 1, 1) := by decide +kernel
theorem dI_M_grow_31 : decode bC_M_grow 31 = .ok (.ifCond .eq 24, 3) := by decide +kernel
theorem dI_M_grow_34 : decode bC_M_grow 34 = .ok (.aload_n 0, 1) := by decide +kernel
theorem dI_M_grow_35 : decode bC_M_grow 35 = .ok (.getfield 13, 3) := by decide +kernel
theorem dI_M_grow_38 : decode bC_M_grow 38 = .ok (.sipush 387, 3) := by decide +kernel
theorem dI_M_grow_41 : decode bC_M_grow 41 = .ok (.iload_n 3, 1) := by decide +kernel
theorem dI_M_grow_42 : decode bC_M_grow 42 = .ok (.iadd, 1) := by decide +kernel
theorem dI_M_grow_43 : decode bC_M_grow 43 = .ok (.iaload, 1) := by decide +kernel
theorem dI_M_grow_44 : decode bC_M_grow 44 = .ok (.iconst 1, 1) := by decide +kernel
theorem dI_M_grow_45 : decode bC_M_grow 45 = .ok (.if_icmp .ne 10, 3) := by decide +kernel
theorem dI_M_grow_48 : decode bC_M_grow 48 = .ok (.aload_n 0, 1) := by decide +kernel
theorem dI_M_grow_49 : decode bC_M_grow 49 = .ok (.iconst 5, 1) := by decide +kernel
theorem dI_M_grow_50 : decode bC_M_grow 50 = .ok (.iconst 2, 1) := by decide +kernel
theorem dI_M_grow_51 : decode bC_M_grow 51 = .ok (.invokevirtual 35, 3) := by decide +kernel
theorem dI_M_grow_54 : decode bC_M_grow 54 = .ok (.istore_n 1, 1) := by decide +kernel
theorem dI_M_grow_55 : decode bC_M_grow 55 = .ok (.iload_n 1, 1) := by decide +kernel
theorem dI_M_grow_56 : decode bC_M_grow 56 = .ok (.ifCond .eq 15, 3) := by decide +kernel
theorem dI_M_grow_59 : decode bC_M_grow 59 = .ok (.aload_n 0, 1) := by decide +kernel
theorem dI_M_grow_60 : decode bC_M_grow 60 = .ok (.iconst 5, 1) := by decide +kernel
theorem dI_M_grow_61 : decode bC_M_grow 61 = .ok (.invokevirtual 39, 3) := by decide +kernel
theorem dI_M_grow_64 : decode bC_M_grow 64 = .ok (.ifCond .ne 7, 3) := by decide +kernel
theorem dI_M_grow_67 : decode bC_M_grow 67 = .ok (.iconst 1, 1) := by decide +kernel
theorem dI_M_grow_68 : decode bC_M_grow 68 = .ok (.goto 4, 3) := by decide +kernel
theorem dI_M_grow_71 : decode bC_M_grow 71 = .ok (.iconst 0, 1) := by decide +kernel
theorem dI_M_grow_72 : decode bC_M_grow 72 = .ok (.istore_n 1, 1) := by decide +kernel
theorem dI_M_grow_73 : decode bC_M_grow 73 = .ok (.iinc 3 (-1), 3) := by decide +kernel
theorem dI_M_grow_76 : decode bC_M_grow 76 = .ok (.goto (-61), 3) := by decide +kernel
theorem dI_M_grow_79 : decode bC_M_grow 79 = .ok (.aload_n 0, 1) := by decide +kernel
theorem dI_M_grow_80 : decode bC_M_grow 80 = .ok (.iconst 2, 1) := by decide +kernel
theorem dI_M_grow_81 : decode bC_M_grow 81 = .ok (.iconst 5, 1) := by decide +kernel
theorem dI_M_grow_82 : decode bC_M_grow 82 = .ok (.invokevirtual 69, 3) := by decide +kernel
theorem dI_M_grow_85 : decode bC_M_grow 85 = .ok (.iload_n 1, 1) := by decide +kernel
theorem dI_M_grow_86 : decode bC_M_grow 86 = .ok (.ireturn, 1) := by decide +kernel
theorem dI_M_init_0 : decode bC_M_init 0 = .ok (.aload_n 0, 1) := by decide +kernel
theorem dI_M_init_1 : decode bC_M_init 1 = .ok (.invokespecial 1, 3) := by decide +kernel
theorem dI_M_init_4 : decode bC_M_init 4 = .ok (.aload_n 0, 1) := by decide +kernel
theorem dI_M_init_5 : decode bC_M_init 5 = .ok (.sipush 768, 3) := by decide +kernel
theorem dI_M_init_8 : decode bC_M_init 8 = .ok (.newarray .int, 2) := by decide +kernel
theorem dI_M_init_10 : decode bC_M_init 10 = .ok (.putfield 7, 3) := by decide +kernel
theorem dI_M_init_13 : decode bC_M_init 13 = .ok (.aload_n 0, 1) := by decide +kernel
theorem dI_M_init_14 : decode bC_M_init 14 = .ok (.sipush 774, 3) := by decide +kernel
theorem dI_M_init_17 : decode bC_M_init 17 = .ok (.newarray .int, 2) := by decide +kernel
theorem dI_M_init_19 : decode bC_M_init 19 = .ok (.putfield 13, 3) := by decide +kernel
theorem dI_M_init_22 : decode bC_M_init 22 = .ok (.aload_n 0, 1) := by decide +kernel
theorem dI_M_init_23 : decode bC_M_init 23 = .ok (.bipush 64, 2) := by decide +kernel
theorem dI_M_init_25 : decode bC_M_init 25 = .ok (.newarray .int, 2) := by decide +kernel
theorem dI_M_init_27 : decode bC_M_init 27 = .ok (.putfield 16, 3) := by decide +kernel
theorem dI_M_init_30 : decode bC_M_init 30 = .ok (.return_, 1) := by decide +kernel
theorem dI_M_isLong_0 : decode bC_M_isLong 0 = .ok (.aload_n 0, 1) := by decide +kernel
theorem dI_M_isLong_1 : decode bC_M_isLong 1 = .ok (.getfield 13, 3) := by decide +kernel
theorem dI_M_isLong_4 : decode bC_M_isLong 4 = .ok (.sipush 129, 3) := by decide +kernel
theorem dI_M_isLong_7 : decode bC_M_isLong 7 = .ok (.iload_n 1, 1) := by decide +kernel
theorem dI_M_isLong_8 : decode bC_M_isLong 8 = .ok (.imul, 1) := by decide +kernel
theorem dI_M_isLong_9 : decode bC_M_isLong 9 = .ok (.sipush 128, 3) := by decide +kernel
theorem dI_M_isLong_12 : decode bC_M_isLong 12 = .ok (.iadd, 1) := by decide +kernel
theorem dI_M_isLong_13 : decode bC_M_isLong 13 = .ok (.iaload, 1) := by decide +kernel
theorem dI_M_isLong_14 : decode bC_M_isLong 14 = .ok (.iconst 1, 1) := by decide +kernel
theorem dI_M_isLong_15 : decode bC_M_isLong 15 = .ok (.if_icmp .ne 7, 3) := by decide +kernel
theorem dI_M_isLong_18 : decode bC_M_isLong 18 = .ok (.iconst 1, 1) := by decide +kernel
theorem dI_M_isLong_19 : decode bC_M_isLong 19 = .ok (.goto 4, 3) := by decide +kernel
theorem dI_M_isLong_22 : decode bC_M_isLong 22 = .ok (.iconst 0, 1) := by decide +kernel
theorem dI_M_isLong_23 : decode bC_M_isLong 23 = .ok (.ireturn, 1) := by decide +kernel
theorem dI_M_isPower_0 : decode bC_M_isPower 0 = .ok (.aload_n 0, 1) := by decide +kernel
theorem dI_M_isPower_1 : decode bC_M_isPower 1 = .ok (.iconst 3, 1) := by decide +kernel
theorem dI_M_isPower_2 : decode bC_M_isPower 2 = .ok (.invokevirtual 52, 3) := by decide +kernel
theorem dI_M_isPower_5 : decode bC_M_isPower 5 = .ok (.iconst (-1), 1) := by decide +kernel
theorem dI_M_isPower_6 : decode bC_M_isPower 6 = .ok (.istore_n 2, 1) := by decide +kernel
theorem dI_M_isPower_7 : decode bC_M_isPower 7 = .ok (.bipush 127, 2) := by decide +kernel
theorem dI_M_isPower_9 : decode bC_M_isPower 9 = .ok (.iload_n 1, 1) := by decide +kernel
theorem dI_M_isPower_10 : decode bC_M_isPower 10 = .ok (.idiv, 1) := by decide +kernel
theorem dI_M_isPower_11 : decode bC_M_isPower 11 = .ok (.istore_n 3, 1) := by decide +kernel
theorem dI_M_isPower_12 : decode bC_M_isPower 12 = .ok (.iload_n 3, 1) := by decide +kernel
theorem dI_M_isPower_13 : decode bC_M_isPower 13 = .ok (.ifCond .lt 49, 3) := by decide +kernel
theorem dI_M_isPower_16 : decode bC_M_isPower 16 = .ok (.iload_n 2, 1) := by decide +kernel
theorem dI_M_isPower_17 : decode bC_M_isPower 17 = .ok (.ifCond .eq 45, 3) := by decide +kernel
theorem dI_M_isPower_20 : decode bC_M_isPower 20 = .ok (.aload_n 0, 1) := by decide +kernel
theorem dI_M_isPower_21 : decode bC_M_isPower 21 = .ok (.getfield 13, 3) := by decide +kernel
theorem dI_M_isPower_24 : decode bC_M_isPower 24 = .ok (.sipush 387, 3) := by decide +kernel
theorem dI_M_isPower_27 : decode bC_M_isPower 27 = .ok (.iload_n 3, 1) := by decide +kernel
theorem dI_M_isPower_28 : decode bC_M_isPower 28 = .ok (.iadd, 1) := by decide +kernel
theorem dI_M_isPower_29 : decode bC_M_isPower 29 = .ok (.iconst 1, 1) := by decide +kernel
theorem dI_M_isPower_30 : decode bC_M_isPower 30 = .ok (.iastore, 1) := by decide +kernel
theorem dI_M_isPower_31 : decode bC_M_isPower 31 = .ok (.aload_n 0, 1) := by decide +kernel
theorem dI_M_isPower_32 : decode bC_M_isPower 32 = .ok (.iload_n 1, 1) := by decide +kernel
theorem dI_M_isPower_33 : decode bC_M_isPower 33 = .ok (.invokevirtual 84, 3) := by decide +kernel
theorem dI_M_isPower_36 : decode bC_M_isPower 36 = .ok (.istore_n 2, 1) := by decide +kernel
theorem dI_M_isPower_37 : decode bC_M_isPower 37 = .ok (.aload_n 0, 1) := by decide +kernel
theorem dI_M_isPower_38 : decode bC_M_isPower 38 = .ok (.getfield 13, 3) := by decide +kernel
theorem dI_M_isPower_41 : decode bC_M_isPower 41 = .ok (.sipush 387, 3) := by decide +kernel
theorem dI_M_isPower_44 : decode bC_M_isPower 44 = .ok (.iload_n 3, 1) := by decide +kernel
theorem dI_M_isPower_45 : decode bC_M_isPower 45 = .ok (.iadd, 1) := by decide +kernel
theorem dI_M_isPower_46 : decode bC_M_isPower 46 = .ok (.iload_n 2, 1) := by decide +kernel
theorem dI_M_isPower_47 : decode bC_M_isPower 47 = .ok (.ifCond .le 7, 3) := by decide +kernel
theorem dI_M_isPower_50 : decode bC_M_isPower 50 = .ok (.iconst 0, 1) := by decide +kernel
theorem dI_M_isPower_51 : decode bC_M_isPower 51 = .ok (.goto 4, 3) := by decide +kernel
theorem dI_M_isPower_54 : decode bC_M_isPower 54 = .ok (.iconst 1, 1) := by decide +kernel
theorem dI_M_isPower_55 : decode bC_M_isPower 55 = .ok (.iastore, 1) := by decide +kernel
theorem dI_M_isPower_56 : decode bC_M_isPower 56 = .ok (.iinc 3 (-1), 3) := by decide +kernel
theorem dI_M_isPower_59 : decode bC_M_isPower 59 = .ok (.goto (-47), 3) := by decide +kernel
theorem dI_M_isPower_62 : decode bC_M_isPower 62 = .ok (.iload_n 2, 1) := by decide +kernel
theorem dI_M_isPower_63 : decode bC_M_isPower 63 = .ok (.ifCond .ne 7, 3) := by decide +kernel
theorem dI_M_isPower_66 : decode bC_M_isPower 66 = .ok (.iconst 1, 1) := by decide +kernel
theorem dI_M_isPower_67 : decode bC_M_isPower 67 = .ok (.goto 4, 3) := by decide +kernel
theorem dI_M_isPower_70 : decode bC_M_isPower 70 = .ok (.iconst 0, 1) := by decide +kernel
theorem dI_M_isPower_71 : decode bC_M_isPower 71 = .ok (.ireturn, 1) := by decide +kernel
theorem dI_M_isZero_0 : decode bC_M_isZero 0 = .ok (.iconst 1, 1) := by decide +kernel
theorem dI_M_isZero_1 : decode bC_M_isZero 1 = .ok (.istore_n 2, 1) := by decide +kernel
theorem dI_M_isZero_2 : decode bC_M_isZero 2 = .ok (.iconst 0, 1) := by decide +kernel
theorem dI_M_isZero_3 : decode bC_M_isZero 3 = .ok (.istore_n 3, 1) := by decide +kernel
theorem dI_M_isZero_4 : decode bC_M_isZero 4 = .ok (.iload_n 3, 1) := by decide +kernel
theorem dI_M_isZero_5 : decode bC_M_isZero 5 = .ok (.sipush 129, 3) := by decide +kernel
theorem dI_M_isZero_8 : decode bC_M_isZero 8 = .ok (.if_icmp .ge 34, 3) := by decide +kernel
theorem dI_M_isZero_11 : decode bC_M_isZero 11 = .ok (.iload_n 2, 1) := by decide +kernel
theorem dI_M_isZero_12 : decode bC_M_isZero 12 = .ok (.ifCond .eq 22, 3) := by decide +kernel
theorem dI_M_isZero_15 : decode bC_M_isZero 15 = .ok (.aload_n 0, 1) := by decide +kernel
theorem dI_M_isZero_16 : decode bC_M_isZero 16 = .ok (.getfield 13, 3) := by decide +kernel
theorem dI_M_isZero_19 : decode bC_M_isZero 19 = .ok (.sipush 129, 3) := by decide +kernel
theorem dI_M_isZero_22 : decode bC_M_isZero 22 = .ok (.iload_n 1, 1) := by decide +kernel
theorem dI_M_isZero_23 : decode bC_M_isZero 23 = .ok (.imul, 1) := by decide +kernel
theorem dI_M_isZero_24 : decode bC_M_isZero 24 = .ok (.iload_n 3, 1) := by decide +kernel
theorem dI_M_isZero_25 : decode bC_M_isZero 25 = .ok (.iadd, 1) := by decide +kernel
theorem dI_M_isZero_26 : decode bC_M_isZero 26 = .ok (.iaload, 1) := by decide +kernel
theorem dI_M_isZero_27 : decode bC_M_isZero 27 = .ok (.ifCond .ne 7, 3) := by decide +kernel
theorem dI_M_isZero_30 : decode bC_M_isZero 30 = .ok (.iconst 1, 1) := by decide +kernel
theorem dI_M_isZero_31 : decode bC_M_isZero 31 = .ok (.goto 4, 3) := by decide +kernel
theorem dI_M_isZero_34 : decode bC_M_isZero 34 = .ok (.iconst 0, 1) := by decide +kernel
theorem dI_M_isZero_35 : decode bC_M_isZero 35 = .ok (.istore_n 2, 1) := by decide +kernel
theorem dI_M_isZero_36 : decode bC_M_isZero 36 = .ok (.iinc 3 1, 3) := by decide +kernel
theorem dI_M_isZero_39 : decode bC_M_isZero 39 = .ok (.goto (-35), 3) := by decide +kernel
theorem dI_M_isZero_42 : decode bC_M_isZero 42 = .ok (.iload_n 2, 1) := by decide +kernel
theorem dI_M_isZero_43 : decode bC_M_isZero 43 = .ok (.ireturn, 1) := by decide +kernel
theorem dI_M_load_0 : decode bC_M_load 0 = .ok (.iconst 0, 1) := by decide +kernel
