theorem dI_M_load_1 : decode bC_M_load 1 = .ok (.istore_n 3, 1) := by decide +kernel
theorem dI_M_load_2 : decode bC_M_load 2 = .ok (.iload_n 3, 1) := by decide +kernel
theorem dI_M_load_3 : decode bC_M_load 3 = .ok (.sipush 128, 3) := by decide +kernel
theorem dI_M_load_6 : decode bC_M_load 6 = .ok (.if_icmp .ge 33, 3) := by decide +kernel
theorem dI_M_load_9 : decode bC_M_load 9 = .ok (.aload_n 0, 1) := by decide +kernel
theorem dI_M_load_10 : decode bC_M_load 10 = .ok (.getfield 13, 3) := by decide +kernel
theorem dI_M_load_13 : decode bC_M_load 13 = .ok (.sipush 129, 3) := by decide +kernel
theorem dI_M_load_16 : decode bC_M_load 16 = .ok (.iload_n 1, 1) := by decide +kernel
theorem dI_M_load_17 : decode bC_M_load 17 = .ok (.imul, 1) := by decide +kernel
theorem dI_M_load_18 : decode bC_M_load 18 = .ok (.iload_n 3, 1) := by decide +kernel
theorem dI_M_load_19 : decode bC_M_load 19 = .ok (.iadd, 1) := by decide +kernel
theorem dI_M_load_20 : decode bC_M_load 20 = .ok (.aload_n 0, 1) := by decide +kernel
theorem dI_M_load_21 : decode bC_M_load 21 = .ok (.getfield 7, 3) := by decide +kernel
theorem dI_M_load_24 : decode bC_M_load 24 = .ok (.sipush 128, 3) := by decide +kernel
theorem dI_M_load_27 : decode bC_M_load 27 = .ok (.iload_n 2, 1) := by decide +kernel
theorem dI_M_load_28 : decode bC_M_load 28 = .ok (.imul, 1) := by decide +kernel
theorem dI_M_load_29 : decode bC_M_load 29 = .ok (.iload_n 3, 1) := by decide +kernel
theorem dI_M_load_30 : decode bC_M_load 30 = .ok (.iadd, 1) := by decide +kernel
theorem dI_M_load_31 : decode bC_M_load 31 = .ok (.iaload, 1) := by decide +kernel
theorem dI_M_load_32 : decode bC_M_load 32 = .ok (.iastore, 1) := by decide +kernel
theorem dI_M_load_33 : decode bC_M_load 33 = .ok (.iinc 3 1, 3) := by decide +kernel
theorem dI_M_load_36 : decode bC_M_load 36 = .ok (.goto (-34), 3) := by decide +kernel
theorem dI_M_load_39 : decode bC_M_load 39 = .ok (.aload_n 0, 1) := by decide +kernel
theorem dI_M_load_40 : decode bC_M_load 40 = .ok (.getfield 13, 3) := by decide +kernel
theorem dI_M_load_43 : decode bC_M_load 43 = .ok (.sipush 129, 3) := by decide +kernel
theorem dI_M_load_46 : decode bC_M_load 46 = .ok (.iload_n 1, 1) := by decide +kernel
theorem dI_M_load_47 : decode bC_M_load 47 = .ok (.imul, 1) := by decide +kernel
theorem dI_M_load_48 : decode bC_M_load 48 = .ok (.sipush 128, 3) := by decide +kernel
theorem dI_M_load_51 : decode bC_M_load 51 = .ok (.iadd, 1) := by decide +kernel
theorem dI_M_load_52 : decode bC_M_load 52 = .ok (.iconst 0, 1) := by decide +kernel
theorem dI_M_load_53 : decode bC_M_load 53 = .ok (.iastore, 1) := by decide +kernel
theorem dI_M_load_54 : decode bC_M_load 54 = .ok (.return_, 1) := by decide +kernel
theorem dI_M_minus_0 : decode bC_M_minus 0 = .ok (.iconst 0, 1) := by decide +kernel
theorem dI_M_minus_1 : decode bC_M_minus 1 = .ok (.istore_n 3, 1) := by decide +kernel
theorem dI_M_minus_2 : decode bC_M_minus 2 = .ok (.iconst 0, 1) := by decide +kernel
theorem dI_M_minus_3 : decode bC_M_minus 3 = .ok (.istore 4, 2) := by decide +kernel
theorem dI_M_minus_5 : decode bC_M_minus 5 = .ok (.iload 4, 2) := by decide +kernel
theorem dI_M_minus_7 : decode bC_M_minus 7 = .ok (.sipush 129, 3) := by decide +kernel
theorem dI_M_minus_10 : decode bC_M_minus 10 = .ok (.if_icmp .ge 78, 3) := by decide +kernel
theorem dI_M_minus_13 : decode bC_M_minus 13 = .ok (.aload_n 0, 1) := by decide +kernel
theorem dI_M_minus_14 : decode bC_M_minus 14 = .ok (.getfield 13, 3) := by decide +kernel
theorem dI_M_minus_17 : decode bC_M_minus 17 = .ok (.sipush 129, 3) := by decide +kernel
theorem dI_M_minus_20 : decode bC_M_minus 20 = .ok (.iload_n 1, 1) := by decide +kernel
theorem dI_M_minus_21 : decode bC_M_minus 21 = .ok (.imul, 1) := by decide +kernel
theorem dI_M_minus_22 : decode bC_M_minus 22 = .ok (.iload 4, 2) := by decide +kernel
theorem dI_M_minus_24 : decode bC_M_minus 24 = .ok (.iadd, 1) := by decide +kernel
theorem dI_M_minus_25 : decode bC_M_minus 25 = .ok (.iaload, 1) := by decide +kernel
theorem dI_M_minus_26 : decode bC_M_minus 26 = .ok (.aload_n 0, 1) := by decide +kernel
theorem dI_M_minus_27 : decode bC_M_minus 27 = .ok (.getfield 13, 3) := by decide +kernel
theorem dI_M_minus_30 : decode bC_M_minus 30 = .ok (.sipush 129, 3) := by decide +kernel
theorem dI_M_minus_33 : decode bC_M_minus 33 = .ok (.iload_n 2, 1) := by decide +kernel
theorem dI_M_minus_34 : decode bC_M_minus 34 = .ok (.imul, 1) := by decide +kernel
theorem dI_M_minus_35 : decode bC_M_minus 35 = .ok (.iload 4, 2) := by decide +kernel
theorem dI_M_minus_37 : decode bC_M_minus 37 = .ok (.iadd, 1) := by decide +kernel
theorem dI_M_minus_38 : decode bC_M_minus 38 = .ok (.iaload, 1) := by decide +kernel
theorem dI_M_minus_39 : decode bC_M_minus 39 = .ok (.isub, 1) := by decide +kernel
theorem dI_M_minus_40 : decode bC_M_minus 40 = .ok (.iload_n 3, 1) := by decide +kernel
theorem dI_M_minus_41 : decode bC_M_minus 41 = .ok (.isub, 1) := by decide +kernel
theorem dI_M_minus_42 : decode bC_M_minus 42 = .ok (.istore 5, 2) := by decide +kernel
theorem dI_M_minus_44 : decode bC_M_minus 44 = .ok (.iload 5, 2) := by decide +kernel
theorem dI_M_minus_46 : decode bC_M_minus 46 = .ok (.ifCond .ge 7, 3) := by decide +kernel
theorem dI_M_minus_49 : decode bC_M_minus 49 = .ok (.iconst 1, 1) := by decide +kernel
theorem dI_M_minus_50 : decode bC_M_minus 50 = .ok (.goto 4, 3) := by decide +kernel
theorem dI_M_minus_53 : decode bC_M_minus 53 = .ok (.iconst 0, 1) := by decide +kernel
theorem dI_M_minus_54 : decode bC_M_minus 54 = .ok (.istore_n 3, 1) := by decide +kernel
theorem dI_M_minus_55 : decode bC_M_minus 55 = .ok (.aload_n 0, 1) := by decide +kernel
theorem dI_M_minus_56 : decode bC_M_minus 56 = .ok (.getfield 13, 3) := by decide +kernel
theorem dI_M_minus_59 : decode bC_M_minus 59 = .ok (.sipush 129, 3) := by decide +kernel
theorem dI_M_minus_62 : decode bC_M_minus 62 = .ok (.iload_n 1, 1) := by decide +kernel
theorem dI_M_minus_63 : decode bC_M_minus 63 = .ok (.imul, 1) := by decide +kernel
theorem dI_M_minus_64 : decode bC_M_minus 64 = .ok (.iload 4, 2) := by decide +kernel
theorem dI_M_minus_66 : decode bC_M_minus 66 = .ok (.iadd, 1) := by decide +kernel
theorem dI_M_minus_67 : decode bC_M_minus 67 = .ok (.iload 5, 2) := by decide +kernel
theorem dI_M_minus_69 : decode bC_M_minus 69 = .ok (.ifCond .ge 10, 3) := by decide +kernel
theorem dI_M_minus_72 : decode bC_M_minus 72 = .ok (.iload 5, 2) := by decide +kernel
theorem dI_M_minus_74 : decode bC_M_minus 74 = .ok (.iconst 2, 1) := by decide +kernel
theorem dI_M_minus_75 : decode bC_M_minus 75 = .ok (.iadd, 1) := by decide +kernel
theorem dI_M_minus_76 : decode bC_M_minus 76 = .ok (.goto 5, 3) := by decide +kernel
theorem dI_M_minus_79 : decode bC_M_minus 79 = .ok (.iload 5, 2) := by decide +kernel
theorem dI_M_minus_81 : decode bC_M_minus 81 = .ok (.iastore, 1) := by decide +kernel
theorem dI_M_minus_82 : decode bC_M_minus 82 = .ok (.iinc 4 1, 3) := by decide +kernel
theorem dI_M_minus_85 : decode bC_M_minus 85 = .ok (.goto (-80), 3) := by decide +kernel
theorem dI_M_minus_88 : decode bC_M_minus 88 = .ok (.return_, 1) := by decide +kernel
theorem dI_M_modulus_0 : decode bC_M_modulus 0 = .ok (.aload_n 0, 1) := by decide +kernel
theorem dI_M_modulus_1 : decode bC_M_modulus 1 = .ok (.iload_n 1, 1) := by decide +kernel
theorem dI_M_modulus_2 : decode bC_M_modulus 2 = .ok (.invokestatic 23, 3) := by decide +kernel
theorem dI_M_modulus_5 : decode bC_M_modulus 5 = .ok (.iconst 1, 1) := by decide +kernel
theorem dI_M_modulus_6 : decode bC_M_modulus 6 = .ok (.invokevirtual 27, 3) := by decide +kernel
theorem dI_M_modulus_9 : decode bC_M_modulus 9 = .ok (.ifCond .eq 5, 3) := by decide +kernel
theorem dI_M_modulus_12 : decode bC_M_modulus 12 = .ok (.iconst 0, 1) := by decide +kernel
theorem dI_M_modulus_13 : decode bC_M_modulus 13 = .ok (.ireturn, 1) := by decide +kernel
theorem dI_M_modulus_14 : decode bC_M_modulus 14 = .ok (.aload_n 0, 1) := by decide +kernel
theorem dI_M_modulus_15 : decode bC_M_modulus 15 = .ok (.iload_n 1, 1) := by decide +kernel
theorem dI_M_modulus_16 : decode bC_M_modulus 16 = .ok (.sipush 512, 3) := by decide +kernel
theorem dI_M_modulus_19 : decode bC_M_modulus 19 = .ok (.invokevirtual 99, 3) := by decide +kernel
theorem dI_M_modulus_22 : decode bC_M_modulus 22 = .ok (.istore_n 2, 1) := by decide +kernel
theorem dI_M_modulus_23 : decode bC_M_modulus 23 = .ok (.aload_n 0, 1) := by decide +kernel
theorem dI_M_modulus_24 : decode bC_M_modulus 24 = .ok (.iload_n 2, 1) := by decide +kernel
theorem dI_M_modulus_25 : decode bC_M_modulus 25 = .ok (.iconst 2, 1) := by decide +kernel
theorem dI_M_modulus_26 : decode bC_M_modulus 26 = .ok (.if_icmp .lt 10, 3) := by decide +kernel
theorem dI_M_modulus_29 : decode bC_M_modulus 29 = .ok (.iload_n 2, 1) := by decide +kernel
theorem dI_M_modulus_30 : decode bC_M_modulus 30 = .ok (.sipush 511, 3) := by decide +kernel
theorem dI_M_modulus_33 : decode bC_M_modulus 33 = .ok (.if_icmp .le 7, 3) := by decide +kernel
theorem dI_M_modulus_36 : decode bC_M_modulus 36 = .ok (.iconst 1, 1) := by decide +kernel
theorem dI_M_modulus_37 : decode bC_M_modulus 37 = .ok (.goto 4, 3) := by decide +kernel
theorem dI_M_modulus_40 : decode bC_M_modulus 40 = .ok (.iconst 0, 1) := by decide +kernel
theorem dI_M_modulus_41 : decode bC_M_modulus 41 = .ok (.iconst 2, 1) := by decide +kernel
theorem dI_M_modulus_42 : decode bC_M_modulus 42 = .ok (.invokevirtual 27, 3) := by decide +kernel
theorem dI_M_modulus_45 : decode bC_M_modulus 45 = .ok (.ifCond .eq 5, 3) := by decide +kernel
theorem dI_M_modulus_48 : decode bC_M_modulus 48 = .ok (.iconst 0, 1) := by decide +kernel
theorem dI_M_modulus_49 : decode bC_M_modulus 49 = .ok (.ireturn, 1) := by decide +kernel
theorem dI_M_modulus_50 : decode bC_M_modulus 50 = .ok (.aload_n 0, 1) := by decide +kernel
theorem dI_M_modulus_51 : decode bC_M_modulus 51 = .ok (.iload_n 1, 1) := by decide +kernel
theorem dI_M_modulus_52 : decode bC_M_modulus 52 = .ok (.invokevirtual 75, 3) := by decide +kernel
theorem dI_M_modulus_55 : decode bC_M_modulus 55 = .ok (.istore_n 3, 1) := by decide +kernel
theorem dI_M_modulus_56 : decode bC_M_modulus 56 = .ok (.iconst 2, 1) := by decide +kernel
theorem dI_M_modulus_57 : decode bC_M_modulus 57 = .ok (.istore 4, 2) := by decide +kernel
theorem dI_M_modulus_59 : decode bC_M_modulus 59 = .ok (.iload 4, 2) := by decide +kernel
theorem dI_M_modulus_61 : decode bC_M_modulus 61 = .ok (.ldc 102, 2) := by decide +kernel
theorem dI_M_modulus_63 : decode bC_M_modulus 63 = .ok (.if_icmp .ge 33, 3) := by decide +kernel
theorem dI_M_modulus_66 : decode bC_M_modulus 66 = .ok (.iload_n 2, 1) := by decide +kernel
theorem dI_M_modulus_67 : decode bC_M_modulus 67 = .ok (.iload 4, 2) := by decide +kernel
theorem dI_M_modulus_69 : decode bC_M_modulus 69 = .ok (.invokestatic 93, 3) := by decide +kernel
theorem dI_M_modulus_72 : decode bC_M_modulus 72 = .ok (.ifCond .eq 18, 3) := by decide +kernel
theorem dI_M_modulus_75 : decode bC_M_modulus 75 = .ok (.iload_n 2, 1) := by decide +kernel
theorem dI_M_modulus_76 : decode bC_M_modulus 76 = .ok (.iload 4, 2) := by decide +kernel
theorem dI_M_modulus_78 : decode bC_M_modulus 78 = .ok (.irem, 1) := by decide +kernel
theorem dI_M_modulus_79 : decode bC_M_modulus 79 = .ok (.iload 4, 2) := by decide +kernel
theorem dI_M_modulus_81 : decode bC_M_modulus 81 = .ok (.invokestatic 96, 3) := by decide +kernel
theorem dI_M_modulus_84 : decode bC_M_modulus 84 = .ok (.iload_n 3, 1) := by decide +kernel
theorem dI_M_modulus_85 : decode bC_M_modulus 85 = .ok (.iload_n 3, 1) := by decide +kernel
theorem dI_M_modulus_86 : decode bC_M_modulus 86 = .ok (.imul, 1) := by decide +kernel
theorem dI_M_modulus_87 : decode bC_M_modulus 87 = .ok (.if_icmp .gt 9, 3) := by decide +kernel
theorem dI_M_modulus_90 : decode bC_M_modulus 90 = .ok (.iinc 4 1, 3) := by decide +kernel
theorem dI_M_modulus_93 : decode bC_M_modulus 93 = .ok (.goto (-34), 3) := by decide +kernel
theorem dI_M_modulus_96 : decode bC_M_modulus 96 = .ok (.iload 4, 2) := by decide +kernel
theorem dI_M_modulus_98 : decode bC_M_modulus 98 = .ok (.ireturn, 1) := by decide +kernel
theorem dI_M_multiply_0 : decode bC_M_multiply 0 = .ok (.aload_n 0, 1) := by decide +kernel
theorem dI_M_multiply_1 : decode bC_M_multiply 1 = .ok (.iload_n 1, 1) := by decide +kernel
theorem dI_M_multiply_2 : decode bC_M_multiply 2 = .ok (.invokestatic 23, 3) := by decide +kernel
theorem dI_M_multiply_5 : decode bC_M_multiply 5 = .ok (.ifCond .ne 17, 3) := by decide +kernel
theorem dI_M_multiply_8 : decode bC_M_multiply 8 = .ok (.iload_n 2, 1) := by decide +kernel
theorem dI_M_multiply_9 : decode bC_M_multiply 9 = .ok (.invokestatic 23, 3) := by decide +kernel
theorem dI_M_multiply_12 : decode bC_M_multiply 12 = .ok (.ifCond .ne 10, 3) := by decide +kernel
theorem dI_M_multiply_15 : decode bC_M_multiply 15 = .ok (.iload_n 3, 1) := by decide +kernel
theorem dI_M_multiply_16 : decode bC_M_multiply 16 = .ok (.invokestatic 23, 3) := by decide +kernel
theorem dI_M_multiply_19 : decode bC_M_multiply 19 = .ok (.ifCond .eq 7, 3) := by decide +kernel
theorem dI_M_multiply_22 : decode bC_M_multiply 22 = .ok (.iconst 1, 1) := by decide +kernel
theorem dI_M_multiply_23 : decode bC_M_multiply 23 = .ok (.goto 4, 3) := by decide +kernel
theorem dI_M_multiply_26 : decode bC_M_multiply 26 = .ok (.iconst 0, 1) := by decide +kernel
theorem dI_M_multiply_27 : decode bC_M_multiply 27 = .ok (.iconst 1, 1) := by decide +kernel
theorem dI_M_multiply_28 : decode bC_M_multiply 28 = .ok (.invokevirtual 27, 3) := by decide +kernel
theorem dI_M_multiply_31 : decode bC_M_multiply 31 = .ok (.ifCond .eq 4, 3) := by decide +kernel
theorem dI_M_multiply_34 : decode bC_M_multiply 34 = .ok (.return_, 1) := by decide +kernel
theorem dI_M_multiply_35 : decode bC_M_multiply 35 = .ok (.aload_n 0, 1) := by decide +kernel
theorem dI_M_multiply_36 : decode bC_M_multiply 36 = .ok (.iconst 0, 1) := by decide +kernel
theorem dI_M_multiply_37 : decode bC_M_multiply 37 = .ok (.iload_n 1, 1) := by decide +kernel
theorem dI_M_multiply_38 : decode bC_M_multiply 38 = .ok (.invokevirtual 31, 3) := by decide +kernel
theorem dI_M_multiply_41 : decode bC_M_multiply 41 = .ok (.aload_n 0, 1) := by decide +kernel
theorem dI_M_multiply_42 : decode bC_M_multiply 42 = .ok (.iconst 1, 1) := by decide +kernel
theorem dI_M_multiply_43 : decode bC_M_multiply 43 = .ok (.iload_n 2, 1) := by decide +kernel
theorem dI_M_multiply_44 : decode bC_M_multiply 44 = .ok (.invokevirtual 31, 3) := by decide +kernel
theorem dI_M_multiply_47 : decode bC_M_multiply 47 = .ok (.aload_n 0, 1) := by decide +kernel
theorem dI_M_multiply_48 : decode bC_M_multiply 48 = .ok (.iconst 2, 1) := by decide +kernel
theorem dI_M_multiply_49 : decode bC_M_multiply 49 = .ok (.invokevirtual 52, 3) := by decide +kernel
theorem dI_M_multiply_52 : decode bC_M_multiply 52 = .ok (.iconst 1, 1) := by decide +kernel
theorem dI_M_multiply_53 : decode bC_M_multiply 53 = .ok (.istore 4, 2) := by decide +kernel
theorem dI_M_multiply_55 : decode bC_M_multiply 55 = .ok (.bipush 127, 2) := by decide +kernel
theorem dI_M_multiply_57 : decode bC_M_multiply 57 = .ok (.istore 5, 2) := by decide +kernel
theorem dI_M_multiply_59 : decode bC_M_multiply 59 = .ok (.iload 5, 2) := by decide +kernel
theorem dI_M_multiply_61 : decode bC_M_multiply 61 = .ok (.ifCond .lt 70, 3) := by decide +kernel
theorem dI_M_multiply_64 : decode bC_M_multiply 64 = .ok (.iload 4, 2) := by decide +kernel
theorem dI_M_multiply_66 : decode bC_M_multiply 66 = .ok (.ifCond .eq 65, 3) := by decide +kernel
theorem dI_M_multiply_69 : decode bC_M_multiply 69 = .ok (.aload_n 0, 1) := by decide +kernel
theorem dI_M_multiply_70 : decode bC_M_multiply 70 = .ok (.iconst 2, 1) := by decide +kernel
theorem dI_M_multiply_71 : decode bC_M_multiply 71 = .ok (.iconst 0, 1) := by decide +kernel
theorem dI_M_multiply_72 : decode bC_M_multiply 72 = .ok (.invokevirtual 56, 3) := by decide +kernel
theorem dI_M_multiply_75 : decode bC_M_multiply 75 = .ok (.istore 4, 2) := by decide +kernel
theorem dI_M_multiply_77 : decode bC_M_multiply 77 = .ok (.iload 4, 2) := by decide +kernel
theorem dI_M_multiply_79 : decode bC_M_multiply 79 = .ok (.ifCond .eq 26, 3) := by decide +kernel
theorem dI_M_multiply_82 : decode bC_M_multiply 82 = .ok (.aload_n 0, 1) := by decide +kernel
theorem dI_M_multiply_83 : decode bC_M_multiply 83 = .ok (.getfield 13, 3) := by decide +kernel
theorem dI_M_multiply_86 : decode bC_M_multiply 86 = .ok (.sipush 129, 3) := by decide +kernel
theorem dI_M_multiply_89 : decode bC_M_multiply 89 = .ok (.iload 5, 2) := by decide +kernel
theorem dI_M_multiply_91 : decode bC_M_multiply 91 = .ok (.iadd, 1) := by decide +kernel
theorem dI_M_multiply_92 : decode bC_M_multiply 92 = .ok (.iaload, 1) := by decide +kernel
theorem dI_M_multiply_93 : decode bC_M_multiply 93 = .ok (.iconst 1, 1) := by decide +kernel
theorem dI_M_multiply_94 : decode bC_M_multiply 94 = .ok (.if_icmp .ne 11, 3) := by decide +kernel
theorem dI_M_multiply_97 : decode bC_M_multiply 97 = .ok (.aload_n 0, 1) := by decide +kernel
theorem dI_M_multiply_98 : decode bC_M_multiply 98 = .ok (.iconst 2, 1) := by decide +kernel
theorem dI_M_multiply_99 : decode bC_M_multiply 99 = .ok (.iconst 0, 1) := by decide +kernel
theorem dI_M_multiply_100 : decode bC_M_multiply 100 = .ok (.invokevirtual 35, 3) := by decide +kernel
theorem dI_M_multiply_103 : decode bC_M_multiply 103 = .ok (.istore 4, 2) := by decide +kernel
theorem dI_M_multiply_105 : decode bC_M_multiply 105 = .ok (.iload 4, 2) := by decide +kernel
theorem dI_M_multiply_107 : decode bC_M_multiply 107 = .ok (.ifCond .eq 15, 3) := by decide +kernel
theorem dI_M_multiply_110 : decode bC_M_multiply 110 = .ok (.aload_n 0, 1) := by decide +kernel
theorem dI_M_multiply_111 : decode bC_M_multiply 111 = .ok (.iconst 2, 1) := by decide +kernel
theorem dI_M_multiply_112 : decode bC_M_multiply 112 = .ok (.invokevirtual 39, 3) := by decide +kernel
theorem dI_M_multiply_115 : decode bC_M_multiply 115 = .ok (.ifCond .ne 7, 3) := by decide +kernel
theorem dI_M_multiply_118 : decode bC_M_multiply 118 = .ok (.iconst 1, 1) := by decide +kernel
theorem dI_M_multiply_119 : decode bC_M_multiply 119 = .ok (.goto 4, 3) := by decide +kernel
theorem dI_M_multiply_122 : decode bC_M_multiply 122 = .ok (.iconst 0, 1) := by decide +kernel
theorem dI_M_multiply_123 : decode bC_M_multiply 123 = .ok (.istore 4, 2) := by decide +kernel
theorem dI_M_multiply_125 : decode bC_M_multiply 125 = .ok (.iinc 5 (-1), 3) := by decide +kernel
theorem dI_M_multiply_128 : decode bC_M_multiply 128 = .ok (.goto (-69), 3) := by decide +kernel
theorem dI_M_multiply_131 : decode bC_M_multiply 131 = .ok (.aload_n 0, 1) := by decide +kernel
theorem dI_M_multiply_132 : decode bC_M_multiply 132 = .ok (.iload 4, 2) := by decide +kernel
theorem dI_M_multiply_134 : decode bC_M_multiply 134 = .ok (.ifCond .ne 7, 3) := by decide +kernel
theorem dI_M_multiply_137 : decode bC_M_multiply 137 = .ok (.iconst 1, 1) := by decide +kernel
theorem dI_M_multiply_138 : decode bC_M_multiply 138 = .ok (.goto 4, 3) := by decide +kernel
theorem dI_M_multiply_141 : decode bC_M_multiply 141 = .ok (.iconst 0, 1) := by decide +kernel
theorem dI_M_multiply_142 : decode bC_M_multiply 142 = .ok (.iconst 2, 1) := by decide +kernel
theorem dI_M_multiply_143 : decode bC_M_multiply 143 = .ok (.invokevirtual 27, 3) := by decide +kernel
theorem dI_M_multiply_146 : decode bC_M_multiply 146 = .ok (.ifCond .ne 9, 3) := by decide +kernel
theorem dI_M_multiply_149 : decode bC_M_multiply 149 = .ok (.aload_n 0, 1) := by decide +kernel
theorem dI_M_multiply_150 : decode bC_M_multiply 150 = .ok (.iload_n 3, 1) := by decide +kernel
theorem dI_M_multiply_151 : decode bC_M_multiply 151 = .ok (.iconst 2, 1) := by decide +kernel
theorem dI_M_multiply_152 : decode bC_M_multiply 152 = .ok (.invokevirtual 42, 3) := by decide +kernel
theorem dI_M_multiply_155 : decode bC_M_multiply 155 = .ok (.return_, 1) := by decide +kernel
theorem dI_M_none_0 : decode bC_M_none 0 = .ok (.iload_n 0, 1) := by decide +kernel
theorem dI_M_none_1 : decode bC_M_none 1 = .ok (.ifCond .lt 8, 3) := by decide +kernel
theorem dI_M_none_4 : decode bC_M_none 4 = .ok (.iload_n 0, 1) := by decide +kernel
theorem dI_M_none_5 : decode bC_M_none 5 = .ok (.iconst 5, 1) := by decide +kernel
theorem dI_M_none_6 : decode bC_M_none 6 = .ok (.if_icmp .le 7, 3) := by decide +kernel
theorem dI_M_none_9 : decode bC_M_none 9 = .ok (.iconst 1, 1) := by decide +kernel
theorem dI_M_none_10 : decode bC_M_none 10 = .ok (.goto 4, 3) := by decide +kernel
theorem dI_M_none_13 : decode bC_M_none 13 = .ok (.iconst 0, 1) := by decide +kernel
theorem dI_M_none_14 : decode bC_M_none 14 = .ok (.ireturn, 1) := by decide +kernel
theorem dI_M_order_0 : decode bC_M_order 0 = .ok (.aload_n 0, 1) := by decide +kernel
theorem dI_M_order_1 : decode bC_M_order 1 = .ok (.iload_n 1, 1) := by decide +kernel
theorem dI_M_order_2 : decode bC_M_order 2 = .ok (.invokestatic 23, 3) := by decide +kernel
theorem dI_M_order_5 : decode bC_M_order 5 = .ok (.iconst 1, 1) := by decide +kernel
theorem dI_M_order_6 : decode bC_M_order 6 = .ok (.invokevirtual 27, 3) := by decide +kernel
theorem dI_M_order_9 : decode bC_M_order 9 = .ok (.ifCond .ne 28, 3) := by decide +kernel
theorem dI_M_order_12 : decode bC_M_order 12 = .ok (.aload_n 0, 1) := by decide +kernel
theorem dI_M_order_13 : decode bC_M_order 13 = .ok (.iload_n 2, 1) := by decide +kernel
theorem dI_M_order_14 : decode bC_M_order 14 = .ok (.iconst 2, 1) := by decide +kernel
theorem dI_M_order_15 : decode bC_M_order 15 = .ok (.if_icmp .lt 10, 3) := by decide +kernel
theorem dI_M_order_18 : decode bC_M_order 18 = .ok (.iload_n 2, 1) := by decide +kernel
theorem dI_M_order_19 : decode bC_M_order 19 = .ok (.sipush 1000, 3) := by decide +kernel
theorem dI_M_order_22 : decode bC_M_order 22 = .ok (.if_icmp .le 7, 3) := by decide +kernel
theorem dI_M_order_25 : decode bC_M_order 25 = .ok (.iconst 1, 1) := by decide +kernel
theorem dI_M_order_26 : decode bC_M_order 26 = .ok (.goto 4, 3) := by decide +kernel
theorem dI_M_order_29 : decode bC_M_order 29 = .ok (.iconst 0, 1) := by decide +kernel
theorem dI_M_order_30 : decode bC_M_order 30 = .ok (.iconst 2, 1) := by decide +kernel
theorem dI_M_order_31 : decode bC_M_order 31 = .ok (.invokevirtual 27, 3) := by decide +kernel
theorem dI_M_order_34 : decode bC_M_order 34 = .ok (.ifCond .eq 5, 3) := by decide +kernel
theorem dI_M_order_37 : decode bC_M_order 37 = .ok (.iconst 0, 1) := by decide +kernel
theorem dI_M_order_38 : decode bC_M_order 38 = .ok (.ireturn, 1) := by decide +kernel
theorem dI_M_order_39 : decode bC_M_order 39 = .ok (.aload_n 0, 1) := by decide +kernel
theorem dI_M_order_40 : decode bC_M_order 40 = .ok (.iload_n 1, 1) := by decide +kernel
theorem dI_M_order_41 : decode bC_M_order 41 = .ok (.iload_n 2, 1) := by decide +kernel
theorem dI_M_order_42 : decode bC_M_order 42 = .ok (.invokevirtual 90, 3) := by decide +kernel
theorem dI_M_order_45 : decode bC_M_order 45 = .ok (.istore_n 3, 1) := by decide +kernel
theorem dI_M_order_46 : decode bC_M_order 46 = .ok (.aload_n 0, 1) := by decide +kernel
theorem dI_M_order_47 : decode bC_M_order 47 = .ok (.iload_n 3, 1) := by decide +kernel
theorem dI_M_order_48 : decode bC_M_order 48 = .ok (.iload_n 2, 1) := by decide +kernel
theorem dI_M_order_49 : decode bC_M_order 49 = .ok (.invokestatic 93, 3) := by decide +kernel
theorem dI_M_order_52 : decode bC_M_order 52 = .ok (.ifCond .ne 7, 3) := by decide +kernel
theorem dI_M_order_55 : decode bC_M_order 55 = .ok (.iconst 1, 1) := by decide +kernel
theorem dI_M_order_56 : decode bC_M_order 56 = .ok (.goto 4, 3) := by decide +kernel
theorem dI_M_order_59 : decode bC_M_order 59 = .ok (.iconst 0, 1) := by decide +kernel
theorem dI_M_order_60 : decode bC_M_order 60 = .ok (.iconst 3, 1) := by decide +kernel
theorem dI_M_order_61 : decode bC_M_order 61 = .ok (.invokevirtual 27, 3) := by decide +kernel
theorem dI_M_order_64 : decode bC_M_order 64 = .ok (.ifCond .eq 7, 3) := by decide +kernel
theorem dI_M_order_67 : decode bC_M_order 67 = .ok (.iconst 0, 1) := by decide +kernel
theorem dI_M_order_68 : decode bC_M_order 68 = .ok (.goto 8, 3) := by decide +kernel
theorem dI_M_order_71 : decode bC_M_order 71 = .ok (.iload_n 3, 1) := by decide +kernel
theorem dI_M_order_72 : decode bC_M_order 72 = .ok (.iload_n 2, 1) := by decide +kernel
theorem dI_M_order_73 : decode bC_M_order 73 = .ok (.invokestatic 96, 3) := by decide +kernel
theorem dI_M_order_76 : decode bC_M_order 76 = .ok (.ireturn, 1) := by decide +kernel
theorem dI_M_orderOf_0 : decode bC_M_orderOf 0 = .ok (.iload_n 0, 1) := by decide +kernel
theorem dI_M_orderOf_1 : decode bC_M_orderOf 1 = .ok (.iload_n 1, 1) := by decide +kernel
theorem dI_M_orderOf_2 : decode bC_M_orderOf 2 = .ok (.irem, 1) := by decide +kernel
theorem dI_M_orderOf_3 : decode bC_M_orderOf 3 = .ok (.istore_n 2, 1) := by decide +kernel
theorem dI_M_orderOf_4 : decode bC_M_orderOf 4 = .ok (.iconst 1, 1) := by decide +kernel
theorem dI_M_orderOf_5 : decode bC_M_orderOf 5 = .ok (.istore_n 3, 1) := by decide +kernel
theorem dI_M_orderOf_6 : decode bC_M_orderOf 6 = .ok (.iload_n 3, 1) := by decide +kernel
theorem dI_M_orderOf_7 : decode bC_M_orderOf 7 = .ok (.iload_n 1, 1) := by decide +kernel
theorem dI_M_orderOf_8 : decode bC_M_orderOf 8 = .ok (.if_icmp .ge 20, 3) := by decide +kernel
theorem dI_M_orderOf_11 : decode bC_M_orderOf 11 = .ok (.iload_n 2, 1) := by decide +kernel
theorem dI_M_orderOf_12 : decode bC_M_orderOf 12 = .ok (.iconst 1, 1) := by decide +kernel
theorem dI_M_orderOf_13 : decode bC_M_orderOf 13 = .ok (.if_icmp .eq 15, 3) := by decide +kernel
theorem dI_M_orderOf_16 : decode bC_M_orderOf 16 = .ok (.iload_n 2, 1) := by decide +kernel
theorem dI_M_orderOf_17 : decode bC_M_orderOf 17 = .ok (.iload_n 0, 1) := by decide +kernel
theorem dI_M_orderOf_18 : decode bC_M_orderOf 18 = .ok (.imul, 1) := by decide +kernel
theorem dI_M_orderOf_19 : decode bC_M_orderOf 19 = .ok (.iload_n 1, 1) := by decide +kernel
theorem dI_M_orderOf_20 : decode bC_M_orderOf 20 = .ok (.irem, 1) := by decide +kernel
theorem dI_M_orderOf_21 : decode bC_M_orderOf 21 = .ok (.istore_n 2, 1) := by decide +kernel
theorem dI_M_orderOf_22 : decode bC_M_orderOf 22 = .ok (.iinc 3 1, 3) := by decide +kernel
theorem dI_M_orderOf_25 : decode bC_M_orderOf 25 = .ok (.goto (-19), 3) := by decide +kernel
theorem dI_M_orderOf_28 : decode bC_M_orderOf 28 = .ok (.iload_n 3, 1) := by decide +kernel
theorem dI_M_orderOf_29 : decode bC_M_orderOf 29 = .ok (.ireturn, 1) := by decide +kernel
theorem dI_M_perfect_0 : decode bC_M_perfect 0 = .ok (.aload_n 0, 1) := by decide +kernel
theorem dI_M_perfect_1 : decode bC_M_perfect 1 = .ok (.iload_n 1, 1) := by decide +kernel
theorem dI_M_perfect_2 : decode bC_M_perfect 2 = .ok (.invokestatic 23, 3) := by decide +kernel
theorem dI_M_perfect_5 : decode bC_M_perfect 5 = .ok (.iconst 1, 1) := by decide +kernel
theorem dI_M_perfect_6 : decode bC_M_perfect 6 = .ok (.invokevirtual 27, 3) := by decide +kernel
theorem dI_M_perfect_9 : decode bC_M_perfect 9 = .ok (.ifCond .eq 5, 3) := by decide +kernel
theorem dI_M_perfect_12 : decode bC_M_perfect 12 = .ok (.iconst 0, 1) := by decide +kernel
theorem dI_M_perfect_13 : decode bC_M_perfect 13 = .ok (.ireturn, 1) := by decide +kernel
theorem dI_M_perfect_14 : decode bC_M_perfect 14 = .ok (.aload_n 0, 1) := by decide +kernel
theorem dI_M_perfect_15 : decode bC_M_perfect 15 = .ok (.iload_n 1, 1) := by decide +kernel
theorem dI_M_perfect_16 : decode bC_M_perfect 16 = .ok (.invokevirtual 75, 3) := by decide +kernel
theorem dI_M_perfect_19 : decode bC_M_perfect 19 = .ok (.istore_n 2, 1) := by decide +kernel
theorem dI_M_perfect_20 : decode bC_M_perfect 20 = .ok (.iload_n 2, 1) := by decide +kernel
theorem dI_M_perfect_21 : decode bC_M_perfect 21 = .ok (.iconst 2, 1) := by decide +kernel
theorem dI_M_perfect_22 : decode bC_M_perfect 22 = .ok (.if_icmp .ge 5, 3) := by decide +kernel
theorem dI_M_perfect_25 : decode bC_M_perfect 25 = .ok (.iconst 0, 1) := by decide +kernel
theorem dI_M_perfect_26 : decode bC_M_perfect 26 = .ok (.ireturn, 1) := by decide +kernel
theorem dI_M_perfect_27 : decode bC_M_perfect 27 = .ok (.aload_n 0, 1) := by decide +kernel
theorem dI_M_perfect_28 : decode bC_M_perfect 28 = .ok (.iconst 0, 1) := by decide +kernel
theorem dI_M_perfect_29 : decode bC_M_perfect 29 = .ok (.iload_n 1, 1) := by decide +kernel
theorem dI_M_perfect_30 : decode bC_M_perfect 30 = .ok (.invokevirtual 31, 3) := by decide +kernel
theorem dI_M_perfect_33 : decode bC_M_perfect 33 = .ok (.iconst 2, 1) := by decide +kernel
theorem dI_M_perfect_34 : decode bC_M_perfect 34 = .ok (.istore_n 3, 1) := by decide +kernel
theorem dI_M_perfect_35 : decode bC_M_perfect 35 = .ok (.iload_n 3, 1) := by decide +kernel
theorem dI_M_perfect_36 : decode bC_M_perfect 36 = .ok (.iload_n 2, 1) := by decide +kernel
theorem dI_M_perfect_37 : decode bC_M_perfect 37 = .ok (.if_icmp .ge 19, 3) := by decide +kernel
theorem dI_M_perfect_40 : decode bC_M_perfect 40 = .ok (.aload_n 0, 1) := by decide +kernel
theorem dI_M_perfect_41 : decode bC_M_perfect 41 = .ok (.iload_n 3, 1) := by decide +kernel
theorem dI_M_perfect_42 : decode bC_M_perfect 42 = .ok (.invokevirtual 87, 3) := by decide +kernel
theorem dI_M_perfect_45 : decode bC_M_perfect 45 = .ok (.ifCond .eq 5, 3) := by decide +kernel
theorem dI_M_perfect_48 : decode bC_M_perfect 48 = .ok (.iload_n 3, 1) := by decide +kernel
theorem dI_M_perfect_49 : decode bC_M_perfect 49 = .ok (.ireturn, 1) := by decide +kernel
theorem dI_M_perfect_50 : decode bC_M_perfect 50 = .ok (.iinc 3 1, 3) := by decide +kernel
theorem dI_M_perfect_53 : decode bC_M_perfect 53 = .ok (.goto (-18), 3) := by decide +kernel
theorem dI_M_perfect_56 : decode bC_M_perfect 56 = .ok (.iconst 0, 1) := by decide +kernel
theorem dI_M_perfect_57 : decode bC_M_perfect 57 = .ok (.ireturn, 1) := by decide +kernel
theorem dI_M_plus_0 : decode bC_M_plus 0 = .ok (.iconst 0, 1) := by decide +kernel
theorem dI_M_plus_1 : decode bC_M_plus 1 = .ok (.istore_n 3, 1) := by decide +kernel
theorem dI_M_plus_2 : decode bC_M_plus 2 = .ok (.iconst 0, 1) := by decide +kernel
theorem dI_M_plus_3 : decode bC_M_plus 3 = .ok (.istore 4, 2) := by decide +kernel
theorem dI_M_plus_5 : decode bC_M_plus 5 = .ok (.iload 4, 2) := by decide +kernel
theorem dI_M_plus_7 : decode bC_M_plus 7 = .ok (.sipush 129, 3) := by decide +kernel
theorem dI_M_plus_10 : decode bC_M_plus 10 = .ok (.if_icmp .ge 62, 3) := by decide +kernel
theorem dI_M_plus_13 : decode bC_M_plus 13 = .ok (.aload_n 0, 1) := by decide +kernel
theorem dI_M_plus_14 : decode bC_M_plus 14 = .ok (.getfield 13, 3) := by decide +kernel
theorem dI_M_plus_17 : decode bC_M_plus 17 = .ok (.sipush 129, 3) := by decide +kernel
theorem dI_M_plus_20 : decode bC_M_plus 20 = .ok (.iload_n 1, 1) := by decide +kernel
theorem dI_M_plus_21 : decode bC_M_plus 21 = .ok (.imul, 1) := by decide +kernel
theorem dI_M_plus_22 : decode bC_M_plus 22 = .ok (.iload 4, 2) := by decide +kernel
theorem dI_M_plus_24 : decode bC_M_plus 24 = .ok (.iadd, 1) := by decide +kernel
theorem dI_M_plus_25 : decode bC_M_plus 25 = .ok (.iaload, 1) := by decide +kernel
theorem dI_M_plus_26 : decode bC_M_plus 26 = .ok (.aload_n 0, 1) := by decide +kernel
theorem dI_M_plus_27 : decode bC_M_plus 27 = .ok (.getfield 13, 3) := by decide +kernel
theorem dI_M_plus_30 : decode bC_M_plus 30 = .ok (.sipush 129, 3) := by decide +kernel
theorem dI_M_plus_33 : decode bC_M_plus 33 = .ok (.iload_n 2, 1) := by decide +kernel
theorem dI_M_plus_34 : decode bC_M_plus 34 = .ok (.imul, 1) := by decide +kernel
theorem dI_M_plus_35 : decode bC_M_plus 35 = .ok (.iload 4, 2) := by decide +kernel
theorem dI_M_plus_37 : decode bC_M_plus 37 = .ok (.iadd, 1) := by decide +kernel
theorem dI_M_plus_38 : decode bC_M_plus 38 = .ok (.iaload, 1) := by decide +kernel
theorem dI_M_plus_39 : decode bC_M_plus 39 = .ok (.iadd, 1) := by decide +kernel
theorem dI_M_plus_40 : decode bC_M_plus 40 = .ok (.iload_n 3, 1) := by decide +kernel
theorem dI_M_plus_41 : decode bC_M_plus 41 = .ok (.iadd, 1) := by decide +kernel
theorem dI_M_plus_42 : decode bC_M_plus 42 = .ok (.istore 5, 2) := by decide +kernel
theorem dI_M_plus_44 : decode bC_M_plus 44 = .ok (.aload_n 0, 1) := by decide +kernel
theorem dI_M_plus_45 : decode bC_M_plus 45 = .ok (.getfield 13, 3) := by decide +kernel
theorem dI_M_plus_48 : decode bC_M_plus 48 = .ok (.sipush 129, 3) := by decide +kernel
theorem dI_M_plus_51 : decode bC_M_plus 51 = .ok (.iload_n 1, 1) := by decide +kernel
theorem dI_M_plus_52 : decode bC_M_plus 52 = .ok (.imul, 1) := by decide +kernel
theorem dI_M_plus_53 : decode bC_M_plus 53 = .ok (.iload 4, 2) := by decide +kernel
theorem dI_M_plus_55 : decode bC_M_plus 55 = .ok (.iadd, 1) := by decide +kernel
theorem dI_M_plus_56 : decode bC_M_plus 56 = .ok (.iload 5, 2) := by decide +kernel
theorem dI_M_plus_58 : decode bC_M_plus 58 = .ok (.iconst 2, 1) := by decide +kernel
theorem dI_M_plus_59 : decode bC_M_plus 59 = .ok (.irem, 1) := by decide +kernel
theorem dI_M_plus_60 : decode bC_M_plus 60 = .ok (.iastore, 1) := by decide +kernel
theorem dI_M_plus_61 : decode bC_M_plus 61 = .ok (.iload 5, 2) := by decide +kernel
theorem dI_M_plus_63 : decode bC_M_plus 63 = .ok (.iconst 2, 1) := by decide +kernel
theorem dI_M_plus_64 : decode bC_M_plus 64 = .ok (.idiv, 1) := by decide +kernel
theorem dI_M_plus_65 : decode bC_M_plus 65 = .ok (.istore_n 3, 1) := by decide +kernel
theorem dI_M_plus_66 : decode bC_M_plus 66 = .ok (.iinc 4 1, 3) := by decide +kernel
theorem dI_M_plus_69 : decode bC_M_plus 69 = .ok (.goto (-64), 3) := by decide +kernel
theorem dI_M_plus_72 : decode bC_M_plus 72 = .ok (.iload_n 3, 1) := by decide +kernel
theorem dI_M_plus_73 : decode bC_M_plus 73 = .ok (.ifCond .ne 7, 3) := by decide +kernel
theorem dI_M_plus_76 : decode bC_M_plus 76 = .ok (.iconst 1, 1) := by decide +kernel
theorem dI_M_plus_77 : decode bC_M_plus 77 = .ok (.goto 4, 3) := by decide +kernel
theorem dI_M_plus_80 : decode bC_M_plus 80 = .ok (.iconst 0, 1) := by decide +kernel
theorem dI_M_plus_81 : decode bC_M_plus 81 = .ok (.ireturn, 1) := by decide +kernel
theorem dI_M_power_0 : decode bC_M_power 0 = .ok (.aload_n 0, 1) := by decide +kernel
theorem dI_M_power_1 : decode bC_M_power 1 = .ok (.iload_n 1, 1) := by decide +kernel
theorem dI_M_power_2 : decode bC_M_power 2 = .ok (.invokestatic 23, 3) := by decide +kernel
theorem dI_M_power_5 : decode bC_M_power 5 = .ok (.ifCond .ne 25, 3) := by decide +kernel
theorem dI_M_power_8 : decode bC_M_power 8 = .ok (.iload_n 2, 1) := by decide +kernel
theorem dI_M_power_9 : decode bC_M_power 9 = .ok (.invokestatic 23, 3) := by decide +kernel
theorem dI_M_power_12 : decode bC_M_power 12 = .ok (.ifCond .ne 18, 3) := by decide +kernel
theorem dI_M_power_15 : decode bC_M_power 15 = .ok (.iload_n 3, 1) := by decide +kernel
theorem dI_M_power_16 : decode bC_M_power 16 = .ok (.invokestatic 23, 3) := by decide +kernel
theorem dI_M_power_19 : decode bC_M_power 19 = .ok (.ifCond .ne 11, 3) := by decide +kernel
theorem dI_M_power_22 : decode bC_M_power 22 = .ok (.iload 4, 2) := by decide +kernel
theorem dI_M_power_24 : decode bC_M_power 24 = .ok (.invokestatic 23, 3) := by decide +kernel
theorem dI_M_power_27 : decode bC_M_power 27 = .ok (.ifCond .eq 7, 3) := by decide +kernel
theorem dI_M_power_30 : decode bC_M_power 30 = .ok (.iconst 1, 1) := by decide +kernel
theorem dI_M_power_31 : decode bC_M_power 31 = .ok (.goto 4, 3) := by decide +kernel
theorem dI_M_power_34 : decode bC_M_power 34 = .ok (.iconst 0, 1) := by decide +kernel
theorem dI_M_power_35 : decode bC_M_power 35 = .ok (.iconst 1, 1) := by decide +kernel
theorem dI_M_power_36 : decode bC_M_power 36 = .ok (.invokevirtual 27, 3) := by decide +kernel
theorem dI_M_power_39 : decode bC_M_power 39 = .ok (.ifCond .eq 4, 3) := by decide +kernel
theorem dI_M_power_42 : decode bC_M_power 42 = .ok (.return_, 1) := by decide +kernel
theorem dI_M_power_43 : decode bC_M_power 43 = .ok (.aload_n 0, 1) := by decide +kernel
theorem dI_M_power_44 : decode bC_M_power 44 = .ok (.iconst 0, 1) := by decide +kernel
theorem dI_M_power_45 : decode bC_M_power 45 = .ok (.iload_n 1, 1) := by decide +kernel
theorem dI_M_power_46 : decode bC_M_power 46 = .ok (.invokevirtual 31, 3) := by decide +kernel
theorem dI_M_power_49 : decode bC_M_power 49 = .ok (.aload_n 0, 1) := by decide +kernel
theorem dI_M_power_50 : decode bC_M_power 50 = .ok (.iconst 1, 1) := by decide +kernel
theorem dI_M_power_51 : decode bC_M_power 51 = .ok (.iload_n 3, 1) := by decide +kernel
theorem dI_M_power_52 : decode bC_M_power 52 = .ok (.invokevirtual 31, 3) := by decide +kernel
theorem dI_M_power_55 : decode bC_M_power 55 = .ok (.aload_n 0, 1) := by decide +kernel
theorem dI_M_power_56 : decode bC_M_power 56 = .ok (.aload_n 0, 1) := by decide +kernel
theorem dI_M_power_57 : decode bC_M_power 57 = .ok (.iconst 1, 1) := by decide +kernel
theorem dI_M_power_58 : decode bC_M_power 58 = .ok (.invokevirtual 59, 3) := by decide +kernel
theorem dI_M_power_61 : decode bC_M_power 61 = .ok (.iconst 2, 1) := by decide +kernel
theorem dI_M_power_62 : decode bC_M_power 62 = .ok (.invokevirtual 27, 3) := by decide +kernel
theorem dI_M_power_65 : decode bC_M_power 65 = .ok (.ifCond .eq 4, 3) := by decide +kernel
theorem dI_M_power_68 : decode bC_M_power 68 = .ok (.return_, 1) := by decide +kernel
theorem dI_M_power_69 : decode bC_M_power 69 = .ok (.aload_n 0, 1) := by decide +kernel
theorem dI_M_power_70 : decode bC_M_power 70 = .ok (.iconst 0, 1) := by decide +kernel
theorem dI_M_power_71 : decode bC_M_power 71 = .ok (.iconst 1, 1) := by decide +kernel
theorem dI_M_power_72 : decode bC_M_power 72 = .ok (.invokevirtual 62, 3) := by decide +kernel
theorem dI_M_power_75 : decode bC_M_power 75 = .ok (.aload_n 0, 1) := by decide +kernel
theorem dI_M_power_76 : decode bC_M_power 76 = .ok (.iconst 0, 1) := by decide +kernel
theorem dI_M_power_77 : decode bC_M_power 77 = .ok (.iconst 4, 1) := by decide +kernel
theorem dI_M_power_78 : decode bC_M_power 78 = .ok (.invokevirtual 69, 3) := by decide +kernel
theorem dI_M_power_81 : decode bC_M_power 81 = .ok (.aload_n 0, 1) := by decide +kernel
theorem dI_M_power_82 : decode bC_M_power 82 = .ok (.iconst 3, 1) := by decide +kernel
theorem dI_M_power_83 : decode bC_M_power 83 = .ok (.invokevirtual 52, 3) := by decide +kernel
theorem dI_M_power_86 : decode bC_M_power 86 = .ok (.aload_n 0, 1) := by decide +kernel
theorem dI_M_power_87 : decode bC_M_power 87 = .ok (.getfield 13, 3) := by decide +kernel
theorem dI_M_power_90 : decode bC_M_power 90 = .ok (.sipush 387, 3) := by decide +kernel
theorem dI_M_power_93 : decode bC_M_power 93 = .ok (.iconst 1, 1) := by decide +kernel
theorem dI_M_power_94 : decode bC_M_power 94 = .ok (.iastore, 1) := by decide +kernel
theorem dI_M_power_95 : decode bC_M_power 95 = .ok (.aload_n 0, 1) := by decide +kernel
theorem dI_M_power_96 : decode bC_M_power 96 = .ok (.iconst 2, 1) := by decide +kernel
theorem dI_M_power_97 : decode bC_M_power 97 = .ok (.iconst 3, 1) := by decide +kernel
theorem dI_M_power_98 : decode bC_M_power 98 = .ok (.invokevirtual 69, 3) := by decide +kernel
theorem dI_M_power_101 : decode bC_M_power 101 = .ok (.aload_n 0, 1) := by decide +kernel
theorem dI_M_power_102 : decode bC_M_power 102 = .ok (.iconst 2, 1) := by decide +kernel
theorem dI_M_power_103 : decode bC_M_power 103 = .ok (.iconst 1, 1) := by decide +kernel
theorem dI_M_power_104 : decode bC_M_power 104 = .ok (.invokevirtual 62, 3) := by decide +kernel
theorem dI_M_power_107 : decode bC_M_power 107 = .ok (.aload_n 0, 1) := by decide +kernel
theorem dI_M_power_108 : decode bC_M_power 108 = .ok (.iconst 2, 1) := by decide +kernel
theorem dI_M_power_109 : decode bC_M_power 109 = .ok (.iconst 4, 1) := by decide +kernel
theorem dI_M_power_110 : decode bC_M_power 110 = .ok (.invokevirtual 69, 3) := by decide +kernel
theorem dI_M_power_113 : decode bC_M_power 113 = .ok (.bipush 127, 2) := by decide +kernel
theorem dI_M_power_115 : decode bC_M_power 115 = .ok (.istore 5, 2) := by decide +kernel
theorem dI_M_power_117 : decode bC_M_power 117 = .ok (.iload 5, 2) := by decide +kernel
theorem dI_M_power_119 : decode bC_M_power 119 = .ok (.ifCond .lt 25, 3) := by decide +kernel
theorem dI_M_power_122 : decode bC_M_power 122 = .ok (.aload_n 0, 1) := by decide +kernel
theorem dI_M_power_123 : decode bC_M_power 123 = .ok (.getfield 7, 3) := by decide +kernel
theorem dI_M_power_126 : decode bC_M_power 126 = .ok (.sipush 128, 3) := by decide +kernel
theorem dI_M_power_129 : decode bC_M_power 129 = .ok (.iload_n 2, 1) := by decide +kernel
theorem dI_M_power_130 : decode bC_M_power 130 = .ok (.imul, 1) := by decide +kernel
theorem dI_M_power_131 : decode bC_M_power 131 = .ok (.iload 5, 2) := by decide +kernel
theorem dI_M_power_133 : decode bC_M_power 133 = .ok (.iadd, 1) := by decide +kernel
theorem dI_M_power_134 : decode bC_M_power 134 = .ok (.iaload, 1) := by decide +kernel
theorem dI_M_power_135 : decode bC_M_power 135 = .ok (.ifCond .ne 9, 3) := by decide +kernel
theorem dI_M_power_138 : decode bC_M_power 138 = .ok (.iinc 5 (-1), 3) := by decide +kernel
theorem dI_M_power_141 : decode bC_M_power 141 = .ok (.goto (-24), 3) := by decide +kernel
theorem dI_M_power_144 : decode bC_M_power 144 = .ok (.iload 5, 2) := by decide +kernel
theorem dI_M_power_146 : decode bC_M_power 146 = .ok (.ifCond .lt 42, 3) := by decide +kernel
theorem dI_M_power_149 : decode bC_M_power 149 = .ok (.aload_n 0, 1) := by decide +kernel
theorem dI_M_power_150 : decode bC_M_power 150 = .ok (.iconst 3, 1) := by decide +kernel
theorem dI_M_power_151 : decode bC_M_power 151 = .ok (.iconst 2, 1) := by decide +kernel
theorem dI_M_power_152 : decode bC_M_power 152 = .ok (.invokevirtual 69, 3) := by decide +kernel
theorem dI_M_power_155 : decode bC_M_power 155 = .ok (.aload_n 0, 1) := by decide +kernel
theorem dI_M_power_156 : decode bC_M_power 156 = .ok (.iconst 3, 1) := by decide +kernel
theorem dI_M_power_157 : decode bC_M_power 157 = .ok (.invokevirtual 72, 3) := by decide +kernel
theorem dI_M_power_160 : decode bC_M_power 160 = .ok (.aload_n 0, 1) := by decide +kernel
theorem dI_M_power_161 : decode bC_M_power 161 = .ok (.getfield 7, 3) := by decide +kernel
theorem dI_M_power_164 : decode bC_M_power 164 = .ok (.sipush 128, 3) := by decide +kernel
theorem dI_M_power_167 : decode bC_M_power 167 = .ok (.iload_n 2, 1) := by decide +kernel
theorem dI_M_power_168 : decode bC_M_power 168 = .ok (.imul, 1) := by decide +kernel
theorem dI_M_power_169 : decode bC_M_power 169 = .ok (.iload 5, 2) := by decide +kernel
theorem dI_M_power_171 : decode bC_M_power 171 = .ok (.iadd, 1) := by decide +kernel
theorem dI_M_power_172 : decode bC_M_power 172 = .ok (.iaload, 1) := by decide +kernel
theorem dI_M_power_173 : decode bC_M_power 173 = .ok (.iconst 1, 1) := by decide +kernel
theorem dI_M_power_174 : decode bC_M_power 174 = .ok (.if_icmp .ne 8, 3) := by decide +kernel
theorem dI_M_power_177 : decode bC_M_power 177 = .ok (.aload_n 0, 1) := by decide +kernel
theorem dI_M_power_178 : decode bC_M_power 178 = .ok (.iconst 0, 1) := by decide +kernel
theorem dI_M_power_179 : decode bC_M_power 179 = .ok (.invokevirtual 72, 3) := by decide +kernel
theorem dI_M_power_182 : decode bC_M_power 182 = .ok (.iinc 5 (-1), 3) := by decide +kernel
theorem dI_M_power_185 : decode bC_M_power 185 = .ok (.goto (-41), 3) := by decide +kernel
theorem dI_M_power_188 : decode bC_M_power 188 = .ok (.aload_n 0, 1) := by decide +kernel
theorem dI_M_power_189 : decode bC_M_power 189 = .ok (.iload 4, 2) := by decide +kernel
theorem dI_M_power_191 : decode bC_M_power 191 = .ok (.iconst 2, 1) := by decide +kernel
theorem dI_M_power_192 : decode bC_M_power 192 = .ok (.invokevirtual 42, 3) := by decide +kernel
theorem dI_M_power_195 : decode bC_M_power 195 = .ok (.return_, 1) := by decide +kernel
theorem dI_M_powerAgainst_0 : decode bC_M_powerAgainst 0 = .ok (.aload_n 0, 1) := by decide +kernel
theorem dI_M_powerAgainst_1 : decode bC_M_powerAgainst 1 = .ok (.iconst 2, 1) := by decide +kernel
theorem dI_M_powerAgainst_2 : decode bC_M_powerAgainst 2 = .ok (.invokevirtual 52, 3) := by decide +kernel
theorem dI_M_powerAgainst_5 : decode bC_M_powerAgainst 5 = .ok (.aload_n 0, 1) := by decide +kernel
theorem dI_M_powerAgainst_6 : decode bC_M_powerAgainst 6 = .ok (.getfield 13, 3) := by decide +kernel
theorem dI_M_powerAgainst_9 : decode bC_M_powerAgainst 9 = .ok (.sipush 258, 3) := by decide +kernel
theorem dI_M_powerAgainst_12 : decode bC_M_powerAgainst 12 = .ok (.iconst 1, 1) := by decide +kernel
theorem dI_M_powerAgainst_13 : decode bC_M_powerAgainst 13 = .ok (.iastore, 1) := by decide +kernel
theorem dI_M_powerAgainst_14 : decode bC_M_powerAgainst 14 = .ok (.iconst 0, 1) := by decide +kernel
theorem dI_M_powerAgainst_15 : decode bC_M_powerAgainst 15 = .ok (.istore_n 2, 1) := by decide +kernel
theorem dI_M_powerAgainst_16 : decode bC_M_powerAgainst 16 = .ok (.iload_n 2, 1) := by decide +kernel
theorem dI_M_powerAgainst_17 : decode bC_M_powerAgainst 17 = .ok (.iload_n 1, 1) := by decide +kernel
theorem dI_M_powerAgainst_18 : decode bC_M_powerAgainst 18 = .ok (.if_icmp .ge 18, 3) := by decide +kernel
theorem dI_M_powerAgainst_21 : decode bC_M_powerAgainst 21 = .ok (.aload_n 0, 1) := by decide +kernel
theorem dI_M_powerAgainst_22 : decode bC_M_powerAgainst 22 = .ok (.invokevirtual 80, 3) := by decide +kernel
theorem dI_M_powerAgainst_25 : decode bC_M_powerAgainst 25 = .ok (.ifCond .ne 5, 3) := by decide +kernel
theorem dI_M_powerAgainst_28 : decode bC_M_powerAgainst 28 = .ok (.iconst 1, 1) := by decide +kernel
theorem dI_M_powerAgainst_29 : decode bC_M_powerAgainst 29 = .ok (.ireturn, 1) := by decide +kernel
theorem dI_M_powerAgainst_30 : decode bC_M_powerAgainst 30 = .ok (.iinc 2 1, 3) := by decide +kernel
theorem dI_M_powerAgainst_33 : decode bC_M_powerAgainst 33 = .ok (.goto (-17), 3) := by decide +kernel
theorem dI_M_powerAgainst_36 : decode bC_M_powerAgainst 36 = .ok (.aload_n 0, 1) := by decide +kernel
theorem dI_M_powerAgainst_37 : decode bC_M_powerAgainst 37 = .ok (.iconst 2, 1) := by decide +kernel
theorem dI_M_powerAgainst_38 : decode bC_M_powerAgainst 38 = .ok (.iconst 0, 1) := by decide +kernel
theorem dI_M_powerAgainst_39 : decode bC_M_powerAgainst 39 = .ok (.invokevirtual 45, 3) := by decide +kernel
theorem dI_M_powerAgainst_42 : decode bC_M_powerAgainst 42 = .ok (.ireturn, 1) := by decide +kernel
theorem dI_M_prime_0 : decode bC_M_prime 0 = .ok (.aload_n 0, 1) := by decide +kernel
theorem dI_M_prime_1 : decode bC_M_prime 1 = .ok (.iload_n 1, 1) := by decide +kernel
theorem dI_M_prime_2 : decode bC_M_prime 2 = .ok (.invokestatic 23, 3) := by decide +kernel
theorem dI_M_prime_5 : decode bC_M_prime 5 = .ok (.iconst 1, 1) := by decide +kernel
theorem dI_M_prime_6 : decode bC_M_prime 6 = .ok (.invokevirtual 27, 3) := by decide +kernel
theorem dI_M_prime_9 : decode bC_M_prime 9 = .ok (.ifCond .eq 5, 3) := by decide +kernel
theorem dI_M_prime_12 : decode bC_M_prime 12 = .ok (.iconst 0, 1) := by decide +kernel
theorem dI_M_prime_13 : decode bC_M_prime 13 = .ok (.ireturn, 1) := by decide +kernel
theorem dI_M_prime_14 : decode bC_M_prime 14 = .ok (.aload_n 0, 1) := by decide +kernel
theorem dI_M_prime_15 : decode bC_M_prime 15 = .ok (.iload_n 1, 1) := by decide +kernel
theorem dI_M_prime_16 : decode bC_M_prime 16 = .ok (.sipush 512, 3) := by decide +kernel
theorem dI_M_prime_19 : decode bC_M_prime 19 = .ok (.invokevirtual 99, 3) := by decide +kernel
theorem dI_M_prime_22 : decode bC_M_prime 22 = .ok (.istore_n 2, 1) := by decide +kernel
theorem dI_M_prime_23 : decode bC_M_prime 23 = .ok (.aload_n 0, 1) := by decide +kernel
theorem dI_M_prime_24 : decode bC_M_prime 24 = .ok (.iload_n 2, 1) := by decide +kernel
theorem dI_M_prime_25 : decode bC_M_prime 25 = .ok (.sipush 511, 3) := by decide +kernel
theorem dI_M_prime_28 : decode bC_M_prime 28 = .ok (.if_icmp .le 7, 3) := by decide +kernel
theorem dI_M_prime_31 : decode bC_M_prime 31 = .ok (.iconst 1, 1) := by decide +kernel
theorem dI_M_prime_32 : decode bC_M_prime 32 = .ok (.goto 4, 3) := by decide +kernel
theorem dI_M_prime_35 : decode bC_M_prime 35 = .ok (.iconst 0, 1) := by decide +kernel
theorem dI_M_prime_36 : decode bC_M_prime 36 = .ok (.iconst 2, 1) := by decide +kernel
theorem dI_M_prime_37 : decode bC_M_prime 37 = .ok (.invokevirtual 27, 3) := by decide +kernel
theorem dI_M_prime_40 : decode bC_M_prime 40 = .ok (.ifCond .eq 5, 3) := by decide +kernel
theorem dI_M_prime_43 : decode bC_M_prime 43 = .ok (.iconst 0, 1) := by decide +kernel
theorem dI_M_prime_44 : decode bC_M_prime 44 = .ok (.ireturn, 1) := by decide +kernel
theorem dI_M_prime_45 : decode bC_M_prime 45 = .ok (.iload_n 2, 1) := by decide +kernel
theorem dI_M_prime_46 : decode bC_M_prime 46 = .ok (.iconst 1, 1) := by decide +kernel
theorem dI_M_prime_47 : decode bC_M_prime 47 = .ok (.if_icmp .le 7, 3) := by decide +kernel
theorem dI_M_prime_50 : decode bC_M_prime 50 = .ok (.iconst 1, 1) := by decide +kernel
theorem dI_M_prime_51 : decode bC_M_prime 51 = .ok (.goto 4, 3) := by decide +kernel
theorem dI_M_prime_54 : decode bC_M_prime 54 = .ok (.iconst 0, 1) := by decide +kernel
theorem dI_M_prime_55 : decode bC_M_prime 55 = .ok (.istore_n 3, 1) := by decide +kernel
theorem dI_M_prime_56 : decode bC_M_prime 56 = .ok (.iconst 2, 1) := by decide +kernel
theorem dI_M_prime_57 : decode bC_M_prime 57 = .ok (.istore 4, 2) := by decide +kernel
theorem dI_M_prime_59 : decode bC_M_prime 59 = .ok (.iload 4, 2) := by decide +kernel
theorem dI_M_prime_61 : decode bC_M_prime 61 = .ok (.iload_n 2, 1) := by decide +kernel
theorem dI_M_prime_62 : decode bC_M_prime 62 = .ok (.if_icmp .ge 26, 3) := by decide +kernel
theorem dI_M_prime_65 : decode bC_M_prime 65 = .ok (.iload_n 3, 1) := by decide +kernel
theorem dI_M_prime_66 : decode bC_M_prime 66 = .ok (.ifCond .eq 14, 3) := by decide +kernel
theorem dI_M_prime_69 : decode bC_M_prime 69 = .ok (.iload_n 2, 1) := by decide +kernel
theorem dI_M_prime_70 : decode bC_M_prime 70 = .ok (.iload 4, 2) := by decide +kernel
theorem dI_M_prime_72 : decode bC_M_prime 72 = .ok (.irem, 1) := by decide +kernel
theorem dI_M_prime_73 : decode bC_M_prime 73 = .ok (.ifCond .eq 7, 3) := by decide +kernel
theorem dI_M_prime_76 : decode bC_M_prime 76 = .ok (.iconst 1, 1) := by decide +kernel
theorem dI_M_prime_77 : decode bC_M_prime 77 = .ok (.goto 4, 3) := by decide +kernel
theorem dI_M_prime_80 : decode bC_M_prime 80 = .ok (.iconst 0, 1) := by decide +kernel
theorem dI_M_prime_81 : decode bC_M_prime 81 = .ok (.istore_n 3, 1) := by decide +kernel
theorem dI_M_prime_82 : decode bC_M_prime 82 = .ok (.iinc 4 1, 3) := by decide +kernel
