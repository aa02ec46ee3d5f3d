theorem dI_V_guessDigit_4 : decode bC_V_guessDigit 4 = .ok (.aload_n 0, 1) := by decide +kernel
theorem dI_V_guessDigit_5 : decode bC_V_guessDigit 5 = .ok (.getfield 27, 3) := by decide +kernel
theorem dI_V_guessDigit_8 : decode bC_V_guessDigit 8 = .ok (.iconst 1, 1) := by decide +kernel
theorem dI_V_guessDigit_9 : decode bC_V_guessDigit 9 = .ok (.isub, 1) := by decide +kernel
theorem dI_V_guessDigit_10 : decode bC_V_guessDigit 10 = .ok (.laload, 1) := by decide +kernel
theorem dI_V_guessDigit_11 : decode bC_V_guessDigit 11 = .ok (.lstore_n 2, 1) := by decide +kernel
theorem dI_V_guessDigit_12 : decode bC_V_guessDigit 12 = .ok (.aload_n 0, 1) := by decide +kernel
theorem dI_V_guessDigit_13 : decode bC_V_guessDigit 13 = .ok (.getfield 15, 3) := by decide +kernel
theorem dI_V_guessDigit_16 : decode bC_V_guessDigit 16 = .ok (.iload_n 1, 1) := by decide +kernel
theorem dI_V_guessDigit_17 : decode bC_V_guessDigit 17 = .ok (.aload_n 0, 1) := by decide +kernel
theorem dI_V_guessDigit_18 : decode bC_V_guessDigit 18 = .ok (.getfield 27, 3) := by decide +kernel
theorem dI_V_guessDigit_21 : decode bC_V_guessDigit 21 = .ok (.iadd, 1) := by decide +kernel
theorem dI_V_guessDigit_22 : decode bC_V_guessDigit 22 = .ok (.laload, 1) := by decide +kernel
theorem dI_V_guessDigit_23 : decode bC_V_guessDigit 23 = .ok (.lstore 4, 2) := by decide +kernel
theorem dI_V_guessDigit_25 : decode bC_V_guessDigit 25 = .ok (.lload 4, 2) := by decide +kernel
theorem dI_V_guessDigit_27 : decode bC_V_guessDigit 27 = .ok (.lload_n 2, 1) := by decide +kernel
theorem dI_V_guessDigit_28 : decode bC_V_guessDigit 28 = .ok (.lcmp, 1) := by decide +kernel
theorem dI_V_guessDigit_29 : decode bC_V_guessDigit 29 = .ok (.ifCond .lt 7, 3) := by decide +kernel
theorem dI_V_guessDigit_32 : decode bC_V_guessDigit 32 = .ok (.ldc2_w 56, 3) := by decide +kernel
theorem dI_V_guessDigit_35 : decode bC_V_guessDigit 35 = .ok (.lreturn, 1) := by decide +kernel
theorem dI_V_guessDigit_36 : decode bC_V_guessDigit 36 = .ok (.lload 4, 2) := by decide +kernel
theorem dI_V_guessDigit_38 : decode bC_V_guessDigit 38 = .ok (.bipush 32, 2) := by decide +kernel
theorem dI_V_guessDigit_40 : decode bC_V_guessDigit 40 = .ok (.lshl, 1) := by decide +kernel
theorem dI_V_guessDigit_41 : decode bC_V_guessDigit 41 = .ok (.aload_n 0, 1) := by decide +kernel
theorem dI_V_guessDigit_42 : decode bC_V_guessDigit 42 = .ok (.getfield 15, 3) := by decide +kernel
theorem dI_V_guessDigit_45 : decode bC_V_guessDigit 45 = .ok (.iload_n 1, 1) := by decide +kernel
theorem dI_V_guessDigit_46 : decode bC_V_guessDigit 46 = .ok (.aload_n 0, 1) := by decide +kernel
theorem dI_V_guessDigit_47 : decode bC_V_guessDigit 47 = .ok (.getfield 27, 3) := by decide +kernel
theorem dI_V_guessDigit_50 : decode bC_V_guessDigit 50 = .ok (.iadd, 1) := by decide +kernel
theorem dI_V_guessDigit_51 : decode bC_V_guessDigit 51 = .ok (.iconst 1, 1) := by decide +kernel
theorem dI_V_guessDigit_52 : decode bC_V_guessDigit 52 = .ok (.isub, 1) := by decide +kernel
theorem dI_V_guessDigit_53 : decode bC_V_guessDigit 53 = .ok (.laload, 1) := by decide +kernel
theorem dI_V_guessDigit_54 : decode bC_V_guessDigit 54 = .ok (.lor, 1) := by decide +kernel
theorem dI_V_guessDigit_55 : decode bC_V_guessDigit 55 = .ok (.lstore 6, 2) := by decide +kernel
theorem dI_V_guessDigit_57 : decode bC_V_guessDigit 57 = .ok (.lload 6, 2) := by decide +kernel
theorem dI_V_guessDigit_59 : decode bC_V_guessDigit 59 = .ok (.iconst 1, 1) := by decide +kernel
theorem dI_V_guessDigit_60 : decode bC_V_guessDigit 60 = .ok (.lushr, 1) := by decide +kernel
theorem dI_V_guessDigit_61 : decode bC_V_guessDigit 61 = .ok (.lload_n 2, 1) := by decide +kernel
theorem dI_V_guessDigit_62 : decode bC_V_guessDigit 62 = .ok (.ldiv, 1) := by decide +kernel
theorem dI_V_guessDigit_63 : decode bC_V_guessDigit 63 = .ok (.iconst 1, 1) := by decide +kernel
theorem dI_V_guessDigit_64 : decode bC_V_guessDigit 64 = .ok (.lshl, 1) := by decide +kernel
theorem dI_V_guessDigit_65 : decode bC_V_guessDigit 65 = .ok (.lstore 8, 2) := by decide +kernel
theorem dI_V_guessDigit_67 : decode bC_V_guessDigit 67 = .ok (.lload 6, 2) := by decide +kernel
theorem dI_V_guessDigit_69 : decode bC_V_guessDigit 69 = .ok (.lload 8, 2) := by decide +kernel
theorem dI_V_guessDigit_71 : decode bC_V_guessDigit 71 = .ok (.lload_n 2, 1) := by decide +kernel
theorem dI_V_guessDigit_72 : decode bC_V_guessDigit 72 = .ok (.lmul, 1) := by decide +kernel
theorem dI_V_guessDigit_73 : decode bC_V_guessDigit 73 = .ok (.lsub, 1) := by decide +kernel
theorem dI_V_guessDigit_74 : decode bC_V_guessDigit 74 = .ok (.lload_n 2, 1) := by decide +kernel
theorem dI_V_guessDigit_75 : decode bC_V_guessDigit 75 = .ok (.lcmp, 1) := by decide +kernel
theorem dI_V_guessDigit_76 : decode bC_V_guessDigit 76 = .ok (.ifCond .lt 10, 3) := by decide +kernel
theorem dI_V_guessDigit_79 : decode bC_V_guessDigit 79 = .ok (.lload 8, 2) := by decide +kernel
theorem dI_V_guessDigit_81 : decode bC_V_guessDigit 81 = .ok (.lconst 1, 1) := by decide +kernel
theorem dI_V_guessDigit_82 : decode bC_V_guessDigit 82 = .ok (.ladd, 1) := by decide +kernel
theorem dI_V_guessDigit_83 : decode bC_V_guessDigit 83 = .ok (.goto 5, 3) := by decide +kernel
theorem dI_V_guessDigit_86 : decode bC_V_guessDigit 86 = .ok (.lload 8, 2) := by decide +kernel
theorem dI_V_guessDigit_88 : decode bC_V_guessDigit 88 = .ok (.lreturn, 1) := by decide +kernel
theorem dI_V_init_0 : decode bC_V_init 0 = .ok (.aload_n 0, 1) := by decide +kernel
theorem dI_V_init_1 : decode bC_V_init 1 = .ok (.invokespecial 3, 3) := by decide +kernel
theorem dI_V_init_4 : decode bC_V_init 4 = .ok (.aload_n 0, 1) := by decide +kernel
theorem dI_V_init_5 : decode bC_V_init 5 = .ok (.iconst 4, 1) := by decide +kernel
theorem dI_V_init_6 : decode bC_V_init 6 = .ok (.newarray .long, 2) := by decide +kernel
theorem dI_V_init_8 : decode bC_V_init 8 = .ok (.putfield 9, 3) := by decide +kernel
theorem dI_V_init_11 : decode bC_V_init 11 = .ok (.aload_n 0, 1) := by decide +kernel
theorem dI_V_init_12 : decode bC_V_init 12 = .ok (.bipush 9, 2) := by decide +kernel
theorem dI_V_init_14 : decode bC_V_init 14 = .ok (.newarray .long, 2) := by decide +kernel
theorem dI_V_init_16 : decode bC_V_init 16 = .ok (.putfield 15, 3) := by decide +kernel
theorem dI_V_init_19 : decode bC_V_init 19 = .ok (.aload_n 0, 1) := by decide +kernel
theorem dI_V_init_20 : decode bC_V_init 20 = .ok (.bipush 8, 2) := by decide +kernel
theorem dI_V_init_22 : decode bC_V_init 22 = .ok (.newarray .long, 2) := by decide +kernel
theorem dI_V_init_24 : decode bC_V_init 24 = .ok (.putfield 18, 3) := by decide +kernel
theorem dI_V_init_27 : decode bC_V_init 27 = .ok (.return_, 1) := by decide +kernel
theorem dI_V_nextDigit_0 : decode bC_V_nextDigit 0 = .ok (.aload_n 0, 1) := by decide +kernel
theorem dI_V_nextDigit_1 : decode bC_V_nextDigit 1 = .ok (.iload_n 1, 1) := by decide +kernel
theorem dI_V_nextDigit_2 : decode bC_V_nextDigit 2 = .ok (.invokevirtual 58, 3) := by decide +kernel
theorem dI_V_nextDigit_5 : decode bC_V_nextDigit 5 = .ok (.lstore_n 2, 1) := by decide +kernel
theorem dI_V_nextDigit_6 : decode bC_V_nextDigit 6 = .ok (.aload_n 0, 1) := by decide +kernel
theorem dI_V_nextDigit_7 : decode bC_V_nextDigit 7 = .ok (.lload_n 2, 1) := by decide +kernel
theorem dI_V_nextDigit_8 : decode bC_V_nextDigit 8 = .ok (.iload_n 1, 1) := by decide +kernel
theorem dI_V_nextDigit_9 : decode bC_V_nextDigit 9 = .ok (.invokevirtual 61, 3) := by decide +kernel
theorem dI_V_nextDigit_12 : decode bC_V_nextDigit 12 = .ok (.istore 4, 2) := by decide +kernel
theorem dI_V_nextDigit_14 : decode bC_V_nextDigit 14 = .ok (.iconst 0, 1) := by decide +kernel
theorem dI_V_nextDigit_15 : decode bC_V_nextDigit 15 = .ok (.istore 5, 2) := by decide +kernel
theorem dI_V_nextDigit_17 : decode bC_V_nextDigit 17 = .ok (.iload 5, 2) := by decide +kernel
theorem dI_V_nextDigit_19 : decode bC_V_nextDigit 19 = .ok (.iconst 2, 1) := by decide +kernel
theorem dI_V_nextDigit_20 : decode bC_V_nextDigit 20 = .ok (.if_icmp .ge 33, 3) := by decide +kernel
theorem dI_V_nextDigit_23 : decode bC_V_nextDigit 23 = .ok (.iload 4, 2) := by decide +kernel
theorem dI_V_nextDigit_25 : decode bC_V_nextDigit 25 = .ok (.ifCond .eq 28, 3) := by decide +kernel
theorem dI_V_nextDigit_28 : decode bC_V_nextDigit 28 = .ok (.lload_n 2, 1) := by decide +kernel
theorem dI_V_nextDigit_29 : decode bC_V_nextDigit 29 = .ok (.lconst 1, 1) := by decide +kernel
theorem dI_V_nextDigit_30 : decode bC_V_nextDigit 30 = .ok (.lsub, 1) := by decide +kernel
theorem dI_V_nextDigit_31 : decode bC_V_nextDigit 31 = .ok (.lstore_n 2, 1) := by decide +kernel
theorem dI_V_nextDigit_32 : decode bC_V_nextDigit 32 = .ok (.aload_n 0, 1) := by decide +kernel
theorem dI_V_nextDigit_33 : decode bC_V_nextDigit 33 = .ok (.iload_n 1, 1) := by decide +kernel
theorem dI_V_nextDigit_34 : decode bC_V_nextDigit 34 = .ok (.invokevirtual 65, 3) := by decide +kernel
theorem dI_V_nextDigit_37 : decode bC_V_nextDigit 37 = .ok (.ifCond .ne 7, 3) := by decide +kernel
theorem dI_V_nextDigit_40 : decode bC_V_nextDigit 40 = .ok (.iconst 1, 1) := by decide +kernel
theorem dI_V_nextDigit_41 : decode bC_V_nextDigit 41 = .ok (.goto 4, 3) := by decide +kernel
theorem dI_V_nextDigit_44 : decode bC_V_nextDigit 44 = .ok (.iconst 0, 1) := by decide +kernel
theorem dI_V_nextDigit_45 : decode bC_V_nextDigit 45 = .ok (.istore 4, 2) := by decide +kernel
theorem dI_V_nextDigit_47 : decode bC_V_nextDigit 47 = .ok (.iinc 5 1, 3) := by decide +kernel
theorem dI_V_nextDigit_50 : decode bC_V_nextDigit 50 = .ok (.goto (-33), 3) := by decide +kernel
theorem dI_V_nextDigit_53 : decode bC_V_nextDigit 53 = .ok (.lload_n 2, 1) := by decide +kernel
theorem dI_V_nextDigit_54 : decode bC_V_nextDigit 54 = .ok (.lreturn, 1) := by decide +kernel
theorem dI_V_run_0 : decode bC_V_run 0 = .ok (.aload_n 0, 1) := by decide +kernel
theorem dI_V_run_1 : decode bC_V_run 1 = .ok (.getfield 18, 3) := by decide +kernel
theorem dI_V_run_4 : decode bC_V_run 4 = .ok (.lconst 0, 1) := by decide +kernel
theorem dI_V_run_5 : decode bC_V_run 5 = .ok (.invokestatic 42, 3) := by decide +kernel
theorem dI_V_run_8 : decode bC_V_run 8 = .ok (.aload_n 0, 1) := by decide +kernel
theorem dI_V_run_9 : decode bC_V_run 9 = .ok (.getfield 15, 3) := by decide +kernel
theorem dI_V_run_12 : decode bC_V_run 12 = .ok (.lconst 0, 1) := by decide +kernel
theorem dI_V_run_13 : decode bC_V_run 13 = .ok (.invokestatic 42, 3) := by decide +kernel
theorem dI_V_run_16 : decode bC_V_run 16 = .ok (.aload_n 1, 1) := by decide +kernel
theorem dI_V_run_17 : decode bC_V_run 17 = .ok (.invokestatic 21, 3) := by decide +kernel
theorem dI_V_run_20 : decode bC_V_run 20 = .ok (.istore_n 2, 1) := by decide +kernel
theorem dI_V_run_21 : decode bC_V_run 21 = .ok (.aload_n 0, 1) := by decide +kernel
theorem dI_V_run_22 : decode bC_V_run 22 = .ok (.getfield 15, 3) := by decide +kernel
theorem dI_V_run_25 : decode bC_V_run 25 = .ok (.iload_n 2, 1) := by decide +kernel
theorem dI_V_run_26 : decode bC_V_run 26 = .ok (.aload_n 0, 1) := by decide +kernel
theorem dI_V_run_27 : decode bC_V_run 27 = .ok (.aload_n 1, 1) := by decide +kernel
theorem dI_V_run_28 : decode bC_V_run 28 = .ok (.iload_n 2, 1) := by decide +kernel
theorem dI_V_run_29 : decode bC_V_run 29 = .ok (.aload_n 0, 1) := by decide +kernel
theorem dI_V_run_30 : decode bC_V_run 30 = .ok (.getfield 15, 3) := by decide +kernel
theorem dI_V_run_33 : decode bC_V_run 33 = .ok (.invokevirtual 38, 3) := by decide +kernel
theorem dI_V_run_36 : decode bC_V_run 36 = .ok (.lastore, 1) := by decide +kernel
theorem dI_V_run_37 : decode bC_V_run 37 = .ok (.iload_n 2, 1) := by decide +kernel
theorem dI_V_run_38 : decode bC_V_run 38 = .ok (.aload_n 0, 1) := by decide +kernel
theorem dI_V_run_39 : decode bC_V_run 39 = .ok (.getfield 27, 3) := by decide +kernel
theorem dI_V_run_42 : decode bC_V_run 42 = .ok (.isub, 1) := by decide +kernel
theorem dI_V_run_43 : decode bC_V_run 43 = .ok (.istore_n 3, 1) := by decide +kernel
theorem dI_V_run_44 : decode bC_V_run 44 = .ok (.iload_n 3, 1) := by decide +kernel
theorem dI_V_run_45 : decode bC_V_run 45 = .ok (.ifCond .lt 20, 3) := by decide +kernel
theorem dI_V_run_48 : decode bC_V_run 48 = .ok (.aload_n 0, 1) := by decide +kernel
theorem dI_V_run_49 : decode bC_V_run 49 = .ok (.getfield 18, 3) := by decide +kernel
theorem dI_V_run_52 : decode bC_V_run 52 = .ok (.iload_n 3, 1) := by decide +kernel
theorem dI_V_run_53 : decode bC_V_run 53 = .ok (.aload_n 0, 1) := by decide +kernel
theorem dI_V_run_54 : decode bC_V_run 54 = .ok (.iload_n 3, 1) := by decide +kernel
theorem dI_V_run_55 : decode bC_V_run 55 = .ok (.invokevirtual 48, 3) := by decide +kernel
theorem dI_V_run_58 : decode bC_V_run 58 = .ok (.lastore, 1) := by decide +kernel
theorem dI_V_run_59 : decode bC_V_run 59 = .ok (.iinc 3 (-1), 3) := by decide +kernel
theorem dI_V_run_62 : decode bC_V_run 62 = .ok (.goto (-18), 3) := by decide +kernel
theorem dI_V_run_65 : decode bC_V_run 65 = .ok (.return_, 1) := by decide +kernel
theorem dI_V_setDivisor_0 : decode bC_V_setDivisor 0 = .ok (.aload_n 0, 1) := by decide +kernel
theorem dI_V_setDivisor_1 : decode bC_V_setDivisor 1 = .ok (.aload_n 1, 1) := by decide +kernel
theorem dI_V_setDivisor_2 : decode bC_V_setDivisor 2 = .ok (.invokestatic 21, 3) := by decide +kernel
theorem dI_V_setDivisor_5 : decode bC_V_setDivisor 5 = .ok (.putfield 27, 3) := by decide +kernel
theorem dI_V_setDivisor_8 : decode bC_V_setDivisor 8 = .ok (.aload_n 0, 1) := by decide +kernel
theorem dI_V_setDivisor_9 : decode bC_V_setDivisor 9 = .ok (.bipush 32, 2) := by decide +kernel
theorem dI_V_setDivisor_11 : decode bC_V_setDivisor 11 = .ok (.aload_n 1, 1) := by decide +kernel
theorem dI_V_setDivisor_12 : decode bC_V_setDivisor 12 = .ok (.aload_n 0, 1) := by decide +kernel
theorem dI_V_setDivisor_13 : decode bC_V_setDivisor 13 = .ok (.getfield 27, 3) := by decide +kernel
theorem dI_V_setDivisor_16 : decode bC_V_setDivisor 16 = .ok (.iconst 1, 1) := by decide +kernel
theorem dI_V_setDivisor_17 : decode bC_V_setDivisor 17 = .ok (.isub, 1) := by decide +kernel
theorem dI_V_setDivisor_18 : decode bC_V_setDivisor 18 = .ok (.laload, 1) := by decide +kernel
theorem dI_V_setDivisor_19 : decode bC_V_setDivisor 19 = .ok (.invokestatic 31, 3) := by decide +kernel
theorem dI_V_setDivisor_22 : decode bC_V_setDivisor 22 = .ok (.isub, 1) := by decide +kernel
theorem dI_V_setDivisor_23 : decode bC_V_setDivisor 23 = .ok (.putfield 35, 3) := by decide +kernel
theorem dI_V_setDivisor_26 : decode bC_V_setDivisor 26 = .ok (.aload_n 0, 1) := by decide +kernel
theorem dI_V_setDivisor_27 : decode bC_V_setDivisor 27 = .ok (.aload_n 1, 1) := by decide +kernel
theorem dI_V_setDivisor_28 : decode bC_V_setDivisor 28 = .ok (.aload_n 0, 1) := by decide +kernel
theorem dI_V_setDivisor_29 : decode bC_V_setDivisor 29 = .ok (.getfield 27, 3) := by decide +kernel
theorem dI_V_setDivisor_32 : decode bC_V_setDivisor 32 = .ok (.aload_n 0, 1) := by decide +kernel
theorem dI_V_setDivisor_33 : decode bC_V_setDivisor 33 = .ok (.getfield 9, 3) := by decide +kernel
theorem dI_V_setDivisor_36 : decode bC_V_setDivisor 36 = .ok (.invokevirtual 38, 3) := by decide +kernel
theorem dI_V_setDivisor_39 : decode bC_V_setDivisor 39 = .ok (.pop2, 1) := by decide +kernel
theorem dI_V_setDivisor_40 : decode bC_V_setDivisor 40 = .ok (.return_, 1) := by decide +kernel
theorem dI_V_shiftUp_0 : decode bC_V_shiftUp 0 = .ok (.lconst 0, 1) := by decide +kernel
theorem dI_V_shiftUp_1 : decode bC_V_shiftUp 1 = .ok (.lstore 4, 2) := by decide +kernel
theorem dI_V_shiftUp_3 : decode bC_V_shiftUp 3 = .ok (.iconst 0, 1) := by decide +kernel
theorem dI_V_shiftUp_4 : decode bC_V_shiftUp 4 = .ok (.istore 6, 2) := by decide +kernel
theorem dI_V_shiftUp_6 : decode bC_V_shiftUp 6 = .ok (.iload 6, 2) := by decide +kernel
theorem dI_V_shiftUp_8 : decode bC_V_shiftUp 8 = .ok (.iload_n 2, 1) := by decide +kernel
theorem dI_V_shiftUp_9 : decode bC_V_shiftUp 9 = .ok (.if_icmp .ge 43, 3) := by decide +kernel
theorem dI_V_shiftUp_12 : decode bC_V_shiftUp 12 = .ok (.aload_n 3, 1) := by decide +kernel
theorem dI_V_shiftUp_13 : decode bC_V_shiftUp 13 = .ok (.iload 6, 2) := by decide +kernel
theorem dI_V_shiftUp_15 : decode bC_V_shiftUp 15 = .ok (.aload_n 1, 1) := by decide +kernel
theorem dI_V_shiftUp_16 : decode bC_V_shiftUp 16 = .ok (.iload 6, 2) := by decide +kernel
theorem dI_V_shiftUp_18 : decode bC_V_shiftUp 18 = .ok (.laload, 1) := by decide +kernel
theorem dI_V_shiftUp_19 : decode bC_V_shiftUp 19 = .ok (.aload_n 0, 1) := by decide +kernel
theorem dI_V_shiftUp_20 : decode bC_V_shiftUp 20 = .ok (.getfield 35, 3) := by decide +kernel
theorem dI_V_shiftUp_23 : decode bC_V_shiftUp 23 = .ok (.lshl, 1) := by decide +kernel
theorem dI_V_shiftUp_24 : decode bC_V_shiftUp 24 = .ok (.lload 4, 2) := by decide +kernel
theorem dI_V_shiftUp_26 : decode bC_V_shiftUp 26 = .ok (.lor, 1) := by decide +kernel
theorem dI_V_shiftUp_27 : decode bC_V_shiftUp 27 = .ok (.ldc2_w 56, 3) := by decide +kernel
theorem dI_V_shiftUp_30 : decode bC_V_shiftUp 30 = .ok (.land, 1) := by decide +kernel
theorem dI_V_shiftUp_31 : decode bC_V_shiftUp 31 = .ok (.lastore, 1) := by decide +kernel
theorem dI_V_shiftUp_32 : decode bC_V_shiftUp 32 = .ok (.aload_n 1, 1) := by decide +kernel
theorem dI_V_shiftUp_33 : decode bC_V_shiftUp 33 = .ok (.iload 6, 2) := by decide +kernel
theorem dI_V_shiftUp_35 : decode bC_V_shiftUp 35 = .ok (.laload, 1) := by decide +kernel
theorem dI_V_shiftUp_36 : decode bC_V_shiftUp 36 = .ok (.bipush 32, 2) := by decide +kernel
theorem dI_V_shiftUp_38 : decode bC_V_shiftUp 38 = .ok (.aload_n 0, 1) := by decide +kernel
theorem dI_V_shiftUp_39 : decode bC_V_shiftUp 39 = .ok (.getfield 35, 3) := by decide +kernel
theorem dI_V_shiftUp_42 : decode bC_V_shiftUp 42 = .ok (.isub, 1) := by decide +kernel
theorem dI_V_shiftUp_43 : decode bC_V_shiftUp 43 = .ok (.lushr, 1) := by decide +kernel
theorem dI_V_shiftUp_44 : decode bC_V_shiftUp 44 = .ok (.lstore 4, 2) := by decide +kernel
theorem dI_V_shiftUp_46 : decode bC_V_shiftUp 46 = .ok (.iinc 6 1, 3) := by decide +kernel
theorem dI_V_shiftUp_49 : decode bC_V_shiftUp 49 = .ok (.goto (-43), 3) := by decide +kernel
theorem dI_V_shiftUp_52 : decode bC_V_shiftUp 52 = .ok (.lload 4, 2) := by decide +kernel
theorem dI_V_shiftUp_54 : decode bC_V_shiftUp 54 = .ok (.lreturn, 1) := by decide +kernel
theorem dI_V_takeAway_0 : decode bC_V_takeAway 0 = .ok (.lconst 0, 1) := by decide +kernel
theorem dI_V_takeAway_1 : decode bC_V_takeAway 1 = .ok (.lstore 4, 2) := by decide +kernel
theorem dI_V_takeAway_3 : decode bC_V_takeAway 3 = .ok (.lconst 0, 1) := by decide +kernel
theorem dI_V_takeAway_4 : decode bC_V_takeAway 4 = .ok (.lstore 6, 2) := by decide +kernel
theorem dI_V_takeAway_6 : decode bC_V_takeAway 6 = .ok (.iconst 0, 1) := by decide +kernel
theorem dI_V_takeAway_7 : decode bC_V_takeAway 7 = .ok (.istore 8, 2) := by decide +kernel
theorem dI_V_takeAway_9 : decode bC_V_takeAway 9 = .ok (.iload 8, 2) := by decide +kernel
theorem dI_V_takeAway_11 : decode bC_V_takeAway 11 = .ok (.aload_n 0, 1) := by decide +kernel
theorem dI_V_takeAway_12 : decode bC_V_takeAway 12 = .ok (.getfield 27, 3) := by decide +kernel
theorem dI_V_takeAway_15 : decode bC_V_takeAway 15 = .ok (.if_icmp .ge 80, 3) := by decide +kernel
theorem dI_V_takeAway_18 : decode bC_V_takeAway 18 = .ok (.lload_n 1, 1) := by decide +kernel
theorem dI_V_takeAway_19 : decode bC_V_takeAway 19 = .ok (.aload_n 0, 1) := by decide +kernel
theorem dI_V_takeAway_20 : decode bC_V_takeAway 20 = .ok (.getfield 9, 3) := by decide +kernel
theorem dI_V_takeAway_23 : decode bC_V_takeAway 23 = .ok (.iload 8, 2) := by decide +kernel
theorem dI_V_takeAway_25 : decode bC_V_takeAway 25 = .ok (.laload, 1) := by decide +kernel
theorem dI_V_takeAway_26 : decode bC_V_takeAway 26 = .ok (.lmul, 1) := by decide +kernel
theorem dI_V_takeAway_27 : decode bC_V_takeAway 27 = .ok (.lload 4, 2) := by decide +kernel
theorem dI_V_takeAway_29 : decode bC_V_takeAway 29 = .ok (.ladd, 1) := by decide +kernel
theorem dI_V_takeAway_30 : decode bC_V_takeAway 30 = .ok (.lstore 9, 2) := by decide +kernel
theorem dI_V_takeAway_32 : decode bC_V_takeAway 32 = .ok (.lload 9, 2) := by decide +kernel
theorem dI_V_takeAway_34 : decode bC_V_takeAway 34 = .ok (.bipush 32, 2) := by decide +kernel
theorem dI_V_takeAway_36 : decode bC_V_takeAway 36 = .ok (.lushr, 1) := by decide +kernel
theorem dI_V_takeAway_37 : decode bC_V_takeAway 37 = .ok (.lstore 4, 2) := by decide +kernel
theorem dI_V_takeAway_39 : decode bC_V_takeAway 39 = .ok (.aload_n 0, 1) := by decide +kernel
theorem dI_V_takeAway_40 : decode bC_V_takeAway 40 = .ok (.getfield 15, 3) := by decide +kernel
theorem dI_V_takeAway_43 : decode bC_V_takeAway 43 = .ok (.iload 8, 2) := by decide +kernel
theorem dI_V_takeAway_45 : decode bC_V_takeAway 45 = .ok (.iload_n 3, 1) := by decide +kernel
theorem dI_V_takeAway_46 : decode bC_V_takeAway 46 = .ok (.iadd, 1) := by decide +kernel
theorem dI_V_takeAway_47 : decode bC_V_takeAway 47 = .ok (.laload, 1) := by decide +kernel
theorem dI_V_takeAway_48 : decode bC_V_takeAway 48 = .ok (.lload 9, 2) := by decide +kernel
theorem dI_V_takeAway_50 : decode bC_V_takeAway 50 = .ok (.ldc2_w 56, 3) := by decide +kernel
theorem dI_V_takeAway_53 : decode bC_V_takeAway 53 = .ok (.land, 1) := by decide +kernel
theorem dI_V_takeAway_54 : decode bC_V_takeAway 54 = .ok (.lsub, 1) := by decide +kernel
theorem dI_V_takeAway_55 : decode bC_V_takeAway 55 = .ok (.lload 6, 2) := by decide +kernel
theorem dI_V_takeAway_57 : decode bC_V_takeAway 57 = .ok (.lsub, 1) := by decide +kernel
theorem dI_V_takeAway_58 : decode bC_V_takeAway 58 = .ok (.lstore 11, 2) := by decide +kernel
theorem dI_V_takeAway_60 : decode bC_V_takeAway 60 = .ok (.aload_n 0, 1) := by decide +kernel
theorem dI_V_takeAway_61 : decode bC_V_takeAway 61 = .ok (.getfield 15, 3) := by decide +kernel
theorem dI_V_takeAway_64 : decode bC_V_takeAway 64 = .ok (.iload 8, 2) := by decide +kernel
theorem dI_V_takeAway_66 : decode bC_V_takeAway 66 = .ok (.iload_n 3, 1) := by decide +kernel
theorem dI_V_takeAway_67 : decode bC_V_takeAway 67 = .ok (.iadd, 1) := by decide +kernel
theorem dI_V_takeAway_68 : decode bC_V_takeAway 68 = .ok (.lload 11, 2) := by decide +kernel
theorem dI_V_takeAway_70 : decode bC_V_takeAway 70 = .ok (.ldc2_w 56, 3) := by decide +kernel
theorem dI_V_takeAway_73 : decode bC_V_takeAway 73 = .ok (.land, 1) := by decide +kernel
theorem dI_V_takeAway_74 : decode bC_V_takeAway 74 = .ok (.lastore, 1) := by decide +kernel
theorem dI_V_takeAway_75 : decode bC_V_takeAway 75 = .ok (.lload 11, 2) := by decide +kernel
theorem dI_V_takeAway_77 : decode bC_V_takeAway 77 = .ok (.lconst 0, 1) := by decide +kernel
theorem dI_V_takeAway_78 : decode bC_V_takeAway 78 = .ok (.lcmp, 1) := by decide +kernel
theorem dI_V_takeAway_79 : decode bC_V_takeAway 79 = .ok (.ifCond .ge 7, 3) := by decide +kernel
theorem dI_V_takeAway_82 : decode bC_V_takeAway 82 = .ok (.lconst 1, 1) := by decide +kernel
theorem dI_V_takeAway_83 : decode bC_V_takeAway 83 = .ok (.goto 4, 3) := by decide +kernel
theorem dI_V_takeAway_86 : decode bC_V_takeAway 86 = .ok (.lconst 0, 1) := by decide +kernel
theorem dI_V_takeAway_87 : decode bC_V_takeAway 87 = .ok (.lstore 6, 2) := by decide +kernel
theorem dI_V_takeAway_89 : decode bC_V_takeAway 89 = .ok (.iinc 8 1, 3) := by decide +kernel
theorem dI_V_takeAway_92 : decode bC_V_takeAway 92 = .ok (.goto (-83), 3) := by decide +kernel
theorem dI_V_takeAway_95 : decode bC_V_takeAway 95 = .ok (.aload_n 0, 1) := by decide +kernel
theorem dI_V_takeAway_96 : decode bC_V_takeAway 96 = .ok (.getfield 15, 3) := by decide +kernel
theorem dI_V_takeAway_99 : decode bC_V_takeAway 99 = .ok (.iload_n 3, 1) := by decide +kernel
theorem dI_V_takeAway_100 : decode bC_V_takeAway 100 = .ok (.aload_n 0, 1) := by decide +kernel
theorem dI_V_takeAway_101 : decode bC_V_takeAway 101 = .ok (.getfield 27, 3) := by decide +kernel
theorem dI_V_takeAway_104 : decode bC_V_takeAway 104 = .ok (.iadd, 1) := by decide +kernel
theorem dI_V_takeAway_105 : decode bC_V_takeAway 105 = .ok (.laload, 1) := by decide +kernel
theorem dI_V_takeAway_106 : decode bC_V_takeAway 106 = .ok (.lload 4, 2) := by decide +kernel
theorem dI_V_takeAway_108 : decode bC_V_takeAway 108 = .ok (.lsub, 1) := by decide +kernel
theorem dI_V_takeAway_109 : decode bC_V_takeAway 109 = .ok (.lload 6, 2) := by decide +kernel
theorem dI_V_takeAway_111 : decode bC_V_takeAway 111 = .ok (.lsub, 1) := by decide +kernel
theorem dI_V_takeAway_112 : decode bC_V_takeAway 112 = .ok (.lstore 8, 2) := by decide +kernel
theorem dI_V_takeAway_114 : decode bC_V_takeAway 114 = .ok (.aload_n 0, 1) := by decide +kernel
theorem dI_V_takeAway_115 : decode bC_V_takeAway 115 = .ok (.getfield 15, 3) := by decide +kernel
theorem dI_V_takeAway_118 : decode bC_V_takeAway 118 = .ok (.iload_n 3, 1) := by decide +kernel
theorem dI_V_takeAway_119 : decode bC_V_takeAway 119 = .ok (.aload_n 0, 1) := by decide +kernel
theorem dI_V_takeAway_120 : decode bC_V_takeAway 120 = .ok (.getfield 27, 3) := by decide +kernel
theorem dI_V_takeAway_123 : decode bC_V_takeAway 123 = .ok (.iadd, 1) := by decide +kernel
theorem dI_V_takeAway_124 : decode bC_V_takeAway 124 = .ok (.lload 8, 2) := by decide +kernel
theorem dI_V_takeAway_126 : decode bC_V_takeAway 126 = .ok (.ldc2_w 56, 3) := by decide +kernel
theorem dI_V_takeAway_129 : decode bC_V_takeAway 129 = .ok (.land, 1) := by decide +kernel
theorem dI_V_takeAway_130 : decode bC_V_takeAway 130 = .ok (.lastore, 1) := by decide +kernel
theorem dI_V_takeAway_131 : decode bC_V_takeAway 131 = .ok (.lload 8, 2) := by decide +kernel
theorem dI_V_takeAway_133 : decode bC_V_takeAway 133 = .ok (.lconst 0, 1) := by decide +kernel
theorem dI_V_takeAway_134 : decode bC_V_takeAway 134 = .ok (.lcmp, 1) := by decide +kernel
theorem dI_V_takeAway_135 : decode bC_V_takeAway 135 = .ok (.ifCond .ge 7, 3) := by decide +kernel
theorem dI_V_takeAway_138 : decode bC_V_takeAway 138 = .ok (.iconst 1, 1) := by decide +kernel
theorem dI_V_takeAway_139 : decode bC_V_takeAway 139 = .ok (.goto 4, 3) := by decide +kernel
theorem dI_V_takeAway_142 : decode bC_V_takeAway 142 = .ok (.iconst 0, 1) := by decide +kernel
theorem dI_V_takeAway_143 : decode bC_V_takeAway 143 = .ok (.ireturn, 1) := by decide +kernel
theorem dI_Y_init_0 : decode bC_Y_init 0 = .ok (.aload_n 0, 1) := by decide +kernel
theorem dI_Y_init_1 : decode bC_Y_init 1 = .ok (.invokespecial 3, 3) := by decide +kernel
theorem dI_Y_init_4 : decode bC_Y_init 4 = .ok (.aload_n 0, 1) := by decide +kernel
theorem dI_Y_init_5 : decode bC_Y_init 5 = .ok (.bipush 64, 2) := by decide +kernel
theorem dI_Y_init_7 : decode bC_Y_init 7 = .ok (.newarray .int, 2) := by decide +kernel
theorem dI_Y_init_9 : decode bC_Y_init 9 = .ok (.putfield 9, 3) := by decide +kernel
theorem dI_Y_init_12 : decode bC_Y_init 12 = .ok (.aload_n 0, 1) := by decide +kernel
theorem dI_Y_init_13 : decode bC_Y_init 13 = .ok (.bipush 64, 2) := by decide +kernel
theorem dI_Y_init_15 : decode bC_Y_init 15 = .ok (.newarray .int, 2) := by decide +kernel
theorem dI_Y_init_17 : decode bC_Y_init 17 = .ok (.putfield 15, 3) := by decide +kernel
theorem dI_Y_init_20 : decode bC_Y_init 20 = .ok (.return_, 1) := by decide +kernel
theorem dI_Y_isCongruent_0 : decode bC_Y_isCongruent 0 = .ok (.aload_n 0, 1) := by decide +kernel
theorem dI_Y_isCongruent_1 : decode bC_Y_isCongruent 1 = .ok (.iload_n 1, 1) := by decide +kernel
theorem dI_Y_isCongruent_2 : decode bC_Y_isCongruent 2 = .ok (.iload_n 2, 1) := by decide +kernel
theorem dI_Y_isCongruent_3 : decode bC_Y_isCongruent 3 = .ok (.iload_n 3, 1) := by decide +kernel
theorem dI_Y_isCongruent_4 : decode bC_Y_isCongruent 4 = .ok (.invokevirtual 18, 3) := by decide +kernel
theorem dI_Y_isCongruent_7 : decode bC_Y_isCongruent 7 = .ok (.aload_n 0, 1) := by decide +kernel
theorem dI_Y_isCongruent_8 : decode bC_Y_isCongruent 8 = .ok (.getfield 9, 3) := by decide +kernel
theorem dI_Y_isCongruent_11 : decode bC_Y_isCongruent 11 = .ok (.iload_n 1, 1) := by decide +kernel
theorem dI_Y_isCongruent_12 : decode bC_Y_isCongruent 12 = .ok (.iload_n 2, 1) := by decide +kernel
theorem dI_Y_isCongruent_13 : decode bC_Y_isCongruent 13 = .ok (.irem, 1) := by decide +kernel
theorem dI_Y_isCongruent_14 : decode bC_Y_isCongruent 14 = .ok (.dup2, 1) := by decide +kernel
theorem dI_Y_isCongruent_15 : decode bC_Y_isCongruent 15 = .ok (.iaload, 1) := by decide +kernel
theorem dI_Y_isCongruent_16 : decode bC_Y_isCongruent 16 = .ok (.iconst 1, 1) := by decide +kernel
theorem dI_Y_isCongruent_17 : decode bC_Y_isCongruent 17 = .ok (.isub, 1) := by decide +kernel
theorem dI_Y_isCongruent_18 : decode bC_Y_isCongruent 18 = .ok (.iastore, 1) := by decide +kernel
theorem dI_Y_isCongruent_19 : decode bC_Y_isCongruent 19 = .ok (.aload_n 0, 1) := by decide +kernel
theorem dI_Y_isCongruent_20 : decode bC_Y_isCongruent 20 = .ok (.getfield 9, 3) := by decide +kernel
theorem dI_Y_isCongruent_23 : decode bC_Y_isCongruent 23 = .ok (.iconst 0, 1) := by decide +kernel
theorem dI_Y_isCongruent_24 : decode bC_Y_isCongruent 24 = .ok (.dup2, 1) := by decide +kernel
theorem dI_Y_isCongruent_25 : decode bC_Y_isCongruent 25 = .ok (.iaload, 1) := by decide +kernel
theorem dI_Y_isCongruent_26 : decode bC_Y_isCongruent 26 = .ok (.iload_n 3, 1) := by decide +kernel
theorem dI_Y_isCongruent_27 : decode bC_Y_isCongruent 27 = .ok (.isub, 1) := by decide +kernel
theorem dI_Y_isCongruent_28 : decode bC_Y_isCongruent 28 = .ok (.iastore, 1) := by decide +kernel
theorem dI_Y_isCongruent_29 : decode bC_Y_isCongruent 29 = .ok (.iconst 0, 1) := by decide +kernel
theorem dI_Y_isCongruent_30 : decode bC_Y_isCongruent 30 = .ok (.istore 4, 2) := by decide +kernel
theorem dI_Y_isCongruent_32 : decode bC_Y_isCongruent 32 = .ok (.iload 4, 2) := by decide +kernel
theorem dI_Y_isCongruent_34 : decode bC_Y_isCongruent 34 = .ok (.iload_n 2, 1) := by decide +kernel
theorem dI_Y_isCongruent_35 : decode bC_Y_isCongruent 35 = .ok (.if_icmp .ge 23, 3) := by decide +kernel
theorem dI_Y_isCongruent_38 : decode bC_Y_isCongruent 38 = .ok (.aload_n 0, 1) := by decide +kernel
theorem dI_Y_isCongruent_39 : decode bC_Y_isCongruent 39 = .ok (.getfield 9, 3) := by decide +kernel
theorem dI_Y_isCongruent_42 : decode bC_Y_isCongruent 42 = .ok (.iload 4, 2) := by decide +kernel
theorem dI_Y_isCongruent_44 : decode bC_Y_isCongruent 44 = .ok (.iaload, 1) := by decide +kernel
theorem dI_Y_isCongruent_45 : decode bC_Y_isCongruent 45 = .ok (.iload_n 1, 1) := by decide +kernel
theorem dI_Y_isCongruent_46 : decode bC_Y_isCongruent 46 = .ok (.irem, 1) := by decide +kernel
theorem dI_Y_isCongruent_47 : decode bC_Y_isCongruent 47 = .ok (.ifCond .eq 5, 3) := by decide +kernel
theorem dI_Y_isCongruent_50 : decode bC_Y_isCongruent 50 = .ok (.iconst 0, 1) := by decide +kernel
theorem dI_Y_isCongruent_51 : decode bC_Y_isCongruent 51 = .ok (.ireturn, 1) := by decide +kernel
theorem dI_Y_isCongruent_52 : decode bC_Y_isCongruent 52 = .ok (.iinc 4 1, 3) := by decide +kernel
theorem dI_Y_isCongruent_55 : decode bC_Y_isCongruent 55 = .ok (.goto (-23), 3) := by decide +kernel
theorem dI_Y_isCongruent_58 : decode bC_Y_isCongruent 58 = .ok (.iconst 1, 1) := by decide +kernel
theorem dI_Y_isCongruent_59 : decode bC_Y_isCongruent 59 = .ok (.ireturn, 1) := by decide +kernel
theorem dI_Y_multiplyByBinomial_0 : decode bC_Y_multiplyByBinomial 0 = .ok (.aload_n 0, 1) := by decide +kernel
theorem dI_Y_multiplyByBinomial_1 : decode bC_Y_multiplyByBinomial 1 = .ok (.getfield 9, 3) := by decide +kernel
theorem dI_Y_multiplyByBinomial_4 : decode bC_Y_multiplyByBinomial 4 = .ok (.iload_n 2, 1) := by decide +kernel
theorem dI_Y_multiplyByBinomial_5 : decode bC_Y_multiplyByBinomial 5 = .ok (.iconst 1, 1) := by decide +kernel
theorem dI_Y_multiplyByBinomial_6 : decode bC_Y_multiplyByBinomial 6 = .ok (.isub, 1) := by decide +kernel
theorem dI_Y_multiplyByBinomial_7 : decode bC_Y_multiplyByBinomial 7 = .ok (.iaload, 1) := by decide +kernel
theorem dI_Y_multiplyByBinomial_8 : decode bC_Y_multiplyByBinomial 8 = .ok (.istore 4, 2) := by decide +kernel
theorem dI_Y_multiplyByBinomial_10 : decode bC_Y_multiplyByBinomial 10 = .ok (.iload_n 2, 1) := by decide +kernel
theorem dI_Y_multiplyByBinomial_11 : decode bC_Y_multiplyByBinomial 11 = .ok (.iconst 1, 1) := by decide +kernel
theorem dI_Y_multiplyByBinomial_12 : decode bC_Y_multiplyByBinomial 12 = .ok (.isub, 1) := by decide +kernel
theorem dI_Y_multiplyByBinomial_13 : decode bC_Y_multiplyByBinomial 13 = .ok (.istore 5, 2) := by decide +kernel
theorem dI_Y_multiplyByBinomial_15 : decode bC_Y_multiplyByBinomial 15 = .ok (.iload 5, 2) := by decide +kernel
theorem dI_Y_multiplyByBinomial_17 : decode bC_Y_multiplyByBinomial 17 = .ok (.ifCond .le 37, 3) := by decide +kernel
theorem dI_Y_multiplyByBinomial_20 : decode bC_Y_multiplyByBinomial 20 = .ok (.aload_n 0, 1) := by decide +kernel
theorem dI_Y_multiplyByBinomial_21 : decode bC_Y_multiplyByBinomial 21 = .ok (.getfield 9, 3) := by decide +kernel
theorem dI_Y_multiplyByBinomial_24 : decode bC_Y_multiplyByBinomial 24 = .ok (.iload 5, 2) := by decide +kernel
theorem dI_Y_multiplyByBinomial_26 : decode bC_Y_multiplyByBinomial 26 = .ok (.aload_n 0, 1) := by decide +kernel
theorem dI_Y_multiplyByBinomial_27 : decode bC_Y_multiplyByBinomial 27 = .ok (.getfield 9, 3) := by decide +kernel
theorem dI_Y_multiplyByBinomial_30 : decode bC_Y_multiplyByBinomial 30 = .ok (.iload 5, 2) := by decide +kernel
theorem dI_Y_multiplyByBinomial_32 : decode bC_Y_multiplyByBinomial 32 = .ok (.iconst 1, 1) := by decide +kernel
theorem dI_Y_multiplyByBinomial_33 : decode bC_Y_multiplyByBinomial 33 = .ok (.isub, 1) := by decide +kernel
theorem dI_Y_multiplyByBinomial_34 : decode bC_Y_multiplyByBinomial 34 = .ok (.iaload, 1) := by decide +kernel
theorem dI_Y_multiplyByBinomial_35 : decode bC_Y_multiplyByBinomial 35 = .ok (.iload_n 3, 1) := by decide +kernel
theorem dI_Y_multiplyByBinomial_36 : decode bC_Y_multiplyByBinomial 36 = .ok (.aload_n 0, 1) := by decide +kernel
theorem dI_Y_multiplyByBinomial_37 : decode bC_Y_multiplyByBinomial 37 = .ok (.getfield 9, 3) := by decide +kernel
theorem dI_Y_multiplyByBinomial_40 : decode bC_Y_multiplyByBinomial 40 = .ok (.iload 5, 2) := by decide +kernel
theorem dI_Y_multiplyByBinomial_42 : decode bC_Y_multiplyByBinomial 42 = .ok (.iaload, 1) := by decide +kernel
theorem dI_Y_multiplyByBinomial_43 : decode bC_Y_multiplyByBinomial 43 = .ok (.imul, 1) := by decide +kernel
theorem dI_Y_multiplyByBinomial_44 : decode bC_Y_multiplyByBinomial 44 = .ok (.iadd, 1) := by decide +kernel
theorem dI_Y_multiplyByBinomial_45 : decode bC_Y_multiplyByBinomial 45 = .ok (.iload_n 1, 1) := by decide +kernel
theorem dI_Y_multiplyByBinomial_46 : decode bC_Y_multiplyByBinomial 46 = .ok (.irem, 1) := by decide +kernel
theorem dI_Y_multiplyByBinomial_47 : decode bC_Y_multiplyByBinomial 47 = .ok (.iastore, 1) := by decide +kernel
theorem dI_Y_multiplyByBinomial_48 : decode bC_Y_multiplyByBinomial 48 = .ok (.iinc 5 (-1), 3) := by decide +kernel
theorem dI_Y_multiplyByBinomial_51 : decode bC_Y_multiplyByBinomial 51 = .ok (.goto (-36), 3) := by decide +kernel
theorem dI_Y_multiplyByBinomial_54 : decode bC_Y_multiplyByBinomial 54 = .ok (.aload_n 0, 1) := by decide +kernel
theorem dI_Y_multiplyByBinomial_55 : decode bC_Y_multiplyByBinomial 55 = .ok (.getfield 9, 3) := by decide +kernel
theorem dI_Y_multiplyByBinomial_58 : decode bC_Y_multiplyByBinomial 58 = .ok (.iconst 0, 1) := by decide +kernel
theorem dI_Y_multiplyByBinomial_59 : decode bC_Y_multiplyByBinomial 59 = .ok (.iload 4, 2) := by decide +kernel
theorem dI_Y_multiplyByBinomial_61 : decode bC_Y_multiplyByBinomial 61 = .ok (.iload_n 3, 1) := by decide +kernel
theorem dI_Y_multiplyByBinomial_62 : decode bC_Y_multiplyByBinomial 62 = .ok (.aload_n 0, 1) := by decide +kernel
theorem dI_Y_multiplyByBinomial_63 : decode bC_Y_multiplyByBinomial 63 = .ok (.getfield 9, 3) := by decide +kernel
theorem dI_Y_multiplyByBinomial_66 : decode bC_Y_multiplyByBinomial 66 = .ok (.iconst 0, 1) := by decide +kernel
theorem dI_Y_multiplyByBinomial_67 : decode bC_Y_multiplyByBinomial 67 = .ok (.iaload, 1) := by decide +kernel
theorem dI_Y_multiplyByBinomial_68 : decode bC_Y_multiplyByBinomial 68 = .ok (.imul, 1) := by decide +kernel
theorem dI_Y_multiplyByBinomial_69 : decode bC_Y_multiplyByBinomial 69 = .ok (.iadd, 1) := by decide +kernel
theorem dI_Y_multiplyByBinomial_70 : decode bC_Y_multiplyByBinomial 70 = .ok (.iload_n 1, 1) := by decide +kernel
theorem dI_Y_multiplyByBinomial_71 : decode bC_Y_multiplyByBinomial 71 = .ok (.irem, 1) := by decide +kernel
theorem dI_Y_multiplyByBinomial_72 : decode bC_Y_multiplyByBinomial 72 = .ok (.iastore, 1) := by decide +kernel
theorem dI_Y_multiplyByBinomial_73 : decode bC_Y_multiplyByBinomial 73 = .ok (.return_, 1) := by decide +kernel
theorem dI_Y_raiseBinomial_0 : decode bC_Y_raiseBinomial 0 = .ok (.aload_n 0, 1) := by decide +kernel
theorem dI_Y_raiseBinomial_1 : decode bC_Y_raiseBinomial 1 = .ok (.getfield 9, 3) := by decide +kernel
theorem dI_Y_raiseBinomial_4 : decode bC_Y_raiseBinomial 4 = .ok (.iconst 0, 1) := by decide +kernel
theorem dI_Y_raiseBinomial_5 : decode bC_Y_raiseBinomial 5 = .ok (.invokestatic 22, 3) := by decide +kernel
theorem dI_Y_raiseBinomial_8 : decode bC_Y_raiseBinomial 8 = .ok (.aload_n 0, 1) := by decide +kernel
theorem dI_Y_raiseBinomial_9 : decode bC_Y_raiseBinomial 9 = .ok (.getfield 9, 3) := by decide +kernel
theorem dI_Y_raiseBinomial_12 : decode bC_Y_raiseBinomial 12 = .ok (.iconst 0, 1) := by decide +kernel
theorem dI_Y_raiseBinomial_13 : decode bC_Y_raiseBinomial 13 = .ok (.iconst 1, 1) := by decide +kernel
theorem dI_Y_raiseBinomial_14 : decode bC_Y_raiseBinomial 14 = .ok (.iastore, 1) := by decide +kernel
theorem dI_Y_raiseBinomial_15 : decode bC_Y_raiseBinomial 15 = .ok (.iload_n 1, 1) := by decide +kernel
theorem dI_Y_raiseBinomial_16 : decode bC_Y_raiseBinomial 16 = .ok (.i2l, 1) := by decide +kernel
theorem dI_Y_raiseBinomial_17 : decode bC_Y_raiseBinomial 17 = .ok (.invokestatic 28, 3) := by decide +kernel
theorem dI_Y_raiseBinomial_20 : decode bC_Y_raiseBinomial 20 = .ok (.iconst 1, 1) := by decide +kernel
theorem dI_Y_raiseBinomial_21 : decode bC_Y_raiseBinomial 21 = .ok (.isub, 1) := by decide +kernel
theorem dI_Y_raiseBinomial_22 : decode bC_Y_raiseBinomial 22 = .ok (.istore 4, 2) := by decide +kernel
theorem dI_Y_raiseBinomial_24 : decode bC_Y_raiseBinomial 24 = .ok (.iload 4, 2) := by decide +kernel
theorem dI_Y_raiseBinomial_26 : decode bC_Y_raiseBinomial 26 = .ok (.ifCond .lt 32, 3) := by decide +kernel
theorem dI_Y_raiseBinomial_29 : decode bC_Y_raiseBinomial 29 = .ok (.aload_n 0, 1) := by decide +kernel
theorem dI_Y_raiseBinomial_30 : decode bC_Y_raiseBinomial 30 = .ok (.iload_n 1, 1) := by decide +kernel
theorem dI_Y_raiseBinomial_31 : decode bC_Y_raiseBinomial 31 = .ok (.iload_n 2, 1) := by decide +kernel
theorem dI_Y_raiseBinomial_32 : decode bC_Y_raiseBinomial 32 = .ok (.invokevirtual 34, 3) := by decide +kernel
theorem dI_Y_raiseBinomial_35 : decode bC_Y_raiseBinomial 35 = .ok (.iload_n 1, 1) := by decide +kernel
theorem dI_Y_raiseBinomial_36 : decode bC_Y_raiseBinomial 36 = .ok (.iload 4, 2) := by decide +kernel
theorem dI_Y_raiseBinomial_38 : decode bC_Y_raiseBinomial 38 = .ok (.iushr, 1) := by decide +kernel
theorem dI_Y_raiseBinomial_39 : decode bC_Y_raiseBinomial 39 = .ok (.iconst 1, 1) := by decide +kernel
theorem dI_Y_raiseBinomial_40 : decode bC_Y_raiseBinomial 40 = .ok (.iand, 1) := by decide +kernel
theorem dI_Y_raiseBinomial_41 : decode bC_Y_raiseBinomial 41 = .ok (.iconst 1, 1) := by decide +kernel
theorem dI_Y_raiseBinomial_42 : decode bC_Y_raiseBinomial 42 = .ok (.if_icmp .ne 10, 3) := by decide +kernel
theorem dI_Y_raiseBinomial_45 : decode bC_Y_raiseBinomial 45 = .ok (.aload_n 0, 1) := by decide +kernel
theorem dI_Y_raiseBinomial_46 : decode bC_Y_raiseBinomial 46 = .ok (.iload_n 1, 1) := by decide +kernel
theorem dI_Y_raiseBinomial_47 : decode bC_Y_raiseBinomial 47 = .ok (.iload_n 2, 1) := by decide +kernel
theorem dI_Y_raiseBinomial_48 : decode bC_Y_raiseBinomial 48 = .ok (.iload_n 3, 1) := by decide +kernel
theorem dI_Y_raiseBinomial_49 : decode bC_Y_raiseBinomial 49 = .ok (.invokevirtual 38, 3) := by decide +kernel
theorem dI_Y_raiseBinomial_52 : decode bC_Y_raiseBinomial 52 = .ok (.iinc 4 (-1), 3) := by decide +kernel
theorem dI_Y_raiseBinomial_55 : decode bC_Y_raiseBinomial 55 = .ok (.goto (-31), 3) := by decide +kernel
theorem dI_Y_raiseBinomial_58 : decode bC_Y_raiseBinomial 58 = .ok (.return_, 1) := by decide +kernel
theorem dI_Y_squareBy_0 : decode bC_Y_squareBy 0 = .ok (.iconst 0, 1) := by decide +kernel
theorem dI_Y_squareBy_1 : decode bC_Y_squareBy 1 = .ok (.istore_n 3, 1) := by decide +kernel
theorem dI_Y_squareBy_2 : decode bC_Y_squareBy 2 = .ok (.iload_n 3, 1) := by decide +kernel
theorem dI_Y_squareBy_3 : decode bC_Y_squareBy 3 = .ok (.iload_n 2, 1) := by decide +kernel
theorem dI_Y_squareBy_4 : decode bC_Y_squareBy 4 = .ok (.if_icmp .ge 23, 3) := by decide +kernel
theorem dI_Y_squareBy_7 : decode bC_Y_squareBy 7 = .ok (.aload_n 0, 1) := by decide +kernel
theorem dI_Y_squareBy_8 : decode bC_Y_squareBy 8 = .ok (.getfield 15, 3) := by decide +kernel
theorem dI_Y_squareBy_11 : decode bC_Y_squareBy 11 = .ok (.iload_n 3, 1) := by decide +kernel
theorem dI_Y_squareBy_12 : decode bC_Y_squareBy 12 = .ok (.aload_n 0, 1) := by decide +kernel
theorem dI_Y_squareBy_13 : decode bC_Y_squareBy 13 = .ok (.iload_n 3, 1) := by decide +kernel
theorem dI_Y_squareBy_14 : decode bC_Y_squareBy 14 = .ok (.iload_n 2, 1) := by decide +kernel
theorem dI_Y_squareBy_15 : decode bC_Y_squareBy 15 = .ok (.invokevirtual 41, 3) := by decide +kernel
theorem dI_Y_squareBy_18 : decode bC_Y_squareBy 18 = .ok (.iload_n 1, 1) := by decide +kernel
theorem dI_Y_squareBy_19 : decode bC_Y_squareBy 19 = .ok (.irem, 1) := by decide +kernel
theorem dI_Y_squareBy_20 : decode bC_Y_squareBy 20 = .ok (.iastore, 1) := by decide +kernel
theorem dI_Y_squareBy_21 : decode bC_Y_squareBy 21 = .ok (.iinc 3 1, 3) := by decide +kernel
theorem dI_Y_squareBy_24 : decode bC_Y_squareBy 24 = .ok (.goto (-22), 3) := by decide +kernel
theorem dI_Y_squareBy_27 : decode bC_Y_squareBy 27 = .ok (.aload_n 0, 1) := by decide +kernel
theorem dI_Y_squareBy_28 : decode bC_Y_squareBy 28 = .ok (.getfield 15, 3) := by decide +kernel
theorem dI_Y_squareBy_31 : decode bC_Y_squareBy 31 = .ok (.iconst 0, 1) := by decide +kernel
theorem dI_Y_squareBy_32 : decode bC_Y_squareBy 32 = .ok (.aload_n 0, 1) := by decide +kernel
theorem dI_Y_squareBy_33 : decode bC_Y_squareBy 33 = .ok (.getfield 9, 3) := by decide +kernel
theorem dI_Y_squareBy_36 : decode bC_Y_squareBy 36 = .ok (.iconst 0, 1) := by decide +kernel
theorem dI_Y_squareBy_37 : decode bC_Y_squareBy 37 = .ok (.iload_n 2, 1) := by decide +kernel
theorem dI_Y_squareBy_38 : decode bC_Y_squareBy 38 = .ok (.invokestatic 45, 3) := by decide +kernel
theorem dI_Y_squareBy_41 : decode bC_Y_squareBy 41 = .ok (.return_, 1) := by decide +kernel
theorem dI_Y_squareCoefficient_0 : decode bC_Y_squareCoefficient 0 = .ok (.iconst 0, 1) := by decide +kernel
theorem dI_Y_squareCoefficient_1 : decode bC_Y_squareCoefficient 1 = .ok (.istore_n 3, 1) := by decide +kernel
theorem dI_Y_squareCoefficient_2 : decode bC_Y_squareCoefficient 2 = .ok (.iconst 0, 1) := by decide +kernel
theorem dI_Y_squareCoefficient_3 : decode bC_Y_squareCoefficient 3 = .ok (.istore 4, 2) := by decide +kernel
theorem dI_Y_squareCoefficient_5 : decode bC_Y_squareCoefficient 5 = .ok (.iload 4, 2) := by decide +kernel
theorem dI_Y_squareCoefficient_7 : decode bC_Y_squareCoefficient 7 = .ok (.iload_n 2, 1) := by decide +kernel
theorem dI_Y_squareCoefficient_8 : decode bC_Y_squareCoefficient 8 = .ok (.if_icmp .ge 48, 3) := by decide +kernel
theorem dI_Y_squareCoefficient_11 : decode bC_Y_squareCoefficient 11 = .ok (.iload 4, 2) := by decide +kernel
theorem dI_Y_squareCoefficient_13 : decode bC_Y_squareCoefficient 13 = .ok (.iload_n 1, 1) := by decide +kernel
theorem dI_Y_squareCoefficient_14 : decode bC_Y_squareCoefficient 14 = .ok (.if_icmp .gt 10, 3) := by decide +kernel
theorem dI_Y_squareCoefficient_17 : decode bC_Y_squareCoefficient 17 = .ok (.iload_n 1, 1) := by decide +kernel
theorem dI_Y_squareCoefficient_18 : decode bC_Y_squareCoefficient 18 = .ok (.iload 4, 2) := by decide +kernel
theorem dI_Y_squareCoefficient_20 : decode bC_Y_squareCoefficient 20 = .ok (.isub, 1) := by decide +kernel
theorem dI_Y_squareCoefficient_21 : decode bC_Y_squareCoefficient 21 = .ok (.goto 9, 3) := by decide +kernel
theorem dI_Y_squareCoefficient_24 : decode bC_Y_squareCoefficient 24 = .ok (.iload_n 1, 1) := by decide +kernel
theorem dI_Y_squareCoefficient_25 : decode bC_Y_squareCoefficient 25 = .ok (.iload 4, 2) := by decide +kernel
theorem dI_Y_squareCoefficient_27 : decode bC_Y_squareCoefficient 27 = .ok (.isub, 1) := by decide +kernel
theorem dI_Y_squareCoefficient_28 : decode bC_Y_squareCoefficient 28 = .ok (.iload_n 2, 1) := by decide +kernel
theorem dI_Y_squareCoefficient_29 : decode bC_Y_squareCoefficient 29 = .ok (.iadd, 1) := by decide +kernel
theorem dI_Y_squareCoefficient_30 : decode bC_Y_squareCoefficient 30 = .ok (.istore 5, 2) := by decide +kernel
theorem dI_Y_squareCoefficient_32 : decode bC_Y_squareCoefficient 32 = .ok (.iload_n 3, 1) := by decide +kernel
theorem dI_Y_squareCoefficient_33 : decode bC_Y_squareCoefficient 33 = .ok (.aload_n 0, 1) := by decide +kernel
theorem dI_Y_squareCoefficient_34 : decode bC_Y_squareCoefficient 34 = .ok (.getfield 9, 3) := by decide +kernel
theorem dI_Y_squareCoefficient_37 : decode bC_Y_squareCoefficient 37 = .ok (.iload 4, 2) := by decide +kernel
theorem dI_Y_squareCoefficient_39 : decode bC_Y_squareCoefficient 39 = .ok (.iaload, 1) := by decide +kernel
theorem dI_Y_squareCoefficient_40 : decode bC_Y_squareCoefficient 40 = .ok (.aload_n 0, 1) := by decide +kernel
theorem dI_Y_squareCoefficient_41 : decode bC_Y_squareCoefficient 41 = .ok (.getfield 9, 3) := by decide +kernel
theorem dI_Y_squareCoefficient_44 : decode bC_Y_squareCoefficient 44 = .ok (.iload 5, 2) := by decide +kernel
theorem dI_Y_squareCoefficient_46 : decode bC_Y_squareCoefficient 46 = .ok (.iaload, 1) := by decide +kernel
theorem dI_Y_squareCoefficient_47 : decode bC_Y_squareCoefficient 47 = .ok (.imul, 1) := by decide +kernel
theorem dI_Y_squareCoefficient_48 : decode bC_Y_squareCoefficient 48 = .ok (.iadd, 1) := by decide +kernel
theorem dI_Y_squareCoefficient_49 : decode bC_Y_squareCoefficient 49 = .ok (.istore_n 3, 1) := by decide +kernel
theorem dI_Y_squareCoefficient_50 : decode bC_Y_squareCoefficient 50 = .ok (.iinc 4 1, 3) := by decide +kernel
theorem dI_Y_squareCoefficient_53 : decode bC_Y_squareCoefficient 53 = .ok (.goto (-48), 3) := by decide +kernel
theorem dI_Y_squareCoefficient_56 : decode bC_Y_squareCoefficient 56 = .ok (.iload_n 3, 1) := by decide +kernel
theorem dI_Y_squareCoefficient_57 : decode bC_Y_squareCoefficient 57 = .ok (.ireturn, 1) := by decide +kernel
