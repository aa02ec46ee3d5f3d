theorem dI_P_put_5 : decode bC_P_put 5 = .ok (.lconst 0, 1) := by decide +kernel
theorem dI_P_put_6 : decode bC_P_put 6 = .ok (.lcmp, 1) := by decide +kernel
theorem dI_P_put_7 : decode bC_P_put 7 = .ok (.ifCond .ge 13, 3) := by decide +kernel
theorem dI_P_put_10 : decode bC_P_put 10 = .ok (.new 52, 3) := by decide +kernel
theorem dI_P_put_13 : decode bC_P_put 13 = .ok (.dup, 1) := by decide +kernel
theorem dI_P_put_14 : decode bC_P_put 14 = .ok (.ldc 54, 2) := by decide +kernel
theorem dI_P_put_16 : decode bC_P_put 16 = .ok (.invokespecial 56, 3) := by decide +kernel
theorem dI_P_put_19 : decode bC_P_put 19 = .ok (.athrow, 1) := by decide +kernel
theorem dI_P_put_20 : decode bC_P_put 20 = .ok (.aload_n 0, 1) := by decide +kernel
theorem dI_P_put_21 : decode bC_P_put 21 = .ok (.getfield 11, 3) := by decide +kernel
theorem dI_P_put_24 : decode bC_P_put 24 = .ok (.iload_n 1, 1) := by decide +kernel
theorem dI_P_put_25 : decode bC_P_put 25 = .ok (.aaload, 1) := by decide +kernel
theorem dI_P_put_26 : decode bC_P_put 26 = .ok (.lload_n 2, 1) := by decide +kernel
theorem dI_P_put_27 : decode bC_P_put 27 = .ok (.invokestatic 59, 3) := by decide +kernel
theorem dI_P_put_30 : decode bC_P_put 30 = .ok (.return_, 1) := by decide +kernel
theorem dI_P_raiseToRemainder_0 : decode bC_P_raiseToRemainder 0 = .ok (.aload_n 0, 1) := by decide +kernel
theorem dI_P_raiseToRemainder_1 : decode bC_P_raiseToRemainder 1 = .ok (.getfield 14, 3) := by decide +kernel
theorem dI_P_raiseToRemainder_4 : decode bC_P_raiseToRemainder 4 = .ok (.lconst 1, 1) := by decide +kernel
theorem dI_P_raiseToRemainder_5 : decode bC_P_raiseToRemainder 5 = .ok (.invokestatic 59, 3) := by decide +kernel
theorem dI_P_raiseToRemainder_8 : decode bC_P_raiseToRemainder 8 = .ok (.aload_n 0, 1) := by decide +kernel
theorem dI_P_raiseToRemainder_9 : decode bC_P_raiseToRemainder 9 = .ok (.getfield 30, 3) := by decide +kernel
theorem dI_P_raiseToRemainder_12 : decode bC_P_raiseToRemainder 12 = .ok (.aload_n 0, 1) := by decide +kernel
theorem dI_P_raiseToRemainder_13 : decode bC_P_raiseToRemainder 13 = .ok (.getfield 14, 3) := by decide +kernel
theorem dI_P_raiseToRemainder_16 : decode bC_P_raiseToRemainder 16 = .ok (.invokevirtual 113, 3) := by decide +kernel
theorem dI_P_raiseToRemainder_19 : decode bC_P_raiseToRemainder 19 = .ok (.aload_n 0, 1) := by decide +kernel
theorem dI_P_raiseToRemainder_20 : decode bC_P_raiseToRemainder 20 = .ok (.getfield 30, 3) := by decide +kernel
theorem dI_P_raiseToRemainder_23 : decode bC_P_raiseToRemainder 23 = .ok (.aload_n 0, 1) := by decide +kernel
theorem dI_P_raiseToRemainder_24 : decode bC_P_raiseToRemainder 24 = .ok (.getfield 14, 3) := by decide +kernel
theorem dI_P_raiseToRemainder_27 : decode bC_P_raiseToRemainder 27 = .ok (.invokevirtual 119, 3) := by decide +kernel
theorem dI_P_raiseToRemainder_30 : decode bC_P_raiseToRemainder 30 = .ok (.aload_n 2, 1) := by decide +kernel
theorem dI_P_raiseToRemainder_31 : decode bC_P_raiseToRemainder 31 = .ok (.invokestatic 131, 3) := by decide +kernel
theorem dI_P_raiseToRemainder_34 : decode bC_P_raiseToRemainder 34 = .ok (.iconst 1, 1) := by decide +kernel
theorem dI_P_raiseToRemainder_35 : decode bC_P_raiseToRemainder 35 = .ok (.isub, 1) := by decide +kernel
theorem dI_P_raiseToRemainder_36 : decode bC_P_raiseToRemainder 36 = .ok (.istore_n 3, 1) := by decide +kernel
theorem dI_P_raiseToRemainder_37 : decode bC_P_raiseToRemainder 37 = .ok (.iload_n 3, 1) := by decide +kernel
theorem dI_P_raiseToRemainder_38 : decode bC_P_raiseToRemainder 38 = .ok (.ifCond .lt 30, 3) := by decide +kernel
theorem dI_P_raiseToRemainder_41 : decode bC_P_raiseToRemainder 41 = .ok (.aload_n 0, 1) := by decide +kernel
theorem dI_P_raiseToRemainder_42 : decode bC_P_raiseToRemainder 42 = .ok (.aload_n 0, 1) := by decide +kernel
theorem dI_P_raiseToRemainder_43 : decode bC_P_raiseToRemainder 43 = .ok (.getfield 14, 3) := by decide +kernel
theorem dI_P_raiseToRemainder_46 : decode bC_P_raiseToRemainder 46 = .ok (.invokevirtual 185, 3) := by decide +kernel
theorem dI_P_raiseToRemainder_49 : decode bC_P_raiseToRemainder 49 = .ok (.aload_n 2, 1) := by decide +kernel
theorem dI_P_raiseToRemainder_50 : decode bC_P_raiseToRemainder 50 = .ok (.iload_n 3, 1) := by decide +kernel
theorem dI_P_raiseToRemainder_51 : decode bC_P_raiseToRemainder 51 = .ok (.invokestatic 188, 3) := by decide +kernel
theorem dI_P_raiseToRemainder_54 : decode bC_P_raiseToRemainder 54 = .ok (.ifCond .eq 8, 3) := by decide +kernel
theorem dI_P_raiseToRemainder_57 : decode bC_P_raiseToRemainder 57 = .ok (.aload_n 0, 1) := by decide +kernel
theorem dI_P_raiseToRemainder_58 : decode bC_P_raiseToRemainder 58 = .ok (.aload_n 1, 1) := by decide +kernel
theorem dI_P_raiseToRemainder_59 : decode bC_P_raiseToRemainder 59 = .ok (.invokevirtual 185, 3) := by decide +kernel
theorem dI_P_raiseToRemainder_62 : decode bC_P_raiseToRemainder 62 = .ok (.iinc 3 (-1), 3) := by decide +kernel
theorem dI_P_raiseToRemainder_65 : decode bC_P_raiseToRemainder 65 = .ok (.goto (-28), 3) := by decide +kernel
theorem dI_P_raiseToRemainder_68 : decode bC_P_raiseToRemainder 68 = .ok (.return_, 1) := by decide +kernel
theorem dI_P_subtract_0 : decode bC_P_subtract 0 = .ok (.iload_n 1, 1) := by decide +kernel
theorem dI_P_subtract_1 : decode bC_P_subtract 1 = .ok (.iload_n 2, 1) := by decide +kernel
theorem dI_P_subtract_2 : decode bC_P_subtract 2 = .ok (.iload_n 3, 1) := by decide +kernel
theorem dI_P_subtract_3 : decode bC_P_subtract 3 = .ok (.invokestatic 72, 3) := by decide +kernel
theorem dI_P_subtract_6 : decode bC_P_subtract 6 = .ok (.aload_n 0, 1) := by decide +kernel
theorem dI_P_subtract_7 : decode bC_P_subtract 7 = .ok (.getfield 11, 3) := by decide +kernel
theorem dI_P_subtract_10 : decode bC_P_subtract 10 = .ok (.iload_n 1, 1) := by decide +kernel
theorem dI_P_subtract_11 : decode bC_P_subtract 11 = .ok (.aaload, 1) := by decide +kernel
theorem dI_P_subtract_12 : decode bC_P_subtract 12 = .ok (.aload_n 0, 1) := by decide +kernel
theorem dI_P_subtract_13 : decode bC_P_subtract 13 = .ok (.getfield 11, 3) := by decide +kernel
theorem dI_P_subtract_16 : decode bC_P_subtract 16 = .ok (.iload_n 2, 1) := by decide +kernel
theorem dI_P_subtract_17 : decode bC_P_subtract 17 = .ok (.aaload, 1) := by decide +kernel
theorem dI_P_subtract_18 : decode bC_P_subtract 18 = .ok (.aload_n 0, 1) := by decide +kernel
theorem dI_P_subtract_19 : decode bC_P_subtract 19 = .ok (.getfield 14, 3) := by decide +kernel
theorem dI_P_subtract_22 : decode bC_P_subtract 22 = .ok (.invokestatic 86, 3) := by decide +kernel
theorem dI_P_subtract_25 : decode bC_P_subtract 25 = .ok (.lconst 0, 1) := by decide +kernel
theorem dI_P_subtract_26 : decode bC_P_subtract 26 = .ok (.lcmp, 1) := by decide +kernel
theorem dI_P_subtract_27 : decode bC_P_subtract 27 = .ok (.ifCond .eq 13, 3) := by decide +kernel
theorem dI_P_subtract_30 : decode bC_P_subtract 30 = .ok (.new 65, 3) := by decide +kernel
theorem dI_P_subtract_33 : decode bC_P_subtract 33 = .ok (.dup, 1) := by decide +kernel
theorem dI_P_subtract_34 : decode bC_P_subtract 34 = .ok (.ldc 89, 2) := by decide +kernel
theorem dI_P_subtract_36 : decode bC_P_subtract 36 = .ok (.invokespecial 69, 3) := by decide +kernel
theorem dI_P_subtract_39 : decode bC_P_subtract 39 = .ok (.athrow, 1) := by decide +kernel
theorem dI_P_subtract_40 : decode bC_P_subtract 40 = .ok (.aload_n 0, 1) := by decide +kernel
theorem dI_P_subtract_41 : decode bC_P_subtract 41 = .ok (.getfield 14, 3) := by decide +kernel
theorem dI_P_subtract_44 : decode bC_P_subtract 44 = .ok (.aload_n 0, 1) := by decide +kernel
theorem dI_P_subtract_45 : decode bC_P_subtract 45 = .ok (.getfield 11, 3) := by decide +kernel
theorem dI_P_subtract_48 : decode bC_P_subtract 48 = .ok (.iload_n 3, 1) := by decide +kernel
theorem dI_P_subtract_49 : decode bC_P_subtract 49 = .ok (.aaload, 1) := by decide +kernel
theorem dI_P_subtract_50 : decode bC_P_subtract 50 = .ok (.invokestatic 82, 3) := by decide +kernel
theorem dI_P_subtract_53 : decode bC_P_subtract 53 = .ok (.return_, 1) := by decide +kernel
theorem dI_P_word_0 : decode bC_P_word 0 = .ok (.iload_n 1, 1) := by decide +kernel
theorem dI_P_word_1 : decode bC_P_word 1 = .ok (.invokestatic 48, 3) := by decide +kernel
theorem dI_P_word_4 : decode bC_P_word 4 = .ok (.iload_n 2, 1) := by decide +kernel
theorem dI_P_word_5 : decode bC_P_word 5 = .ok (.ifCond .lt 8, 3) := by decide +kernel
theorem dI_P_word_8 : decode bC_P_word 8 = .ok (.iload_n 2, 1) := by decide +kernel
theorem dI_P_word_9 : decode bC_P_word 9 = .ok (.iconst 4, 1) := by decide +kernel
theorem dI_P_word_10 : decode bC_P_word 10 = .ok (.if_icmp .lt 13, 3) := by decide +kernel
theorem dI_P_word_13 : decode bC_P_word 13 = .ok (.new 134, 3) := by decide +kernel
theorem dI_P_word_16 : decode bC_P_word 16 = .ok (.dup, 1) := by decide +kernel
theorem dI_P_word_17 : decode bC_P_word 17 = .ok (.ldc 136, 2) := by decide +kernel
theorem dI_P_word_19 : decode bC_P_word 19 = .ok (.invokespecial 138, 3) := by decide +kernel
theorem dI_P_word_22 : decode bC_P_word 22 = .ok (.athrow, 1) := by decide +kernel
theorem dI_P_word_23 : decode bC_P_word 23 = .ok (.aload_n 0, 1) := by decide +kernel
theorem dI_P_word_24 : decode bC_P_word 24 = .ok (.getfield 11, 3) := by decide +kernel
theorem dI_P_word_27 : decode bC_P_word 27 = .ok (.iload_n 1, 1) := by decide +kernel
theorem dI_P_word_28 : decode bC_P_word 28 = .ok (.aaload, 1) := by decide +kernel
theorem dI_P_word_29 : decode bC_P_word 29 = .ok (.iload_n 2, 1) := by decide +kernel
theorem dI_P_word_30 : decode bC_P_word 30 = .ok (.laload, 1) := by decide +kernel
theorem dI_P_word_31 : decode bC_P_word 31 = .ok (.lreturn, 1) := by decide +kernel
theorem dI_S_isPrime_0 : decode bC_S_isPrime 0 = .ok (.iconst 2, 1) := by decide +kernel
theorem dI_S_isPrime_1 : decode bC_S_isPrime 1 = .ok (.istore_n 1, 1) := by decide +kernel
theorem dI_S_isPrime_2 : decode bC_S_isPrime 2 = .ok (.iload_n 1, 1) := by decide +kernel
theorem dI_S_isPrime_3 : decode bC_S_isPrime 3 = .ok (.iload_n 1, 1) := by decide +kernel
theorem dI_S_isPrime_4 : decode bC_S_isPrime 4 = .ok (.imul, 1) := by decide +kernel
theorem dI_S_isPrime_5 : decode bC_S_isPrime 5 = .ok (.iload_n 0, 1) := by decide +kernel
theorem dI_S_isPrime_6 : decode bC_S_isPrime 6 = .ok (.if_icmp .gt 17, 3) := by decide +kernel
theorem dI_S_isPrime_9 : decode bC_S_isPrime 9 = .ok (.iload_n 0, 1) := by decide +kernel
theorem dI_S_isPrime_10 : decode bC_S_isPrime 10 = .ok (.iload_n 1, 1) := by decide +kernel
theorem dI_S_isPrime_11 : decode bC_S_isPrime 11 = .ok (.irem, 1) := by decide +kernel
theorem dI_S_isPrime_12 : decode bC_S_isPrime 12 = .ok (.ifCond .ne 5, 3) := by decide +kernel
theorem dI_S_isPrime_15 : decode bC_S_isPrime 15 = .ok (.iconst 0, 1) := by decide +kernel
theorem dI_S_isPrime_16 : decode bC_S_isPrime 16 = .ok (.ireturn, 1) := by decide +kernel
theorem dI_S_isPrime_17 : decode bC_S_isPrime 17 = .ok (.iinc 1 1, 3) := by decide +kernel
theorem dI_S_isPrime_20 : decode bC_S_isPrime 20 = .ok (.goto (-18), 3) := by decide +kernel
theorem dI_S_isPrime_23 : decode bC_S_isPrime 23 = .ok (.iload_n 0, 1) := by decide +kernel
theorem dI_S_isPrime_24 : decode bC_S_isPrime 24 = .ok (.iconst 2, 1) := by decide +kernel
theorem dI_S_isPrime_25 : decode bC_S_isPrime 25 = .ok (.if_icmp .lt 7, 3) := by decide +kernel
theorem dI_S_isPrime_28 : decode bC_S_isPrime 28 = .ok (.iconst 1, 1) := by decide +kernel
theorem dI_S_isPrime_29 : decode bC_S_isPrime 29 = .ok (.goto 4, 3) := by decide +kernel
theorem dI_S_isPrime_32 : decode bC_S_isPrime 32 = .ok (.iconst 0, 1) := by decide +kernel
theorem dI_S_isPrime_33 : decode bC_S_isPrime 33 = .ok (.ireturn, 1) := by decide +kernel
theorem dI_S_leastModulus_0 : decode bC_S_leastModulus 0 = .ok (.iconst 2, 1) := by decide +kernel
theorem dI_S_leastModulus_1 : decode bC_S_leastModulus 1 = .ok (.istore_n 2, 1) := by decide +kernel
theorem dI_S_leastModulus_2 : decode bC_S_leastModulus 2 = .ok (.iload_n 2, 1) := by decide +kernel
theorem dI_S_leastModulus_3 : decode bC_S_leastModulus 3 = .ok (.sipush 1000, 3) := by decide +kernel
theorem dI_S_leastModulus_6 : decode bC_S_leastModulus 6 = .ok (.if_icmp .ge 22, 3) := by decide +kernel
theorem dI_S_leastModulus_9 : decode bC_S_leastModulus 9 = .ok (.iload_n 0, 1) := by decide +kernel
theorem dI_S_leastModulus_10 : decode bC_S_leastModulus 10 = .ok (.iload_n 2, 1) := by decide +kernel
theorem dI_S_leastModulus_11 : decode bC_S_leastModulus 11 = .ok (.irem, 1) := by decide +kernel
theorem dI_S_leastModulus_12 : decode bC_S_leastModulus 12 = .ok (.iload_n 2, 1) := by decide +kernel
theorem dI_S_leastModulus_13 : decode bC_S_leastModulus 13 = .ok (.invokestatic 9, 3) := by decide +kernel
theorem dI_S_leastModulus_16 : decode bC_S_leastModulus 16 = .ok (.iload_n 1, 1) := by decide +kernel
theorem dI_S_leastModulus_17 : decode bC_S_leastModulus 17 = .ok (.if_icmp .le 5, 3) := by decide +kernel
theorem dI_S_leastModulus_20 : decode bC_S_leastModulus 20 = .ok (.iload_n 2, 1) := by decide +kernel
theorem dI_S_leastModulus_21 : decode bC_S_leastModulus 21 = .ok (.ireturn, 1) := by decide +kernel
theorem dI_S_leastModulus_22 : decode bC_S_leastModulus 22 = .ok (.iinc 2 1, 3) := by decide +kernel
theorem dI_S_leastModulus_25 : decode bC_S_leastModulus 25 = .ok (.goto (-23), 3) := by decide +kernel
theorem dI_S_leastModulus_28 : decode bC_S_leastModulus 28 = .ok (.iconst 0, 1) := by decide +kernel
theorem dI_S_leastModulus_29 : decode bC_S_leastModulus 29 = .ok (.ireturn, 1) := by decide +kernel
theorem dI_S_orderOrZero_0 : decode bC_S_orderOrZero 0 = .ok (.iload_n 0, 1) := by decide +kernel
theorem dI_S_orderOrZero_1 : decode bC_S_orderOrZero 1 = .ok (.istore_n 2, 1) := by decide +kernel
theorem dI_S_orderOrZero_2 : decode bC_S_orderOrZero 2 = .ok (.iconst 1, 1) := by decide +kernel
theorem dI_S_orderOrZero_3 : decode bC_S_orderOrZero 3 = .ok (.istore_n 3, 1) := by decide +kernel
theorem dI_S_orderOrZero_4 : decode bC_S_orderOrZero 4 = .ok (.iload_n 3, 1) := by decide +kernel
theorem dI_S_orderOrZero_5 : decode bC_S_orderOrZero 5 = .ok (.iload_n 1, 1) := by decide +kernel
theorem dI_S_orderOrZero_6 : decode bC_S_orderOrZero 6 = .ok (.if_icmp .ge 22, 3) := by decide +kernel
theorem dI_S_orderOrZero_9 : decode bC_S_orderOrZero 9 = .ok (.iload_n 2, 1) := by decide +kernel
theorem dI_S_orderOrZero_10 : decode bC_S_orderOrZero 10 = .ok (.iconst 1, 1) := by decide +kernel
theorem dI_S_orderOrZero_11 : decode bC_S_orderOrZero 11 = .ok (.if_icmp .ne 5, 3) := by decide +kernel
theorem dI_S_orderOrZero_14 : decode bC_S_orderOrZero 14 = .ok (.iload_n 3, 1) := by decide +kernel
theorem dI_S_orderOrZero_15 : decode bC_S_orderOrZero 15 = .ok (.ireturn, 1) := by decide +kernel
theorem dI_S_orderOrZero_16 : decode bC_S_orderOrZero 16 = .ok (.iload_n 2, 1) := by decide +kernel
theorem dI_S_orderOrZero_17 : decode bC_S_orderOrZero 17 = .ok (.iload_n 0, 1) := by decide +kernel
theorem dI_S_orderOrZero_18 : decode bC_S_orderOrZero 18 = .ok (.imul, 1) := by decide +kernel
theorem dI_S_orderOrZero_19 : decode bC_S_orderOrZero 19 = .ok (.iload_n 1, 1) := by decide +kernel
theorem dI_S_orderOrZero_20 : decode bC_S_orderOrZero 20 = .ok (.irem, 1) := by decide +kernel
theorem dI_S_orderOrZero_21 : decode bC_S_orderOrZero 21 = .ok (.istore_n 2, 1) := by decide +kernel
theorem dI_S_orderOrZero_22 : decode bC_S_orderOrZero 22 = .ok (.iinc 3 1, 3) := by decide +kernel
theorem dI_S_orderOrZero_25 : decode bC_S_orderOrZero 25 = .ok (.goto (-21), 3) := by decide +kernel
theorem dI_S_orderOrZero_28 : decode bC_S_orderOrZero 28 = .ok (.iconst 0, 1) := by decide +kernel
theorem dI_S_orderOrZero_29 : decode bC_S_orderOrZero 29 = .ok (.ireturn, 1) := by decide +kernel
theorem dI_U_assign_0 : decode bC_U_assign 0 = .ok (.aload_n 0, 1) := by decide +kernel
theorem dI_U_assign_1 : decode bC_U_assign 1 = .ok (.lconst 0, 1) := by decide +kernel
theorem dI_U_assign_2 : decode bC_U_assign 2 = .ok (.invokestatic 9, 3) := by decide +kernel
theorem dI_U_assign_5 : decode bC_U_assign 5 = .ok (.aload_n 0, 1) := by decide +kernel
theorem dI_U_assign_6 : decode bC_U_assign 6 = .ok (.iconst 0, 1) := by decide +kernel
theorem dI_U_assign_7 : decode bC_U_assign 7 = .ok (.lload_n 1, 1) := by decide +kernel
theorem dI_U_assign_8 : decode bC_U_assign 8 = .ok (.ldc2_w 15, 3) := by decide +kernel
theorem dI_U_assign_11 : decode bC_U_assign 11 = .ok (.land, 1) := by decide +kernel
theorem dI_U_assign_12 : decode bC_U_assign 12 = .ok (.lastore, 1) := by decide +kernel
theorem dI_U_assign_13 : decode bC_U_assign 13 = .ok (.aload_n 0, 1) := by decide +kernel
theorem dI_U_assign_14 : decode bC_U_assign 14 = .ok (.iconst 1, 1) := by decide +kernel
theorem dI_U_assign_15 : decode bC_U_assign 15 = .ok (.lload_n 1, 1) := by decide +kernel
theorem dI_U_assign_16 : decode bC_U_assign 16 = .ok (.bipush 32, 2) := by decide +kernel
theorem dI_U_assign_18 : decode bC_U_assign 18 = .ok (.lushr, 1) := by decide +kernel
theorem dI_U_assign_19 : decode bC_U_assign 19 = .ok (.lastore, 1) := by decide +kernel
theorem dI_U_assign_20 : decode bC_U_assign 20 = .ok (.return_, 1) := by decide +kernel
theorem dI_U_bitLength_0 : decode bC_U_bitLength 0 = .ok (.aload_n 0, 1) := by decide +kernel
theorem dI_U_bitLength_1 : decode bC_U_bitLength 1 = .ok (.invokestatic 23, 3) := by decide +kernel
theorem dI_U_bitLength_4 : decode bC_U_bitLength 4 = .ok (.istore_n 1, 1) := by decide +kernel
theorem dI_U_bitLength_5 : decode bC_U_bitLength 5 = .ok (.iload_n 1, 1) := by decide +kernel
theorem dI_U_bitLength_6 : decode bC_U_bitLength 6 = .ok (.ifCond .ne 7, 3) := by decide +kernel
theorem dI_U_bitLength_9 : decode bC_U_bitLength 9 = .ok (.iconst 0, 1) := by decide +kernel
theorem dI_U_bitLength_10 : decode bC_U_bitLength 10 = .ok (.goto 18, 3) := by decide +kernel
theorem dI_U_bitLength_13 : decode bC_U_bitLength 13 = .ok (.iload_n 1, 1) := by decide +kernel
theorem dI_U_bitLength_14 : decode bC_U_bitLength 14 = .ok (.iconst 1, 1) := by decide +kernel
theorem dI_U_bitLength_15 : decode bC_U_bitLength 15 = .ok (.isub, 1) := by decide +kernel
theorem dI_U_bitLength_16 : decode bC_U_bitLength 16 = .ok (.bipush 32, 2) := by decide +kernel
theorem dI_U_bitLength_18 : decode bC_U_bitLength 18 = .ok (.imul, 1) := by decide +kernel
theorem dI_U_bitLength_19 : decode bC_U_bitLength 19 = .ok (.aload_n 0, 1) := by decide +kernel
theorem dI_U_bitLength_20 : decode bC_U_bitLength 20 = .ok (.iload_n 1, 1) := by decide +kernel
theorem dI_U_bitLength_21 : decode bC_U_bitLength 21 = .ok (.iconst 1, 1) := by decide +kernel
theorem dI_U_bitLength_22 : decode bC_U_bitLength 22 = .ok (.isub, 1) := by decide +kernel
theorem dI_U_bitLength_23 : decode bC_U_bitLength 23 = .ok (.laload, 1) := by decide +kernel
theorem dI_U_bitLength_24 : decode bC_U_bitLength 24 = .ok (.invokestatic 29, 3) := by decide +kernel
theorem dI_U_bitLength_27 : decode bC_U_bitLength 27 = .ok (.iadd, 1) := by decide +kernel
theorem dI_U_bitLength_28 : decode bC_U_bitLength 28 = .ok (.ireturn, 1) := by decide +kernel
theorem dI_U_bitsOfWord_0 : decode bC_U_bitsOfWord 0 = .ok (.iconst 0, 1) := by decide +kernel
theorem dI_U_bitsOfWord_1 : decode bC_U_bitsOfWord 1 = .ok (.istore_n 2, 1) := by decide +kernel
theorem dI_U_bitsOfWord_2 : decode bC_U_bitsOfWord 2 = .ok (.iload_n 2, 1) := by decide +kernel
theorem dI_U_bitsOfWord_3 : decode bC_U_bitsOfWord 3 = .ok (.bipush 32, 2) := by decide +kernel
theorem dI_U_bitsOfWord_5 : decode bC_U_bitsOfWord 5 = .ok (.if_icmp .ge 17, 3) := by decide +kernel
theorem dI_U_bitsOfWord_8 : decode bC_U_bitsOfWord 8 = .ok (.lload_n 0, 1) := by decide +kernel
theorem dI_U_bitsOfWord_9 : decode bC_U_bitsOfWord 9 = .ok (.iload_n 2, 1) := by decide +kernel
theorem dI_U_bitsOfWord_10 : decode bC_U_bitsOfWord 10 = .ok (.lushr, 1) := by decide +kernel
theorem dI_U_bitsOfWord_11 : decode bC_U_bitsOfWord 11 = .ok (.lconst 0, 1) := by decide +kernel
theorem dI_U_bitsOfWord_12 : decode bC_U_bitsOfWord 12 = .ok (.lcmp, 1) := by decide +kernel
theorem dI_U_bitsOfWord_13 : decode bC_U_bitsOfWord 13 = .ok (.ifCond .eq 9, 3) := by decide +kernel
theorem dI_U_bitsOfWord_16 : decode bC_U_bitsOfWord 16 = .ok (.iinc 2 1, 3) := by decide +kernel
theorem dI_U_bitsOfWord_19 : decode bC_U_bitsOfWord 19 = .ok (.goto (-17), 3) := by decide +kernel
theorem dI_U_bitsOfWord_22 : decode bC_U_bitsOfWord 22 = .ok (.iload_n 2, 1) := by decide +kernel
theorem dI_U_bitsOfWord_23 : decode bC_U_bitsOfWord 23 = .ok (.ireturn, 1) := by decide +kernel
theorem dI_U_comparison_0 : decode bC_U_comparison 0 = .ok (.iconst 3, 1) := by decide +kernel
theorem dI_U_comparison_1 : decode bC_U_comparison 1 = .ok (.istore_n 2, 1) := by decide +kernel
theorem dI_U_comparison_2 : decode bC_U_comparison 2 = .ok (.iload_n 2, 1) := by decide +kernel
theorem dI_U_comparison_3 : decode bC_U_comparison 3 = .ok (.ifCond .lt 35, 3) := by decide +kernel
theorem dI_U_comparison_6 : decode bC_U_comparison 6 = .ok (.aload_n 0, 1) := by decide +kernel
theorem dI_U_comparison_7 : decode bC_U_comparison 7 = .ok (.iload_n 2, 1) := by decide +kernel
theorem dI_U_comparison_8 : decode bC_U_comparison 8 = .ok (.laload, 1) := by decide +kernel
theorem dI_U_comparison_9 : decode bC_U_comparison 9 = .ok (.aload_n 1, 1) := by decide +kernel
theorem dI_U_comparison_10 : decode bC_U_comparison 10 = .ok (.iload_n 2, 1) := by decide +kernel
theorem dI_U_comparison_11 : decode bC_U_comparison 11 = .ok (.laload, 1) := by decide +kernel
theorem dI_U_comparison_12 : decode bC_U_comparison 12 = .ok (.lcmp, 1) := by decide +kernel
theorem dI_U_comparison_13 : decode bC_U_comparison 13 = .ok (.ifCond .eq 19, 3) := by decide +kernel
theorem dI_U_comparison_16 : decode bC_U_comparison 16 = .ok (.aload_n 0, 1) := by decide +kernel
theorem dI_U_comparison_17 : decode bC_U_comparison 17 = .ok (.iload_n 2, 1) := by decide +kernel
theorem dI_U_comparison_18 : decode bC_U_comparison 18 = .ok (.laload, 1) := by decide +kernel
theorem dI_U_comparison_19 : decode bC_U_comparison 19 = .ok (.aload_n 1, 1) := by decide +kernel
theorem dI_U_comparison_20 : decode bC_U_comparison 20 = .ok (.iload_n 2, 1) := by decide +kernel
theorem dI_U_comparison_21 : decode bC_U_comparison 21 = .ok (.laload, 1) := by decide +kernel
theorem dI_U_comparison_22 : decode bC_U_comparison 22 = .ok (.lcmp, 1) := by decide +kernel
theorem dI_U_comparison_23 : decode bC_U_comparison 23 = .ok (.ifCond .ge 7, 3) := by decide +kernel
theorem dI_U_comparison_26 : decode bC_U_comparison 26 = .ok (.iconst (-1), 1) := by decide +kernel
theorem dI_U_comparison_27 : decode bC_U_comparison 27 = .ok (.goto 4, 3) := by decide +kernel
theorem dI_U_comparison_30 : decode bC_U_comparison 30 = .ok (.iconst 1, 1) := by decide +kernel
theorem dI_U_comparison_31 : decode bC_U_comparison 31 = .ok (.ireturn, 1) := by decide +kernel
theorem dI_U_comparison_32 : decode bC_U_comparison 32 = .ok (.iinc 2 (-1), 3) := by decide +kernel
theorem dI_U_comparison_35 : decode bC_U_comparison 35 = .ok (.goto (-33), 3) := by decide +kernel
theorem dI_U_comparison_38 : decode bC_U_comparison 38 = .ok (.iconst 0, 1) := by decide +kernel
theorem dI_U_comparison_39 : decode bC_U_comparison 39 = .ok (.ireturn, 1) := by decide +kernel
theorem dI_U_copy_0 : decode bC_U_copy 0 = .ok (.aload_n 0, 1) := by decide +kernel
theorem dI_U_copy_1 : decode bC_U_copy 1 = .ok (.iconst 0, 1) := by decide +kernel
theorem dI_U_copy_2 : decode bC_U_copy 2 = .ok (.aload_n 1, 1) := by decide +kernel
theorem dI_U_copy_3 : decode bC_U_copy 3 = .ok (.iconst 0, 1) := by decide +kernel
theorem dI_U_copy_4 : decode bC_U_copy 4 = .ok (.iconst 4, 1) := by decide +kernel
theorem dI_U_copy_5 : decode bC_U_copy 5 = .ok (.invokestatic 17, 3) := by decide +kernel
theorem dI_U_copy_8 : decode bC_U_copy 8 = .ok (.return_, 1) := by decide +kernel
theorem dI_U_difference_0 : decode bC_U_difference 0 = .ok (.lconst 0, 1) := by decide +kernel
theorem dI_U_difference_1 : decode bC_U_difference 1 = .ok (.lstore_n 3, 1) := by decide +kernel
theorem dI_U_difference_2 : decode bC_U_difference 2 = .ok (.iconst 0, 1) := by decide +kernel
theorem dI_U_difference_3 : decode bC_U_difference 3 = .ok (.istore 5, 2) := by decide +kernel
theorem dI_U_difference_5 : decode bC_U_difference 5 = .ok (.iload 5, 2) := by decide +kernel
theorem dI_U_difference_7 : decode bC_U_difference 7 = .ok (.iconst 4, 1) := by decide +kernel
theorem dI_U_difference_8 : decode bC_U_difference 8 = .ok (.if_icmp .ge 45, 3) := by decide +kernel
theorem dI_U_difference_11 : decode bC_U_difference 11 = .ok (.aload_n 0, 1) := by decide +kernel
theorem dI_U_difference_12 : decode bC_U_difference 12 = .ok (.iload 5, 2) := by decide +kernel
theorem dI_U_difference_14 : decode bC_U_difference 14 = .ok (.laload, 1) := by decide +kernel
theorem dI_U_difference_15 : decode bC_U_difference 15 = .ok (.aload_n 1, 1) := by decide +kernel
theorem dI_U_difference_16 : decode bC_U_difference 16 = .ok (.iload 5, 2) := by decide +kernel
theorem dI_U_difference_18 : decode bC_U_difference 18 = .ok (.laload, 1) := by decide +kernel
theorem dI_U_difference_19 : decode bC_U_difference 19 = .ok (.lsub, 1) := by decide +kernel
theorem dI_U_difference_20 : decode bC_U_difference 20 = .ok (.lload_n 3, 1) := by decide +kernel
theorem dI_U_difference_21 : decode bC_U_difference 21 = .ok (.lsub, 1) := by decide +kernel
theorem dI_U_difference_22 : decode bC_U_difference 22 = .ok (.lstore 6, 2) := by decide +kernel
theorem dI_U_difference_24 : decode bC_U_difference 24 = .ok (.aload_n 2, 1) := by decide +kernel
theorem dI_U_difference_25 : decode bC_U_difference 25 = .ok (.iload 5, 2) := by decide +kernel
theorem dI_U_difference_27 : decode bC_U_difference 27 = .ok (.lload 6, 2) := by decide +kernel
theorem dI_U_difference_29 : decode bC_U_difference 29 = .ok (.ldc2_w 15, 3) := by decide +kernel
theorem dI_U_difference_32 : decode bC_U_difference 32 = .ok (.land, 1) := by decide +kernel
theorem dI_U_difference_33 : decode bC_U_difference 33 = .ok (.lastore, 1) := by decide +kernel
theorem dI_U_difference_34 : decode bC_U_difference 34 = .ok (.lload 6, 2) := by decide +kernel
theorem dI_U_difference_36 : decode bC_U_difference 36 = .ok (.lconst 0, 1) := by decide +kernel
theorem dI_U_difference_37 : decode bC_U_difference 37 = .ok (.lcmp, 1) := by decide +kernel
theorem dI_U_difference_38 : decode bC_U_difference 38 = .ok (.ifCond .ge 7, 3) := by decide +kernel
theorem dI_U_difference_41 : decode bC_U_difference 41 = .ok (.lconst 1, 1) := by decide +kernel
theorem dI_U_difference_42 : decode bC_U_difference 42 = .ok (.goto 4, 3) := by decide +kernel
theorem dI_U_difference_45 : decode bC_U_difference 45 = .ok (.lconst 0, 1) := by decide +kernel
theorem dI_U_difference_46 : decode bC_U_difference 46 = .ok (.lstore_n 3, 1) := by decide +kernel
theorem dI_U_difference_47 : decode bC_U_difference 47 = .ok (.iinc 5 1, 3) := by decide +kernel
theorem dI_U_difference_50 : decode bC_U_difference 50 = .ok (.goto (-45), 3) := by decide +kernel
theorem dI_U_difference_53 : decode bC_U_difference 53 = .ok (.lload_n 3, 1) := by decide +kernel
theorem dI_U_difference_54 : decode bC_U_difference 54 = .ok (.lreturn, 1) := by decide +kernel
theorem dI_U_hasBit_0 : decode bC_U_hasBit 0 = .ok (.aload_n 0, 1) := by decide +kernel
theorem dI_U_hasBit_1 : decode bC_U_hasBit 1 = .ok (.iload_n 1, 1) := by decide +kernel
theorem dI_U_hasBit_2 : decode bC_U_hasBit 2 = .ok (.bipush 32, 2) := by decide +kernel
theorem dI_U_hasBit_4 : decode bC_U_hasBit 4 = .ok (.idiv, 1) := by decide +kernel
theorem dI_U_hasBit_5 : decode bC_U_hasBit 5 = .ok (.laload, 1) := by decide +kernel
theorem dI_U_hasBit_6 : decode bC_U_hasBit 6 = .ok (.iload_n 1, 1) := by decide +kernel
theorem dI_U_hasBit_7 : decode bC_U_hasBit 7 = .ok (.bipush 32, 2) := by decide +kernel
theorem dI_U_hasBit_9 : decode bC_U_hasBit 9 = .ok (.irem, 1) := by decide +kernel
theorem dI_U_hasBit_10 : decode bC_U_hasBit 10 = .ok (.lushr, 1) := by decide +kernel
theorem dI_U_hasBit_11 : decode bC_U_hasBit 11 = .ok (.lconst 1, 1) := by decide +kernel
theorem dI_U_hasBit_12 : decode bC_U_hasBit 12 = .ok (.land, 1) := by decide +kernel
theorem dI_U_hasBit_13 : decode bC_U_hasBit 13 = .ok (.lconst 1, 1) := by decide +kernel
theorem dI_U_hasBit_14 : decode bC_U_hasBit 14 = .ok (.lcmp, 1) := by decide +kernel
theorem dI_U_hasBit_15 : decode bC_U_hasBit 15 = .ok (.ifCond .ne 7, 3) := by decide +kernel
theorem dI_U_hasBit_18 : decode bC_U_hasBit 18 = .ok (.iconst 1, 1) := by decide +kernel
theorem dI_U_hasBit_19 : decode bC_U_hasBit 19 = .ok (.goto 4, 3) := by decide +kernel
theorem dI_U_hasBit_22 : decode bC_U_hasBit 22 = .ok (.iconst 0, 1) := by decide +kernel
theorem dI_U_hasBit_23 : decode bC_U_hasBit 23 = .ok (.ireturn, 1) := by decide +kernel
theorem dI_U_isZero_0 : decode bC_U_isZero 0 = .ok (.aload_n 0, 1) := by decide +kernel
theorem dI_U_isZero_1 : decode bC_U_isZero 1 = .ok (.invokestatic 23, 3) := by decide +kernel
theorem dI_U_isZero_4 : decode bC_U_isZero 4 = .ok (.ifCond .ne 7, 3) := by decide +kernel
theorem dI_U_isZero_7 : decode bC_U_isZero 7 = .ok (.iconst 1, 1) := by decide +kernel
theorem dI_U_isZero_8 : decode bC_U_isZero 8 = .ok (.goto 4, 3) := by decide +kernel
theorem dI_U_isZero_11 : decode bC_U_isZero 11 = .ok (.iconst 0, 1) := by decide +kernel
theorem dI_U_isZero_12 : decode bC_U_isZero 12 = .ok (.ireturn, 1) := by decide +kernel
theorem dI_U_length_0 : decode bC_U_length 0 = .ok (.aload_n 0, 1) := by decide +kernel
theorem dI_U_length_1 : decode bC_U_length 1 = .ok (.arraylength, 1) := by decide +kernel
theorem dI_U_length_2 : decode bC_U_length 2 = .ok (.istore_n 1, 1) := by decide +kernel
theorem dI_U_length_3 : decode bC_U_length 3 = .ok (.iload_n 1, 1) := by decide +kernel
theorem dI_U_length_4 : decode bC_U_length 4 = .ok (.ifCond .le 19, 3) := by decide +kernel
theorem dI_U_length_7 : decode bC_U_length 7 = .ok (.aload_n 0, 1) := by decide +kernel
theorem dI_U_length_8 : decode bC_U_length 8 = .ok (.iload_n 1, 1) := by decide +kernel
theorem dI_U_length_9 : decode bC_U_length 9 = .ok (.iconst 1, 1) := by decide +kernel
theorem dI_U_length_10 : decode bC_U_length 10 = .ok (.isub, 1) := by decide +kernel
theorem dI_U_length_11 : decode bC_U_length 11 = .ok (.laload, 1) := by decide +kernel
theorem dI_U_length_12 : decode bC_U_length 12 = .ok (.lconst 0, 1) := by decide +kernel
theorem dI_U_length_13 : decode bC_U_length 13 = .ok (.lcmp, 1) := by decide +kernel
theorem dI_U_length_14 : decode bC_U_length 14 = .ok (.ifCond .ne 9, 3) := by decide +kernel
theorem dI_U_length_17 : decode bC_U_length 17 = .ok (.iinc 1 (-1), 3) := by decide +kernel
theorem dI_U_length_20 : decode bC_U_length 20 = .ok (.goto (-17), 3) := by decide +kernel
theorem dI_U_length_23 : decode bC_U_length 23 = .ok (.iload_n 1, 1) := by decide +kernel
theorem dI_U_length_24 : decode bC_U_length 24 = .ok (.ireturn, 1) := by decide +kernel
theorem dI_U_product_0 : decode bC_U_product 0 = .ok (.aload_n 2, 1) := by decide +kernel
theorem dI_U_product_1 : decode bC_U_product 1 = .ok (.lconst 0, 1) := by decide +kernel
theorem dI_U_product_2 : decode bC_U_product 2 = .ok (.invokestatic 9, 3) := by decide +kernel
theorem dI_U_product_5 : decode bC_U_product 5 = .ok (.iconst 0, 1) := by decide +kernel
theorem dI_U_product_6 : decode bC_U_product 6 = .ok (.istore_n 3, 1) := by decide +kernel
theorem dI_U_product_7 : decode bC_U_product 7 = .ok (.iload_n 3, 1) := by decide +kernel
theorem dI_U_product_8 : decode bC_U_product 8 = .ok (.iconst 4, 1) := by decide +kernel
theorem dI_U_product_9 : decode bC_U_product 9 = .ok (.if_icmp .ge 73, 3) := by decide +kernel
theorem dI_U_product_12 : decode bC_U_product 12 = .ok (.lconst 0, 1) := by decide +kernel
theorem dI_U_product_13 : decode bC_U_product 13 = .ok (.lstore 4, 2) := by decide +kernel
theorem dI_U_product_15 : decode bC_U_product 15 = .ok (.iconst 0, 1) := by decide +kernel
theorem dI_U_product_16 : decode bC_U_product 16 = .ok (.istore 6, 2) := by decide +kernel
theorem dI_U_product_18 : decode bC_U_product 18 = .ok (.iload 6, 2) := by decide +kernel
theorem dI_U_product_20 : decode bC_U_product 20 = .ok (.iconst 4, 1) := by decide +kernel
theorem dI_U_product_21 : decode bC_U_product 21 = .ok (.if_icmp .ge 48, 3) := by decide +kernel
theorem dI_U_product_24 : decode bC_U_product 24 = .ok (.aload_n 0, 1) := by decide +kernel
theorem dI_U_product_25 : decode bC_U_product 25 = .ok (.iload_n 3, 1) := by decide +kernel
theorem dI_U_product_26 : decode bC_U_product 26 = .ok (.laload, 1) := by decide +kernel
theorem dI_U_product_27 : decode bC_U_product 27 = .ok (.aload_n 1, 1) := by decide +kernel
theorem dI_U_product_28 : decode bC_U_product 28 = .ok (.iload 6, 2) := by decide +kernel
theorem dI_U_product_30 : decode bC_U_product 30 = .ok (.laload, 1) := by decide +kernel
theorem dI_U_product_31 : decode bC_U_product 31 = .ok (.lmul, 1) := by decide +kernel
theorem dI_U_product_32 : decode bC_U_product 32 = .ok (.aload_n 2, 1) := by decide +kernel
theorem dI_U_product_33 : decode bC_U_product 33 = .ok (.iload_n 3, 1) := by decide +kernel
theorem dI_U_product_34 : decode bC_U_product 34 = .ok (.iload 6, 2) := by decide +kernel
theorem dI_U_product_36 : decode bC_U_product 36 = .ok (.iadd, 1) := by decide +kernel
theorem dI_U_product_37 : decode bC_U_product 37 = .ok (.laload, 1) := by decide +kernel
theorem dI_U_product_38 : decode bC_U_product 38 = .ok (.ladd, 1) := by decide +kernel
theorem dI_U_product_39 : decode bC_U_product 39 = .ok (.lload 4, 2) := by decide +kernel
theorem dI_U_product_41 : decode bC_U_product 41 = .ok (.ladd, 1) := by decide +kernel
theorem dI_U_product_42 : decode bC_U_product 42 = .ok (.lstore 7, 2) := by decide +kernel
theorem dI_U_product_44 : decode bC_U_product 44 = .ok (.aload_n 2, 1) := by decide +kernel
theorem dI_U_product_45 : decode bC_U_product 45 = .ok (.iload_n 3, 1) := by decide +kernel
theorem dI_U_product_46 : decode bC_U_product 46 = .ok (.iload 6, 2) := by decide +kernel
theorem dI_U_product_48 : decode bC_U_product 48 = .ok (.iadd, 1) := by decide +kernel
theorem dI_U_product_49 : decode bC_U_product 49 = .ok (.lload 7, 2) := by decide +kernel
theorem dI_U_product_51 : decode bC_U_product 51 = .ok (.ldc2_w 15, 3) := by decide +kernel
theorem dI_U_product_54 : decode bC_U_product 54 = .ok (.land, 1) := by decide +kernel
theorem dI_U_product_55 : decode bC_U_product 55 = .ok (.lastore, 1) := by decide +kernel
theorem dI_U_product_56 : decode bC_U_product 56 = .ok (.lload 7, 2) := by decide +kernel
theorem dI_U_product_58 : decode bC_U_product 58 = .ok (.bipush 32, 2) := by decide +kernel
theorem dI_U_product_60 : decode bC_U_product 60 = .ok (.lushr, 1) := by decide +kernel
theorem dI_U_product_61 : decode bC_U_product 61 = .ok (.lstore 4, 2) := by decide +kernel
theorem dI_U_product_63 : decode bC_U_product 63 = .ok (.iinc 6 1, 3) := by decide +kernel
theorem dI_U_product_66 : decode bC_U_product 66 = .ok (.goto (-48), 3) := by decide +kernel
theorem dI_U_product_69 : decode bC_U_product 69 = .ok (.aload_n 2, 1) := by decide +kernel
theorem dI_U_product_70 : decode bC_U_product 70 = .ok (.iload_n 3, 1) := by decide +kernel
theorem dI_U_product_71 : decode bC_U_product 71 = .ok (.iconst 4, 1) := by decide +kernel
theorem dI_U_product_72 : decode bC_U_product 72 = .ok (.iadd, 1) := by decide +kernel
theorem dI_U_product_73 : decode bC_U_product 73 = .ok (.lload 4, 2) := by decide +kernel
theorem dI_U_product_75 : decode bC_U_product 75 = .ok (.lastore, 1) := by decide +kernel
theorem dI_U_product_76 : decode bC_U_product 76 = .ok (.iinc 3 1, 3) := by decide +kernel
theorem dI_U_product_79 : decode bC_U_product 79 = .ok (.goto (-72), 3) := by decide +kernel
theorem dI_U_product_82 : decode bC_U_product 82 = .ok (.return_, 1) := by decide +kernel
theorem dI_U_remainderBy_0 : decode bC_U_remainderBy 0 = .ok (.lconst 0, 1) := by decide +kernel
theorem dI_U_remainderBy_1 : decode bC_U_remainderBy 1 = .ok (.lstore_n 2, 1) := by decide +kernel
theorem dI_U_remainderBy_2 : decode bC_U_remainderBy 2 = .ok (.iconst 3, 1) := by decide +kernel
theorem dI_U_remainderBy_3 : decode bC_U_remainderBy 3 = .ok (.istore 4, 2) := by decide +kernel
theorem dI_U_remainderBy_5 : decode bC_U_remainderBy 5 = .ok (.iload 4, 2) := by decide +kernel
theorem dI_U_remainderBy_7 : decode bC_U_remainderBy 7 = .ok (.ifCond .lt 22, 3) := by decide +kernel
theorem dI_U_remainderBy_10 : decode bC_U_remainderBy 10 = .ok (.lload_n 2, 1) := by decide +kernel
theorem dI_U_remainderBy_11 : decode bC_U_remainderBy 11 = .ok (.bipush 32, 2) := by decide +kernel
theorem dI_U_remainderBy_13 : decode bC_U_remainderBy 13 = .ok (.lshl, 1) := by decide +kernel
theorem dI_U_remainderBy_14 : decode bC_U_remainderBy 14 = .ok (.aload_n 0, 1) := by decide +kernel
theorem dI_U_remainderBy_15 : decode bC_U_remainderBy 15 = .ok (.iload 4, 2) := by decide +kernel
theorem dI_U_remainderBy_17 : decode bC_U_remainderBy 17 = .ok (.laload, 1) := by decide +kernel
theorem dI_U_remainderBy_18 : decode bC_U_remainderBy 18 = .ok (.lor, 1) := by decide +kernel
theorem dI_U_remainderBy_19 : decode bC_U_remainderBy 19 = .ok (.iload_n 1, 1) := by decide +kernel
theorem dI_U_remainderBy_20 : decode bC_U_remainderBy 20 = .ok (.i2l, 1) := by decide +kernel
theorem dI_U_remainderBy_21 : decode bC_U_remainderBy 21 = .ok (.lrem, 1) := by decide +kernel
theorem dI_U_remainderBy_22 : decode bC_U_remainderBy 22 = .ok (.lstore_n 2, 1) := by decide +kernel
theorem dI_U_remainderBy_23 : decode bC_U_remainderBy 23 = .ok (.iinc 4 (-1), 3) := by decide +kernel
theorem dI_U_remainderBy_26 : decode bC_U_remainderBy 26 = .ok (.goto (-21), 3) := by decide +kernel
theorem dI_U_remainderBy_29 : decode bC_U_remainderBy 29 = .ok (.lload_n 2, 1) := by decide +kernel
theorem dI_U_remainderBy_30 : decode bC_U_remainderBy 30 = .ok (.l2i, 1) := by decide +kernel
theorem dI_U_remainderBy_31 : decode bC_U_remainderBy 31 = .ok (.ireturn, 1) := by decide +kernel
theorem dI_U_sum_0 : decode bC_U_sum 0 = .ok (.lconst 0, 1) := by decide +kernel
theorem dI_U_sum_1 : decode bC_U_sum 1 = .ok (.lstore_n 3, 1) := by decide +kernel
theorem dI_U_sum_2 : decode bC_U_sum 2 = .ok (.iconst 0, 1) := by decide +kernel
theorem dI_U_sum_3 : decode bC_U_sum 3 = .ok (.istore 5, 2) := by decide +kernel
theorem dI_U_sum_5 : decode bC_U_sum 5 = .ok (.iload 5, 2) := by decide +kernel
theorem dI_U_sum_7 : decode bC_U_sum 7 = .ok (.iconst 4, 1) := by decide +kernel
theorem dI_U_sum_8 : decode bC_U_sum 8 = .ok (.if_icmp .ge 38, 3) := by decide +kernel
theorem dI_U_sum_11 : decode bC_U_sum 11 = .ok (.aload_n 0, 1) := by decide +kernel
theorem dI_U_sum_12 : decode bC_U_sum 12 = .ok (.iload 5, 2) := by decide +kernel
theorem dI_U_sum_14 : decode bC_U_sum 14 = .ok (.laload, 1) := by decide +kernel
theorem dI_U_sum_15 : decode bC_U_sum 15 = .ok (.aload_n 1, 1) := by decide +kernel
theorem dI_U_sum_16 : decode bC_U_sum 16 = .ok (.iload 5, 2) := by decide +kernel
theorem dI_U_sum_18 : decode bC_U_sum 18 = .ok (.laload, 1) := by decide +kernel
theorem dI_U_sum_19 : decode bC_U_sum 19 = .ok (.ladd, 1) := by decide +kernel
theorem dI_U_sum_20 : decode bC_U_sum 20 = .ok (.lload_n 3, 1) := by decide +kernel
theorem dI_U_sum_21 : decode bC_U_sum 21 = .ok (.ladd, 1) := by decide +kernel
theorem dI_U_sum_22 : decode bC_U_sum 22 = .ok (.lstore 6, 2) := by decide +kernel
theorem dI_U_sum_24 : decode bC_U_sum 24 = .ok (.aload_n 2, 1) := by decide +kernel
theorem dI_U_sum_25 : decode bC_U_sum 25 = .ok (.iload 5, 2) := by decide +kernel
theorem dI_U_sum_27 : decode bC_U_sum 27 = .ok (.lload 6, 2) := by decide +kernel
theorem dI_U_sum_29 : decode bC_U_sum 29 = .ok (.ldc2_w 15, 3) := by decide +kernel
theorem dI_U_sum_32 : decode bC_U_sum 32 = .ok (.land, 1) := by decide +kernel
theorem dI_U_sum_33 : decode bC_U_sum 33 = .ok (.lastore, 1) := by decide +kernel
theorem dI_U_sum_34 : decode bC_U_sum 34 = .ok (.lload 6, 2) := by decide +kernel
theorem dI_U_sum_36 : decode bC_U_sum 36 = .ok (.bipush 32, 2) := by decide +kernel
theorem dI_U_sum_38 : decode bC_U_sum 38 = .ok (.lushr, 1) := by decide +kernel
theorem dI_U_sum_39 : decode bC_U_sum 39 = .ok (.lstore_n 3, 1) := by decide +kernel
theorem dI_U_sum_40 : decode bC_U_sum 40 = .ok (.iinc 5 1, 3) := by decide +kernel
theorem dI_U_sum_43 : decode bC_U_sum 43 = .ok (.goto (-38), 3) := by decide +kernel
theorem dI_U_sum_46 : decode bC_U_sum 46 = .ok (.lload_n 3, 1) := by decide +kernel
theorem dI_U_sum_47 : decode bC_U_sum 47 = .ok (.lreturn, 1) := by decide +kernel
theorem dI_U_valueUpTo_0 : decode bC_U_valueUpTo 0 = .ok (.aload_n 0, 1) := by decide +kernel
theorem dI_U_valueUpTo_1 : decode bC_U_valueUpTo 1 = .ok (.invokestatic 23, 3) := by decide +kernel
theorem dI_U_valueUpTo_4 : decode bC_U_valueUpTo 4 = .ok (.iconst 1, 1) := by decide +kernel
theorem dI_U_valueUpTo_5 : decode bC_U_valueUpTo 5 = .ok (.if_icmp .gt 12, 3) := by decide +kernel
theorem dI_U_valueUpTo_8 : decode bC_U_valueUpTo 8 = .ok (.aload_n 0, 1) := by decide +kernel
theorem dI_U_valueUpTo_9 : decode bC_U_valueUpTo 9 = .ok (.iconst 0, 1) := by decide +kernel
theorem dI_U_valueUpTo_10 : decode bC_U_valueUpTo 10 = .ok (.laload, 1) := by decide +kernel
theorem dI_U_valueUpTo_11 : decode bC_U_valueUpTo 11 = .ok (.iload_n 1, 1) := by decide +kernel
theorem dI_U_valueUpTo_12 : decode bC_U_valueUpTo 12 = .ok (.i2l, 1) := by decide +kernel
theorem dI_U_valueUpTo_13 : decode bC_U_valueUpTo 13 = .ok (.lcmp, 1) := by decide +kernel
theorem dI_U_valueUpTo_14 : decode bC_U_valueUpTo 14 = .ok (.ifCond .le 9, 3) := by decide +kernel
theorem dI_U_valueUpTo_17 : decode bC_U_valueUpTo 17 = .ok (.iload_n 1, 1) := by decide +kernel
theorem dI_U_valueUpTo_18 : decode bC_U_valueUpTo 18 = .ok (.iconst 1, 1) := by decide +kernel
theorem dI_U_valueUpTo_19 : decode bC_U_valueUpTo 19 = .ok (.iadd, 1) := by decide +kernel
theorem dI_U_valueUpTo_20 : decode bC_U_valueUpTo 20 = .ok (.goto 7, 3) := by decide +kernel
theorem dI_U_valueUpTo_23 : decode bC_U_valueUpTo 23 = .ok (.aload_n 0, 1) := by decide +kernel
theorem dI_U_valueUpTo_24 : decode bC_U_valueUpTo 24 = .ok (.iconst 0, 1) := by decide +kernel
theorem dI_U_valueUpTo_25 : decode bC_U_valueUpTo 25 = .ok (.laload, 1) := by decide +kernel
theorem dI_U_valueUpTo_26 : decode bC_U_valueUpTo 26 = .ok (.l2i, 1) := by decide +kernel
theorem dI_U_valueUpTo_27 : decode bC_U_valueUpTo 27 = .ok (.ireturn, 1) := by decide +kernel
theorem dI_V_copyQuotient_0 : decode bC_V_copyQuotient 0 = .ok (.aload_n 0, 1) := by decide +kernel
theorem dI_V_copyQuotient_1 : decode bC_V_copyQuotient 1 = .ok (.getfield 18, 3) := by decide +kernel
theorem dI_V_copyQuotient_4 : decode bC_V_copyQuotient 4 = .ok (.aload_n 1, 1) := by decide +kernel
theorem dI_V_copyQuotient_5 : decode bC_V_copyQuotient 5 = .ok (.invokestatic 52, 3) := by decide +kernel
theorem dI_V_copyQuotient_8 : decode bC_V_copyQuotient 8 = .ok (.return_, 1) := by decide +kernel
theorem dI_V_copyRemainder_0 : decode bC_V_copyRemainder 0 = .ok (.aload_n 1, 1) := by decide +kernel
theorem dI_V_copyRemainder_1 : decode bC_V_copyRemainder 1 = .ok (.lconst 0, 1) := by decide +kernel
theorem dI_V_copyRemainder_2 : decode bC_V_copyRemainder 2 = .ok (.invokestatic 42, 3) := by decide +kernel
theorem dI_V_copyRemainder_5 : decode bC_V_copyRemainder 5 = .ok (.iconst 0, 1) := by decide +kernel
theorem dI_V_copyRemainder_6 : decode bC_V_copyRemainder 6 = .ok (.istore_n 2, 1) := by decide +kernel
theorem dI_V_copyRemainder_7 : decode bC_V_copyRemainder 7 = .ok (.iload_n 2, 1) := by decide +kernel
theorem dI_V_copyRemainder_8 : decode bC_V_copyRemainder 8 = .ok (.aload_n 0, 1) := by decide +kernel
theorem dI_V_copyRemainder_9 : decode bC_V_copyRemainder 9 = .ok (.getfield 27, 3) := by decide +kernel
theorem dI_V_copyRemainder_12 : decode bC_V_copyRemainder 12 = .ok (.if_icmp .ge 44, 3) := by decide +kernel
theorem dI_V_copyRemainder_15 : decode bC_V_copyRemainder 15 = .ok (.aload_n 1, 1) := by decide +kernel
theorem dI_V_copyRemainder_16 : decode bC_V_copyRemainder 16 = .ok (.iload_n 2, 1) := by decide +kernel
theorem dI_V_copyRemainder_17 : decode bC_V_copyRemainder 17 = .ok (.aload_n 0, 1) := by decide +kernel
theorem dI_V_copyRemainder_18 : decode bC_V_copyRemainder 18 = .ok (.getfield 15, 3) := by decide +kernel
theorem dI_V_copyRemainder_21 : decode bC_V_copyRemainder 21 = .ok (.iload_n 2, 1) := by decide +kernel
theorem dI_V_copyRemainder_22 : decode bC_V_copyRemainder 22 = .ok (.laload, 1) := by decide +kernel
theorem dI_V_copyRemainder_23 : decode bC_V_copyRemainder 23 = .ok (.aload_n 0, 1) := by decide +kernel
theorem dI_V_copyRemainder_24 : decode bC_V_copyRemainder 24 = .ok (.getfield 35, 3) := by decide +kernel
theorem dI_V_copyRemainder_27 : decode bC_V_copyRemainder 27 = .ok (.lushr, 1) := by decide +kernel
theorem dI_V_copyRemainder_28 : decode bC_V_copyRemainder 28 = .ok (.aload_n 0, 1) := by decide +kernel
theorem dI_V_copyRemainder_29 : decode bC_V_copyRemainder 29 = .ok (.getfield 15, 3) := by decide +kernel
theorem dI_V_copyRemainder_32 : decode bC_V_copyRemainder 32 = .ok (.iload_n 2, 1) := by decide +kernel
theorem dI_V_copyRemainder_33 : decode bC_V_copyRemainder 33 = .ok (.iconst 1, 1) := by decide +kernel
theorem dI_V_copyRemainder_34 : decode bC_V_copyRemainder 34 = .ok (.iadd, 1) := by decide +kernel
theorem dI_V_copyRemainder_35 : decode bC_V_copyRemainder 35 = .ok (.laload, 1) := by decide +kernel
theorem dI_V_copyRemainder_36 : decode bC_V_copyRemainder 36 = .ok (.bipush 32, 2) := by decide +kernel
theorem dI_V_copyRemainder_38 : decode bC_V_copyRemainder 38 = .ok (.aload_n 0, 1) := by decide +kernel
theorem dI_V_copyRemainder_39 : decode bC_V_copyRemainder 39 = .ok (.getfield 35, 3) := by decide +kernel
theorem dI_V_copyRemainder_42 : decode bC_V_copyRemainder 42 = .ok (.isub, 1) := by decide +kernel
theorem dI_V_copyRemainder_43 : decode bC_V_copyRemainder 43 = .ok (.lshl, 1) := by decide +kernel
theorem dI_V_copyRemainder_44 : decode bC_V_copyRemainder 44 = .ok (.lor, 1) := by decide +kernel
theorem dI_V_copyRemainder_45 : decode bC_V_copyRemainder 45 = .ok (.ldc2_w 56, 3) := by decide +kernel
theorem dI_V_copyRemainder_48 : decode bC_V_copyRemainder 48 = .ok (.land, 1) := by decide +kernel
theorem dI_V_copyRemainder_49 : decode bC_V_copyRemainder 49 = .ok (.lastore, 1) := by decide +kernel
theorem dI_V_copyRemainder_50 : decode bC_V_copyRemainder 50 = .ok (.iinc 2 1, 3) := by decide +kernel
theorem dI_V_copyRemainder_53 : decode bC_V_copyRemainder 53 = .ok (.goto (-46), 3) := by decide +kernel
theorem dI_V_copyRemainder_56 : decode bC_V_copyRemainder 56 = .ok (.return_, 1) := by decide +kernel
theorem dI_V_giveBack_0 : decode bC_V_giveBack 0 = .ok (.lconst 0, 1) := by decide +kernel
theorem dI_V_giveBack_1 : decode bC_V_giveBack 1 = .ok (.lstore_n 2, 1) := by decide +kernel
theorem dI_V_giveBack_2 : decode bC_V_giveBack 2 = .ok (.iconst 0, 1) := by decide +kernel
theorem dI_V_giveBack_3 : decode bC_V_giveBack 3 = .ok (.istore 4, 2) := by decide +kernel
theorem dI_V_giveBack_5 : decode bC_V_giveBack 5 = .ok (.iload 4, 2) := by decide +kernel
theorem dI_V_giveBack_7 : decode bC_V_giveBack 7 = .ok (.aload_n 0, 1) := by decide +kernel
theorem dI_V_giveBack_8 : decode bC_V_giveBack 8 = .ok (.getfield 27, 3) := by decide +kernel
theorem dI_V_giveBack_11 : decode bC_V_giveBack 11 = .ok (.if_icmp .ge 51, 3) := by decide +kernel
theorem dI_V_giveBack_14 : decode bC_V_giveBack 14 = .ok (.aload_n 0, 1) := by decide +kernel
theorem dI_V_giveBack_15 : decode bC_V_giveBack 15 = .ok (.getfield 15, 3) := by decide +kernel
theorem dI_V_giveBack_18 : decode bC_V_giveBack 18 = .ok (.iload 4, 2) := by decide +kernel
theorem dI_V_giveBack_20 : decode bC_V_giveBack 20 = .ok (.iload_n 1, 1) := by decide +kernel
theorem dI_V_giveBack_21 : decode bC_V_giveBack 21 = .ok (.iadd, 1) := by decide +kernel
theorem dI_V_giveBack_22 : decode bC_V_giveBack 22 = .ok (.laload, 1) := by decide +kernel
theorem dI_V_giveBack_23 : decode bC_V_giveBack 23 = .ok (.aload_n 0, 1) := by decide +kernel
theorem dI_V_giveBack_24 : decode bC_V_giveBack 24 = .ok (.getfield 9, 3) := by decide +kernel
theorem dI_V_giveBack_27 : decode bC_V_giveBack 27 = .ok (.iload 4, 2) := by decide +kernel
theorem dI_V_giveBack_29 : decode bC_V_giveBack 29 = .ok (.laload, 1) := by decide +kernel
theorem dI_V_giveBack_30 : decode bC_V_giveBack 30 = .ok (.ladd, 1) := by decide +kernel
theorem dI_V_giveBack_31 : decode bC_V_giveBack 31 = .ok (.lload_n 2, 1) := by decide +kernel
theorem dI_V_giveBack_32 : decode bC_V_giveBack 32 = .ok (.ladd, 1) := by decide +kernel
theorem dI_V_giveBack_33 : decode bC_V_giveBack 33 = .ok (.lstore 5, 2) := by decide +kernel
theorem dI_V_giveBack_35 : decode bC_V_giveBack 35 = .ok (.aload_n 0, 1) := by decide +kernel
theorem dI_V_giveBack_36 : decode bC_V_giveBack 36 = .ok (.getfield 15, 3) := by decide +kernel
theorem dI_V_giveBack_39 : decode bC_V_giveBack 39 = .ok (.iload 4, 2) := by decide +kernel
theorem dI_V_giveBack_41 : decode bC_V_giveBack 41 = .ok (.iload_n 1, 1) := by decide +kernel
theorem dI_V_giveBack_42 : decode bC_V_giveBack 42 = .ok (.iadd, 1) := by decide +kernel
theorem dI_V_giveBack_43 : decode bC_V_giveBack 43 = .ok (.lload 5, 2) := by decide +kernel
theorem dI_V_giveBack_45 : decode bC_V_giveBack 45 = .ok (.ldc2_w 56, 3) := by decide +kernel
theorem dI_V_giveBack_48 : decode bC_V_giveBack 48 = .ok (.land, 1) := by decide +kernel
theorem dI_V_giveBack_49 : decode bC_V_giveBack 49 = .ok (.lastore, 1) := by decide +kernel
theorem dI_V_giveBack_50 : decode bC_V_giveBack 50 = .ok (.lload 5, 2) := by decide +kernel
theorem dI_V_giveBack_52 : decode bC_V_giveBack 52 = .ok (.bipush 32, 2) := by decide +kernel
theorem dI_V_giveBack_54 : decode bC_V_giveBack 54 = .ok (.lushr, 1) := by decide +kernel
theorem dI_V_giveBack_55 : decode bC_V_giveBack 55 = .ok (.lstore_n 2, 1) := by decide +kernel
theorem dI_V_giveBack_56 : decode bC_V_giveBack 56 = .ok (.iinc 4 1, 3) := by decide +kernel
theorem dI_V_giveBack_59 : decode bC_V_giveBack 59 = .ok (.goto (-54), 3) := by decide +kernel
theorem dI_V_giveBack_62 : decode bC_V_giveBack 62 = .ok (.aload_n 0, 1) := by decide +kernel
theorem dI_V_giveBack_63 : decode bC_V_giveBack 63 = .ok (.getfield 15, 3) := by decide +kernel
theorem dI_V_giveBack_66 : decode bC_V_giveBack 66 = .ok (.iload_n 1, 1) := by decide +kernel
theorem dI_V_giveBack_67 : decode bC_V_giveBack 67 = .ok (.aload_n 0, 1) := by decide +kernel
theorem dI_V_giveBack_68 : decode bC_V_giveBack 68 = .ok (.getfield 27, 3) := by decide +kernel
theorem dI_V_giveBack_71 : decode bC_V_giveBack 71 = .ok (.iadd, 1) := by decide +kernel
theorem dI_V_giveBack_72 : decode bC_V_giveBack 72 = .ok (.laload, 1) := by decide +kernel
theorem dI_V_giveBack_73 : decode bC_V_giveBack 73 = .ok (.lload_n 2, 1) := by decide +kernel
theorem dI_V_giveBack_74 : decode bC_V_giveBack 74 = .ok (.ladd, 1) := by decide +kernel
theorem dI_V_giveBack_75 : decode bC_V_giveBack 75 = .ok (.lstore 4, 2) := by decide +kernel
theorem dI_V_giveBack_77 : decode bC_V_giveBack 77 = .ok (.aload_n 0, 1) := by decide +kernel
theorem dI_V_giveBack_78 : decode bC_V_giveBack 78 = .ok (.getfield 15, 3) := by decide +kernel
theorem dI_V_giveBack_81 : decode bC_V_giveBack 81 = .ok (.iload_n 1, 1) := by decide +kernel
theorem dI_V_giveBack_82 : decode bC_V_giveBack 82 = .ok (.aload_n 0, 1) := by decide +kernel
theorem dI_V_giveBack_83 : decode bC_V_giveBack 83 = .ok (.getfield 27, 3) := by decide +kernel
theorem dI_V_giveBack_86 : decode bC_V_giveBack 86 = .ok (.iadd, 1) := by decide +kernel
theorem dI_V_giveBack_87 : decode bC_V_giveBack 87 = .ok (.lload 4, 2) := by decide +kernel
theorem dI_V_giveBack_89 : decode bC_V_giveBack 89 = .ok (.ldc2_w 56, 3) := by decide +kernel
theorem dI_V_giveBack_92 : decode bC_V_giveBack 92 = .ok (.land, 1) := by decide +kernel
theorem dI_V_giveBack_93 : decode bC_V_giveBack 93 = .ok (.lastore, 1) := by decide +kernel
theorem dI_V_giveBack_94 : decode bC_V_giveBack 94 = .ok (.lload 4, 2) := by decide +kernel
theorem dI_V_giveBack_96 : decode bC_V_giveBack 96 = .ok (.ldc2_w 56, 3) := by decide +kernel
theorem dI_V_giveBack_99 : decode bC_V_giveBack 99 = .ok (.lcmp, 1) := by decide +kernel
theorem dI_V_giveBack_100 : decode bC_V_giveBack 100 = .ok (.ifCond .le 7, 3) := by decide +kernel
theorem dI_V_giveBack_103 : decode bC_V_giveBack 103 = .ok (.iconst 1, 1) := by decide +kernel
theorem dI_V_giveBack_104 : decode bC_V_giveBack 104 = .ok (.goto 4, 3) := by decide +kernel
theorem dI_V_giveBack_107 : decode bC_V_giveBack 107 = .ok (.iconst 0, 1) := by decide +kernel
theorem dI_V_giveBack_108 : decode bC_V_giveBack 108 = .ok (.ireturn, 1) := by decide +kernel
theorem dI_V_guessDigit_0 : decode bC_V_guessDigit 0 = .ok (.aload_n 0, 1) := by decide +kernel
theorem dI_V_guessDigit_1 : decode bC_V_guessDigit 1 = .ok (.getfield 9, 3) := by decide +kernel
